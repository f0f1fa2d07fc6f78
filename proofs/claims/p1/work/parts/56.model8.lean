set_option maxHeartbeats 4000000 in
set_option maxRecDepth 100000 in
theorem c_X12_isSame_1 (G : EnvG) (l : Launch) (Φ : Hm) (sz : Nat) (r : Nat) (tp : Nat → Int32) (sa : Int64) (sb : Int64) (sd : Int64) (se : Int64) (hc0 : Φ r = some (ai_ G 96 tp)) (h0 : (tp 0).toInt64 = sa) (h1 : (tp 1).toInt64 = sb) (h2 : (tp 2).toInt64 = sd) (h3 : (tp 3).toInt64 = se) : Ct G l yX12_isSame wsX12_isSame ({ frames := 0, cells := 0, slots := 0, locals := 0 }) 0 0 [.ref r, .int 0, .long sa, .long sb, .long sd, .long se] Φ sz (fun v Φ1 sz1 => v = some (.int 1) ∧ sz1 = sz ∧ (∀ b9 : Nat, Φ1 b9 = Φ b9)) := by
  refine Ct.of (cc := cX12_isSame) (maxL := 10) (ret := (some .boolean)) (by decide) rfl (Nat.le_of_ble_eq_true rfl) ?_
  intro p9 e9 s9 m9 w9 t9 k9 B
  show Z p9 l e9 _ s9 m9 _ w9 t9 k9 _ G 10 0 [(0, .ref r), (1, .int 0), (2, .long sa), (4, .long sb), (6, .long sd), (8, .long se)] [] Φ (sz) 0 0
  refine z_aload_n B dX12_isSame_0 rfl 0 rfl ?_
  refine z_iconst (v := 4) B dX12_isSame_1 rfl ?_
  refine z_iload_n B dX12_isSame_2 rfl 1 rfl ?_
  refine z_imul B dX12_isSame_3 ?_
  refine z_top (st1 := [.int 0, .ref r]) (congrArg (fun w9 : Int32 => ([.int w9, .ref r] : List Value)) (show (4 * 0 : Int32) = 0 by decide +kernel)) ?_
  refine z_iald B hc0 (vin rfl) dX12_isSame_4 ?_
  refine z_i2l (v := (tp (0 : Int32).toNatClampNeg).toInt64) B dX12_isSame_5 rfl ?_
  refine z_lload_n B dX12_isSame_6 rfl 2 rfl ?_
  refine z_lcmp B dX12_isSame_7 ?_
  refine z_if_ne (tgt := 57) B dX12_isSame_8 rfl (fun h9 => absurd ((lg_cmp_eq _ _).mpr h0) h9) (fun c_1 => ?_)
  refine z_aload_n B dX12_isSame_11 rfl 0 rfl ?_
  refine z_iconst (v := 4) B dX12_isSame_12 rfl ?_
  refine z_iload_n B dX12_isSame_13 rfl 1 rfl ?_
  refine z_imul B dX12_isSame_14 ?_
  refine z_top (st1 := [.int 0, .ref r]) (congrArg (fun w9 : Int32 => ([.int w9, .ref r] : List Value)) (show (4 * 0 : Int32) = 0 by decide +kernel)) ?_
  refine z_iconst (v := 1) B dX12_isSame_15 rfl ?_
  refine z_iadd B dX12_isSame_16 ?_
  refine z_top (st1 := [.int 1, .ref r]) (congrArg (fun w9 : Int32 => ([.int w9, .ref r] : List Value)) (show (0 + 1 : Int32) = 1 by decide +kernel)) ?_
  refine z_iald B hc0 (vin rfl) dX12_isSame_17 ?_
  refine z_i2l (v := (tp (1 : Int32).toNatClampNeg).toInt64) B dX12_isSame_18 rfl ?_
  refine z_lload B dX12_isSame_19 3 rfl ?_
  refine z_lcmp B dX12_isSame_21 ?_
  refine z_if_ne (tgt := 57) B dX12_isSame_22 rfl (fun h9 => absurd ((lg_cmp_eq _ _).mpr h1) h9) (fun c_2 => ?_)
  refine z_aload_n B dX12_isSame_25 rfl 0 rfl ?_
  refine z_iconst (v := 4) B dX12_isSame_26 rfl ?_
  refine z_iload_n B dX12_isSame_27 rfl 1 rfl ?_
  refine z_imul B dX12_isSame_28 ?_
  refine z_top (st1 := [.int 0, .ref r]) (congrArg (fun w9 : Int32 => ([.int w9, .ref r] : List Value)) (show (4 * 0 : Int32) = 0 by decide +kernel)) ?_
  refine z_iconst (v := 2) B dX12_isSame_29 rfl ?_
  refine z_iadd B dX12_isSame_30 ?_
  refine z_top (st1 := [.int 2, .ref r]) (congrArg (fun w9 : Int32 => ([.int w9, .ref r] : List Value)) (show (0 + 2 : Int32) = 2 by decide +kernel)) ?_
  refine z_iald B hc0 (vin rfl) dX12_isSame_31 ?_
  refine z_i2l (v := (tp (2 : Int32).toNatClampNeg).toInt64) B dX12_isSame_32 rfl ?_
  refine z_lload B dX12_isSame_33 4 rfl ?_
  refine z_lcmp B dX12_isSame_35 ?_
  refine z_if_ne (tgt := 57) B dX12_isSame_36 rfl (fun h9 => absurd ((lg_cmp_eq _ _).mpr h2) h9) (fun c_3 => ?_)
  refine z_aload_n B dX12_isSame_39 rfl 0 rfl ?_
  refine z_iconst (v := 4) B dX12_isSame_40 rfl ?_
  refine z_iload_n B dX12_isSame_41 rfl 1 rfl ?_
  refine z_imul B dX12_isSame_42 ?_
  refine z_top (st1 := [.int 0, .ref r]) (congrArg (fun w9 : Int32 => ([.int w9, .ref r] : List Value)) (show (4 * 0 : Int32) = 0 by decide +kernel)) ?_
  refine z_iconst (v := 3) B dX12_isSame_43 rfl ?_
  refine z_iadd B dX12_isSame_44 ?_
  refine z_top (st1 := [.int 3, .ref r]) (congrArg (fun w9 : Int32 => ([.int w9, .ref r] : List Value)) (show (0 + 3 : Int32) = 3 by decide +kernel)) ?_
  refine z_iald B hc0 (vin rfl) dX12_isSame_45 ?_
  refine z_i2l (v := (tp (3 : Int32).toNatClampNeg).toInt64) B dX12_isSame_46 rfl ?_
  refine z_lload B dX12_isSame_47 5 rfl ?_
  refine z_lcmp B dX12_isSame_49 ?_
  refine z_if_ne (tgt := 57) B dX12_isSame_50 rfl (fun h9 => absurd ((lg_cmp_eq _ _).mpr h3) h9) (fun c_4 => ?_)
  refine z_iconst (v := 1) B dX12_isSame_53 rfl ?_
  refine z_goto (tgt := 58) B dX12_isSame_54 rfl ?_
  exact z_ret_z B dX12_isSame_58 (by decide) ⟨rfl, rfl, (fun b9 => rfl)⟩

set_option maxHeartbeats 4000000 in
set_option maxRecDepth 100000 in
theorem m_trueKeyOf_n (G : EnvG) (l : Launch) (Φ : Hm) (sz : Nat) (y : Nat) (ob : Int64) (sp : Int64) (tp : Nat → Int32) (a : Int32) (b : Int32) (d : Int32) (e : Int32) (hc0_ : Φ y = some (o_ 14 [.int 0, .ref (y + 1), .ref (y + 2), .int 0, .int 1, .int 1, .int 0, .int 0, .ref (y + 3), .ref (y + 4), .int 0, .long 0, .ref (y + 5), .int 1, .int 0, .long ob, .long sp, .long 0, .long 0, .ref (y + 6), .ref (y + 7), .int 0, .ref (y + 8), .int 0, .ref (y + 9), .ref (y + 10), .int 0, .ref (y + 11), .ref (y + 12), .ref (y + 13), .ref (y + 14), .ref (y + 15), .ref (y + 16), .int 0, .long (-1), .ref (y + 17), .ref (y + 18), .ref (y + 19), .ref (y + 20), .ref (y + 21), .ref (y + 22), .int 0, .ref (y + 23), .ref (y + 24), .int 1, .ref (y + 25), .int 0, .int 0, .int 0, .int (-1), .int 0, .int 0, .int 0, .long 0])) (hc23_ : Φ (y + 23) = some (ai_ G 96 tp)) (ht0 : tp 0 = a) (ht1 : tp 1 = b) (ht2 : tp 2 = d) (ht3 : tp 3 = e) : Ct G l yX12_trueKeyOf wsX12_trueKeyOf ({ frames := 1, cells := 0, slots := 0, locals := 29 }) 0 0 [.ref y, .int a, .int b, .int d, .int e] Φ sz (fun v Φ1 sz1 => v = some (.int 0) ∧ sz1 = sz ∧ (∀ b9 : Nat, Φ1 b9 = Φ b9)) := by
  refine Ct.of (cc := cX12_trueKeyOf) (maxL := 6) (ret := (some .int)) (by decide) rfl (Nat.le_of_ble_eq_true rfl) ?_
  intro p9 e9 s9 m9 w9 t9 k9 B
  show Z p9 l e9 _ s9 m9 _ w9 t9 k9 _ G 6 0 [(0, .ref y), (1, .int a), (2, .int b), (3, .int d), (4, .int e)] [] Φ sz 0 0
  refine z_iconst (v := 0) B dX12_trueKeyOf_0 rfl ?_
  refine z_istore (lv' := [(5, .int 0), (0, .ref y), (1, .int a), (2, .int b), (3, .int d), (4, .int e)]) B dX12_trueKeyOf_1 (Nat.le_of_ble_eq_true rfl) rfl ?_
  refine z_iload B dX12_trueKeyOf_3 0 rfl ?_
  refine z_aload_n B dX12_trueKeyOf_5 rfl 1 rfl ?_
  refine z_get (ref := "FlowExporterModel") (C := RX12) (T := TX12) (N := 54) (ci := 14) (v := .int 1) B (by decide +kernel) rfl 44 (by decide) (by decide +kernel) rfl hc0_ rfl dX12_trueKeyOf_6 ?_
  refine z_icmp_ge (tgt := 42) B dX12_trueKeyOf_9 rfl (fun h9 => absurd h9 (by decide)) (fun c_1 => ?_)
  refine z_aload_n B dX12_trueKeyOf_12 rfl 1 rfl ?_
  refine z_get (ref := "FlowExporterModel") (C := RX12) (T := TX12) (N := 54) (ci := 14) (v := .ref (y + 23)) B (by decide +kernel) rfl 42 (by decide) (by decide +kernel) rfl hc0_ rfl dX12_trueKeyOf_13 ?_
  refine z_iload B dX12_trueKeyOf_16 0 rfl ?_
  refine z_iload_n B dX12_trueKeyOf_18 rfl 2 rfl ?_
  refine z_i2l (v := a.toInt64) B dX12_trueKeyOf_19 rfl ?_
  refine z_iload_n B dX12_trueKeyOf_20 rfl 3 rfl ?_
  refine z_i2l (v := b.toInt64) B dX12_trueKeyOf_21 rfl ?_
  refine z_iload_n B dX12_trueKeyOf_22 rfl 4 rfl ?_
  refine z_i2l (v := d.toInt64) B dX12_trueKeyOf_23 rfl ?_
  refine z_iload B dX12_trueKeyOf_24 5 rfl ?_
  refine z_i2l (v := e.toInt64) B dX12_trueKeyOf_26 rfl ?_
  refine z_callS (As := [.ref (y + 23), .int 0, .long a.toInt64, .long b.toInt64, .long d.toInt64, .long e.toInt64]) (rest := []) B (c_X12_isSame_1 G l Φ sz (y + 23) tp a.toInt64 b.toInt64 d.toInt64 e.toInt64 hc23_ (congrArg Int32.toInt64 ht0) (congrArg Int32.toInt64 ht1) (congrArg Int32.toInt64 ht2) (congrArg Int32.toInt64 ht3)) (va_cwS 6 B.1.2.2.2.2 gX12_trueKeyOf_X12_isSame rfl rfl rfl (by decide +kernel) ⟨Nat.le_of_ble_eq_true rfl, Nat.le_of_ble_eq_true rfl⟩) rfl rfl (Nat.le_of_ble_eq_true rfl) dX12_trueKeyOf_27 ⟨Nat.le_of_ble_eq_true rfl, Nat.le_of_ble_eq_true rfl⟩ (fun v1 Φ1 sz1 st1 hp1 hs1 => ?_)
  obtain ⟨rfl, hq1, fr1⟩ := hp1
  replace hq1 : sz1 = sz := hq1
  subst sz1
  replace hs1 : st1 = [.int 1] := hs1
  subst st1
  refine z_if_eq (tgt := 36) B dX12_trueKeyOf_30 rfl (fun h9 => absurd h9 (by decide)) (fun c_2 => ?_)
  refine z_iload B dX12_trueKeyOf_33 0 rfl ?_
  exact z_ret_i B dX12_trueKeyOf_35 ⟨rfl, rfl, (fun b9 => ((fr1 b9).trans rfl))⟩

set_option maxHeartbeats 4000000 in
set_option maxRecDepth 100000 in
theorem m_remember_n (G : EnvG) (l : Launch) (Φ : Hm) (sz : Nat) (y : Nat) (ob : Int64) (sp : Int64) (tp : Nat → Int32) (tr : Nat → Int64) (a : Int32) (b : Int32) (d : Int32) (e : Int32) (f : Int32) (hc0_ : Φ y = some (o_ 14 [.int 0, .ref (y + 1), .ref (y + 2), .int 0, .int 1, .int 1, .int 0, .int 0, .ref (y + 3), .ref (y + 4), .int 0, .long 0, .ref (y + 5), .int 1, .int 0, .long ob, .long sp, .long 0, .long 0, .ref (y + 6), .ref (y + 7), .int 0, .ref (y + 8), .int 0, .ref (y + 9), .ref (y + 10), .int 0, .ref (y + 11), .ref (y + 12), .ref (y + 13), .ref (y + 14), .ref (y + 15), .ref (y + 16), .int 0, .long (-1), .ref (y + 17), .ref (y + 18), .ref (y + 19), .ref (y + 20), .ref (y + 21), .ref (y + 22), .int 0, .ref (y + 23), .ref (y + 24), .int 1, .ref (y + 25), .int 0, .int 0, .int 0, .int (-1), .int 0, .int 0, .int 0, .long 0])) (hc23_ : Φ (y + 23) = some (ai_ G 96 tp)) (hc24_ : Φ (y + 24) = some (al_ G 48 tr)) (hna : G.2.2.2 ≤ y) (ht0 : tp 0 = a) (ht1 : tp 1 = b) (ht2 : tp 2 = d) (ht3 : tp 3 = e) : Ct G l yX12_remember wsX12_remember ({ frames := 2, cells := 0, slots := 0, locals := 54 }) 0 0 [.ref y, .int a, .int b, .int d, .int e, .int f] Φ sz (fun v Φ1 sz1 => v = none ∧ sz1 = sz ∧ (∀ b9 : Nat, b9 ≠ y + 24 → Φ1 b9 = Φ b9) ∧ Φ1 (y + 24) = some (al_ G 48 (vp_updL (vp_updL tr (0 : Int32).toNatClampNeg ((tr (0 : Int32).toNatClampNeg) + 1)) (1 : Int32).toNatClampNeg (((vp_updL tr (0 : Int32).toNatClampNeg ((tr (0 : Int32).toNatClampNeg) + 1)) (1 : Int32).toNatClampNeg) + f.toInt64)))) := by
  refine Ct.of (cc := cX12_remember) (maxL := 7) (ret := none) (by decide) rfl (Nat.le_of_ble_eq_true rfl) ?_
  intro p9 e9 s9 m9 w9 t9 k9 B
  show Z p9 l e9 _ s9 m9 _ w9 t9 k9 _ G 7 0 [(0, .ref y), (1, .int a), (2, .int b), (3, .int d), (4, .int e), (5, .int f)] [] Φ sz 0 0
  refine z_aload_n B dX12_remember_0 rfl 0 rfl ?_
  refine z_iload_n B dX12_remember_1 rfl 1 rfl ?_
  refine z_iload_n B dX12_remember_2 rfl 2 rfl ?_
  refine z_iload_n B dX12_remember_3 rfl 3 rfl ?_
  refine z_iload B dX12_remember_4 4 rfl ?_
  refine z_callV (As := [.int a, .int b, .int d, .int e]) (rest := []) B (m_trueKeyOf_n G l Φ sz y ob sp tp a b d e hc0_ hc23_ ht0 ht1 ht2 ht3) (cwV 4 B.1.2.2.2.2 gX12_remember_X12_trueKeyOf rfl rfl rfl (by decide +kernel) ⟨Nat.le_of_ble_eq_true rfl, Nat.le_of_ble_eq_true rfl⟩) hc0_ rfl rfl rfl rfl (Nat.le_of_ble_eq_true rfl) dX12_remember_6 ⟨Nat.le_of_ble_eq_true rfl, Nat.le_of_ble_eq_true rfl⟩ (fun v1 Φ1 sz1 st1 hp1 hs1 => ?_)
  obtain ⟨rfl, hq1, fr1⟩ := hp1
  replace hq1 : sz1 = sz := hq1
  subst sz1
  replace hs1 : st1 = [.int 0] := hs1
  subst st1
  refine z_istore (lv' := [(6, .int 0), (0, .ref y), (1, .int a), (2, .int b), (3, .int d), (4, .int e), (5, .int f)]) B dX12_remember_9 (Nat.le_of_ble_eq_true rfl) rfl ?_
  refine z_iload B dX12_remember_11 0 rfl ?_
  refine z_iconst (v := (-1)) B dX12_remember_13 rfl ?_
  refine z_icmp_ne (tgt := 27) B dX12_remember_14 rfl (fun c_1 => ?_) (fun h9 => absurd h9 (by decide))
  refine z_iload B dX12_remember_27 0 rfl ?_
  refine z_iconst (v := (-1)) B dX12_remember_29 rfl ?_
  refine z_icmp_ne (tgt := 118) B dX12_remember_30 rfl (fun c_2 => ?_) (fun h9 => absurd h9 (by decide))
  refine z_aload_n B dX12_remember_118 rfl 1 rfl ?_
  have h_1 : Φ1 y = some (o_ 14 [.int 0, .ref (y + 1), .ref (y + 2), .int 0, .int 1, .int 1, .int 0, .int 0, .ref (y + 3), .ref (y + 4), .int 0, .long 0, .ref (y + 5), .int 1, .int 0, .long ob, .long sp, .long 0, .long 0, .ref (y + 6), .ref (y + 7), .int 0, .ref (y + 8), .int 0, .ref (y + 9), .ref (y + 10), .int 0, .ref (y + 11), .ref (y + 12), .ref (y + 13), .ref (y + 14), .ref (y + 15), .ref (y + 16), .int 0, .long (-1), .ref (y + 17), .ref (y + 18), .ref (y + 19), .ref (y + 20), .ref (y + 21), .ref (y + 22), .int 0, .ref (y + 23), .ref (y + 24), .int 1, .ref (y + 25), .int 0, .int 0, .int 0, .int (-1), .int 0, .int 0, .int 0, .long 0]) := ((fr1 y).trans hc0_)
  refine z_get (ref := "FlowExporterModel") (C := RX12) (T := TX12) (N := 54) (ci := 14) (v := .ref (y + 24)) B (by decide +kernel) rfl 43 (by decide) (by decide +kernel) rfl h_1 rfl dX12_remember_119 ?_
  refine z_iconst (v := 2) B dX12_remember_122 rfl ?_
  refine z_iload B dX12_remember_123 0 rfl ?_
  refine z_imul B dX12_remember_125 ?_
  refine z_top (st1 := [.int 0, .ref (y + 24)]) (congrArg (fun w9 : Int32 => ([.int w9, .ref (y + 24)] : List Value)) (show (2 * 0 : Int32) = 0 by decide +kernel)) ?_
  refine z_dup2_11 B dX12_remember_126 rfl rfl ?_
  have h_2 : Φ1 (y + 24) = some (al_ G 48 tr) := ((fr1 (y + 24)).trans hc24_)
  refine z_lald B h_2 (vin rfl) dX12_remember_127 ?_
  refine z_lconst (v := 1) B dX12_remember_128 rfl ?_
  refine z_ladd B dX12_remember_129 ?_
  refine z_last B h_2 (Nat.le_trans hna (Nat.le_add_right y 24)) (vin rfl) dX12_remember_130 (fun Φ2 hΦ1 => ?_)
  have h_3 : Φ2 (y + 24) = some (al_ G 48 (vp_updL tr (0 : Int32).toNatClampNeg ((tr (0 : Int32).toNatClampNeg) + 1))) := fset_at hΦ1
  refine z_aload_n B dX12_remember_131 rfl 1 rfl ?_
  have h_4 : Φ2 y = some (o_ 14 [.int 0, .ref (y + 1), .ref (y + 2), .int 0, .int 1, .int 1, .int 0, .int 0, .ref (y + 3), .ref (y + 4), .int 0, .long 0, .ref (y + 5), .int 1, .int 0, .long ob, .long sp, .long 0, .long 0, .ref (y + 6), .ref (y + 7), .int 0, .ref (y + 8), .int 0, .ref (y + 9), .ref (y + 10), .int 0, .ref (y + 11), .ref (y + 12), .ref (y + 13), .ref (y + 14), .ref (y + 15), .ref (y + 16), .int 0, .long (-1), .ref (y + 17), .ref (y + 18), .ref (y + 19), .ref (y + 20), .ref (y + 21), .ref (y + 22), .int 0, .ref (y + 23), .ref (y + 24), .int 1, .ref (y + 25), .int 0, .int 0, .int 0, .int (-1), .int 0, .int 0, .int 0, .long 0]) := ((fset_fr hΦ1 (ne_off (x := y) (i := 0) (j := 24) rfl)).trans h_1)
  refine z_get (ref := "FlowExporterModel") (C := RX12) (T := TX12) (N := 54) (ci := 14) (v := .ref (y + 24)) B (by decide +kernel) rfl 43 (by decide) (by decide +kernel) rfl h_4 rfl dX12_remember_132 ?_
  refine z_iconst (v := 2) B dX12_remember_135 rfl ?_
  refine z_iload B dX12_remember_136 0 rfl ?_
  refine z_imul B dX12_remember_138 ?_
  refine z_top (st1 := [.int 0, .ref (y + 24)]) (congrArg (fun w9 : Int32 => ([.int w9, .ref (y + 24)] : List Value)) (show (2 * 0 : Int32) = 0 by decide +kernel)) ?_
  refine z_iconst (v := 1) B dX12_remember_139 rfl ?_
  refine z_iadd B dX12_remember_140 ?_
  refine z_top (st1 := [.int 1, .ref (y + 24)]) (congrArg (fun w9 : Int32 => ([.int w9, .ref (y + 24)] : List Value)) (show (0 + 1 : Int32) = 1 by decide +kernel)) ?_
  refine z_dup2_11 B dX12_remember_141 rfl rfl ?_
  refine z_lald B h_3 (vin rfl) dX12_remember_142 ?_
  refine z_iload B dX12_remember_143 6 rfl ?_
  refine z_i2l (v := f.toInt64) B dX12_remember_145 rfl ?_
  refine z_ladd B dX12_remember_146 ?_
  refine z_last B h_3 (Nat.le_trans hna (Nat.le_add_right y 24)) (vin rfl) dX12_remember_147 (fun Φ3 hΦ2 => ?_)
  have h_5 : Φ3 (y + 24) = some (al_ G 48 (vp_updL (vp_updL tr (0 : Int32).toNatClampNeg ((tr (0 : Int32).toNatClampNeg) + 1)) (1 : Int32).toNatClampNeg (((vp_updL tr (0 : Int32).toNatClampNeg ((tr (0 : Int32).toNatClampNeg) + 1)) (1 : Int32).toNatClampNeg) + f.toInt64))) := fset_at hΦ2
  exact z_ret_v B dX12_remember_148 ⟨rfl, rfl, (fun b9 h9a => ((fset_fr hΦ2 h9a).trans ((fset_fr hΦ1 h9a).trans ((fr1 b9).trans rfl)))), h_5⟩

set_option maxHeartbeats 4000000 in
set_option maxRecDepth 100000 in
theorem m_flowOf_n (G : EnvG) (l : Launch) (Φ : Hm) (sz : Nat) (y : Nat) (ob : Int64) (sp : Int64) (ch : Nat → Int64) (a : Int32) (b : Int32) (d : Int32) (e : Int32) (hc0_ : Φ y = some (o_ 14 [.int 0, .ref (y + 1), .ref (y + 2), .int 0, .int 1, .int 1, .int 0, .int 0, .ref (y + 3), .ref (y + 4), .int 0, .long 0, .ref (y + 5), .int 1, .int 0, .long ob, .long sp, .long 0, .long 0, .ref (y + 6), .ref (y + 7), .int 0, .ref (y + 8), .int 0, .ref (y + 9), .ref (y + 10), .int 0, .ref (y + 11), .ref (y + 12), .ref (y + 13), .ref (y + 14), .ref (y + 15), .ref (y + 16), .int 0, .long (-1), .ref (y + 17), .ref (y + 18), .ref (y + 19), .ref (y + 20), .ref (y + 21), .ref (y + 22), .int 0, .ref (y + 23), .ref (y + 24), .int 1, .ref (y + 25), .int 0, .int 0, .int 0, .int (-1), .int 0, .int 0, .int 0, .long 0])) (hc5_ : Φ (y + 5) = some (al_ G 96 ch)) (hh0 : ch 0 = a.toInt64) (hh1 : ch 1 = b.toInt64) (hh2 : ch 2 = d.toInt64) (hh3 : ch 3 = e.toInt64) : Ct G l yX12_flowOf wsX12_flowOf ({ frames := 0, cells := 0, slots := 0, locals := 0 }) 0 0 [.ref y, .int a, .int b, .int d, .int e] Φ sz (fun v Φ1 sz1 => v = some (.int 0) ∧ sz1 = sz ∧ (∀ b9 : Nat, Φ1 b9 = Φ b9)) := by
  refine Ct.of (cc := cX12_flowOf) (maxL := 6) (ret := (some .int)) (by decide) rfl (Nat.le_of_ble_eq_true rfl) ?_
  intro p9 e9 s9 m9 w9 t9 k9 B
  show Z p9 l e9 _ s9 m9 _ w9 t9 k9 _ G 6 0 [(0, .ref y), (1, .int a), (2, .int b), (3, .int d), (4, .int e)] [] Φ sz 0 0
  refine z_iconst (v := 0) B dX12_flowOf_0 rfl ?_
  refine z_istore (lv' := [(5, .int 0), (0, .ref y), (1, .int a), (2, .int b), (3, .int d), (4, .int e)]) B dX12_flowOf_1 (Nat.le_of_ble_eq_true rfl) rfl ?_
  refine z_iload B dX12_flowOf_3 0 rfl ?_
  refine z_aload_n B dX12_flowOf_5 rfl 1 rfl ?_
  refine z_get (ref := "FlowExporterModel") (C := RX12) (T := TX12) (N := 54) (ci := 14) (v := .int 1) B (by decide +kernel) rfl 13 (by decide) (by decide +kernel) rfl hc0_ rfl dX12_flowOf_6 ?_
  refine z_icmp_ge (tgt := 92) B dX12_flowOf_9 rfl (fun h9 => absurd h9 (by decide)) (fun c_1 => ?_)
  refine z_aload_n B dX12_flowOf_12 rfl 1 rfl ?_
  refine z_get (ref := "FlowExporterModel") (C := RX12) (T := TX12) (N := 54) (ci := 14) (v := .ref (y + 5)) B (by decide +kernel) rfl 12 (by decide) (by decide +kernel) rfl hc0_ rfl dX12_flowOf_13 ?_
  refine z_bipush (v := 8) B dX12_flowOf_16 rfl ?_
  refine z_iload B dX12_flowOf_18 0 rfl ?_
  refine z_imul B dX12_flowOf_20 ?_
  refine z_top (st1 := [.int 0, .ref (y + 5)]) (congrArg (fun w9 : Int32 => ([.int w9, .ref (y + 5)] : List Value)) (show (8 * 0 : Int32) = 0 by decide +kernel)) ?_
  refine z_lald B hc5_ (vin rfl) dX12_flowOf_21 ?_
  refine z_iload_n B dX12_flowOf_22 rfl 2 rfl ?_
  refine z_i2l (v := a.toInt64) B dX12_flowOf_23 rfl ?_
  refine z_lcmp B dX12_flowOf_24 ?_
  refine z_if_ne (tgt := 86) B dX12_flowOf_25 rfl (fun h9 => absurd ((lg_cmp_eq _ _).mpr hh0) h9) (fun c_2 => ?_)
  refine z_aload_n B dX12_flowOf_28 rfl 1 rfl ?_
  refine z_get (ref := "FlowExporterModel") (C := RX12) (T := TX12) (N := 54) (ci := 14) (v := .ref (y + 5)) B (by decide +kernel) rfl 12 (by decide) (by decide +kernel) rfl hc0_ rfl dX12_flowOf_29 ?_
  refine z_bipush (v := 8) B dX12_flowOf_32 rfl ?_
  refine z_iload B dX12_flowOf_34 0 rfl ?_
  refine z_imul B dX12_flowOf_36 ?_
  refine z_top (st1 := [.int 0, .ref (y + 5)]) (congrArg (fun w9 : Int32 => ([.int w9, .ref (y + 5)] : List Value)) (show (8 * 0 : Int32) = 0 by decide +kernel)) ?_
  refine z_iconst (v := 1) B dX12_flowOf_37 rfl ?_
  refine z_iadd B dX12_flowOf_38 ?_
  refine z_top (st1 := [.int 1, .ref (y + 5)]) (congrArg (fun w9 : Int32 => ([.int w9, .ref (y + 5)] : List Value)) (show (0 + 1 : Int32) = 1 by decide +kernel)) ?_
  refine z_lald B hc5_ (vin rfl) dX12_flowOf_39 ?_
  refine z_iload_n B dX12_flowOf_40 rfl 3 rfl ?_
  refine z_i2l (v := b.toInt64) B dX12_flowOf_41 rfl ?_
  refine z_lcmp B dX12_flowOf_42 ?_
  refine z_if_ne (tgt := 86) B dX12_flowOf_43 rfl (fun h9 => absurd ((lg_cmp_eq _ _).mpr hh1) h9) (fun c_3 => ?_)
  refine z_aload_n B dX12_flowOf_46 rfl 1 rfl ?_
  refine z_get (ref := "FlowExporterModel") (C := RX12) (T := TX12) (N := 54) (ci := 14) (v := .ref (y + 5)) B (by decide +kernel) rfl 12 (by decide) (by decide +kernel) rfl hc0_ rfl dX12_flowOf_47 ?_
  refine z_bipush (v := 8) B dX12_flowOf_50 rfl ?_
  refine z_iload B dX12_flowOf_52 0 rfl ?_
  refine z_imul B dX12_flowOf_54 ?_
  refine z_top (st1 := [.int 0, .ref (y + 5)]) (congrArg (fun w9 : Int32 => ([.int w9, .ref (y + 5)] : List Value)) (show (8 * 0 : Int32) = 0 by decide +kernel)) ?_
  refine z_iconst (v := 2) B dX12_flowOf_55 rfl ?_
  refine z_iadd B dX12_flowOf_56 ?_
  refine z_top (st1 := [.int 2, .ref (y + 5)]) (congrArg (fun w9 : Int32 => ([.int w9, .ref (y + 5)] : List Value)) (show (0 + 2 : Int32) = 2 by decide +kernel)) ?_
  refine z_lald B hc5_ (vin rfl) dX12_flowOf_57 ?_
  refine z_iload_n B dX12_flowOf_58 rfl 4 rfl ?_
  refine z_i2l (v := d.toInt64) B dX12_flowOf_59 rfl ?_
  refine z_lcmp B dX12_flowOf_60 ?_
  refine z_if_ne (tgt := 86) B dX12_flowOf_61 rfl (fun h9 => absurd ((lg_cmp_eq _ _).mpr hh2) h9) (fun c_4 => ?_)
  refine z_aload_n B dX12_flowOf_64 rfl 1 rfl ?_
  refine z_get (ref := "FlowExporterModel") (C := RX12) (T := TX12) (N := 54) (ci := 14) (v := .ref (y + 5)) B (by decide +kernel) rfl 12 (by decide) (by decide +kernel) rfl hc0_ rfl dX12_flowOf_65 ?_
  refine z_bipush (v := 8) B dX12_flowOf_68 rfl ?_
  refine z_iload B dX12_flowOf_70 0 rfl ?_
  refine z_imul B dX12_flowOf_72 ?_
  refine z_top (st1 := [.int 0, .ref (y + 5)]) (congrArg (fun w9 : Int32 => ([.int w9, .ref (y + 5)] : List Value)) (show (8 * 0 : Int32) = 0 by decide +kernel)) ?_
  refine z_iconst (v := 3) B dX12_flowOf_73 rfl ?_
  refine z_iadd B dX12_flowOf_74 ?_
  refine z_top (st1 := [.int 3, .ref (y + 5)]) (congrArg (fun w9 : Int32 => ([.int w9, .ref (y + 5)] : List Value)) (show (0 + 3 : Int32) = 3 by decide +kernel)) ?_
  refine z_lald B hc5_ (vin rfl) dX12_flowOf_75 ?_
  refine z_iload B dX12_flowOf_76 5 rfl ?_
  refine z_i2l (v := e.toInt64) B dX12_flowOf_78 rfl ?_
  refine z_lcmp B dX12_flowOf_79 ?_
  refine z_if_ne (tgt := 86) B dX12_flowOf_80 rfl (fun h9 => absurd ((lg_cmp_eq _ _).mpr hh3) h9) (fun c_5 => ?_)
  refine z_iload B dX12_flowOf_83 0 rfl ?_
  exact z_ret_i B dX12_flowOf_85 ⟨rfl, rfl, (fun b9 => rfl)⟩

set_option maxHeartbeats 4000000 in
set_option maxRecDepth 100000 in
theorem m_see_n (G : EnvG) (l : Launch) (Φ : Hm) (sz : Nat) (y : Nat) (ob : Int64) (sp : Int64) (tp : Nat → Int32) (tr : Nat → Int64) (ch : Nat → Int64) (a : Int32) (b : Int32) (d : Int32) (e : Int32) (f : Int32) (hc0_ : Φ y = some (o_ 14 [.int 0, .ref (y + 1), .ref (y + 2), .int 0, .int 1, .int 1, .int 0, .int 0, .ref (y + 3), .ref (y + 4), .int 0, .long 0, .ref (y + 5), .int 1, .int 0, .long ob, .long sp, .long 0, .long 0, .ref (y + 6), .ref (y + 7), .int 0, .ref (y + 8), .int 0, .ref (y + 9), .ref (y + 10), .int 0, .ref (y + 11), .ref (y + 12), .ref (y + 13), .ref (y + 14), .ref (y + 15), .ref (y + 16), .int 0, .long (-1), .ref (y + 17), .ref (y + 18), .ref (y + 19), .ref (y + 20), .ref (y + 21), .ref (y + 22), .int 0, .ref (y + 23), .ref (y + 24), .int 1, .ref (y + 25), .int 0, .int 0, .int 0, .int (-1), .int 0, .int 0, .int 0, .long 0])) (hc5_ : Φ (y + 5) = some (al_ G 96 ch)) (hc23_ : Φ (y + 23) = some (ai_ G 96 tp)) (hc24_ : Φ (y + 24) = some (al_ G 48 tr)) (hna : G.2.2.2 ≤ y) (ht0 : tp 0 = a) (ht1 : tp 1 = b) (ht2 : tp 2 = d) (ht3 : tp 3 = e) (hh0 : ch 0 = a.toInt64) (hh1 : ch 1 = b.toInt64) (hh2 : ch 2 = d.toInt64) (hh3 : ch 3 = e.toInt64) : Ct G l yX12_see wsX12_see ({ frames := 3, cells := 0, slots := 0, locals := 80 }) 0 0 [.ref y, .int a, .int b, .int d, .int e, .int f] Φ sz (fun v Φ1 sz1 => v = some (.int 1) ∧ sz1 = sz ∧ (∀ b9 : Nat, b9 ≠ y → b9 ≠ y + 24 → b9 ≠ y + 5 → Φ1 b9 = Φ b9) ∧ Φ1 y = some (o_ 14 [.int 0, .ref (y + 1), .ref (y + 2), .int 0, .int 1, .int 1, .int 0, .int 0, .ref (y + 3), .ref (y + 4), .int 0, .long 0, .ref (y + 5), .int 1, .int 0, .long (ob + 1), .long (sp + 1), .long 0, .long 0, .ref (y + 6), .ref (y + 7), .int 0, .ref (y + 8), .int 0, .ref (y + 9), .ref (y + 10), .int 0, .ref (y + 11), .ref (y + 12), .ref (y + 13), .ref (y + 14), .ref (y + 15), .ref (y + 16), .int 0, .long (-1), .ref (y + 17), .ref (y + 18), .ref (y + 19), .ref (y + 20), .ref (y + 21), .ref (y + 22), .int 0, .ref (y + 23), .ref (y + 24), .int 1, .ref (y + 25), .int 0, .int 0, .int 0, .int (-1), .int 0, .int 0, .int 0, .long 0]) ∧ Φ1 (y + 24) = some (al_ G 48 (vp_updL (vp_updL tr (0 : Int32).toNatClampNeg ((tr (0 : Int32).toNatClampNeg) + 1)) (1 : Int32).toNatClampNeg (((vp_updL tr (0 : Int32).toNatClampNeg ((tr (0 : Int32).toNatClampNeg) + 1)) (1 : Int32).toNatClampNeg) + f.toInt64))) ∧ Φ1 (y + 5) = some (al_ G 96 (vp_updL (vp_updL (vp_updL ch (4 : Int32).toNatClampNeg ((ch (4 : Int32).toNatClampNeg) + 1)) (5 : Int32).toNatClampNeg (((vp_updL ch (4 : Int32).toNatClampNeg ((ch (4 : Int32).toNatClampNeg) + 1)) (5 : Int32).toNatClampNeg) + f.toInt64)) (7 : Int32).toNatClampNeg 0))) := by
  refine Ct.of (cc := cX12_see) (maxL := 8) (ret := (some .boolean)) (by decide) rfl (Nat.le_of_ble_eq_true rfl) ?_
  intro p9 e9 s9 m9 w9 t9 k9 B
  show Z p9 l e9 _ s9 m9 _ w9 t9 k9 _ G 8 0 [(0, .ref y), (1, .int a), (2, .int b), (3, .int d), (4, .int e), (5, .int f)] [] Φ sz 0 0
  refine z_aload_n B dX12_see_0 rfl 0 rfl ?_
  refine z_dup B dX12_see_1 rfl ?_
  refine z_get (ref := "FlowExporterModel") (C := RX12) (T := TX12) (N := 54) (ci := 14) (v := .long ob) B (by decide +kernel) rfl 15 (by decide) (by decide +kernel) rfl hc0_ rfl dX12_see_2 ?_
  refine z_lconst (v := 1) B dX12_see_5 rfl ?_
  refine z_ladd B dX12_see_6 ?_
  refine z_put (ref := "FlowExporterModel") (C := RX12) (T := TX12) (N := 54) (ci := 14) (v := .long (ob + 1)) B (by decide +kernel) tyX12 tyX12_ok nmX12 rfl 15 (by decide) (by decide +kernel) rfl (Or.inl rfl) hc0_ hna rfl rfl (Nat.le_of_ble_eq_true rfl) dX12_see_7 (fun Φ1 hΦ1 => ?_)
  have h_1 : Φ1 y = some (o_ 14 [.int 0, .ref (y + 1), .ref (y + 2), .int 0, .int 1, .int 1, .int 0, .int 0, .ref (y + 3), .ref (y + 4), .int 0, .long 0, .ref (y + 5), .int 1, .int 0, .long (ob + 1), .long sp, .long 0, .long 0, .ref (y + 6), .ref (y + 7), .int 0, .ref (y + 8), .int 0, .ref (y + 9), .ref (y + 10), .int 0, .ref (y + 11), .ref (y + 12), .ref (y + 13), .ref (y + 14), .ref (y + 15), .ref (y + 16), .int 0, .long (-1), .ref (y + 17), .ref (y + 18), .ref (y + 19), .ref (y + 20), .ref (y + 21), .ref (y + 22), .int 0, .ref (y + 23), .ref (y + 24), .int 1, .ref (y + 25), .int 0, .int 0, .int 0, .int (-1), .int 0, .int 0, .int 0, .long 0]) := fset_at hΦ1
  refine z_aload_n B dX12_see_10 rfl 0 rfl ?_
  refine z_iload_n B dX12_see_11 rfl 1 rfl ?_
  refine z_iload_n B dX12_see_12 rfl 2 rfl ?_
  refine z_iload_n B dX12_see_13 rfl 3 rfl ?_
  refine z_iload B dX12_see_14 4 rfl ?_
  refine z_iload B dX12_see_16 5 rfl ?_
  have h_2 : Φ1 (y + 23) = some (ai_ G 96 tp) := ((fset_fr hΦ1 (ne_off (x := y) (i := 23) (j := 0) rfl)).trans hc23_)
  have h_3 : Φ1 (y + 24) = some (al_ G 48 tr) := ((fset_fr hΦ1 (ne_off (x := y) (i := 24) (j := 0) rfl)).trans hc24_)
  refine z_callV (As := [.int a, .int b, .int d, .int e, .int f]) (rest := []) B (m_remember_n G l Φ1 sz y (ob + 1) sp tp tr a b d e f h_1 h_2 h_3 hna ht0 ht1 ht2 ht3) (cwV 5 B.1.2.2.2.2 gX12_see_X12_remember rfl rfl rfl (by decide +kernel) ⟨Nat.le_of_ble_eq_true rfl, Nat.le_of_ble_eq_true rfl⟩) h_1 rfl rfl rfl rfl (Nat.le_of_ble_eq_true rfl) dX12_see_18 ⟨Nat.le_of_ble_eq_true rfl, Nat.le_of_ble_eq_true rfl⟩ (fun v1 Φ2 sz1 st1 hp1 hs1 => ?_)
  obtain ⟨rfl, hq1, fr1, h_4⟩ := hp1
  replace hq1 : sz1 = sz := hq1
  subst sz1
  replace hs1 : st1 = [] := hs1
  subst st1
  have h_5 : Φ2 (y + 24) = some (al_ G 48 (vp_updL (vp_updL tr (0 : Int32).toNatClampNeg ((tr (0 : Int32).toNatClampNeg) + 1)) (1 : Int32).toNatClampNeg (((vp_updL tr (0 : Int32).toNatClampNeg ((tr (0 : Int32).toNatClampNeg) + 1)) (1 : Int32).toNatClampNeg) + f.toInt64))) := h_4
  refine z_aload_n B dX12_see_21 rfl 0 rfl ?_
  have h_6 : Φ2 y = some (o_ 14 [.int 0, .ref (y + 1), .ref (y + 2), .int 0, .int 1, .int 1, .int 0, .int 0, .ref (y + 3), .ref (y + 4), .int 0, .long 0, .ref (y + 5), .int 1, .int 0, .long (ob + 1), .long sp, .long 0, .long 0, .ref (y + 6), .ref (y + 7), .int 0, .ref (y + 8), .int 0, .ref (y + 9), .ref (y + 10), .int 0, .ref (y + 11), .ref (y + 12), .ref (y + 13), .ref (y + 14), .ref (y + 15), .ref (y + 16), .int 0, .long (-1), .ref (y + 17), .ref (y + 18), .ref (y + 19), .ref (y + 20), .ref (y + 21), .ref (y + 22), .int 0, .ref (y + 23), .ref (y + 24), .int 1, .ref (y + 25), .int 0, .int 0, .int 0, .int (-1), .int 0, .int 0, .int 0, .long 0]) := ((fr1 y (ne_off (x := y) (i := 0) (j := 24) rfl)).trans h_1)
  refine z_get (ref := "FlowExporterModel") (C := RX12) (T := TX12) (N := 54) (ci := 14) (v := .int 1) B (by decide +kernel) rfl 5 (by decide) (by decide +kernel) rfl h_6 rfl dX12_see_22 ?_
  refine z_iconst (v := 1) B dX12_see_25 rfl ?_
  refine z_icmp_le (tgt := 42) B dX12_see_26 rfl (fun c_1 => ?_) (fun h9 => absurd (by decide) h9)
  refine z_aload_n B dX12_see_42 rfl 0 rfl ?_
  refine z_dup B dX12_see_43 rfl ?_
  refine z_get (ref := "FlowExporterModel") (C := RX12) (T := TX12) (N := 54) (ci := 14) (v := .long sp) B (by decide +kernel) rfl 16 (by decide) (by decide +kernel) rfl h_6 rfl dX12_see_44 ?_
  refine z_lconst (v := 1) B dX12_see_47 rfl ?_
  refine z_ladd B dX12_see_48 ?_
  refine z_put (ref := "FlowExporterModel") (C := RX12) (T := TX12) (N := 54) (ci := 14) (v := .long (sp + 1)) B (by decide +kernel) tyX12 tyX12_ok nmX12 rfl 16 (by decide) (by decide +kernel) rfl (Or.inl rfl) h_6 hna rfl rfl (Nat.le_of_ble_eq_true rfl) dX12_see_49 (fun Φ3 hΦ2 => ?_)
  have h_7 : Φ3 y = some (o_ 14 [.int 0, .ref (y + 1), .ref (y + 2), .int 0, .int 1, .int 1, .int 0, .int 0, .ref (y + 3), .ref (y + 4), .int 0, .long 0, .ref (y + 5), .int 1, .int 0, .long (ob + 1), .long (sp + 1), .long 0, .long 0, .ref (y + 6), .ref (y + 7), .int 0, .ref (y + 8), .int 0, .ref (y + 9), .ref (y + 10), .int 0, .ref (y + 11), .ref (y + 12), .ref (y + 13), .ref (y + 14), .ref (y + 15), .ref (y + 16), .int 0, .long (-1), .ref (y + 17), .ref (y + 18), .ref (y + 19), .ref (y + 20), .ref (y + 21), .ref (y + 22), .int 0, .ref (y + 23), .ref (y + 24), .int 1, .ref (y + 25), .int 0, .int 0, .int 0, .int (-1), .int 0, .int 0, .int 0, .long 0]) := fset_at hΦ2
  refine z_aload_n B dX12_see_52 rfl 0 rfl ?_
  refine z_iload_n B dX12_see_53 rfl 1 rfl ?_
  refine z_iload_n B dX12_see_54 rfl 2 rfl ?_
  refine z_iload_n B dX12_see_55 rfl 3 rfl ?_
  refine z_iload B dX12_see_56 4 rfl ?_
  have h_8 : Φ3 (y + 5) = some (al_ G 96 ch) := ((fset_fr hΦ2 (ne_off (x := y) (i := 5) (j := 0) rfl)).trans ((fr1 (y + 5) (ne_off (x := y) (i := 5) (j := 24) rfl)).trans ((fset_fr hΦ1 (ne_off (x := y) (i := 5) (j := 0) rfl)).trans hc5_)))
  refine z_callV (As := [.int a, .int b, .int d, .int e]) (rest := []) B (m_flowOf_n G l Φ3 sz y (ob + 1) (sp + 1) ch a b d e h_7 h_8 hh0 hh1 hh2 hh3) (cwV 4 B.1.2.2.2.2 gX12_see_X12_flowOf rfl rfl rfl (by decide +kernel) ⟨Nat.le_of_ble_eq_true rfl, Nat.le_of_ble_eq_true rfl⟩) h_7 rfl rfl rfl rfl (Nat.le_of_ble_eq_true rfl) dX12_see_58 ⟨Nat.le_of_ble_eq_true rfl, Nat.le_of_ble_eq_true rfl⟩ (fun v2 Φ4 sz2 st2 hp2 hs2 => ?_)
  obtain ⟨rfl, hq2, fr2⟩ := hp2
  replace hq2 : sz2 = sz := hq2
  subst sz2
  replace hs2 : st2 = [.int 0] := hs2
  subst st2
  refine z_istore (lv' := [(6, .int 0), (0, .ref y), (1, .int a), (2, .int b), (3, .int d), (4, .int e), (5, .int f)]) B dX12_see_61 (Nat.le_of_ble_eq_true rfl) rfl ?_
  refine z_iload B dX12_see_63 0 rfl ?_
  refine z_iconst (v := (-1)) B dX12_see_65 rfl ?_
  refine z_icmp_ne (tgt := 174) B dX12_see_66 rfl (fun c_2 => ?_) (fun h9 => absurd h9 (by decide))
  refine z_aload_n B dX12_see_174 rfl 1 rfl ?_
  have h_9 : Φ4 y = some (o_ 14 [.int 0, .ref (y + 1), .ref (y + 2), .int 0, .int 1, .int 1, .int 0, .int 0, .ref (y + 3), .ref (y + 4), .int 0, .long 0, .ref (y + 5), .int 1, .int 0, .long (ob + 1), .long (sp + 1), .long 0, .long 0, .ref (y + 6), .ref (y + 7), .int 0, .ref (y + 8), .int 0, .ref (y + 9), .ref (y + 10), .int 0, .ref (y + 11), .ref (y + 12), .ref (y + 13), .ref (y + 14), .ref (y + 15), .ref (y + 16), .int 0, .long (-1), .ref (y + 17), .ref (y + 18), .ref (y + 19), .ref (y + 20), .ref (y + 21), .ref (y + 22), .int 0, .ref (y + 23), .ref (y + 24), .int 1, .ref (y + 25), .int 0, .int 0, .int 0, .int (-1), .int 0, .int 0, .int 0, .long 0]) := ((fr2 y).trans h_7)
  refine z_get (ref := "FlowExporterModel") (C := RX12) (T := TX12) (N := 54) (ci := 14) (v := .ref (y + 5)) B (by decide +kernel) rfl 12 (by decide) (by decide +kernel) rfl h_9 rfl dX12_see_175 ?_
  refine z_bipush (v := 8) B dX12_see_178 rfl ?_
  refine z_iload B dX12_see_180 0 rfl ?_
  refine z_imul B dX12_see_182 ?_
  refine z_top (st1 := [.int 0, .ref (y + 5)]) (congrArg (fun w9 : Int32 => ([.int w9, .ref (y + 5)] : List Value)) (show (8 * 0 : Int32) = 0 by decide +kernel)) ?_
  refine z_iconst (v := 4) B dX12_see_183 rfl ?_
  refine z_iadd B dX12_see_184 ?_
  refine z_top (st1 := [.int 4, .ref (y + 5)]) (congrArg (fun w9 : Int32 => ([.int w9, .ref (y + 5)] : List Value)) (show (0 + 4 : Int32) = 4 by decide +kernel)) ?_
  refine z_dup2_11 B dX12_see_185 rfl rfl ?_
  have h_10 : Φ4 (y + 5) = some (al_ G 96 ch) := ((fr2 (y + 5)).trans h_8)
  refine z_lald B h_10 (vin rfl) dX12_see_186 ?_
  refine z_lconst (v := 1) B dX12_see_187 rfl ?_
  refine z_ladd B dX12_see_188 ?_
  refine z_last B h_10 (Nat.le_trans hna (Nat.le_add_right y 5)) (vin rfl) dX12_see_189 (fun Φ5 hΦ3 => ?_)
  have h_11 : Φ5 (y + 5) = some (al_ G 96 (vp_updL ch (4 : Int32).toNatClampNeg ((ch (4 : Int32).toNatClampNeg) + 1))) := fset_at hΦ3
  refine z_aload_n B dX12_see_190 rfl 1 rfl ?_
  have h_12 : Φ5 y = some (o_ 14 [.int 0, .ref (y + 1), .ref (y + 2), .int 0, .int 1, .int 1, .int 0, .int 0, .ref (y + 3), .ref (y + 4), .int 0, .long 0, .ref (y + 5), .int 1, .int 0, .long (ob + 1), .long (sp + 1), .long 0, .long 0, .ref (y + 6), .ref (y + 7), .int 0, .ref (y + 8), .int 0, .ref (y + 9), .ref (y + 10), .int 0, .ref (y + 11), .ref (y + 12), .ref (y + 13), .ref (y + 14), .ref (y + 15), .ref (y + 16), .int 0, .long (-1), .ref (y + 17), .ref (y + 18), .ref (y + 19), .ref (y + 20), .ref (y + 21), .ref (y + 22), .int 0, .ref (y + 23), .ref (y + 24), .int 1, .ref (y + 25), .int 0, .int 0, .int 0, .int (-1), .int 0, .int 0, .int 0, .long 0]) := ((fset_fr hΦ3 (ne_off (x := y) (i := 0) (j := 5) rfl)).trans h_9)
  refine z_get (ref := "FlowExporterModel") (C := RX12) (T := TX12) (N := 54) (ci := 14) (v := .ref (y + 5)) B (by decide +kernel) rfl 12 (by decide) (by decide +kernel) rfl h_12 rfl dX12_see_191 ?_
  refine z_bipush (v := 8) B dX12_see_194 rfl ?_
  refine z_iload B dX12_see_196 0 rfl ?_
  refine z_imul B dX12_see_198 ?_
  refine z_top (st1 := [.int 0, .ref (y + 5)]) (congrArg (fun w9 : Int32 => ([.int w9, .ref (y + 5)] : List Value)) (show (8 * 0 : Int32) = 0 by decide +kernel)) ?_
  refine z_iconst (v := 5) B dX12_see_199 rfl ?_
  refine z_iadd B dX12_see_200 ?_
  refine z_top (st1 := [.int 5, .ref (y + 5)]) (congrArg (fun w9 : Int32 => ([.int w9, .ref (y + 5)] : List Value)) (show (0 + 5 : Int32) = 5 by decide +kernel)) ?_
  refine z_dup2_11 B dX12_see_201 rfl rfl ?_
  refine z_lald B h_11 (vin rfl) dX12_see_202 ?_
  refine z_iload B dX12_see_203 6 rfl ?_
  refine z_i2l (v := f.toInt64) B dX12_see_205 rfl ?_
  refine z_ladd B dX12_see_206 ?_
  refine z_last B h_11 (Nat.le_trans hna (Nat.le_add_right y 5)) (vin rfl) dX12_see_207 (fun Φ6 hΦ4 => ?_)
  have h_13 : Φ6 (y + 5) = some (al_ G 96 (vp_updL (vp_updL ch (4 : Int32).toNatClampNeg ((ch (4 : Int32).toNatClampNeg) + 1)) (5 : Int32).toNatClampNeg (((vp_updL ch (4 : Int32).toNatClampNeg ((ch (4 : Int32).toNatClampNeg) + 1)) (5 : Int32).toNatClampNeg) + f.toInt64))) := fset_at hΦ4
  refine z_aload_n B dX12_see_208 rfl 1 rfl ?_
  have h_14 : Φ6 y = some (o_ 14 [.int 0, .ref (y + 1), .ref (y + 2), .int 0, .int 1, .int 1, .int 0, .int 0, .ref (y + 3), .ref (y + 4), .int 0, .long 0, .ref (y + 5), .int 1, .int 0, .long (ob + 1), .long (sp + 1), .long 0, .long 0, .ref (y + 6), .ref (y + 7), .int 0, .ref (y + 8), .int 0, .ref (y + 9), .ref (y + 10), .int 0, .ref (y + 11), .ref (y + 12), .ref (y + 13), .ref (y + 14), .ref (y + 15), .ref (y + 16), .int 0, .long (-1), .ref (y + 17), .ref (y + 18), .ref (y + 19), .ref (y + 20), .ref (y + 21), .ref (y + 22), .int 0, .ref (y + 23), .ref (y + 24), .int 1, .ref (y + 25), .int 0, .int 0, .int 0, .int (-1), .int 0, .int 0, .int 0, .long 0]) := ((fset_fr hΦ4 (ne_off (x := y) (i := 0) (j := 5) rfl)).trans h_12)
  refine z_get (ref := "FlowExporterModel") (C := RX12) (T := TX12) (N := 54) (ci := 14) (v := .ref (y + 5)) B (by decide +kernel) rfl 12 (by decide) (by decide +kernel) rfl h_14 rfl dX12_see_209 ?_
  refine z_bipush (v := 8) B dX12_see_212 rfl ?_
  refine z_iload B dX12_see_214 0 rfl ?_
  refine z_imul B dX12_see_216 ?_
  refine z_top (st1 := [.int 0, .ref (y + 5)]) (congrArg (fun w9 : Int32 => ([.int w9, .ref (y + 5)] : List Value)) (show (8 * 0 : Int32) = 0 by decide +kernel)) ?_
  refine z_bipush (v := 7) B dX12_see_217 rfl ?_
  refine z_iadd B dX12_see_219 ?_
  refine z_top (st1 := [.int 7, .ref (y + 5)]) (congrArg (fun w9 : Int32 => ([.int w9, .ref (y + 5)] : List Value)) (show (0 + 7 : Int32) = 7 by decide +kernel)) ?_
  refine z_aload_n B dX12_see_220 rfl 1 rfl ?_
  refine z_get (ref := "FlowExporterModel") (C := RX12) (T := TX12) (N := 54) (ci := 14) (v := .int 0) B (by decide +kernel) rfl 3 (by decide) (by decide +kernel) rfl h_14 rfl dX12_see_221 ?_
  refine z_i2l (v := 0) B dX12_see_224 (by decide +kernel) ?_
  refine z_last B h_13 (Nat.le_trans hna (Nat.le_add_right y 5)) (vin rfl) dX12_see_225 (fun Φ7 hΦ5 => ?_)
  have h_15 : Φ7 (y + 5) = some (al_ G 96 (vp_updL (vp_updL (vp_updL ch (4 : Int32).toNatClampNeg ((ch (4 : Int32).toNatClampNeg) + 1)) (5 : Int32).toNatClampNeg (((vp_updL ch (4 : Int32).toNatClampNeg ((ch (4 : Int32).toNatClampNeg) + 1)) (5 : Int32).toNatClampNeg) + f.toInt64)) (7 : Int32).toNatClampNeg 0)) := fset_at hΦ5
  refine z_iconst (v := 1) B dX12_see_226 rfl ?_
  have h_16 : Φ7 y = some (o_ 14 [.int 0, .ref (y + 1), .ref (y + 2), .int 0, .int 1, .int 1, .int 0, .int 0, .ref (y + 3), .ref (y + 4), .int 0, .long 0, .ref (y + 5), .int 1, .int 0, .long (ob + 1), .long (sp + 1), .long 0, .long 0, .ref (y + 6), .ref (y + 7), .int 0, .ref (y + 8), .int 0, .ref (y + 9), .ref (y + 10), .int 0, .ref (y + 11), .ref (y + 12), .ref (y + 13), .ref (y + 14), .ref (y + 15), .ref (y + 16), .int 0, .long (-1), .ref (y + 17), .ref (y + 18), .ref (y + 19), .ref (y + 20), .ref (y + 21), .ref (y + 22), .int 0, .ref (y + 23), .ref (y + 24), .int 1, .ref (y + 25), .int 0, .int 0, .int 0, .int (-1), .int 0, .int 0, .int 0, .long 0]) := ((fset_fr hΦ5 (ne_off (x := y) (i := 0) (j := 5) rfl)).trans h_14)
  have h_17 : Φ7 (y + 24) = some (al_ G 48 (vp_updL (vp_updL tr (0 : Int32).toNatClampNeg ((tr (0 : Int32).toNatClampNeg) + 1)) (1 : Int32).toNatClampNeg (((vp_updL tr (0 : Int32).toNatClampNeg ((tr (0 : Int32).toNatClampNeg) + 1)) (1 : Int32).toNatClampNeg) + f.toInt64))) := ((fset_fr hΦ5 (ne_off (x := y) (i := 24) (j := 5) rfl)).trans ((fset_fr hΦ4 (ne_off (x := y) (i := 24) (j := 5) rfl)).trans ((fset_fr hΦ3 (ne_off (x := y) (i := 24) (j := 5) rfl)).trans ((fr2 (y + 24)).trans ((fset_fr hΦ2 (ne_off (x := y) (i := 24) (j := 0) rfl)).trans h_5)))))
  exact z_ret_z B dX12_see_227 (by decide) ⟨rfl, rfl, (fun b9 h9a h9b h9c => ((fset_fr hΦ5 h9c).trans ((fset_fr hΦ4 h9c).trans ((fset_fr hΦ3 h9c).trans ((fr2 b9).trans ((fset_fr hΦ2 h9a).trans ((fr1 b9 h9b).trans ((fset_fr hΦ1 h9a).trans rfl)))))))), h_16, h_17, h_15⟩

set_option maxHeartbeats 4000000 in
set_option maxRecDepth 100000 in
theorem m_X12_observeMany (G : EnvG) (l : Launch) (Φ : Hm) (sz : Nat) (y : Nat) (a : Int32) (b : Int32) (d : Int32) (e : Int32) (f : Int32) (n : Nat) (hc0_ : Φ y = some (o_ 14 [.int 0, .ref (y + 1), .ref (y + 2), .int 0, .int 1, .int 1, .int 0, .int 0, .ref (y + 3), .ref (y + 4), .int 0, .long 0, .ref (y + 5), .int 0, .int 0, .long 0, .long 0, .long 0, .long 0, .ref (y + 6), .ref (y + 7), .int 0, .ref (y + 8), .int 0, .ref (y + 9), .ref (y + 10), .int 0, .ref (y + 11), .ref (y + 12), .ref (y + 13), .ref (y + 14), .ref (y + 15), .ref (y + 16), .int 0, .long (-1), .ref (y + 17), .ref (y + 18), .ref (y + 19), .ref (y + 20), .ref (y + 21), .ref (y + 22), .int 0, .ref (y + 23), .ref (y + 24), .int 0, .ref (y + 25), .int 0, .int 0, .int 0, .int (-1), .int 0, .int 0, .int 0, .long 0])) (hc5_ : Φ (y + 5) = some (al_ G 96 (fun _ => 0))) (hc23_ : Φ (y + 23) = some (ai_ G 96 (fun _ => 0))) (hc24_ : Φ (y + 24) = some (al_ G 48 (fun _ => 0))) (hna : G.2.2.2 ≤ y) (hp : pkP a b d e f) (hn : inP (nI n).toInt64 1 200) (hn1 : 1 ≤ n) (hn2 : n ≤ 200) : Ct G l yX12_observeMany wsX12_observeMany ({ frames := 4, cells := 0, slots := 0, locals := 107 }) 0 0 [.ref y, .int a, .int b, .int d, .int e, .int f, .int (nI n)] Φ sz (fun v Φ1 sz1 => v = some (.int (nI n)) ∧ (∃ fs : List Value, Φ1 y = some (o_ 14 fs) ∧ fs[0]? = some (.int 0)) ∧ ∀ b9 : Nat, y + 26 ≤ b9 → Φ1 b9 = Φ b9) := by
  refine Ct.of (cc := cX12_observeMany) (maxL := 9) (ret := (some .int)) (by decide) rfl (Nat.le_of_ble_eq_true rfl) ?_
  intro p9 e9 s9 m9 w9 t9 k9 B
  have loop : ∀ (kq i : Nat) (Φi : Hm) (ob : Int64) (sp : Int64) (tp : Nat → Int32) (tr : Nat → Int64) (ch : Nat → Int64), i + kq = n → Φi y = some (o_ 14 [.int 0, .ref (y + 1), .ref (y + 2), .int 0, .int 1, .int 1, .int 0, .int 0, .ref (y + 3), .ref (y + 4), .int 0, .long 0, .ref (y + 5), .int 1, .int 0, .long ob, .long sp, .long 0, .long 0, .ref (y + 6), .ref (y + 7), .int 0, .ref (y + 8), .int 0, .ref (y + 9), .ref (y + 10), .int 0, .ref (y + 11), .ref (y + 12), .ref (y + 13), .ref (y + 14), .ref (y + 15), .ref (y + 16), .int 0, .long (-1), .ref (y + 17), .ref (y + 18), .ref (y + 19), .ref (y + 20), .ref (y + 21), .ref (y + 22), .int 0, .ref (y + 23), .ref (y + 24), .int 1, .ref (y + 25), .int 0, .int 0, .int 0, .int (-1), .int 0, .int 0, .int 0, .long 0]) → Φi (y + 23) = some (ai_ G 96 tp) → Φi (y + 24) = some (al_ G 48 tr) → Φi (y + 5) = some (al_ G 96 ch) → (tp 0 = a) → (tp 1 = b) → (tp 2 = d) → (tp 3 = e) → (ch 0 = a.toInt64) → (ch 1 = b.toInt64) → (ch 2 = d.toInt64) → (ch 3 = e.toInt64) → (∀ b9 : Nat, y + 26 ≤ b9 → Φi b9 = Φ b9) → Z p9 l e9 ({ frames := 4, cells := 0, slots := 0, locals := 107 } : Room) s9 m9 (List.toArray [.ref y, .int a, .int b, .int d, .int e, .int f, .int (nI n)]) w9 t9 k9 (MQ w9 (QU G (fun v Φ1 sz1 => v = some (.int (nI n)) ∧ (∃ fs : List Value, Φ1 y = some (o_ 14 fs) ∧ fs[0]? = some (.int 0)) ∧ ∀ b9 : Nat, y + 26 ≤ b9 → Φ1 b9 = Φ b9)) (List.toArray [.ref y, .int a, .int b, .int d, .int e, .int f, .int (nI n)]) s9 0 0 (fun q => G.2.2.2 ≤ q)) G 9 52 [(8, .int (nI i)), (7, .int (nI i)), (6, .int (nI n)), (5, .int f), (4, .int e), (3, .int d), (2, .int b), (1, .int a), (0, .ref y)] [] Φi sz 0 0 := by
    intro kq
    induction kq with
    | zero =>
      intro i Φi ob sp tp tr ch hi hI0 hI1 hI2 hI3 ht0 ht1 ht2 ht3 hh0 hh1 hh2 hh3 hfr
      refine z_iload B dX12_observeMany_52 0 rfl ?_
      refine z_iload B dX12_observeMany_54 2 rfl ?_
      refine z_icmp_ge (tgt := 89) B dX12_observeMany_56 rfl (fun c_1 => ?_) (fun h9 => absurd (nI_le (by omega) (by omega)) h9)
      refine z_aload_n B dX12_observeMany_89 rfl 8 rfl ?_
      refine z_callV (As := []) (rest := []) B (m_sendPending_q G l Φi sz y ob sp hI0 hna) (cwV 0 B.1.2.2.2.2 gX12_observeMany_X12_sendPending rfl rfl rfl (by decide +kernel) ⟨Nat.le_of_ble_eq_true rfl, Nat.le_of_ble_eq_true rfl⟩) hI0 rfl rfl rfl rfl (Nat.le_of_ble_eq_true rfl) dX12_observeMany_90 ⟨Nat.le_of_ble_eq_true rfl, Nat.le_of_ble_eq_true rfl⟩ (fun v1 Φ1 sz1 st1 hp1 hs1 => ?_)
      obtain ⟨rfl, hq1, fr1, h_1⟩ := hp1
      replace hq1 : sz1 = sz := hq1
      subst sz1
      replace hs1 : st1 = [] := hs1
      subst st1
      have h_2 : Φ1 y = some (o_ 14 [.int 0, .ref (y + 1), .ref (y + 2), .int 0, .int 1, .int 1, .int 0, .int 0, .ref (y + 3), .ref (y + 4), .int 0, .long 0, .ref (y + 5), .int 1, .int 0, .long ob, .long sp, .long 0, .long 0, .ref (y + 6), .ref (y + 7), .int 0, .ref (y + 8), .int 0, .ref (y + 9), .ref (y + 10), .int 0, .ref (y + 11), .ref (y + 12), .ref (y + 13), .ref (y + 14), .ref (y + 15), .ref (y + 16), .int 0, .long (-1), .ref (y + 17), .ref (y + 18), .ref (y + 19), .ref (y + 20), .ref (y + 21), .ref (y + 22), .int 0, .ref (y + 23), .ref (y + 24), .int 1, .ref (y + 25), .int 0, .int 0, .int 0, .int (-1), .int 0, .int 0, .int 0, .long 0]) := h_1
      refine z_iload B dX12_observeMany_93 1 rfl ?_
      exact z_ret_i B dX12_observeMany_95 ⟨(by rw [show i = n by omega]), ⟨_, h_2, rfl⟩, fun b9 h9 => ((fr1 b9 (Nat.ne_of_gt (Nat.lt_of_lt_of_le (lt_off (x := y) (i := 0) (j := 26) rfl) h9))).trans rfl).trans (hfr b9 h9)⟩
    | succ kq ih =>
      intro i Φi ob sp tp tr ch hi hI0 hI1 hI2 hI3 ht0 ht1 ht2 ht3 hh0 hh1 hh2 hh3 hfr
      refine z_iload B dX12_observeMany_52 0 rfl ?_
      refine z_iload B dX12_observeMany_54 2 rfl ?_
      refine z_icmp_ge (tgt := 89) B dX12_observeMany_56 rfl (fun h9 => absurd h9 (nI_ge (by omega) (by omega))) (fun c_1 => ?_)
      refine z_iload B dX12_observeMany_59 1 rfl ?_
      refine z_aload_n B dX12_observeMany_61 rfl 8 rfl ?_
      refine z_iload_n B dX12_observeMany_62 rfl 7 rfl ?_
      refine z_iload_n B dX12_observeMany_63 rfl 6 rfl ?_
      refine z_iload_n B dX12_observeMany_64 rfl 5 rfl ?_
      refine z_iload B dX12_observeMany_65 4 rfl ?_
      refine z_iload B dX12_observeMany_67 3 rfl ?_
      refine z_callV (As := [.int a, .int b, .int d, .int e, .int f]) (rest := [.int (nI i)]) B (m_see_n G l Φi sz y ob sp tp tr ch a b d e f hI0 hI3 hI1 hI2 hna ht0 ht1 ht2 ht3 hh0 hh1 hh2 hh3) (cwV 5 B.1.2.2.2.2 gX12_observeMany_X12_see rfl rfl rfl (by decide +kernel) ⟨Nat.le_of_ble_eq_true rfl, Nat.le_of_ble_eq_true rfl⟩) hI0 rfl rfl rfl rfl (Nat.le_of_ble_eq_true rfl) dX12_observeMany_69 ⟨Nat.le_of_ble_eq_true rfl, Nat.le_of_ble_eq_true rfl⟩ (fun v1 Φ1 sz1 st1 hp1 hs1 => ?_)
      obtain ⟨rfl, hq1, fr1, h_1, h_2, h_3⟩ := hp1
      replace hq1 : sz1 = sz := hq1
      subst sz1
      replace hs1 : st1 = [.int 1, .int (nI i)] := hs1
      subst st1
      have h_4 : Φ1 y = some (o_ 14 [.int 0, .ref (y + 1), .ref (y + 2), .int 0, .int 1, .int 1, .int 0, .int 0, .ref (y + 3), .ref (y + 4), .int 0, .long 0, .ref (y + 5), .int 1, .int 0, .long (ob + 1), .long (sp + 1), .long 0, .long 0, .ref (y + 6), .ref (y + 7), .int 0, .ref (y + 8), .int 0, .ref (y + 9), .ref (y + 10), .int 0, .ref (y + 11), .ref (y + 12), .ref (y + 13), .ref (y + 14), .ref (y + 15), .ref (y + 16), .int 0, .long (-1), .ref (y + 17), .ref (y + 18), .ref (y + 19), .ref (y + 20), .ref (y + 21), .ref (y + 22), .int 0, .ref (y + 23), .ref (y + 24), .int 1, .ref (y + 25), .int 0, .int 0, .int 0, .int (-1), .int 0, .int 0, .int 0, .long 0]) := h_1
      have h_5 : Φ1 (y + 24) = some (al_ G 48 (vp_updL (vp_updL tr (0 : Int32).toNatClampNeg ((tr (0 : Int32).toNatClampNeg) + 1)) (1 : Int32).toNatClampNeg (((vp_updL tr (0 : Int32).toNatClampNeg ((tr (0 : Int32).toNatClampNeg) + 1)) (1 : Int32).toNatClampNeg) + f.toInt64))) := h_2
      have h_6 : Φ1 (y + 5) = some (al_ G 96 (vp_updL (vp_updL (vp_updL ch (4 : Int32).toNatClampNeg ((ch (4 : Int32).toNatClampNeg) + 1)) (5 : Int32).toNatClampNeg (((vp_updL ch (4 : Int32).toNatClampNeg ((ch (4 : Int32).toNatClampNeg) + 1)) (5 : Int32).toNatClampNeg) + f.toInt64)) (7 : Int32).toNatClampNeg 0)) := h_3
      refine z_if_eq (tgt := 79) B dX12_observeMany_72 rfl (fun h9 => absurd h9 (by decide)) (fun c_2 => ?_)
      refine z_iconst (v := 1) B dX12_observeMany_75 rfl ?_
      refine z_goto (tgt := 80) B dX12_observeMany_76 rfl ?_
      refine z_iadd B dX12_observeMany_80 ?_
      refine z_top (st1 := [.int (nI (i + 1))]) (congrArg (fun w9 : Int32 => ([.int w9] : List Value)) (nI_1 i)) ?_
      refine z_istore (lv' := [(7, .int (nI (i + 1))), (8, .int (nI i)), (6, .int (nI n)), (5, .int f), (4, .int e), (3, .int d), (2, .int b), (1, .int a), (0, .ref y)]) B dX12_observeMany_81 (Nat.le_of_ble_eq_true rfl) rfl ?_
      refine z_iinc (k := 1) (v := nI (i + 1)) (lv' := [(8, .int (nI (i + 1))), (7, .int (nI (i + 1))), (6, .int (nI n)), (5, .int f), (4, .int e), (3, .int d), (2, .int b), (1, .int a), (0, .ref y)]) B dX12_observeMany_83 rfl (nI_1 i) (Nat.le_of_ble_eq_true rfl) rfl ?_
      refine z_goto (tgt := 52) B dX12_observeMany_86 rfl ?_
      have h_7 : Φ1 (y + 23) = some (ai_ G 96 tp) := ((fr1 (y + 23) (ne_off (x := y) (i := 23) (j := 0) rfl) (ne_off (x := y) (i := 23) (j := 24) rfl) (ne_off (x := y) (i := 23) (j := 5) rfl)).trans hI1)
      refine z_lv [0, 1, 2, 3, 4, 5, 6, 7, 8] rfl ?_
      refine ih (i + 1) Φ1 (ob + 1) (sp + 1) tp (vp_updL (vp_updL tr (0 : Int32).toNatClampNeg ((tr (0 : Int32).toNatClampNeg) + 1)) (1 : Int32).toNatClampNeg (((vp_updL tr (0 : Int32).toNatClampNeg ((tr (0 : Int32).toNatClampNeg) + 1)) (1 : Int32).toNatClampNeg) + f.toInt64)) (vp_updL (vp_updL (vp_updL ch (4 : Int32).toNatClampNeg ((ch (4 : Int32).toNatClampNeg) + 1)) (5 : Int32).toNatClampNeg (((vp_updL ch (4 : Int32).toNatClampNeg ((ch (4 : Int32).toNatClampNeg) + 1)) (5 : Int32).toNatClampNeg) + f.toInt64)) (7 : Int32).toNatClampNeg 0) (by omega) (by first | exact h_4 | (rw [← nI_1]; exact h_4)) h_7 (by first | exact h_5 | (rw [← nI_1]; exact h_5)) (by first | exact h_6 | (rw [← nI_1]; exact h_6)) ht0 ht1 ht2 ht3 hh0 hh1 hh2 hh3 (fun b9 h9 => ((fr1 b9 (Nat.ne_of_gt (Nat.lt_of_lt_of_le (lt_off (x := y) (i := 0) (j := 26) rfl) h9)) (Nat.ne_of_gt (Nat.lt_of_lt_of_le (lt_off (x := y) (i := 24) (j := 26) rfl) h9)) (Nat.ne_of_gt (Nat.lt_of_lt_of_le (lt_off (x := y) (i := 5) (j := 26) rfl) h9))).trans rfl).trans (hfr b9 h9))
  show Z p9 l e9 _ s9 m9 _ w9 t9 k9 _ G 9 0 [(0, .ref y), (1, .int a), (2, .int b), (3, .int d), (4, .int e), (5, .int f), (6, .int (nI n))] [] Φ sz 0 0
  refine z_aload_n B dX12_observeMany_0 rfl 0 rfl ?_
  refine z_iconst (v := 0) B dX12_observeMany_1 rfl ?_
  refine z_put (ref := "FlowExporterModel") (C := RX12) (T := TX12) (N := 54) (ci := 14) (v := .int 0) B (by decide +kernel) tyX12 tyX12_ok nmX12 rfl 0 (by decide) (by decide +kernel) rfl (Or.inl rfl) hc0_ hna rfl rfl (Nat.le_of_ble_eq_true rfl) dX12_observeMany_2 (fun Φ1 hΦ1 => ?_)
  have h_1 : Φ1 y = some (o_ 14 [.int 0, .ref (y + 1), .ref (y + 2), .int 0, .int 1, .int 1, .int 0, .int 0, .ref (y + 3), .ref (y + 4), .int 0, .long 0, .ref (y + 5), .int 0, .int 0, .long 0, .long 0, .long 0, .long 0, .ref (y + 6), .ref (y + 7), .int 0, .ref (y + 8), .int 0, .ref (y + 9), .ref (y + 10), .int 0, .ref (y + 11), .ref (y + 12), .ref (y + 13), .ref (y + 14), .ref (y + 15), .ref (y + 16), .int 0, .long (-1), .ref (y + 17), .ref (y + 18), .ref (y + 19), .ref (y + 20), .ref (y + 21), .ref (y + 22), .int 0, .ref (y + 23), .ref (y + 24), .int 0, .ref (y + 25), .int 0, .int 0, .int 0, .int (-1), .int 0, .int 0, .int 0, .long 0]) := fset_at hΦ1
  refine z_aload_n B dX12_observeMany_5 rfl 0 rfl ?_
  refine z_iload_n B dX12_observeMany_6 rfl 1 rfl ?_
  refine z_iload_n B dX12_observeMany_7 rfl 2 rfl ?_
  refine z_iload_n B dX12_observeMany_8 rfl 3 rfl ?_
  refine z_iload B dX12_observeMany_9 4 rfl ?_
  refine z_iload B dX12_observeMany_11 5 rfl ?_
  refine z_callS (As := [.int a, .int b, .int d, .int e, .int f]) (rest := [.ref y]) B (m_isPacket G l Φ1 sz y a b d e f hp.1 hp.2.1 hp.2.2.1 hp.2.2.2.1 hp.2.2.2.2) (va_cwS 5 B.1.2.2.2.2 gX12_observeMany_X12_isPacket rfl rfl rfl (by decide +kernel) ⟨Nat.le_of_ble_eq_true rfl, Nat.le_of_ble_eq_true rfl⟩) rfl rfl (Nat.le_of_ble_eq_true rfl) dX12_observeMany_13 ⟨Nat.le_of_ble_eq_true rfl, Nat.le_of_ble_eq_true rfl⟩ (fun v1 Φ2 sz1 st1 hp1 hs1 => ?_)
  obtain ⟨rfl, hq1, fr1⟩ := hp1
  replace hq1 : sz1 = sz := hq1
  subst sz1
  replace hs1 : st1 = [.int 1, .ref y] := hs1
  subst st1
  refine z_if_eq (tgt := 32) B dX12_observeMany_16 rfl (fun h9 => absurd h9 (by decide)) (fun c_1 => ?_)
  refine z_iload B dX12_observeMany_19 6 rfl ?_
  refine z_i2l (v := (nI n).toInt64) B dX12_observeMany_21 rfl ?_
  refine z_lconst (v := 1) B dX12_observeMany_22 rfl ?_
  refine z_ldc2 (v := 200) B (by decide +kernel) dX12_observeMany_23 ?_
  refine z_callS (As := [.long ((nI n).toInt64), .long 1, .long 200]) (rest := [.ref y]) B (c_X12_inRange_1 G l Φ2 sz ((nI n).toInt64) 1 200 hn) (va_cwS 3 B.1.2.2.2.2 gX12_observeMany_X12_inRange rfl rfl rfl (by decide +kernel) ⟨Nat.le_of_ble_eq_true rfl, Nat.le_of_ble_eq_true rfl⟩) rfl rfl (Nat.le_of_ble_eq_true rfl) dX12_observeMany_26 ⟨Nat.le_of_ble_eq_true rfl, Nat.le_of_ble_eq_true rfl⟩ (fun v2 Φ3 sz2 st2 hp2 hs2 => ?_)
  obtain ⟨rfl, hq2, fr2⟩ := hp2
  replace hq2 : sz2 = sz := hq2
  subst sz2
  replace hs2 : st2 = [.int 1, .ref y] := hs2
  subst st2
  refine z_if_ne (tgt := 36) B dX12_observeMany_29 rfl (fun c_2 => ?_) (fun h9 => absurd h9 (by decide))
  refine z_iconst (v := 0) B dX12_observeMany_36 rfl ?_
  refine z_iconst (v := 1) B dX12_observeMany_37 rfl ?_
  have h_2 : Φ3 y = some (o_ 14 [.int 0, .ref (y + 1), .ref (y + 2), .int 0, .int 1, .int 1, .int 0, .int 0, .ref (y + 3), .ref (y + 4), .int 0, .long 0, .ref (y + 5), .int 0, .int 0, .long 0, .long 0, .long 0, .long 0, .ref (y + 6), .ref (y + 7), .int 0, .ref (y + 8), .int 0, .ref (y + 9), .ref (y + 10), .int 0, .ref (y + 11), .ref (y + 12), .ref (y + 13), .ref (y + 14), .ref (y + 15), .ref (y + 16), .int 0, .long (-1), .ref (y + 17), .ref (y + 18), .ref (y + 19), .ref (y + 20), .ref (y + 21), .ref (y + 22), .int 0, .ref (y + 23), .ref (y + 24), .int 0, .ref (y + 25), .int 0, .int 0, .int 0, .int (-1), .int 0, .int 0, .int 0, .long 0]) := ((fr2 y).trans ((fr1 y).trans h_1))
  refine z_callV (As := [.int 0, .int 1]) (rest := []) B (c_X12_throwsIf_0 G l Φ3 sz y 0 0 1 1 0 0 0 0 0 0 0 0 0 0 0 0 0 0 (-1) 0 0 0 0 0 (-1) 0 0 0 0 1 h_2 hna) (cwV 2 B.1.2.2.2.2 gX12_observeMany_X12_throwsIf rfl rfl rfl (by decide +kernel) ⟨Nat.le_of_ble_eq_true rfl, Nat.le_of_ble_eq_true rfl⟩) h_2 rfl rfl rfl rfl (Nat.le_of_ble_eq_true rfl) dX12_observeMany_38 ⟨Nat.le_of_ble_eq_true rfl, Nat.le_of_ble_eq_true rfl⟩ (fun v3 Φ4 sz3 st3 hp3 hs3 => ?_)
  obtain ⟨rfl, hq3, fr3⟩ := hp3
  replace hq3 : sz3 = sz := hq3
  subst sz3
  replace hs3 : st3 = [.int 0] := hs3
  subst st3
  refine z_if_eq (tgt := 46) B dX12_observeMany_41 rfl (fun c_3 => ?_) (fun h9 => absurd (by decide) h9)
  refine z_iconst (v := 0) B dX12_observeMany_46 rfl ?_
  refine z_istore (lv' := [(7, .int 0), (0, .ref y), (1, .int a), (2, .int b), (3, .int d), (4, .int e), (5, .int f), (6, .int (nI n))]) B dX12_observeMany_47 (Nat.le_of_ble_eq_true rfl) rfl ?_
  refine z_iconst (v := 0) B dX12_observeMany_49 rfl ?_
  refine z_istore (lv' := [(8, .int 0), (7, .int 0), (0, .ref y), (1, .int a), (2, .int b), (3, .int d), (4, .int e), (5, .int f), (6, .int (nI n))]) B dX12_observeMany_50 (Nat.le_of_ble_eq_true rfl) rfl ?_
  refine z_iload B dX12_observeMany_52 0 rfl ?_
  refine z_iload B dX12_observeMany_54 8 rfl ?_
  refine z_icmp_ge (tgt := 89) B dX12_observeMany_56 rfl (fun h9 => absurd h9 (nI_ge (a := 0) (by omega) (by omega))) (fun c_4 => ?_)
  refine z_iload B dX12_observeMany_59 1 rfl ?_
  refine z_aload_n B dX12_observeMany_61 rfl 2 rfl ?_
  refine z_iload_n B dX12_observeMany_62 rfl 3 rfl ?_
  refine z_iload_n B dX12_observeMany_63 rfl 4 rfl ?_
  refine z_iload_n B dX12_observeMany_64 rfl 5 rfl ?_
  refine z_iload B dX12_observeMany_65 6 rfl ?_
  refine z_iload B dX12_observeMany_67 7 rfl ?_
  have h_3 : Φ4 y = some (o_ 14 [.int 0, .ref (y + 1), .ref (y + 2), .int 0, .int 1, .int 1, .int 0, .int 0, .ref (y + 3), .ref (y + 4), .int 0, .long 0, .ref (y + 5), .int 0, .int 0, .long 0, .long 0, .long 0, .long 0, .ref (y + 6), .ref (y + 7), .int 0, .ref (y + 8), .int 0, .ref (y + 9), .ref (y + 10), .int 0, .ref (y + 11), .ref (y + 12), .ref (y + 13), .ref (y + 14), .ref (y + 15), .ref (y + 16), .int 0, .long (-1), .ref (y + 17), .ref (y + 18), .ref (y + 19), .ref (y + 20), .ref (y + 21), .ref (y + 22), .int 0, .ref (y + 23), .ref (y + 24), .int 0, .ref (y + 25), .int 0, .int 0, .int 0, .int (-1), .int 0, .int 0, .int 0, .long 0]) := ((fr3 y).trans h_2)
  have h_4 : Φ4 (y + 5) = some (al_ G 96 (fun _ => 0)) := ((fr3 (y + 5)).trans ((fr2 (y + 5)).trans ((fr1 (y + 5)).trans ((fset_fr hΦ1 (ne_off (x := y) (i := 5) (j := 0) rfl)).trans hc5_))))
  have h_5 : Φ4 (y + 23) = some (ai_ G 96 (fun _ => 0)) := ((fr3 (y + 23)).trans ((fr2 (y + 23)).trans ((fr1 (y + 23)).trans ((fset_fr hΦ1 (ne_off (x := y) (i := 23) (j := 0) rfl)).trans hc23_))))
  have h_6 : Φ4 (y + 24) = some (al_ G 48 (fun _ => 0)) := ((fr3 (y + 24)).trans ((fr2 (y + 24)).trans ((fr1 (y + 24)).trans ((fset_fr hΦ1 (ne_off (x := y) (i := 24) (j := 0) rfl)).trans hc24_))))
  refine z_callV (As := [.int a, .int b, .int d, .int e, .int f]) (rest := [.int 0]) B (m_see_1 G l Φ4 sz y a b d e f h_3 h_4 h_5 h_6 hna) (cwV 5 B.1.2.2.2.2 gX12_observeMany_X12_see rfl rfl rfl (by decide +kernel) ⟨Nat.le_of_ble_eq_true rfl, Nat.le_of_ble_eq_true rfl⟩) h_3 rfl rfl rfl rfl (Nat.le_of_ble_eq_true rfl) dX12_observeMany_69 ⟨Nat.le_of_ble_eq_true rfl, Nat.le_of_ble_eq_true rfl⟩ (fun v4 Φ5 sz4 st4 hp4 hs4 => ?_)
  obtain ⟨rfl, hq4, fr4, h_7, h_8, h_9, h_10⟩ := hp4
  replace hq4 : sz4 = sz := hq4
  subst sz4
  replace hs4 : st4 = [.int 1, .int 0] := hs4
  subst st4
  have h_11 : Φ5 y = some (o_ 14 [.int 0, .ref (y + 1), .ref (y + 2), .int 0, .int 1, .int 1, .int 0, .int 0, .ref (y + 3), .ref (y + 4), .int 0, .long 0, .ref (y + 5), .int 1, .int 0, .long 1, .long 1, .long 0, .long 0, .ref (y + 6), .ref (y + 7), .int 0, .ref (y + 8), .int 0, .ref (y + 9), .ref (y + 10), .int 0, .ref (y + 11), .ref (y + 12), .ref (y + 13), .ref (y + 14), .ref (y + 15), .ref (y + 16), .int 0, .long (-1), .ref (y + 17), .ref (y + 18), .ref (y + 19), .ref (y + 20), .ref (y + 21), .ref (y + 22), .int 0, .ref (y + 23), .ref (y + 24), .int 1, .ref (y + 25), .int 0, .int 0, .int 0, .int (-1), .int 0, .int 0, .int 0, .long 0]) := h_7
  have h_12 : Φ5 (y + 23) = some (ai_ G 96 (upd (upd (upd (upd (fun _ => 0) (0 : Int32).toNatClampNeg a) (1 : Int32).toNatClampNeg b) (2 : Int32).toNatClampNeg d) (3 : Int32).toNatClampNeg e)) := h_8
  have h_13 : Φ5 (y + 24) = some (al_ G 48 (vp_updL (vp_updL (vp_updL (vp_updL (fun _ => 0) (0 : Int32).toNatClampNeg 0) (1 : Int32).toNatClampNeg 0) (0 : Int32).toNatClampNeg 1) (1 : Int32).toNatClampNeg (0 + f.toInt64))) := h_9
  have h_14 : Φ5 (y + 5) = some (al_ G 96 (vp_updL (vp_updL (vp_updL (vp_updL (vp_updL (vp_updL (vp_updL (vp_updL (vp_updL (vp_updL (fun _ => 0) (0 : Int32).toNatClampNeg a.toInt64) (1 : Int32).toNatClampNeg b.toInt64) (2 : Int32).toNatClampNeg d.toInt64) (3 : Int32).toNatClampNeg e.toInt64) (4 : Int32).toNatClampNeg 0) (5 : Int32).toNatClampNeg 0) (6 : Int32).toNatClampNeg 0) (4 : Int32).toNatClampNeg 1) (5 : Int32).toNatClampNeg (0 + f.toInt64)) (7 : Int32).toNatClampNeg 0)) := h_10
  refine z_if_eq (tgt := 79) B dX12_observeMany_72 rfl (fun h9 => absurd h9 (by decide)) (fun c_5 => ?_)
  refine z_iconst (v := 1) B dX12_observeMany_75 rfl ?_
  refine z_goto (tgt := 80) B dX12_observeMany_76 rfl ?_
  refine z_iadd B dX12_observeMany_80 ?_
  refine z_top (st1 := [.int 1]) (congrArg (fun w9 : Int32 => ([.int w9] : List Value)) (show (0 + 1 : Int32) = 1 by decide +kernel)) ?_
  refine z_istore (lv' := [(7, .int 1), (8, .int 0), (0, .ref y), (1, .int a), (2, .int b), (3, .int d), (4, .int e), (5, .int f), (6, .int (nI n))]) B dX12_observeMany_81 (Nat.le_of_ble_eq_true rfl) rfl ?_
  refine z_iinc (k := 1) (v := 1) (lv' := [(8, .int 1), (7, .int 1), (0, .ref y), (1, .int a), (2, .int b), (3, .int d), (4, .int e), (5, .int f), (6, .int (nI n))]) B dX12_observeMany_83 rfl rfl (Nat.le_of_ble_eq_true rfl) rfl ?_
  refine z_goto (tgt := 52) B dX12_observeMany_86 rfl ?_
  refine z_lv [0, 1, 8, 7, 6, 5, 4, 3, 2] rfl ?_
  exact loop (n - 1) 1 Φ5 1 1 (upd (upd (upd (upd (fun _ => 0) (0 : Int32).toNatClampNeg a) (1 : Int32).toNatClampNeg b) (2 : Int32).toNatClampNeg d) (3 : Int32).toNatClampNeg e) (vp_updL (vp_updL (vp_updL (vp_updL (fun _ => 0) (0 : Int32).toNatClampNeg 0) (1 : Int32).toNatClampNeg 0) (0 : Int32).toNatClampNeg 1) (1 : Int32).toNatClampNeg (0 + f.toInt64)) (vp_updL (vp_updL (vp_updL (vp_updL (vp_updL (vp_updL (vp_updL (vp_updL (vp_updL (vp_updL (fun _ => 0) (0 : Int32).toNatClampNeg a.toInt64) (1 : Int32).toNatClampNeg b.toInt64) (2 : Int32).toNatClampNeg d.toInt64) (3 : Int32).toNatClampNeg e.toInt64) (4 : Int32).toNatClampNeg 0) (5 : Int32).toNatClampNeg 0) (6 : Int32).toNatClampNeg 0) (4 : Int32).toNatClampNeg 1) (5 : Int32).toNatClampNeg (0 + f.toInt64)) (7 : Int32).toNatClampNeg 0) (by omega) h_11 h_12 h_13 h_14 rfl rfl rfl rfl rfl rfl rfl rfl (fun b9 h9 => ((fr4 b9 (Nat.ne_of_gt (Nat.lt_of_lt_of_le (lt_off (x := y) (i := 0) (j := 26) rfl) h9)) (Nat.ne_of_gt (Nat.lt_of_lt_of_le (lt_off (x := y) (i := 23) (j := 26) rfl) h9)) (Nat.ne_of_gt (Nat.lt_of_lt_of_le (lt_off (x := y) (i := 24) (j := 26) rfl) h9)) (Nat.ne_of_gt (Nat.lt_of_lt_of_le (lt_off (x := y) (i := 5) (j := 26) rfl) h9))).trans ((fr3 b9).trans ((fr2 b9).trans ((fr1 b9).trans ((fset_fr hΦ1 (Nat.ne_of_gt (Nat.lt_of_lt_of_le (lt_off (x := y) (i := 0) (j := 26) rfl) h9))).trans rfl))))))

set_option maxHeartbeats 4000000 in
set_option maxRecDepth 100000 in
theorem m_X12_observeMany_x1 (G : EnvG) (l : Launch) (Φ : Hm) (sz : Nat) (y : Nat) (a : Int32) (b : Int32) (d : Int32) (e : Int32) (f : Int32) (g : Int32) (hc0_ : Φ y = some (o_ 14 [.int 0, .ref (y + 1), .ref (y + 2), .int 0, .int 1, .int 1, .int 0, .int 0, .ref (y + 3), .ref (y + 4), .int 0, .long 0, .ref (y + 5), .int 0, .int 0, .long 0, .long 0, .long 0, .long 0, .ref (y + 6), .ref (y + 7), .int 0, .ref (y + 8), .int 0, .ref (y + 9), .ref (y + 10), .int 0, .ref (y + 11), .ref (y + 12), .ref (y + 13), .ref (y + 14), .ref (y + 15), .ref (y + 16), .int 0, .long (-1), .ref (y + 17), .ref (y + 18), .ref (y + 19), .ref (y + 20), .ref (y + 21), .ref (y + 22), .int 0, .ref (y + 23), .ref (y + 24), .int 0, .ref (y + 25), .int 0, .int 0, .int 0, .int (-1), .int 0, .int 0, .int 0, .long 0])) (hna : G.2.2.2 ≤ y) (hp : ¬ pkP a b d e f) : Ct G l yX12_observeMany wsX12_observeMany ({ frames := 3, cells := 0, slots := 0, locals := 69 }) 0 0 [.ref y, .int a, .int b, .int d, .int e, .int f, .int g] Φ sz (fun v Φ1 sz1 => v = some (.int 0) ∧ (∃ fs : List Value, Φ1 y = some (o_ 14 fs) ∧ fs[0]? = some (.int 1)) ∧ ∀ b9 : Nat, y + 26 ≤ b9 → Φ1 b9 = Φ b9) := by
  refine Ct.of (cc := cX12_observeMany) (maxL := 9) (ret := (some .int)) (by decide) rfl (Nat.le_of_ble_eq_true rfl) ?_
  intro p9 e9 s9 m9 w9 t9 k9 B
  show Z p9 l e9 _ s9 m9 _ w9 t9 k9 _ G 9 0 [(0, .ref y), (1, .int a), (2, .int b), (3, .int d), (4, .int e), (5, .int f), (6, .int g)] [] Φ sz 0 0
  refine z_aload_n B dX12_observeMany_0 rfl 0 rfl ?_
  refine z_iconst (v := 0) B dX12_observeMany_1 rfl ?_
  refine z_put (ref := "FlowExporterModel") (C := RX12) (T := TX12) (N := 54) (ci := 14) (v := .int 0) B (by decide +kernel) tyX12 tyX12_ok nmX12 rfl 0 (by decide) (by decide +kernel) rfl (Or.inl rfl) hc0_ hna rfl rfl (Nat.le_of_ble_eq_true rfl) dX12_observeMany_2 (fun Φ1 hΦ1 => ?_)
  have h_1 : Φ1 y = some (o_ 14 [.int 0, .ref (y + 1), .ref (y + 2), .int 0, .int 1, .int 1, .int 0, .int 0, .ref (y + 3), .ref (y + 4), .int 0, .long 0, .ref (y + 5), .int 0, .int 0, .long 0, .long 0, .long 0, .long 0, .ref (y + 6), .ref (y + 7), .int 0, .ref (y + 8), .int 0, .ref (y + 9), .ref (y + 10), .int 0, .ref (y + 11), .ref (y + 12), .ref (y + 13), .ref (y + 14), .ref (y + 15), .ref (y + 16), .int 0, .long (-1), .ref (y + 17), .ref (y + 18), .ref (y + 19), .ref (y + 20), .ref (y + 21), .ref (y + 22), .int 0, .ref (y + 23), .ref (y + 24), .int 0, .ref (y + 25), .int 0, .int 0, .int 0, .int (-1), .int 0, .int 0, .int 0, .long 0]) := fset_at hΦ1
  refine z_aload_n B dX12_observeMany_5 rfl 0 rfl ?_
  refine z_iload_n B dX12_observeMany_6 rfl 1 rfl ?_
  refine z_iload_n B dX12_observeMany_7 rfl 2 rfl ?_
  refine z_iload_n B dX12_observeMany_8 rfl 3 rfl ?_
  refine z_iload B dX12_observeMany_9 4 rfl ?_
  refine z_iload B dX12_observeMany_11 5 rfl ?_
  refine z_callS (As := [.int a, .int b, .int d, .int e, .int f]) (rest := [.ref y]) B (m_isPacket_x G l Φ1 sz y a b d e f hp) (va_cwS 5 B.1.2.2.2.2 gX12_observeMany_X12_isPacket rfl rfl rfl (by decide +kernel) ⟨Nat.le_of_ble_eq_true rfl, Nat.le_of_ble_eq_true rfl⟩) rfl rfl (Nat.le_of_ble_eq_true rfl) dX12_observeMany_13 ⟨Nat.le_of_ble_eq_true rfl, Nat.le_of_ble_eq_true rfl⟩ (fun v1 Φ2 sz1 st1 hp1 hs1 => ?_)
  obtain ⟨rfl, hq1, fr1⟩ := hp1
  replace hq1 : sz1 = sz := hq1
  subst sz1
  replace hs1 : st1 = [.int 0, .ref y] := hs1
  subst st1
  refine z_if_eq (tgt := 32) B dX12_observeMany_16 rfl (fun c_1 => ?_) (fun h9 => absurd (by decide) h9)
  refine z_iconst (v := 1) B dX12_observeMany_32 rfl ?_
  refine z_goto (tgt := 37) B dX12_observeMany_33 rfl ?_
  refine z_iconst (v := 1) B dX12_observeMany_37 rfl ?_
  have h_2 : Φ2 y = some (o_ 14 [.int 0, .ref (y + 1), .ref (y + 2), .int 0, .int 1, .int 1, .int 0, .int 0, .ref (y + 3), .ref (y + 4), .int 0, .long 0, .ref (y + 5), .int 0, .int 0, .long 0, .long 0, .long 0, .long 0, .ref (y + 6), .ref (y + 7), .int 0, .ref (y + 8), .int 0, .ref (y + 9), .ref (y + 10), .int 0, .ref (y + 11), .ref (y + 12), .ref (y + 13), .ref (y + 14), .ref (y + 15), .ref (y + 16), .int 0, .long (-1), .ref (y + 17), .ref (y + 18), .ref (y + 19), .ref (y + 20), .ref (y + 21), .ref (y + 22), .int 0, .ref (y + 23), .ref (y + 24), .int 0, .ref (y + 25), .int 0, .int 0, .int 0, .int (-1), .int 0, .int 0, .int 0, .long 0]) := ((fr1 y).trans h_1)
  refine z_callV (As := [.int 1, .int 1]) (rest := []) B (c_X12_throwsIf_1 G l Φ2 sz y 0 0 1 1 0 0 0 0 0 0 0 0 0 0 0 0 0 0 (-1) 0 0 0 0 0 (-1) 0 0 0 0 1 h_2 hna) (cwV 2 B.1.2.2.2.2 gX12_observeMany_X12_throwsIf rfl rfl rfl (by decide +kernel) ⟨Nat.le_of_ble_eq_true rfl, Nat.le_of_ble_eq_true rfl⟩) h_2 rfl rfl rfl rfl (Nat.le_of_ble_eq_true rfl) dX12_observeMany_38 ⟨Nat.le_of_ble_eq_true rfl, Nat.le_of_ble_eq_true rfl⟩ (fun v2 Φ3 sz2 st2 hp2 hs2 => ?_)
  obtain ⟨rfl, hq2, fr2, h_3⟩ := hp2
  replace hq2 : sz2 = sz := hq2
  subst sz2
  replace hs2 : st2 = [.int 1] := hs2
  subst st2
  have h_4 : Φ3 y = some (o_ 14 [.int 1, .ref (y + 1), .ref (y + 2), .int 0, .int 1, .int 1, .int 0, .int 0, .ref (y + 3), .ref (y + 4), .int 0, .long 0, .ref (y + 5), .int 0, .int 0, .long 0, .long 0, .long 0, .long 0, .ref (y + 6), .ref (y + 7), .int 0, .ref (y + 8), .int 0, .ref (y + 9), .ref (y + 10), .int 0, .ref (y + 11), .ref (y + 12), .ref (y + 13), .ref (y + 14), .ref (y + 15), .ref (y + 16), .int 0, .long (-1), .ref (y + 17), .ref (y + 18), .ref (y + 19), .ref (y + 20), .ref (y + 21), .ref (y + 22), .int 0, .ref (y + 23), .ref (y + 24), .int 0, .ref (y + 25), .int 0, .int 0, .int 0, .int (-1), .int 0, .int 0, .int 0, .long 0]) := h_3
  refine z_if_eq (tgt := 46) B dX12_observeMany_41 rfl (fun h9 => absurd h9 (by decide)) (fun c_2 => ?_)
  refine z_iconst (v := 0) B dX12_observeMany_44 rfl ?_
  exact z_ret_i B dX12_observeMany_45 ⟨rfl, ⟨_, h_4, rfl⟩, fun b9 h9 => ((fr2 b9 (Nat.ne_of_gt (Nat.lt_of_lt_of_le (lt_off (x := y) (i := 0) (j := 26) rfl) h9))).trans ((fr1 b9).trans ((fset_fr hΦ1 (Nat.ne_of_gt (Nat.lt_of_lt_of_le (lt_off (x := y) (i := 0) (j := 26) rfl) h9))).trans rfl)))⟩

set_option maxHeartbeats 4000000 in
set_option maxRecDepth 100000 in
theorem m_X12_observeMany_x2 (G : EnvG) (l : Launch) (Φ : Hm) (sz : Nat) (y : Nat) (a : Int32) (b : Int32) (d : Int32) (e : Int32) (f : Int32) (g : Int32) (hc0_ : Φ y = some (o_ 14 [.int 0, .ref (y + 1), .ref (y + 2), .int 0, .int 1, .int 1, .int 0, .int 0, .ref (y + 3), .ref (y + 4), .int 0, .long 0, .ref (y + 5), .int 0, .int 0, .long 0, .long 0, .long 0, .long 0, .ref (y + 6), .ref (y + 7), .int 0, .ref (y + 8), .int 0, .ref (y + 9), .ref (y + 10), .int 0, .ref (y + 11), .ref (y + 12), .ref (y + 13), .ref (y + 14), .ref (y + 15), .ref (y + 16), .int 0, .long (-1), .ref (y + 17), .ref (y + 18), .ref (y + 19), .ref (y + 20), .ref (y + 21), .ref (y + 22), .int 0, .ref (y + 23), .ref (y + 24), .int 0, .ref (y + 25), .int 0, .int 0, .int 0, .int (-1), .int 0, .int 0, .int 0, .long 0])) (hna : G.2.2.2 ≤ y) (hp : pkP a b d e f) (hn : ¬ inP g.toInt64 1 200) : Ct G l yX12_observeMany wsX12_observeMany ({ frames := 3, cells := 0, slots := 0, locals := 69 }) 0 0 [.ref y, .int a, .int b, .int d, .int e, .int f, .int g] Φ sz (fun v Φ1 sz1 => v = some (.int 0) ∧ (∃ fs : List Value, Φ1 y = some (o_ 14 fs) ∧ fs[0]? = some (.int 1)) ∧ ∀ b9 : Nat, y + 26 ≤ b9 → Φ1 b9 = Φ b9) := by
  refine Ct.of (cc := cX12_observeMany) (maxL := 9) (ret := (some .int)) (by decide) rfl (Nat.le_of_ble_eq_true rfl) ?_
  intro p9 e9 s9 m9 w9 t9 k9 B
  show Z p9 l e9 _ s9 m9 _ w9 t9 k9 _ G 9 0 [(0, .ref y), (1, .int a), (2, .int b), (3, .int d), (4, .int e), (5, .int f), (6, .int g)] [] Φ sz 0 0
  refine z_aload_n B dX12_observeMany_0 rfl 0 rfl ?_
  refine z_iconst (v := 0) B dX12_observeMany_1 rfl ?_
  refine z_put (ref := "FlowExporterModel") (C := RX12) (T := TX12) (N := 54) (ci := 14) (v := .int 0) B (by decide +kernel) tyX12 tyX12_ok nmX12 rfl 0 (by decide) (by decide +kernel) rfl (Or.inl rfl) hc0_ hna rfl rfl (Nat.le_of_ble_eq_true rfl) dX12_observeMany_2 (fun Φ1 hΦ1 => ?_)
  have h_1 : Φ1 y = some (o_ 14 [.int 0, .ref (y + 1), .ref (y + 2), .int 0, .int 1, .int 1, .int 0, .int 0, .ref (y + 3), .ref (y + 4), .int 0, .long 0, .ref (y + 5), .int 0, .int 0, .long 0, .long 0, .long 0, .long 0, .ref (y + 6), .ref (y + 7), .int 0, .ref (y + 8), .int 0, .ref (y + 9), .ref (y + 10), .int 0, .ref (y + 11), .ref (y + 12), .ref (y + 13), .ref (y + 14), .ref (y + 15), .ref (y + 16), .int 0, .long (-1), .ref (y + 17), .ref (y + 18), .ref (y + 19), .ref (y + 20), .ref (y + 21), .ref (y + 22), .int 0, .ref (y + 23), .ref (y + 24), .int 0, .ref (y + 25), .int 0, .int 0, .int 0, .int (-1), .int 0, .int 0, .int 0, .long 0]) := fset_at hΦ1
  refine z_aload_n B dX12_observeMany_5 rfl 0 rfl ?_
  refine z_iload_n B dX12_observeMany_6 rfl 1 rfl ?_
  refine z_iload_n B dX12_observeMany_7 rfl 2 rfl ?_
  refine z_iload_n B dX12_observeMany_8 rfl 3 rfl ?_
  refine z_iload B dX12_observeMany_9 4 rfl ?_
  refine z_iload B dX12_observeMany_11 5 rfl ?_
  refine z_callS (As := [.int a, .int b, .int d, .int e, .int f]) (rest := [.ref y]) B (m_isPacket G l Φ1 sz y a b d e f hp.1 hp.2.1 hp.2.2.1 hp.2.2.2.1 hp.2.2.2.2) (va_cwS 5 B.1.2.2.2.2 gX12_observeMany_X12_isPacket rfl rfl rfl (by decide +kernel) ⟨Nat.le_of_ble_eq_true rfl, Nat.le_of_ble_eq_true rfl⟩) rfl rfl (Nat.le_of_ble_eq_true rfl) dX12_observeMany_13 ⟨Nat.le_of_ble_eq_true rfl, Nat.le_of_ble_eq_true rfl⟩ (fun v1 Φ2 sz1 st1 hp1 hs1 => ?_)
  obtain ⟨rfl, hq1, fr1⟩ := hp1
  replace hq1 : sz1 = sz := hq1
  subst sz1
  replace hs1 : st1 = [.int 1, .ref y] := hs1
  subst st1
  refine z_if_eq (tgt := 32) B dX12_observeMany_16 rfl (fun h9 => absurd h9 (by decide)) (fun c_1 => ?_)
  refine z_iload B dX12_observeMany_19 6 rfl ?_
  refine z_i2l (v := g.toInt64) B dX12_observeMany_21 rfl ?_
  refine z_lconst (v := 1) B dX12_observeMany_22 rfl ?_
  refine z_ldc2 (v := 200) B (by decide +kernel) dX12_observeMany_23 ?_
  refine z_callS (As := [.long g.toInt64, .long 1, .long 200]) (rest := [.ref y]) B (c_X12_inRange_0 G l Φ2 sz g.toInt64 1 200 hn) (va_cwS 3 B.1.2.2.2.2 gX12_observeMany_X12_inRange rfl rfl rfl (by decide +kernel) ⟨Nat.le_of_ble_eq_true rfl, Nat.le_of_ble_eq_true rfl⟩) rfl rfl (Nat.le_of_ble_eq_true rfl) dX12_observeMany_26 ⟨Nat.le_of_ble_eq_true rfl, Nat.le_of_ble_eq_true rfl⟩ (fun v2 Φ3 sz2 st2 hp2 hs2 => ?_)
  obtain ⟨rfl, hq2, fr2⟩ := hp2
  replace hq2 : sz2 = sz := hq2
  subst sz2
  replace hs2 : st2 = [.int 0, .ref y] := hs2
  subst st2
  refine z_if_ne (tgt := 36) B dX12_observeMany_29 rfl (fun h9 => absurd (by decide) h9) (fun c_2 => ?_)
  refine z_iconst (v := 1) B dX12_observeMany_32 rfl ?_
  refine z_goto (tgt := 37) B dX12_observeMany_33 rfl ?_
  refine z_iconst (v := 1) B dX12_observeMany_37 rfl ?_
  have h_2 : Φ3 y = some (o_ 14 [.int 0, .ref (y + 1), .ref (y + 2), .int 0, .int 1, .int 1, .int 0, .int 0, .ref (y + 3), .ref (y + 4), .int 0, .long 0, .ref (y + 5), .int 0, .int 0, .long 0, .long 0, .long 0, .long 0, .ref (y + 6), .ref (y + 7), .int 0, .ref (y + 8), .int 0, .ref (y + 9), .ref (y + 10), .int 0, .ref (y + 11), .ref (y + 12), .ref (y + 13), .ref (y + 14), .ref (y + 15), .ref (y + 16), .int 0, .long (-1), .ref (y + 17), .ref (y + 18), .ref (y + 19), .ref (y + 20), .ref (y + 21), .ref (y + 22), .int 0, .ref (y + 23), .ref (y + 24), .int 0, .ref (y + 25), .int 0, .int 0, .int 0, .int (-1), .int 0, .int 0, .int 0, .long 0]) := ((fr2 y).trans ((fr1 y).trans h_1))
  refine z_callV (As := [.int 1, .int 1]) (rest := []) B (c_X12_throwsIf_1 G l Φ3 sz y 0 0 1 1 0 0 0 0 0 0 0 0 0 0 0 0 0 0 (-1) 0 0 0 0 0 (-1) 0 0 0 0 1 h_2 hna) (cwV 2 B.1.2.2.2.2 gX12_observeMany_X12_throwsIf rfl rfl rfl (by decide +kernel) ⟨Nat.le_of_ble_eq_true rfl, Nat.le_of_ble_eq_true rfl⟩) h_2 rfl rfl rfl rfl (Nat.le_of_ble_eq_true rfl) dX12_observeMany_38 ⟨Nat.le_of_ble_eq_true rfl, Nat.le_of_ble_eq_true rfl⟩ (fun v3 Φ4 sz3 st3 hp3 hs3 => ?_)
  obtain ⟨rfl, hq3, fr3, h_3⟩ := hp3
  replace hq3 : sz3 = sz := hq3
  subst sz3
  replace hs3 : st3 = [.int 1] := hs3
  subst st3
  have h_4 : Φ4 y = some (o_ 14 [.int 1, .ref (y + 1), .ref (y + 2), .int 0, .int 1, .int 1, .int 0, .int 0, .ref (y + 3), .ref (y + 4), .int 0, .long 0, .ref (y + 5), .int 0, .int 0, .long 0, .long 0, .long 0, .long 0, .ref (y + 6), .ref (y + 7), .int 0, .ref (y + 8), .int 0, .ref (y + 9), .ref (y + 10), .int 0, .ref (y + 11), .ref (y + 12), .ref (y + 13), .ref (y + 14), .ref (y + 15), .ref (y + 16), .int 0, .long (-1), .ref (y + 17), .ref (y + 18), .ref (y + 19), .ref (y + 20), .ref (y + 21), .ref (y + 22), .int 0, .ref (y + 23), .ref (y + 24), .int 0, .ref (y + 25), .int 0, .int 0, .int 0, .int (-1), .int 0, .int 0, .int 0, .long 0]) := h_3
  refine z_if_eq (tgt := 46) B dX12_observeMany_41 rfl (fun h9 => absurd h9 (by decide)) (fun c_3 => ?_)
  refine z_iconst (v := 0) B dX12_observeMany_44 rfl ?_
  exact z_ret_i B dX12_observeMany_45 ⟨rfl, ⟨_, h_4, rfl⟩, fun b9 h9 => ((fr3 b9 (Nat.ne_of_gt (Nat.lt_of_lt_of_le (lt_off (x := y) (i := 0) (j := 26) rfl) h9))).trans ((fr2 b9).trans ((fr1 b9).trans ((fset_fr hΦ1 (Nat.ne_of_gt (Nat.lt_of_lt_of_le (lt_off (x := y) (i := 0) (j := 26) rfl) h9))).trans rfl))))⟩

set_option maxHeartbeats 4000000 in
set_option maxRecDepth 100000 in
theorem m_adapt_t (G : EnvG) (l : Launch) (Φ : Hm) (sz : Nat) (y : Nat) (tm : Int32) (hc0_ : Φ y = some (o_ 14 [.int 0, .ref (y + 1), .ref (y + 2), .int tm, .int 1, .int 1, .int 0, .int 0, .ref (y + 3), .ref (y + 4), .int 0, .long 0, .ref (y + 5), .int 0, .int 0, .long 0, .long 0, .long 0, .long 0, .ref (y + 6), .ref (y + 7), .int 0, .ref (y + 8), .int 0, .ref (y + 9), .ref (y + 10), .int 0, .ref (y + 11), .ref (y + 12), .ref (y + 13), .ref (y + 14), .ref (y + 15), .ref (y + 16), .int 0, .long (-1), .ref (y + 17), .ref (y + 18), .ref (y + 19), .ref (y + 20), .ref (y + 21), .ref (y + 22), .int 0, .ref (y + 23), .ref (y + 24), .int 0, .ref (y + 25), .int 0, .int 0, .int 0, .int (-1), .int 0, .int 0, .int 0, .long 0])) (hna : G.2.2.2 ≤ y) : Ct G l yX12_adapt wsX12_adapt ({ frames := 0, cells := 0, slots := 0, locals := 0 }) 0 0 [.ref y] Φ sz (fun v Φ1 sz1 => v = some (.int 0) ∧ sz1 = sz ∧ (∀ b9 : Nat, b9 ≠ y → Φ1 b9 = Φ b9) ∧ Φ1 y = some (o_ 14 [.int 0, .ref (y + 1), .ref (y + 2), .int tm, .int 1, .int 1, .int 0, .int 0, .ref (y + 3), .ref (y + 4), .int 0, .long 0, .ref (y + 5), .int 0, .int 0, .long 0, .long 0, .long 0, .long 0, .ref (y + 6), .ref (y + 7), .int 0, .ref (y + 8), .int 0, .ref (y + 9), .ref (y + 10), .int 0, .ref (y + 11), .ref (y + 12), .ref (y + 13), .ref (y + 14), .ref (y + 15), .ref (y + 16), .int 0, .long (-1), .ref (y + 17), .ref (y + 18), .ref (y + 19), .ref (y + 20), .ref (y + 21), .ref (y + 22), .int 0, .ref (y + 23), .ref (y + 24), .int 0, .ref (y + 25), .int 0, .int 0, .int 0, .int (-1), .int 0, .int 0, .int 0, .long 0])) := by
  refine Ct.of (cc := cX12_adapt) (maxL := 2) (ret := (some .int)) (by decide) rfl (Nat.le_of_ble_eq_true rfl) ?_
  intro p9 e9 s9 m9 w9 t9 k9 B
  show Z p9 l e9 _ s9 m9 _ w9 t9 k9 _ G 2 0 [(0, .ref y)] [] Φ sz 0 0
  refine z_aload_n B dX12_adapt_0 rfl 0 rfl ?_
  refine z_get (ref := "FlowExporterModel") (C := RX12) (T := TX12) (N := 54) (ci := 14) (v := .int 0) B (by decide +kernel) rfl 6 (by decide) (by decide +kernel) rfl hc0_ rfl dX12_adapt_1 ?_
  refine z_istore_n (lv' := [(1, .int 0), (0, .ref y)]) B dX12_adapt_4 rfl (Nat.le_of_ble_eq_true rfl) rfl ?_
  refine z_aload_n B dX12_adapt_5 rfl 1 rfl ?_
  refine z_iconst (v := 0) B dX12_adapt_6 rfl ?_
  refine z_put (ref := "FlowExporterModel") (C := RX12) (T := TX12) (N := 54) (ci := 14) (v := .int 0) B (by decide +kernel) tyX12 tyX12_ok nmX12 rfl 6 (by decide) (by decide +kernel) rfl (Or.inl rfl) hc0_ hna rfl rfl (Nat.le_of_ble_eq_true rfl) dX12_adapt_7 (fun Φ1 hΦ1 => ?_)
  have h_1 : Φ1 y = some (o_ 14 [.int 0, .ref (y + 1), .ref (y + 2), .int tm, .int 1, .int 1, .int 0, .int 0, .ref (y + 3), .ref (y + 4), .int 0, .long 0, .ref (y + 5), .int 0, .int 0, .long 0, .long 0, .long 0, .long 0, .ref (y + 6), .ref (y + 7), .int 0, .ref (y + 8), .int 0, .ref (y + 9), .ref (y + 10), .int 0, .ref (y + 11), .ref (y + 12), .ref (y + 13), .ref (y + 14), .ref (y + 15), .ref (y + 16), .int 0, .long (-1), .ref (y + 17), .ref (y + 18), .ref (y + 19), .ref (y + 20), .ref (y + 21), .ref (y + 22), .int 0, .ref (y + 23), .ref (y + 24), .int 0, .ref (y + 25), .int 0, .int 0, .int 0, .int (-1), .int 0, .int 0, .int 0, .long 0]) := fset_at hΦ1
  refine z_aload_n B dX12_adapt_10 rfl 1 rfl ?_
  refine z_get (ref := "FlowExporterModel") (C := RX12) (T := TX12) (N := 54) (ci := 14) (v := .int 0) B (by decide +kernel) rfl 7 (by decide) (by decide +kernel) rfl h_1 rfl dX12_adapt_11 ?_
  refine z_if_ne (tgt := 19) B dX12_adapt_14 rfl (fun h9 => absurd (by decide) h9) (fun c_1 => ?_)
  refine z_iconst (v := 0) B dX12_adapt_17 rfl ?_
  exact z_ret_i B dX12_adapt_18 ⟨rfl, rfl, (fun b9 h9a => ((fset_fr hΦ1 h9a).trans rfl)), h_1⟩

set_option maxHeartbeats 4000000 in
set_option maxRecDepth 100000 in
theorem m_sendPending_t (G : EnvG) (l : Launch) (Φ : Hm) (sz : Nat) (y : Nat) (tm : Int32) (hc0_ : Φ y = some (o_ 14 [.int 0, .ref (y + 1), .ref (y + 2), .int tm, .int 1, .int 1, .int 0, .int 0, .ref (y + 3), .ref (y + 4), .int 0, .long 0, .ref (y + 5), .int 0, .int 0, .long 0, .long 0, .long 0, .long 0, .ref (y + 6), .ref (y + 7), .int 0, .ref (y + 8), .int 0, .ref (y + 9), .ref (y + 10), .int 0, .ref (y + 11), .ref (y + 12), .ref (y + 13), .ref (y + 14), .ref (y + 15), .ref (y + 16), .int 0, .long (-1), .ref (y + 17), .ref (y + 18), .ref (y + 19), .ref (y + 20), .ref (y + 21), .ref (y + 22), .int 0, .ref (y + 23), .ref (y + 24), .int 0, .ref (y + 25), .int 0, .int 0, .int 0, .int (-1), .int 0, .int 0, .int 0, .long 0])) (hna : G.2.2.2 ≤ y) : Ct G l yX12_sendPending wsX12_sendPending ({ frames := 0, cells := 0, slots := 0, locals := 0 }) 0 0 [.ref y] Φ sz (fun v Φ1 sz1 => v = none ∧ sz1 = sz ∧ (∀ b9 : Nat, b9 ≠ y → Φ1 b9 = Φ b9) ∧ Φ1 y = some (o_ 14 [.int 0, .ref (y + 1), .ref (y + 2), .int tm, .int 1, .int 1, .int 0, .int 0, .ref (y + 3), .ref (y + 4), .int 0, .long 0, .ref (y + 5), .int 0, .int 0, .long 0, .long 0, .long 0, .long 0, .ref (y + 6), .ref (y + 7), .int 0, .ref (y + 8), .int 0, .ref (y + 9), .ref (y + 10), .int 0, .ref (y + 11), .ref (y + 12), .ref (y + 13), .ref (y + 14), .ref (y + 15), .ref (y + 16), .int 0, .long (-1), .ref (y + 17), .ref (y + 18), .ref (y + 19), .ref (y + 20), .ref (y + 21), .ref (y + 22), .int 0, .ref (y + 23), .ref (y + 24), .int 0, .ref (y + 25), .int 0, .int 0, .int 0, .int (-1), .int 0, .int 0, .int 0, .long 0])) := by
  refine Ct.of (cc := cX12_sendPending) (maxL := 3) (ret := none) (by decide) rfl (Nat.le_of_ble_eq_true rfl) ?_
  intro p9 e9 s9 m9 w9 t9 k9 B
  show Z p9 l e9 _ s9 m9 _ w9 t9 k9 _ G 3 0 [(0, .ref y)] [] Φ sz 0 0
  refine z_iconst (v := 0) B dX12_sendPending_0 rfl ?_
  refine z_istore_n (lv' := [(1, .int 0), (0, .ref y)]) B dX12_sendPending_1 rfl (Nat.le_of_ble_eq_true rfl) rfl ?_
  refine z_iload_n B dX12_sendPending_2 rfl 0 rfl ?_
  refine z_aload_n B dX12_sendPending_3 rfl 1 rfl ?_
  refine z_get (ref := "FlowExporterModel") (C := RX12) (T := TX12) (N := 54) (ci := 14) (v := .int 0) B (by decide +kernel) rfl 21 (by decide) (by decide +kernel) rfl hc0_ rfl dX12_sendPending_4 ?_
  refine z_icmp_ge (tgt := 132) B dX12_sendPending_7 rfl (fun c_1 => ?_) (fun h9 => absurd (by decide) h9)
  refine z_aload_n B dX12_sendPending_132 rfl 1 rfl ?_
  refine z_iconst (v := 0) B dX12_sendPending_133 rfl ?_
  refine z_put (ref := "FlowExporterModel") (C := RX12) (T := TX12) (N := 54) (ci := 14) (v := .int 0) B (by decide +kernel) tyX12 tyX12_ok nmX12 rfl 21 (by decide) (by decide +kernel) rfl (Or.inl rfl) hc0_ hna rfl rfl (Nat.le_of_ble_eq_true rfl) dX12_sendPending_134 (fun Φ1 hΦ1 => ?_)
  have h_1 : Φ1 y = some (o_ 14 [.int 0, .ref (y + 1), .ref (y + 2), .int tm, .int 1, .int 1, .int 0, .int 0, .ref (y + 3), .ref (y + 4), .int 0, .long 0, .ref (y + 5), .int 0, .int 0, .long 0, .long 0, .long 0, .long 0, .ref (y + 6), .ref (y + 7), .int 0, .ref (y + 8), .int 0, .ref (y + 9), .ref (y + 10), .int 0, .ref (y + 11), .ref (y + 12), .ref (y + 13), .ref (y + 14), .ref (y + 15), .ref (y + 16), .int 0, .long (-1), .ref (y + 17), .ref (y + 18), .ref (y + 19), .ref (y + 20), .ref (y + 21), .ref (y + 22), .int 0, .ref (y + 23), .ref (y + 24), .int 0, .ref (y + 25), .int 0, .int 0, .int 0, .int (-1), .int 0, .int 0, .int 0, .long 0]) := fset_at hΦ1
  exact z_ret_v B dX12_sendPending_137 ⟨rfl, rfl, (fun b9 h9a => ((fset_fr hΦ1 h9a).trans rfl)), h_1⟩

set_option maxHeartbeats 4000000 in
set_option maxRecDepth 100000 in
theorem m_tick (G : EnvG) (l : Launch) (Φ : Hm) (sz : Nat) (y : Nat) (tm : Int32) (hc0_ : Φ y = some (o_ 14 [.int 0, .ref (y + 1), .ref (y + 2), .int tm, .int 1, .int 1, .int 0, .int 0, .ref (y + 3), .ref (y + 4), .int 0, .long 0, .ref (y + 5), .int 0, .int 0, .long 0, .long 0, .long 0, .long 0, .ref (y + 6), .ref (y + 7), .int 0, .ref (y + 8), .int 0, .ref (y + 9), .ref (y + 10), .int 0, .ref (y + 11), .ref (y + 12), .ref (y + 13), .ref (y + 14), .ref (y + 15), .ref (y + 16), .int 0, .long (-1), .ref (y + 17), .ref (y + 18), .ref (y + 19), .ref (y + 20), .ref (y + 21), .ref (y + 22), .int 0, .ref (y + 23), .ref (y + 24), .int 0, .ref (y + 25), .int 0, .int 0, .int 0, .int (-1), .int 0, .int 0, .int 0, .long 0])) (hna : G.2.2.2 ≤ y) : Ct G l yX12_tick wsX12_tick ({ frames := 1, cells := 0, slots := 0, locals := 22 }) 0 0 [.ref y] Φ sz (fun v Φ1 sz1 => v = some (.int 0) ∧ sz1 = sz ∧ (∀ b9 : Nat, b9 ≠ y → Φ1 b9 = Φ b9) ∧ Φ1 y = some (o_ 14 [.int 0, .ref (y + 1), .ref (y + 2), .int (tm + 1), .int 1, .int 1, .int 0, .int 0, .ref (y + 3), .ref (y + 4), .int 0, .long 0, .ref (y + 5), .int 0, .int 0, .long 0, .long 0, .long 0, .long 0, .ref (y + 6), .ref (y + 7), .int 0, .ref (y + 8), .int 0, .ref (y + 9), .ref (y + 10), .int 0, .ref (y + 11), .ref (y + 12), .ref (y + 13), .ref (y + 14), .ref (y + 15), .ref (y + 16), .int 0, .long (-1), .ref (y + 17), .ref (y + 18), .ref (y + 19), .ref (y + 20), .ref (y + 21), .ref (y + 22), .int 0, .ref (y + 23), .ref (y + 24), .int 0, .ref (y + 25), .int 0, .int 0, .int 0, .int (-1), .int 0, .int 0, .int 0, .long 0])) := by
  refine Ct.of (cc := cX12_tick) (maxL := 3) (ret := (some .int)) (by decide) rfl (Nat.le_of_ble_eq_true rfl) ?_
  intro p9 e9 s9 m9 w9 t9 k9 B
  show Z p9 l e9 _ s9 m9 _ w9 t9 k9 _ G 3 0 [(0, .ref y)] [] Φ sz 0 0
  refine z_aload_n B dX12_tick_0 rfl 0 rfl ?_
  refine z_dup B dX12_tick_1 rfl ?_
  refine z_get (ref := "FlowExporterModel") (C := RX12) (T := TX12) (N := 54) (ci := 14) (v := .int tm) B (by decide +kernel) rfl 3 (by decide) (by decide +kernel) rfl hc0_ rfl dX12_tick_2 ?_
  refine z_iconst (v := 1) B dX12_tick_5 rfl ?_
  refine z_iadd B dX12_tick_6 ?_
  refine z_put (ref := "FlowExporterModel") (C := RX12) (T := TX12) (N := 54) (ci := 14) (v := .int (tm + 1)) B (by decide +kernel) tyX12 tyX12_ok nmX12 rfl 3 (by decide) (by decide +kernel) rfl (Or.inl rfl) hc0_ hna rfl rfl (Nat.le_of_ble_eq_true rfl) dX12_tick_7 (fun Φ1 hΦ1 => ?_)
  have h_1 : Φ1 y = some (o_ 14 [.int 0, .ref (y + 1), .ref (y + 2), .int (tm + 1), .int 1, .int 1, .int 0, .int 0, .ref (y + 3), .ref (y + 4), .int 0, .long 0, .ref (y + 5), .int 0, .int 0, .long 0, .long 0, .long 0, .long 0, .ref (y + 6), .ref (y + 7), .int 0, .ref (y + 8), .int 0, .ref (y + 9), .ref (y + 10), .int 0, .ref (y + 11), .ref (y + 12), .ref (y + 13), .ref (y + 14), .ref (y + 15), .ref (y + 16), .int 0, .long (-1), .ref (y + 17), .ref (y + 18), .ref (y + 19), .ref (y + 20), .ref (y + 21), .ref (y + 22), .int 0, .ref (y + 23), .ref (y + 24), .int 0, .ref (y + 25), .int 0, .int 0, .int 0, .int (-1), .int 0, .int 0, .int 0, .long 0]) := fset_at hΦ1
  refine z_iconst (v := 0) B dX12_tick_10 rfl ?_
  refine z_istore_n (lv' := [(1, .int 0), (0, .ref y)]) B dX12_tick_11 rfl (Nat.le_of_ble_eq_true rfl) rfl ?_
  refine z_iconst (v := 0) B dX12_tick_12 rfl ?_
  refine z_istore_n (lv' := [(2, .int 0), (1, .int 0), (0, .ref y)]) B dX12_tick_13 rfl (Nat.le_of_ble_eq_true rfl) rfl ?_
  refine z_iload_n B dX12_tick_14 rfl 0 rfl ?_
  refine z_aload_n B dX12_tick_15 rfl 2 rfl ?_
  refine z_get (ref := "FlowExporterModel") (C := RX12) (T := TX12) (N := 54) (ci := 14) (v := .int 0) B (by decide +kernel) rfl 13 (by decide) (by decide +kernel) rfl h_1 rfl dX12_tick_16 ?_
  refine z_icmp_ge (tgt := 47) B dX12_tick_19 rfl (fun c_1 => ?_) (fun h9 => absurd (by decide) h9)
  refine z_aload_n B dX12_tick_47 rfl 2 rfl ?_
  refine z_get (ref := "FlowExporterModel") (C := RX12) (T := TX12) (N := 54) (ci := 14) (v := .int (tm + 1)) B (by decide +kernel) rfl 3 (by decide) (by decide +kernel) rfl h_1 rfl dX12_tick_48 ?_
  refine z_bipush (v := 100) B dX12_tick_51 rfl ?_
  refine z_irem B dX12_tick_53 (by decide) ?_
  refine z_if_ne (tgt := 64) B dX12_tick_54 rfl (fun c_2 => ?_) (fun c_2 => ?_)
  · refine z_aload_n B dX12_tick_64 rfl 2 rfl ?_
    refine z_callV (As := []) (rest := []) B (m_sendPending_t G l Φ1 sz y (tm + 1) h_1 hna) (cwV 0 B.1.2.2.2.2 gX12_tick_X12_sendPending rfl rfl rfl (by decide +kernel) ⟨Nat.le_of_ble_eq_true rfl, Nat.le_of_ble_eq_true rfl⟩) h_1 rfl rfl rfl rfl (Nat.le_of_ble_eq_true rfl) dX12_tick_65 ⟨Nat.le_of_ble_eq_true rfl, Nat.le_of_ble_eq_true rfl⟩ (fun v1 Φ2 sz1 st1 hp1 hs1 => ?_)
    obtain ⟨rfl, hq1, fr1, h_2⟩ := hp1
    replace hq1 : sz1 = sz := hq1
    subst sz1
    replace hs1 : st1 = [] := hs1
    subst st1
    have h_3 : Φ2 y = some (o_ 14 [.int 0, .ref (y + 1), .ref (y + 2), .int (tm + 1), .int 1, .int 1, .int 0, .int 0, .ref (y + 3), .ref (y + 4), .int 0, .long 0, .ref (y + 5), .int 0, .int 0, .long 0, .long 0, .long 0, .long 0, .ref (y + 6), .ref (y + 7), .int 0, .ref (y + 8), .int 0, .ref (y + 9), .ref (y + 10), .int 0, .ref (y + 11), .ref (y + 12), .ref (y + 13), .ref (y + 14), .ref (y + 15), .ref (y + 16), .int 0, .long (-1), .ref (y + 17), .ref (y + 18), .ref (y + 19), .ref (y + 20), .ref (y + 21), .ref (y + 22), .int 0, .ref (y + 23), .ref (y + 24), .int 0, .ref (y + 25), .int 0, .int 0, .int 0, .int (-1), .int 0, .int 0, .int 0, .long 0]) := h_2
    refine z_iload_n B dX12_tick_68 rfl 1 rfl ?_
    exact z_ret_i B dX12_tick_69 ⟨rfl, rfl, (fun b9 h9a => ((fr1 b9 h9a).trans ((fset_fr hΦ1 h9a).trans rfl))), h_3⟩
  · refine z_iload_n B dX12_tick_57 rfl 1 rfl ?_
    refine z_aload_n B dX12_tick_58 rfl 2 rfl ?_
    refine z_callV (As := []) (rest := [.int 0]) B (m_adapt_t G l Φ1 sz y (tm + 1) h_1 hna) (cwV 0 B.1.2.2.2.2 gX12_tick_X12_adapt rfl rfl rfl (by decide +kernel) ⟨Nat.le_of_ble_eq_true rfl, Nat.le_of_ble_eq_true rfl⟩) h_1 rfl rfl rfl rfl (Nat.le_of_ble_eq_true rfl) dX12_tick_59 ⟨Nat.le_of_ble_eq_true rfl, Nat.le_of_ble_eq_true rfl⟩ (fun v2 Φ3 sz2 st2 hp2 hs2 => ?_)
    obtain ⟨rfl, hq2, fr2, h_4⟩ := hp2
    replace hq2 : sz2 = sz := hq2
    subst sz2
    replace hs2 : st2 = [.int 0, .int 0] := hs2
    subst st2
    have h_5 : Φ3 y = some (o_ 14 [.int 0, .ref (y + 1), .ref (y + 2), .int (tm + 1), .int 1, .int 1, .int 0, .int 0, .ref (y + 3), .ref (y + 4), .int 0, .long 0, .ref (y + 5), .int 0, .int 0, .long 0, .long 0, .long 0, .long 0, .ref (y + 6), .ref (y + 7), .int 0, .ref (y + 8), .int 0, .ref (y + 9), .ref (y + 10), .int 0, .ref (y + 11), .ref (y + 12), .ref (y + 13), .ref (y + 14), .ref (y + 15), .ref (y + 16), .int 0, .long (-1), .ref (y + 17), .ref (y + 18), .ref (y + 19), .ref (y + 20), .ref (y + 21), .ref (y + 22), .int 0, .ref (y + 23), .ref (y + 24), .int 0, .ref (y + 25), .int 0, .int 0, .int 0, .int (-1), .int 0, .int 0, .int 0, .long 0]) := h_4
    refine z_iadd B dX12_tick_62 ?_
    refine z_top (st1 := [.int 0]) (congrArg (fun w9 : Int32 => ([.int w9] : List Value)) (show (0 + 0 : Int32) = 0 by decide +kernel)) ?_
    refine z_istore_n (lv' := [(1, .int 0), (2, .int 0), (0, .ref y)]) B dX12_tick_63 rfl (Nat.le_of_ble_eq_true rfl) rfl ?_
    refine z_aload_n B dX12_tick_64 rfl 2 rfl ?_
    refine z_callV (As := []) (rest := []) B (m_sendPending_t G l Φ3 sz y (tm + 1) h_5 hna) (cwV 0 B.1.2.2.2.2 gX12_tick_X12_sendPending rfl rfl rfl (by decide +kernel) ⟨Nat.le_of_ble_eq_true rfl, Nat.le_of_ble_eq_true rfl⟩) h_5 rfl rfl rfl rfl (Nat.le_of_ble_eq_true rfl) dX12_tick_65 ⟨Nat.le_of_ble_eq_true rfl, Nat.le_of_ble_eq_true rfl⟩ (fun v3 Φ4 sz3 st3 hp3 hs3 => ?_)
    obtain ⟨rfl, hq3, fr3, h_6⟩ := hp3
    replace hq3 : sz3 = sz := hq3
    subst sz3
    replace hs3 : st3 = [] := hs3
    subst st3
    have h_7 : Φ4 y = some (o_ 14 [.int 0, .ref (y + 1), .ref (y + 2), .int (tm + 1), .int 1, .int 1, .int 0, .int 0, .ref (y + 3), .ref (y + 4), .int 0, .long 0, .ref (y + 5), .int 0, .int 0, .long 0, .long 0, .long 0, .long 0, .ref (y + 6), .ref (y + 7), .int 0, .ref (y + 8), .int 0, .ref (y + 9), .ref (y + 10), .int 0, .ref (y + 11), .ref (y + 12), .ref (y + 13), .ref (y + 14), .ref (y + 15), .ref (y + 16), .int 0, .long (-1), .ref (y + 17), .ref (y + 18), .ref (y + 19), .ref (y + 20), .ref (y + 21), .ref (y + 22), .int 0, .ref (y + 23), .ref (y + 24), .int 0, .ref (y + 25), .int 0, .int 0, .int 0, .int (-1), .int 0, .int 0, .int 0, .long 0]) := h_6
    refine z_iload_n B dX12_tick_68 rfl 0 rfl ?_
    exact z_ret_i B dX12_tick_69 ⟨rfl, rfl, (fun b9 h9a => ((fr3 b9 h9a).trans ((fr2 b9 h9a).trans ((fset_fr hΦ1 h9a).trans rfl)))), h_7⟩

set_option maxHeartbeats 4000000 in
set_option maxRecDepth 100000 in
theorem m_X12_advance (G : EnvG) (l : Launch) (Φ : Hm) (sz : Nat) (y : Nat) (n : Nat) (hc0_ : Φ y = some (o_ 14 [.int 0, .ref (y + 1), .ref (y + 2), .int 0, .int 1, .int 1, .int 0, .int 0, .ref (y + 3), .ref (y + 4), .int 0, .long 0, .ref (y + 5), .int 0, .int 0, .long 0, .long 0, .long 0, .long 0, .ref (y + 6), .ref (y + 7), .int 0, .ref (y + 8), .int 0, .ref (y + 9), .ref (y + 10), .int 0, .ref (y + 11), .ref (y + 12), .ref (y + 13), .ref (y + 14), .ref (y + 15), .ref (y + 16), .int 0, .long (-1), .ref (y + 17), .ref (y + 18), .ref (y + 19), .ref (y + 20), .ref (y + 21), .ref (y + 22), .int 0, .ref (y + 23), .ref (y + 24), .int 0, .ref (y + 25), .int 0, .int 0, .int 0, .int (-1), .int 0, .int 0, .int 0, .long 0])) (hna : G.2.2.2 ≤ y) (hn : inP (nI n).toInt64 1 1000) (hn2 : n ≤ 1000) : Ct G l yX12_advance wsX12_advance ({ frames := 2, cells := 0, slots := 0, locals := 44 }) 0 0 [.ref y, .int (nI n)] Φ sz (fun v Φ1 sz1 => v = some (.int 0) ∧ (∃ fs : List Value, Φ1 y = some (o_ 14 fs) ∧ fs[0]? = some (.int 0)) ∧ ∀ b9 : Nat, y + 26 ≤ b9 → Φ1 b9 = Φ b9) := by
  refine Ct.of (cc := cX12_advance) (maxL := 4) (ret := (some .int)) (by decide) rfl (Nat.le_of_ble_eq_true rfl) ?_
  intro p9 e9 s9 m9 w9 t9 k9 B
  have loop : ∀ (kq i : Nat) (Φi : Hm) , i + kq = n → Φi y = some (o_ 14 [.int 0, .ref (y + 1), .ref (y + 2), .int (nI i), .int 1, .int 1, .int 0, .int 0, .ref (y + 3), .ref (y + 4), .int 0, .long 0, .ref (y + 5), .int 0, .int 0, .long 0, .long 0, .long 0, .long 0, .ref (y + 6), .ref (y + 7), .int 0, .ref (y + 8), .int 0, .ref (y + 9), .ref (y + 10), .int 0, .ref (y + 11), .ref (y + 12), .ref (y + 13), .ref (y + 14), .ref (y + 15), .ref (y + 16), .int 0, .long (-1), .ref (y + 17), .ref (y + 18), .ref (y + 19), .ref (y + 20), .ref (y + 21), .ref (y + 22), .int 0, .ref (y + 23), .ref (y + 24), .int 0, .ref (y + 25), .int 0, .int 0, .int 0, .int (-1), .int 0, .int 0, .int 0, .long 0]) → (∀ b9 : Nat, y + 26 ≤ b9 → Φi b9 = Φ b9) → Z p9 l e9 ({ frames := 2, cells := 0, slots := 0, locals := 44 } : Room) s9 m9 (List.toArray [.ref y, .int (nI n)]) w9 t9 k9 (MQ w9 (QU G (fun v Φ1 sz1 => v = some (.int 0) ∧ (∃ fs : List Value, Φ1 y = some (o_ 14 fs) ∧ fs[0]? = some (.int 0)) ∧ ∀ b9 : Nat, y + 26 ≤ b9 → Φ1 b9 = Φ b9)) (List.toArray [.ref y, .int (nI n)]) s9 0 0 (fun q => G.2.2.2 ≤ q)) G 4 61 [(3, .int (nI i)), (2, .int 0), (1, .int (nI n)), (0, .ref y)] [] Φi sz 0 0 := by
    intro kq
    induction kq with
    | zero =>
      intro i Φi  hi hI0  hfr
      refine z_iload_n B dX12_advance_61 rfl 0 rfl ?_
      refine z_iload_n B dX12_advance_62 rfl 2 rfl ?_
      refine z_icmp_ge (tgt := 79) B dX12_advance_63 rfl (fun c_1 => ?_) (fun h9 => absurd (nI_le (by omega) (by omega)) h9)
      refine z_iload_n B dX12_advance_79 rfl 1 rfl ?_
      exact z_ret_i B dX12_advance_80 ⟨rfl, ⟨_, hI0, rfl⟩, fun b9 h9 => rfl.trans (hfr b9 h9)⟩
    | succ kq ih =>
      intro i Φi  hi hI0  hfr
      refine z_iload_n B dX12_advance_61 rfl 0 rfl ?_
      refine z_iload_n B dX12_advance_62 rfl 2 rfl ?_
      refine z_icmp_ge (tgt := 79) B dX12_advance_63 rfl (fun h9 => absurd h9 (nI_ge (by omega) (by omega))) (fun c_1 => ?_)
      refine z_iload_n B dX12_advance_66 rfl 1 rfl ?_
      refine z_aload_n B dX12_advance_67 rfl 3 rfl ?_
      refine z_callV (As := []) (rest := [.int 0]) B (m_tick G l Φi sz y (nI i) hI0 hna) (cwV 0 B.1.2.2.2.2 gX12_advance_X12_tick rfl rfl rfl (by decide +kernel) ⟨Nat.le_of_ble_eq_true rfl, Nat.le_of_ble_eq_true rfl⟩) hI0 rfl rfl rfl rfl (Nat.le_of_ble_eq_true rfl) dX12_advance_68 ⟨Nat.le_of_ble_eq_true rfl, Nat.le_of_ble_eq_true rfl⟩ (fun v1 Φ1 sz1 st1 hp1 hs1 => ?_)
      obtain ⟨rfl, hq1, fr1, h_1⟩ := hp1
      replace hq1 : sz1 = sz := hq1
      subst sz1
      replace hs1 : st1 = [.int 0, .int 0] := hs1
      subst st1
      have h_2 : Φ1 y = some (o_ 14 [.int 0, .ref (y + 1), .ref (y + 2), .int ((nI i) + 1), .int 1, .int 1, .int 0, .int 0, .ref (y + 3), .ref (y + 4), .int 0, .long 0, .ref (y + 5), .int 0, .int 0, .long 0, .long 0, .long 0, .long 0, .ref (y + 6), .ref (y + 7), .int 0, .ref (y + 8), .int 0, .ref (y + 9), .ref (y + 10), .int 0, .ref (y + 11), .ref (y + 12), .ref (y + 13), .ref (y + 14), .ref (y + 15), .ref (y + 16), .int 0, .long (-1), .ref (y + 17), .ref (y + 18), .ref (y + 19), .ref (y + 20), .ref (y + 21), .ref (y + 22), .int 0, .ref (y + 23), .ref (y + 24), .int 0, .ref (y + 25), .int 0, .int 0, .int 0, .int (-1), .int 0, .int 0, .int 0, .long 0]) := h_1
      refine z_iadd B dX12_advance_71 ?_
      refine z_top (st1 := [.int 0]) (congrArg (fun w9 : Int32 => ([.int w9] : List Value)) (show (0 + 0 : Int32) = 0 by decide +kernel)) ?_
      refine z_istore_n (lv' := [(2, .int 0), (3, .int (nI i)), (1, .int (nI n)), (0, .ref y)]) B dX12_advance_72 rfl (Nat.le_of_ble_eq_true rfl) rfl ?_
      refine z_iinc (k := 1) (v := nI (i + 1)) (lv' := [(3, .int (nI (i + 1))), (2, .int 0), (1, .int (nI n)), (0, .ref y)]) B dX12_advance_73 rfl (nI_1 i) (Nat.le_of_ble_eq_true rfl) rfl ?_
      refine z_goto (tgt := 61) B dX12_advance_76 rfl ?_
      refine z_lv [0, 1, 2, 3] rfl ?_
      refine ih (i + 1) Φ1  (by omega) (by first | exact h_2 | (rw [← nI_1]; exact h_2))  (fun b9 h9 => ((fr1 b9 (Nat.ne_of_gt (Nat.lt_of_lt_of_le (lt_off (x := y) (i := 0) (j := 26) rfl) h9))).trans rfl).trans (hfr b9 h9))
  show Z p9 l e9 _ s9 m9 _ w9 t9 k9 _ G 4 0 [(0, .ref y), (1, .int (nI n))] [] Φ sz 0 0
  refine z_aload_n B dX12_advance_0 rfl 0 rfl ?_
  refine z_iconst (v := 0) B dX12_advance_1 rfl ?_
  refine z_put (ref := "FlowExporterModel") (C := RX12) (T := TX12) (N := 54) (ci := 14) (v := .int 0) B (by decide +kernel) tyX12 tyX12_ok nmX12 rfl 0 (by decide) (by decide +kernel) rfl (Or.inl rfl) hc0_ hna rfl rfl (Nat.le_of_ble_eq_true rfl) dX12_advance_2 (fun Φ1 hΦ1 => ?_)
  have h_1 : Φ1 y = some (o_ 14 [.int 0, .ref (y + 1), .ref (y + 2), .int 0, .int 1, .int 1, .int 0, .int 0, .ref (y + 3), .ref (y + 4), .int 0, .long 0, .ref (y + 5), .int 0, .int 0, .long 0, .long 0, .long 0, .long 0, .ref (y + 6), .ref (y + 7), .int 0, .ref (y + 8), .int 0, .ref (y + 9), .ref (y + 10), .int 0, .ref (y + 11), .ref (y + 12), .ref (y + 13), .ref (y + 14), .ref (y + 15), .ref (y + 16), .int 0, .long (-1), .ref (y + 17), .ref (y + 18), .ref (y + 19), .ref (y + 20), .ref (y + 21), .ref (y + 22), .int 0, .ref (y + 23), .ref (y + 24), .int 0, .ref (y + 25), .int 0, .int 0, .int 0, .int (-1), .int 0, .int 0, .int 0, .long 0]) := fset_at hΦ1
  refine z_aload_n B dX12_advance_5 rfl 0 rfl ?_
  refine z_iload_n B dX12_advance_6 rfl 1 rfl ?_
  refine z_i2l (v := (nI n).toInt64) B dX12_advance_7 rfl ?_
  refine z_lconst (v := 1) B dX12_advance_8 rfl ?_
  refine z_ldc2 (v := 1000) B (by decide +kernel) dX12_advance_9 ?_
  refine z_callS (As := [.long ((nI n).toInt64), .long 1, .long 1000]) (rest := [.ref y]) B (c_X12_inRange_1 G l Φ1 sz ((nI n).toInt64) 1 1000 hn) (va_cwS 3 B.1.2.2.2.2 gX12_advance_X12_inRange rfl rfl rfl (by decide +kernel) ⟨Nat.le_of_ble_eq_true rfl, Nat.le_of_ble_eq_true rfl⟩) rfl rfl (Nat.le_of_ble_eq_true rfl) dX12_advance_12 ⟨Nat.le_of_ble_eq_true rfl, Nat.le_of_ble_eq_true rfl⟩ (fun v1 Φ2 sz1 st1 hp1 hs1 => ?_)
  obtain ⟨rfl, hq1, fr1⟩ := hp1
  replace hq1 : sz1 = sz := hq1
  subst sz1
  replace hs1 : st1 = [.int 1, .ref y] := hs1
  subst st1
  refine z_if_ne (tgt := 22) B dX12_advance_15 rfl (fun c_1 => ?_) (fun h9 => absurd h9 (by decide))
  refine z_iconst (v := 0) B dX12_advance_22 rfl ?_
  refine z_iconst (v := 1) B dX12_advance_23 rfl ?_
  have h_2 : Φ2 y = some (o_ 14 [.int 0, .ref (y + 1), .ref (y + 2), .int 0, .int 1, .int 1, .int 0, .int 0, .ref (y + 3), .ref (y + 4), .int 0, .long 0, .ref (y + 5), .int 0, .int 0, .long 0, .long 0, .long 0, .long 0, .ref (y + 6), .ref (y + 7), .int 0, .ref (y + 8), .int 0, .ref (y + 9), .ref (y + 10), .int 0, .ref (y + 11), .ref (y + 12), .ref (y + 13), .ref (y + 14), .ref (y + 15), .ref (y + 16), .int 0, .long (-1), .ref (y + 17), .ref (y + 18), .ref (y + 19), .ref (y + 20), .ref (y + 21), .ref (y + 22), .int 0, .ref (y + 23), .ref (y + 24), .int 0, .ref (y + 25), .int 0, .int 0, .int 0, .int (-1), .int 0, .int 0, .int 0, .long 0]) := ((fr1 y).trans h_1)
  refine z_callV (As := [.int 0, .int 1]) (rest := []) B (c_X12_throwsIf_0 G l Φ2 sz y 0 0 1 1 0 0 0 0 0 0 0 0 0 0 0 0 0 0 (-1) 0 0 0 0 0 (-1) 0 0 0 0 1 h_2 hna) (cwV 2 B.1.2.2.2.2 gX12_advance_X12_throwsIf rfl rfl rfl (by decide +kernel) ⟨Nat.le_of_ble_eq_true rfl, Nat.le_of_ble_eq_true rfl⟩) h_2 rfl rfl rfl rfl (Nat.le_of_ble_eq_true rfl) dX12_advance_24 ⟨Nat.le_of_ble_eq_true rfl, Nat.le_of_ble_eq_true rfl⟩ (fun v2 Φ3 sz2 st2 hp2 hs2 => ?_)
  obtain ⟨rfl, hq2, fr2⟩ := hp2
  replace hq2 : sz2 = sz := hq2
  subst sz2
  replace hs2 : st2 = [.int 0] := hs2
  subst st2
  refine z_if_ne (tgt := 55) B dX12_advance_27 rfl (fun h9 => absurd (by decide) h9) (fun c_2 => ?_)
  refine z_aload_n B dX12_advance_30 rfl 0 rfl ?_
  refine z_aload_n B dX12_advance_31 rfl 0 rfl ?_
  have h_3 : Φ3 y = some (o_ 14 [.int 0, .ref (y + 1), .ref (y + 2), .int 0, .int 1, .int 1, .int 0, .int 0, .ref (y + 3), .ref (y + 4), .int 0, .long 0, .ref (y + 5), .int 0, .int 0, .long 0, .long 0, .long 0, .long 0, .ref (y + 6), .ref (y + 7), .int 0, .ref (y + 8), .int 0, .ref (y + 9), .ref (y + 10), .int 0, .ref (y + 11), .ref (y + 12), .ref (y + 13), .ref (y + 14), .ref (y + 15), .ref (y + 16), .int 0, .long (-1), .ref (y + 17), .ref (y + 18), .ref (y + 19), .ref (y + 20), .ref (y + 21), .ref (y + 22), .int 0, .ref (y + 23), .ref (y + 24), .int 0, .ref (y + 25), .int 0, .int 0, .int 0, .int (-1), .int 0, .int 0, .int 0, .long 0]) := ((fr2 y).trans h_2)
  refine z_get (ref := "FlowExporterModel") (C := RX12) (T := TX12) (N := 54) (ci := 14) (v := .int 0) B (by decide +kernel) rfl 3 (by decide) (by decide +kernel) rfl h_3 rfl dX12_advance_32 ?_
  refine z_iload_n B dX12_advance_35 rfl 1 rfl ?_
  refine z_iadd B dX12_advance_36 ?_
  refine z_ldcw (v := 1000000) B (by decide +kernel) dX12_advance_37 ?_
  refine z_icmp_le (tgt := 47) B dX12_advance_40 rfl (fun c_3 => ?_) (fun h9 => absurd (by rw [show (0 : Int32) + nI n = nI n from Int32.zero_add _]; exact nI_le (b := 1000000) (by omega) (by decide)) h9)
  refine z_iconst (v := 0) B dX12_advance_47 rfl ?_
  refine z_iconst (v := 2) B dX12_advance_48 rfl ?_
  refine z_callV (As := [.int 0, .int 2]) (rest := []) B (c_X12_throwsIf_0 G l Φ3 sz y 0 0 1 1 0 0 0 0 0 0 0 0 0 0 0 0 0 0 (-1) 0 0 0 0 0 (-1) 0 0 0 0 2 h_3 hna) (cwV 2 B.1.2.2.2.2 gX12_advance_X12_throwsIf rfl rfl rfl (by decide +kernel) ⟨Nat.le_of_ble_eq_true rfl, Nat.le_of_ble_eq_true rfl⟩) h_3 rfl rfl rfl rfl (Nat.le_of_ble_eq_true rfl) dX12_advance_49 ⟨Nat.le_of_ble_eq_true rfl, Nat.le_of_ble_eq_true rfl⟩ (fun v3 Φ4 sz3 st3 hp3 hs3 => ?_)
  obtain ⟨rfl, hq3, fr3⟩ := hp3
  replace hq3 : sz3 = sz := hq3
  subst sz3
  replace hs3 : st3 = [.int 0] := hs3
  subst st3
  refine z_if_eq (tgt := 57) B dX12_advance_52 rfl (fun c_4 => ?_) (fun h9 => absurd (by decide) h9)
  refine z_iconst (v := 0) B dX12_advance_57 rfl ?_
  refine z_istore_n (lv' := [(2, .int 0), (0, .ref y), (1, .int (nI n))]) B dX12_advance_58 rfl (Nat.le_of_ble_eq_true rfl) rfl ?_
  refine z_iconst (v := 0) B dX12_advance_59 rfl ?_
  refine z_istore_n (lv' := [(3, .int 0), (2, .int 0), (0, .ref y), (1, .int (nI n))]) B dX12_advance_60 rfl (Nat.le_of_ble_eq_true rfl) rfl ?_
  have h_4 : Φ4 y = some (o_ 14 [.int 0, .ref (y + 1), .ref (y + 2), .int 0, .int 1, .int 1, .int 0, .int 0, .ref (y + 3), .ref (y + 4), .int 0, .long 0, .ref (y + 5), .int 0, .int 0, .long 0, .long 0, .long 0, .long 0, .ref (y + 6), .ref (y + 7), .int 0, .ref (y + 8), .int 0, .ref (y + 9), .ref (y + 10), .int 0, .ref (y + 11), .ref (y + 12), .ref (y + 13), .ref (y + 14), .ref (y + 15), .ref (y + 16), .int 0, .long (-1), .ref (y + 17), .ref (y + 18), .ref (y + 19), .ref (y + 20), .ref (y + 21), .ref (y + 22), .int 0, .ref (y + 23), .ref (y + 24), .int 0, .ref (y + 25), .int 0, .int 0, .int 0, .int (-1), .int 0, .int 0, .int 0, .long 0]) := ((fr3 y).trans h_3)
  refine z_lv [0, 1, 3, 2] rfl ?_
  exact loop n 0 Φ4  (by omega) h_4  (fun b9 h9 => ((fr3 b9).trans ((fr2 b9).trans ((fr1 b9).trans ((fset_fr hΦ1 (Nat.ne_of_gt (Nat.lt_of_lt_of_le (lt_off (x := y) (i := 0) (j := 26) rfl) h9))).trans rfl)))))

set_option maxHeartbeats 4000000 in
set_option maxRecDepth 100000 in
theorem m_X12_advance_x (G : EnvG) (l : Launch) (Φ : Hm) (sz : Nat) (y : Nat) (a : Int32) (hc0_ : Φ y = some (o_ 14 [.int 0, .ref (y + 1), .ref (y + 2), .int 0, .int 1, .int 1, .int 0, .int 0, .ref (y + 3), .ref (y + 4), .int 0, .long 0, .ref (y + 5), .int 0, .int 0, .long 0, .long 0, .long 0, .long 0, .ref (y + 6), .ref (y + 7), .int 0, .ref (y + 8), .int 0, .ref (y + 9), .ref (y + 10), .int 0, .ref (y + 11), .ref (y + 12), .ref (y + 13), .ref (y + 14), .ref (y + 15), .ref (y + 16), .int 0, .long (-1), .ref (y + 17), .ref (y + 18), .ref (y + 19), .ref (y + 20), .ref (y + 21), .ref (y + 22), .int 0, .ref (y + 23), .ref (y + 24), .int 0, .ref (y + 25), .int 0, .int 0, .int 0, .int (-1), .int 0, .int 0, .int 0, .long 0])) (hna : G.2.2.2 ≤ y) (hp : ¬ inP a.toInt64 1 1000) : Ct G l yX12_advance wsX12_advance ({ frames := 1, cells := 0, slots := 0, locals := 25 }) 0 0 [.ref y, .int a] Φ sz (fun v Φ1 sz1 => v = some (.int 0) ∧ (∃ fs : List Value, Φ1 y = some (o_ 14 fs) ∧ fs[0]? = some (.int 1)) ∧ ∀ b9 : Nat, y + 26 ≤ b9 → Φ1 b9 = Φ b9) := by
  refine Ct.of (cc := cX12_advance) (maxL := 4) (ret := (some .int)) (by decide) rfl (Nat.le_of_ble_eq_true rfl) ?_
  intro p9 e9 s9 m9 w9 t9 k9 B
  show Z p9 l e9 _ s9 m9 _ w9 t9 k9 _ G 4 0 [(0, .ref y), (1, .int a)] [] Φ sz 0 0
  refine z_aload_n B dX12_advance_0 rfl 0 rfl ?_
  refine z_iconst (v := 0) B dX12_advance_1 rfl ?_
  refine z_put (ref := "FlowExporterModel") (C := RX12) (T := TX12) (N := 54) (ci := 14) (v := .int 0) B (by decide +kernel) tyX12 tyX12_ok nmX12 rfl 0 (by decide) (by decide +kernel) rfl (Or.inl rfl) hc0_ hna rfl rfl (Nat.le_of_ble_eq_true rfl) dX12_advance_2 (fun Φ1 hΦ1 => ?_)
  have h_1 : Φ1 y = some (o_ 14 [.int 0, .ref (y + 1), .ref (y + 2), .int 0, .int 1, .int 1, .int 0, .int 0, .ref (y + 3), .ref (y + 4), .int 0, .long 0, .ref (y + 5), .int 0, .int 0, .long 0, .long 0, .long 0, .long 0, .ref (y + 6), .ref (y + 7), .int 0, .ref (y + 8), .int 0, .ref (y + 9), .ref (y + 10), .int 0, .ref (y + 11), .ref (y + 12), .ref (y + 13), .ref (y + 14), .ref (y + 15), .ref (y + 16), .int 0, .long (-1), .ref (y + 17), .ref (y + 18), .ref (y + 19), .ref (y + 20), .ref (y + 21), .ref (y + 22), .int 0, .ref (y + 23), .ref (y + 24), .int 0, .ref (y + 25), .int 0, .int 0, .int 0, .int (-1), .int 0, .int 0, .int 0, .long 0]) := fset_at hΦ1
  refine z_aload_n B dX12_advance_5 rfl 0 rfl ?_
  refine z_iload_n B dX12_advance_6 rfl 1 rfl ?_
  refine z_i2l (v := a.toInt64) B dX12_advance_7 rfl ?_
  refine z_lconst (v := 1) B dX12_advance_8 rfl ?_
  refine z_ldc2 (v := 1000) B (by decide +kernel) dX12_advance_9 ?_
  refine z_callS (As := [.long a.toInt64, .long 1, .long 1000]) (rest := [.ref y]) B (c_X12_inRange_0 G l Φ1 sz a.toInt64 1 1000 hp) (va_cwS 3 B.1.2.2.2.2 gX12_advance_X12_inRange rfl rfl rfl (by decide +kernel) ⟨Nat.le_of_ble_eq_true rfl, Nat.le_of_ble_eq_true rfl⟩) rfl rfl (Nat.le_of_ble_eq_true rfl) dX12_advance_12 ⟨Nat.le_of_ble_eq_true rfl, Nat.le_of_ble_eq_true rfl⟩ (fun v1 Φ2 sz1 st1 hp1 hs1 => ?_)
  obtain ⟨rfl, hq1, fr1⟩ := hp1
  replace hq1 : sz1 = sz := hq1
  subst sz1
  replace hs1 : st1 = [.int 0, .ref y] := hs1
  subst st1
  refine z_if_ne (tgt := 22) B dX12_advance_15 rfl (fun h9 => absurd (by decide) h9) (fun c_1 => ?_)
  refine z_iconst (v := 1) B dX12_advance_18 rfl ?_
  refine z_goto (tgt := 23) B dX12_advance_19 rfl ?_
  refine z_iconst (v := 1) B dX12_advance_23 rfl ?_
  have h_2 : Φ2 y = some (o_ 14 [.int 0, .ref (y + 1), .ref (y + 2), .int 0, .int 1, .int 1, .int 0, .int 0, .ref (y + 3), .ref (y + 4), .int 0, .long 0, .ref (y + 5), .int 0, .int 0, .long 0, .long 0, .long 0, .long 0, .ref (y + 6), .ref (y + 7), .int 0, .ref (y + 8), .int 0, .ref (y + 9), .ref (y + 10), .int 0, .ref (y + 11), .ref (y + 12), .ref (y + 13), .ref (y + 14), .ref (y + 15), .ref (y + 16), .int 0, .long (-1), .ref (y + 17), .ref (y + 18), .ref (y + 19), .ref (y + 20), .ref (y + 21), .ref (y + 22), .int 0, .ref (y + 23), .ref (y + 24), .int 0, .ref (y + 25), .int 0, .int 0, .int 0, .int (-1), .int 0, .int 0, .int 0, .long 0]) := ((fr1 y).trans h_1)
  refine z_callV (As := [.int 1, .int 1]) (rest := []) B (c_X12_throwsIf_1 G l Φ2 sz y 0 0 1 1 0 0 0 0 0 0 0 0 0 0 0 0 0 0 (-1) 0 0 0 0 0 (-1) 0 0 0 0 1 h_2 hna) (cwV 2 B.1.2.2.2.2 gX12_advance_X12_throwsIf rfl rfl rfl (by decide +kernel) ⟨Nat.le_of_ble_eq_true rfl, Nat.le_of_ble_eq_true rfl⟩) h_2 rfl rfl rfl rfl (Nat.le_of_ble_eq_true rfl) dX12_advance_24 ⟨Nat.le_of_ble_eq_true rfl, Nat.le_of_ble_eq_true rfl⟩ (fun v2 Φ3 sz2 st2 hp2 hs2 => ?_)
  obtain ⟨rfl, hq2, fr2, h_3⟩ := hp2
  replace hq2 : sz2 = sz := hq2
  subst sz2
  replace hs2 : st2 = [.int 1] := hs2
  subst st2
  have h_4 : Φ3 y = some (o_ 14 [.int 1, .ref (y + 1), .ref (y + 2), .int 0, .int 1, .int 1, .int 0, .int 0, .ref (y + 3), .ref (y + 4), .int 0, .long 0, .ref (y + 5), .int 0, .int 0, .long 0, .long 0, .long 0, .long 0, .ref (y + 6), .ref (y + 7), .int 0, .ref (y + 8), .int 0, .ref (y + 9), .ref (y + 10), .int 0, .ref (y + 11), .ref (y + 12), .ref (y + 13), .ref (y + 14), .ref (y + 15), .ref (y + 16), .int 0, .long (-1), .ref (y + 17), .ref (y + 18), .ref (y + 19), .ref (y + 20), .ref (y + 21), .ref (y + 22), .int 0, .ref (y + 23), .ref (y + 24), .int 0, .ref (y + 25), .int 0, .int 0, .int 0, .int (-1), .int 0, .int 0, .int 0, .long 0]) := h_3
  refine z_if_ne (tgt := 55) B dX12_advance_27 rfl (fun c_2 => ?_) (fun h9 => absurd h9 (by decide))
  refine z_iconst (v := 0) B dX12_advance_55 rfl ?_
  exact z_ret_i B dX12_advance_56 ⟨rfl, ⟨_, h_4, rfl⟩, fun b9 h9 => ((fr2 b9 (Nat.ne_of_gt (Nat.lt_of_lt_of_le (lt_off (x := y) (i := 0) (j := 26) rfl) h9))).trans ((fr1 b9).trans ((fset_fr hΦ1 (Nat.ne_of_gt (Nat.lt_of_lt_of_le (lt_off (x := y) (i := 0) (j := 26) rfl) h9))).trans rfl)))⟩

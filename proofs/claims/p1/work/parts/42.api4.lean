set_option maxHeartbeats 4000000 in
set_option maxRecDepth 100000 in
theorem c_X5_put_0 (G : EnvG) (l : Launch) (Φ : Hm) (sz : Nat) (h : Nat) (f : Nat) (vl : Int64) (g : Nat → Int32) (hc0 : Φ h = some (o_ 7 [.ref f, .int 0])) (hc1 : Φ f = some (ab_ G 700 g)) (hna_h : G.2.2.2 ≤ h) (hna_f : G.2.2.2 ≤ f) : Ct G l yX5_put wsX5_put ({ frames := 0, cells := 0, slots := 0, locals := 0 }) 0 0 [.ref h, .long vl, .int 4] Φ sz (fun v Φ1 sz1 => v = none ∧ sz1 = sz ∧ (∀ b9 : Nat, b9 ≠ f → b9 ≠ h → Φ1 b9 = Φ b9) ∧ Φ1 f = some (ab_ G 700 (upd (upd (upd (upd g (0 : Int32).toNatClampNeg (vp_nar .byte (((vl >>> ((24 : Int32).toInt64 &&& 63)).toInt32).toInt8.toInt32))) (1 : Int32).toNatClampNeg (vp_nar .byte (((vl >>> ((16 : Int32).toInt64 &&& 63)).toInt32).toInt8.toInt32))) (2 : Int32).toNatClampNeg (vp_nar .byte (((vl >>> ((8 : Int32).toInt64 &&& 63)).toInt32).toInt8.toInt32))) (3 : Int32).toNatClampNeg (vp_nar .byte (((vl >>> ((0 : Int32).toInt64 &&& 63)).toInt32).toInt8.toInt32)))) ∧ Φ1 h = some (o_ 7 [.ref f, .int 4])) := by
  refine Ct.of (cc := cX5_put) (maxL := 5) (ret := none) (by decide) rfl (Nat.le_of_ble_eq_true rfl) ?_
  intro p9 e9 s9 m9 w9 t9 k9 B
  show Z p9 l e9 _ s9 m9 _ w9 t9 k9 _ G 5 0 [(0, .ref h), (1, .long vl), (3, .int 4)] [] Φ (sz) 0 0
  refine z_iload_n B dX5_put_0 rfl 2 rfl ?_
  refine z_iconst (v := 1) B dX5_put_1 rfl ?_
  refine z_isub B dX5_put_2 ?_
  refine z_top (st1 := [.int 3]) (congrArg (fun w9 : Int32 => ([.int w9] : List Value)) (show (4 - 1 : Int32) = 3 by decide +kernel)) ?_
  refine z_istore (lv' := [(4, .int 3), (0, .ref h), (1, .long vl), (3, .int 4)]) B dX5_put_3 (Nat.le_of_ble_eq_true rfl) rfl ?_
  refine z_iload B dX5_put_5 0 rfl ?_
  refine z_if_lt (tgt := 56) B dX5_put_7 rfl (fun h9 => absurd h9 (by decide)) (fun c_1 => ?_)
  refine z_aload_n B dX5_put_10 rfl 1 rfl ?_
  refine z_get (ref := "FlowExporter$Message") (C := RX5) (T := TX5) (N := 2) (ci := 7) (v := .int 0) B (by decide +kernel) rfl 1 (by decide) (by decide +kernel) rfl hc0 rfl dX5_put_11 ?_
  refine z_aload_n B dX5_put_14 rfl 1 rfl ?_
  refine z_get (ref := "FlowExporter$Message") (C := RX5) (T := TX5) (N := 2) (ci := 7) (v := .ref f) B (by decide +kernel) rfl 0 (by decide) (by decide +kernel) rfl hc0 rfl dX5_put_15 ?_
  refine z_alen (t := 2) (v := 700) B rfl hc1 rfl dX5_put_18 ?_
  refine z_icmp_ge (tgt := 50) B dX5_put_19 rfl (fun h9 => absurd h9 (by decide)) (fun c_2 => ?_)
  refine z_aload_n B dX5_put_22 rfl 1 rfl ?_
  refine z_get (ref := "FlowExporter$Message") (C := RX5) (T := TX5) (N := 2) (ci := 7) (v := .ref f) B (by decide +kernel) rfl 0 (by decide) (by decide +kernel) rfl hc0 rfl dX5_put_23 ?_
  refine z_aload_n B dX5_put_26 rfl 1 rfl ?_
  refine z_get (ref := "FlowExporter$Message") (C := RX5) (T := TX5) (N := 2) (ci := 7) (v := .int 0) B (by decide +kernel) rfl 1 (by decide) (by decide +kernel) rfl hc0 rfl dX5_put_27 ?_
  refine z_lload_n B dX5_put_30 rfl 2 rfl ?_
  refine z_bipush (v := 8) B dX5_put_31 rfl ?_
  refine z_iload B dX5_put_33 0 rfl ?_
  refine z_imul B dX5_put_35 ?_
  refine z_top (st1 := [.int 24, .long vl, .int 0, .ref f]) (congrArg (fun w9 : Int32 => ([.int w9, .long vl, .int 0, .ref f] : List Value)) (show (8 * 3 : Int32) = 24 by decide +kernel)) ?_
  refine z_lshr (v := vl >>> ((24 : Int32).toInt64 &&& 63)) B dX5_put_36 rfl ?_
  refine z_l2i (v := (vl >>> ((24 : Int32).toInt64 &&& 63)).toInt32) B dX5_put_37 rfl ?_
  refine z_i2b (v := ((vl >>> ((24 : Int32).toInt64 &&& 63)).toInt32).toInt8.toInt32) B dX5_put_38 rfl ?_
  refine z_bast B hc1 hna_f (vin rfl) dX5_put_39 (fun Φ1 hΦ1 => ?_)
  have h_1 : Φ1 f = some (ab_ G 700 (upd g (0 : Int32).toNatClampNeg (vp_nar .byte (((vl >>> ((24 : Int32).toInt64 &&& 63)).toInt32).toInt8.toInt32)))) := fset_at hΦ1
  refine z_aload_n B dX5_put_40 rfl 1 rfl ?_
  refine z_dup B dX5_put_41 rfl ?_
  have h_2 : Φ1 h = some (o_ 7 [.ref f, .int 0]) := ((fset_fr hΦ1 (hm_ne hc0 hc1 (fun h9 => by cases h9))).trans hc0)
  refine z_get (ref := "FlowExporter$Message") (C := RX5) (T := TX5) (N := 2) (ci := 7) (v := .int 0) B (by decide +kernel) rfl 1 (by decide) (by decide +kernel) rfl h_2 rfl dX5_put_42 ?_
  refine z_iconst (v := 1) B dX5_put_45 rfl ?_
  refine z_iadd B dX5_put_46 ?_
  refine z_top (st1 := [.int 1, .ref h]) (congrArg (fun w9 : Int32 => ([.int w9, .ref h] : List Value)) (show (0 + 1 : Int32) = 1 by decide +kernel)) ?_
  refine z_put (ref := "FlowExporter$Message") (C := RX5) (T := TX5) (N := 2) (ci := 7) (v := .int 1) B (by decide +kernel) tyX5 tyX5_ok nmX5 rfl 1 (by decide) (by decide +kernel) rfl (Or.inl rfl) h_2 hna_h rfl rfl (Nat.le_of_ble_eq_true rfl) dX5_put_47 (fun Φ2 hΦ2 => ?_)
  have h_3 : Φ2 h = some (o_ 7 [.ref f, .int 1]) := fset_at hΦ2
  refine z_iinc (k := 0) (v := 2) (lv' := [(4, .int 2), (0, .ref h), (1, .long vl), (3, .int 4)]) B dX5_put_50 rfl rfl (Nat.le_of_ble_eq_true rfl) rfl ?_
  refine z_goto (tgt := 5) B dX5_put_53 rfl ?_
  refine z_iload B dX5_put_5 0 rfl ?_
  refine z_if_lt (tgt := 56) B dX5_put_7 rfl (fun h9 => absurd h9 (by decide)) (fun c_3 => ?_)
  refine z_aload_n B dX5_put_10 rfl 1 rfl ?_
  refine z_get (ref := "FlowExporter$Message") (C := RX5) (T := TX5) (N := 2) (ci := 7) (v := .int 1) B (by decide +kernel) rfl 1 (by decide) (by decide +kernel) rfl h_3 rfl dX5_put_11 ?_
  refine z_aload_n B dX5_put_14 rfl 1 rfl ?_
  refine z_get (ref := "FlowExporter$Message") (C := RX5) (T := TX5) (N := 2) (ci := 7) (v := .ref f) B (by decide +kernel) rfl 0 (by decide) (by decide +kernel) rfl h_3 rfl dX5_put_15 ?_
  have h_4 : Φ2 f = some (ab_ G 700 (upd g (0 : Int32).toNatClampNeg (vp_nar .byte (((vl >>> ((24 : Int32).toInt64 &&& 63)).toInt32).toInt8.toInt32)))) := ((fset_fr hΦ2 (hm_ne hc1 hc0 (fun h9 => by cases h9))).trans h_1)
  refine z_alen (t := 2) (v := 700) B rfl h_4 rfl dX5_put_18 ?_
  refine z_icmp_ge (tgt := 50) B dX5_put_19 rfl (fun h9 => absurd h9 (by decide)) (fun c_4 => ?_)
  refine z_aload_n B dX5_put_22 rfl 1 rfl ?_
  refine z_get (ref := "FlowExporter$Message") (C := RX5) (T := TX5) (N := 2) (ci := 7) (v := .ref f) B (by decide +kernel) rfl 0 (by decide) (by decide +kernel) rfl h_3 rfl dX5_put_23 ?_
  refine z_aload_n B dX5_put_26 rfl 1 rfl ?_
  refine z_get (ref := "FlowExporter$Message") (C := RX5) (T := TX5) (N := 2) (ci := 7) (v := .int 1) B (by decide +kernel) rfl 1 (by decide) (by decide +kernel) rfl h_3 rfl dX5_put_27 ?_
  refine z_lload_n B dX5_put_30 rfl 2 rfl ?_
  refine z_bipush (v := 8) B dX5_put_31 rfl ?_
  refine z_iload B dX5_put_33 0 rfl ?_
  refine z_imul B dX5_put_35 ?_
  refine z_top (st1 := [.int 16, .long vl, .int 1, .ref f]) (congrArg (fun w9 : Int32 => ([.int w9, .long vl, .int 1, .ref f] : List Value)) (show (8 * 2 : Int32) = 16 by decide +kernel)) ?_
  refine z_lshr (v := vl >>> ((16 : Int32).toInt64 &&& 63)) B dX5_put_36 rfl ?_
  refine z_l2i (v := (vl >>> ((16 : Int32).toInt64 &&& 63)).toInt32) B dX5_put_37 rfl ?_
  refine z_i2b (v := ((vl >>> ((16 : Int32).toInt64 &&& 63)).toInt32).toInt8.toInt32) B dX5_put_38 rfl ?_
  refine z_bast B h_4 hna_f (vin rfl) dX5_put_39 (fun Φ3 hΦ3 => ?_)
  have h_5 : Φ3 f = some (ab_ G 700 (upd (upd g (0 : Int32).toNatClampNeg (vp_nar .byte (((vl >>> ((24 : Int32).toInt64 &&& 63)).toInt32).toInt8.toInt32))) (1 : Int32).toNatClampNeg (vp_nar .byte (((vl >>> ((16 : Int32).toInt64 &&& 63)).toInt32).toInt8.toInt32)))) := fset_at hΦ3
  refine z_aload_n B dX5_put_40 rfl 1 rfl ?_
  refine z_dup B dX5_put_41 rfl ?_
  have h_6 : Φ3 h = some (o_ 7 [.ref f, .int 1]) := ((fset_fr hΦ3 (hm_ne hc0 hc1 (fun h9 => by cases h9))).trans h_3)
  refine z_get (ref := "FlowExporter$Message") (C := RX5) (T := TX5) (N := 2) (ci := 7) (v := .int 1) B (by decide +kernel) rfl 1 (by decide) (by decide +kernel) rfl h_6 rfl dX5_put_42 ?_
  refine z_iconst (v := 1) B dX5_put_45 rfl ?_
  refine z_iadd B dX5_put_46 ?_
  refine z_top (st1 := [.int 2, .ref h]) (congrArg (fun w9 : Int32 => ([.int w9, .ref h] : List Value)) (show (1 + 1 : Int32) = 2 by decide +kernel)) ?_
  refine z_put (ref := "FlowExporter$Message") (C := RX5) (T := TX5) (N := 2) (ci := 7) (v := .int 2) B (by decide +kernel) tyX5 tyX5_ok nmX5 rfl 1 (by decide) (by decide +kernel) rfl (Or.inl rfl) h_6 hna_h rfl rfl (Nat.le_of_ble_eq_true rfl) dX5_put_47 (fun Φ4 hΦ4 => ?_)
  have h_7 : Φ4 h = some (o_ 7 [.ref f, .int 2]) := fset_at hΦ4
  refine z_iinc (k := 0) (v := 1) (lv' := [(4, .int 1), (0, .ref h), (1, .long vl), (3, .int 4)]) B dX5_put_50 rfl rfl (Nat.le_of_ble_eq_true rfl) rfl ?_
  refine z_goto (tgt := 5) B dX5_put_53 rfl ?_
  refine z_iload B dX5_put_5 0 rfl ?_
  refine z_if_lt (tgt := 56) B dX5_put_7 rfl (fun h9 => absurd h9 (by decide)) (fun c_5 => ?_)
  refine z_aload_n B dX5_put_10 rfl 1 rfl ?_
  refine z_get (ref := "FlowExporter$Message") (C := RX5) (T := TX5) (N := 2) (ci := 7) (v := .int 2) B (by decide +kernel) rfl 1 (by decide) (by decide +kernel) rfl h_7 rfl dX5_put_11 ?_
  refine z_aload_n B dX5_put_14 rfl 1 rfl ?_
  refine z_get (ref := "FlowExporter$Message") (C := RX5) (T := TX5) (N := 2) (ci := 7) (v := .ref f) B (by decide +kernel) rfl 0 (by decide) (by decide +kernel) rfl h_7 rfl dX5_put_15 ?_
  have h_8 : Φ4 f = some (ab_ G 700 (upd (upd g (0 : Int32).toNatClampNeg (vp_nar .byte (((vl >>> ((24 : Int32).toInt64 &&& 63)).toInt32).toInt8.toInt32))) (1 : Int32).toNatClampNeg (vp_nar .byte (((vl >>> ((16 : Int32).toInt64 &&& 63)).toInt32).toInt8.toInt32)))) := ((fset_fr hΦ4 (hm_ne hc1 hc0 (fun h9 => by cases h9))).trans h_5)
  refine z_alen (t := 2) (v := 700) B rfl h_8 rfl dX5_put_18 ?_
  refine z_icmp_ge (tgt := 50) B dX5_put_19 rfl (fun h9 => absurd h9 (by decide)) (fun c_6 => ?_)
  refine z_aload_n B dX5_put_22 rfl 1 rfl ?_
  refine z_get (ref := "FlowExporter$Message") (C := RX5) (T := TX5) (N := 2) (ci := 7) (v := .ref f) B (by decide +kernel) rfl 0 (by decide) (by decide +kernel) rfl h_7 rfl dX5_put_23 ?_
  refine z_aload_n B dX5_put_26 rfl 1 rfl ?_
  refine z_get (ref := "FlowExporter$Message") (C := RX5) (T := TX5) (N := 2) (ci := 7) (v := .int 2) B (by decide +kernel) rfl 1 (by decide) (by decide +kernel) rfl h_7 rfl dX5_put_27 ?_
  refine z_lload_n B dX5_put_30 rfl 2 rfl ?_
  refine z_bipush (v := 8) B dX5_put_31 rfl ?_
  refine z_iload B dX5_put_33 0 rfl ?_
  refine z_imul B dX5_put_35 ?_
  refine z_top (st1 := [.int 8, .long vl, .int 2, .ref f]) (congrArg (fun w9 : Int32 => ([.int w9, .long vl, .int 2, .ref f] : List Value)) (show (8 * 1 : Int32) = 8 by decide +kernel)) ?_
  refine z_lshr (v := vl >>> ((8 : Int32).toInt64 &&& 63)) B dX5_put_36 rfl ?_
  refine z_l2i (v := (vl >>> ((8 : Int32).toInt64 &&& 63)).toInt32) B dX5_put_37 rfl ?_
  refine z_i2b (v := ((vl >>> ((8 : Int32).toInt64 &&& 63)).toInt32).toInt8.toInt32) B dX5_put_38 rfl ?_
  refine z_bast B h_8 hna_f (vin rfl) dX5_put_39 (fun Φ5 hΦ5 => ?_)
  have h_9 : Φ5 f = some (ab_ G 700 (upd (upd (upd g (0 : Int32).toNatClampNeg (vp_nar .byte (((vl >>> ((24 : Int32).toInt64 &&& 63)).toInt32).toInt8.toInt32))) (1 : Int32).toNatClampNeg (vp_nar .byte (((vl >>> ((16 : Int32).toInt64 &&& 63)).toInt32).toInt8.toInt32))) (2 : Int32).toNatClampNeg (vp_nar .byte (((vl >>> ((8 : Int32).toInt64 &&& 63)).toInt32).toInt8.toInt32)))) := fset_at hΦ5
  refine z_aload_n B dX5_put_40 rfl 1 rfl ?_
  refine z_dup B dX5_put_41 rfl ?_
  have h_10 : Φ5 h = some (o_ 7 [.ref f, .int 2]) := ((fset_fr hΦ5 (hm_ne hc0 hc1 (fun h9 => by cases h9))).trans h_7)
  refine z_get (ref := "FlowExporter$Message") (C := RX5) (T := TX5) (N := 2) (ci := 7) (v := .int 2) B (by decide +kernel) rfl 1 (by decide) (by decide +kernel) rfl h_10 rfl dX5_put_42 ?_
  refine z_iconst (v := 1) B dX5_put_45 rfl ?_
  refine z_iadd B dX5_put_46 ?_
  refine z_top (st1 := [.int 3, .ref h]) (congrArg (fun w9 : Int32 => ([.int w9, .ref h] : List Value)) (show (2 + 1 : Int32) = 3 by decide +kernel)) ?_
  refine z_put (ref := "FlowExporter$Message") (C := RX5) (T := TX5) (N := 2) (ci := 7) (v := .int 3) B (by decide +kernel) tyX5 tyX5_ok nmX5 rfl 1 (by decide) (by decide +kernel) rfl (Or.inl rfl) h_10 hna_h rfl rfl (Nat.le_of_ble_eq_true rfl) dX5_put_47 (fun Φ6 hΦ6 => ?_)
  have h_11 : Φ6 h = some (o_ 7 [.ref f, .int 3]) := fset_at hΦ6
  refine z_iinc (k := 0) (v := 0) (lv' := [(4, .int 0), (0, .ref h), (1, .long vl), (3, .int 4)]) B dX5_put_50 rfl rfl (Nat.le_of_ble_eq_true rfl) rfl ?_
  refine z_goto (tgt := 5) B dX5_put_53 rfl ?_
  refine z_iload B dX5_put_5 0 rfl ?_
  refine z_if_lt (tgt := 56) B dX5_put_7 rfl (fun h9 => absurd h9 (by decide)) (fun c_7 => ?_)
  refine z_aload_n B dX5_put_10 rfl 1 rfl ?_
  refine z_get (ref := "FlowExporter$Message") (C := RX5) (T := TX5) (N := 2) (ci := 7) (v := .int 3) B (by decide +kernel) rfl 1 (by decide) (by decide +kernel) rfl h_11 rfl dX5_put_11 ?_
  refine z_aload_n B dX5_put_14 rfl 1 rfl ?_
  refine z_get (ref := "FlowExporter$Message") (C := RX5) (T := TX5) (N := 2) (ci := 7) (v := .ref f) B (by decide +kernel) rfl 0 (by decide) (by decide +kernel) rfl h_11 rfl dX5_put_15 ?_
  have h_12 : Φ6 f = some (ab_ G 700 (upd (upd (upd g (0 : Int32).toNatClampNeg (vp_nar .byte (((vl >>> ((24 : Int32).toInt64 &&& 63)).toInt32).toInt8.toInt32))) (1 : Int32).toNatClampNeg (vp_nar .byte (((vl >>> ((16 : Int32).toInt64 &&& 63)).toInt32).toInt8.toInt32))) (2 : Int32).toNatClampNeg (vp_nar .byte (((vl >>> ((8 : Int32).toInt64 &&& 63)).toInt32).toInt8.toInt32)))) := ((fset_fr hΦ6 (hm_ne hc1 hc0 (fun h9 => by cases h9))).trans h_9)
  refine z_alen (t := 2) (v := 700) B rfl h_12 rfl dX5_put_18 ?_
  refine z_icmp_ge (tgt := 50) B dX5_put_19 rfl (fun h9 => absurd h9 (by decide)) (fun c_8 => ?_)
  refine z_aload_n B dX5_put_22 rfl 1 rfl ?_
  refine z_get (ref := "FlowExporter$Message") (C := RX5) (T := TX5) (N := 2) (ci := 7) (v := .ref f) B (by decide +kernel) rfl 0 (by decide) (by decide +kernel) rfl h_11 rfl dX5_put_23 ?_
  refine z_aload_n B dX5_put_26 rfl 1 rfl ?_
  refine z_get (ref := "FlowExporter$Message") (C := RX5) (T := TX5) (N := 2) (ci := 7) (v := .int 3) B (by decide +kernel) rfl 1 (by decide) (by decide +kernel) rfl h_11 rfl dX5_put_27 ?_
  refine z_lload_n B dX5_put_30 rfl 2 rfl ?_
  refine z_bipush (v := 8) B dX5_put_31 rfl ?_
  refine z_iload B dX5_put_33 0 rfl ?_
  refine z_imul B dX5_put_35 ?_
  refine z_top (st1 := [.int 0, .long vl, .int 3, .ref f]) (congrArg (fun w9 : Int32 => ([.int w9, .long vl, .int 3, .ref f] : List Value)) (show (8 * 0 : Int32) = 0 by decide +kernel)) ?_
  refine z_lshr (v := vl >>> ((0 : Int32).toInt64 &&& 63)) B dX5_put_36 rfl ?_
  refine z_l2i (v := (vl >>> ((0 : Int32).toInt64 &&& 63)).toInt32) B dX5_put_37 rfl ?_
  refine z_i2b (v := ((vl >>> ((0 : Int32).toInt64 &&& 63)).toInt32).toInt8.toInt32) B dX5_put_38 rfl ?_
  refine z_bast B h_12 hna_f (vin rfl) dX5_put_39 (fun Φ7 hΦ7 => ?_)
  have h_13 : Φ7 f = some (ab_ G 700 (upd (upd (upd (upd g (0 : Int32).toNatClampNeg (vp_nar .byte (((vl >>> ((24 : Int32).toInt64 &&& 63)).toInt32).toInt8.toInt32))) (1 : Int32).toNatClampNeg (vp_nar .byte (((vl >>> ((16 : Int32).toInt64 &&& 63)).toInt32).toInt8.toInt32))) (2 : Int32).toNatClampNeg (vp_nar .byte (((vl >>> ((8 : Int32).toInt64 &&& 63)).toInt32).toInt8.toInt32))) (3 : Int32).toNatClampNeg (vp_nar .byte (((vl >>> ((0 : Int32).toInt64 &&& 63)).toInt32).toInt8.toInt32)))) := fset_at hΦ7
  refine z_aload_n B dX5_put_40 rfl 1 rfl ?_
  refine z_dup B dX5_put_41 rfl ?_
  have h_14 : Φ7 h = some (o_ 7 [.ref f, .int 3]) := ((fset_fr hΦ7 (hm_ne hc0 hc1 (fun h9 => by cases h9))).trans h_11)
  refine z_get (ref := "FlowExporter$Message") (C := RX5) (T := TX5) (N := 2) (ci := 7) (v := .int 3) B (by decide +kernel) rfl 1 (by decide) (by decide +kernel) rfl h_14 rfl dX5_put_42 ?_
  refine z_iconst (v := 1) B dX5_put_45 rfl ?_
  refine z_iadd B dX5_put_46 ?_
  refine z_top (st1 := [.int 4, .ref h]) (congrArg (fun w9 : Int32 => ([.int w9, .ref h] : List Value)) (show (3 + 1 : Int32) = 4 by decide +kernel)) ?_
  refine z_put (ref := "FlowExporter$Message") (C := RX5) (T := TX5) (N := 2) (ci := 7) (v := .int 4) B (by decide +kernel) tyX5 tyX5_ok nmX5 rfl 1 (by decide) (by decide +kernel) rfl (Or.inl rfl) h_14 hna_h rfl rfl (Nat.le_of_ble_eq_true rfl) dX5_put_47 (fun Φ8 hΦ8 => ?_)
  have h_15 : Φ8 h = some (o_ 7 [.ref f, .int 4]) := fset_at hΦ8
  refine z_iinc (k := 0) (v := (-1)) (lv' := [(4, .int (-1)), (0, .ref h), (1, .long vl), (3, .int 4)]) B dX5_put_50 rfl rfl (Nat.le_of_ble_eq_true rfl) rfl ?_
  refine z_goto (tgt := 5) B dX5_put_53 rfl ?_
  refine z_iload B dX5_put_5 0 rfl ?_
  refine z_if_lt (tgt := 56) B dX5_put_7 rfl (fun c_9 => ?_) (fun h9 => absurd (by decide) h9)
  have h_16 : Φ8 f = some (ab_ G 700 (upd (upd (upd (upd g (0 : Int32).toNatClampNeg (vp_nar .byte (((vl >>> ((24 : Int32).toInt64 &&& 63)).toInt32).toInt8.toInt32))) (1 : Int32).toNatClampNeg (vp_nar .byte (((vl >>> ((16 : Int32).toInt64 &&& 63)).toInt32).toInt8.toInt32))) (2 : Int32).toNatClampNeg (vp_nar .byte (((vl >>> ((8 : Int32).toInt64 &&& 63)).toInt32).toInt8.toInt32))) (3 : Int32).toNatClampNeg (vp_nar .byte (((vl >>> ((0 : Int32).toInt64 &&& 63)).toInt32).toInt8.toInt32)))) := ((fset_fr hΦ8 (hm_ne hc1 hc0 (fun h9 => by cases h9))).trans h_13)
  exact z_ret_v B dX5_put_56 ⟨rfl, rfl, (fun b9 h9a h9b => ((fset_fr hΦ8 h9b).trans ((fset_fr hΦ7 h9a).trans ((fset_fr hΦ6 h9b).trans ((fset_fr hΦ5 h9a).trans ((fset_fr hΦ4 h9b).trans ((fset_fr hΦ3 h9a).trans ((fset_fr hΦ2 h9b).trans ((fset_fr hΦ1 h9a).trans rfl))))))))), h_16, h_15⟩

set_option maxHeartbeats 4000000 in
set_option maxRecDepth 100000 in
theorem c_X5_put_4 (G : EnvG) (l : Launch) (Φ : Hm) (sz : Nat) (h : Nat) (f : Nat) (vl : Int64) (g : Nat → Int32) (hc0 : Φ h = some (o_ 7 [.ref f, .int 4])) (hc1 : Φ f = some (ab_ G 700 g)) (hna_h : G.2.2.2 ≤ h) (hna_f : G.2.2.2 ≤ f) : Ct G l yX5_put wsX5_put ({ frames := 0, cells := 0, slots := 0, locals := 0 }) 0 0 [.ref h, .long vl, .int 4] Φ sz (fun v Φ1 sz1 => v = none ∧ sz1 = sz ∧ (∀ b9 : Nat, b9 ≠ f → b9 ≠ h → Φ1 b9 = Φ b9) ∧ Φ1 f = some (ab_ G 700 (upd (upd (upd (upd g (4 : Int32).toNatClampNeg (vp_nar .byte (((vl >>> ((24 : Int32).toInt64 &&& 63)).toInt32).toInt8.toInt32))) (5 : Int32).toNatClampNeg (vp_nar .byte (((vl >>> ((16 : Int32).toInt64 &&& 63)).toInt32).toInt8.toInt32))) (6 : Int32).toNatClampNeg (vp_nar .byte (((vl >>> ((8 : Int32).toInt64 &&& 63)).toInt32).toInt8.toInt32))) (7 : Int32).toNatClampNeg (vp_nar .byte (((vl >>> ((0 : Int32).toInt64 &&& 63)).toInt32).toInt8.toInt32)))) ∧ Φ1 h = some (o_ 7 [.ref f, .int 8])) := by
  refine Ct.of (cc := cX5_put) (maxL := 5) (ret := none) (by decide) rfl (Nat.le_of_ble_eq_true rfl) ?_
  intro p9 e9 s9 m9 w9 t9 k9 B
  show Z p9 l e9 _ s9 m9 _ w9 t9 k9 _ G 5 0 [(0, .ref h), (1, .long vl), (3, .int 4)] [] Φ (sz) 0 0
  refine z_iload_n B dX5_put_0 rfl 2 rfl ?_
  refine z_iconst (v := 1) B dX5_put_1 rfl ?_
  refine z_isub B dX5_put_2 ?_
  refine z_top (st1 := [.int 3]) (congrArg (fun w9 : Int32 => ([.int w9] : List Value)) (show (4 - 1 : Int32) = 3 by decide +kernel)) ?_
  refine z_istore (lv' := [(4, .int 3), (0, .ref h), (1, .long vl), (3, .int 4)]) B dX5_put_3 (Nat.le_of_ble_eq_true rfl) rfl ?_
  refine z_iload B dX5_put_5 0 rfl ?_
  refine z_if_lt (tgt := 56) B dX5_put_7 rfl (fun h9 => absurd h9 (by decide)) (fun c_1 => ?_)
  refine z_aload_n B dX5_put_10 rfl 1 rfl ?_
  refine z_get (ref := "FlowExporter$Message") (C := RX5) (T := TX5) (N := 2) (ci := 7) (v := .int 4) B (by decide +kernel) rfl 1 (by decide) (by decide +kernel) rfl hc0 rfl dX5_put_11 ?_
  refine z_aload_n B dX5_put_14 rfl 1 rfl ?_
  refine z_get (ref := "FlowExporter$Message") (C := RX5) (T := TX5) (N := 2) (ci := 7) (v := .ref f) B (by decide +kernel) rfl 0 (by decide) (by decide +kernel) rfl hc0 rfl dX5_put_15 ?_
  refine z_alen (t := 2) (v := 700) B rfl hc1 rfl dX5_put_18 ?_
  refine z_icmp_ge (tgt := 50) B dX5_put_19 rfl (fun h9 => absurd h9 (by decide)) (fun c_2 => ?_)
  refine z_aload_n B dX5_put_22 rfl 1 rfl ?_
  refine z_get (ref := "FlowExporter$Message") (C := RX5) (T := TX5) (N := 2) (ci := 7) (v := .ref f) B (by decide +kernel) rfl 0 (by decide) (by decide +kernel) rfl hc0 rfl dX5_put_23 ?_
  refine z_aload_n B dX5_put_26 rfl 1 rfl ?_
  refine z_get (ref := "FlowExporter$Message") (C := RX5) (T := TX5) (N := 2) (ci := 7) (v := .int 4) B (by decide +kernel) rfl 1 (by decide) (by decide +kernel) rfl hc0 rfl dX5_put_27 ?_
  refine z_lload_n B dX5_put_30 rfl 2 rfl ?_
  refine z_bipush (v := 8) B dX5_put_31 rfl ?_
  refine z_iload B dX5_put_33 0 rfl ?_
  refine z_imul B dX5_put_35 ?_
  refine z_top (st1 := [.int 24, .long vl, .int 4, .ref f]) (congrArg (fun w9 : Int32 => ([.int w9, .long vl, .int 4, .ref f] : List Value)) (show (8 * 3 : Int32) = 24 by decide +kernel)) ?_
  refine z_lshr (v := vl >>> ((24 : Int32).toInt64 &&& 63)) B dX5_put_36 rfl ?_
  refine z_l2i (v := (vl >>> ((24 : Int32).toInt64 &&& 63)).toInt32) B dX5_put_37 rfl ?_
  refine z_i2b (v := ((vl >>> ((24 : Int32).toInt64 &&& 63)).toInt32).toInt8.toInt32) B dX5_put_38 rfl ?_
  refine z_bast B hc1 hna_f (vin rfl) dX5_put_39 (fun Φ1 hΦ1 => ?_)
  have h_1 : Φ1 f = some (ab_ G 700 (upd g (4 : Int32).toNatClampNeg (vp_nar .byte (((vl >>> ((24 : Int32).toInt64 &&& 63)).toInt32).toInt8.toInt32)))) := fset_at hΦ1
  refine z_aload_n B dX5_put_40 rfl 1 rfl ?_
  refine z_dup B dX5_put_41 rfl ?_
  have h_2 : Φ1 h = some (o_ 7 [.ref f, .int 4]) := ((fset_fr hΦ1 (hm_ne hc0 hc1 (fun h9 => by cases h9))).trans hc0)
  refine z_get (ref := "FlowExporter$Message") (C := RX5) (T := TX5) (N := 2) (ci := 7) (v := .int 4) B (by decide +kernel) rfl 1 (by decide) (by decide +kernel) rfl h_2 rfl dX5_put_42 ?_
  refine z_iconst (v := 1) B dX5_put_45 rfl ?_
  refine z_iadd B dX5_put_46 ?_
  refine z_top (st1 := [.int 5, .ref h]) (congrArg (fun w9 : Int32 => ([.int w9, .ref h] : List Value)) (show (4 + 1 : Int32) = 5 by decide +kernel)) ?_
  refine z_put (ref := "FlowExporter$Message") (C := RX5) (T := TX5) (N := 2) (ci := 7) (v := .int 5) B (by decide +kernel) tyX5 tyX5_ok nmX5 rfl 1 (by decide) (by decide +kernel) rfl (Or.inl rfl) h_2 hna_h rfl rfl (Nat.le_of_ble_eq_true rfl) dX5_put_47 (fun Φ2 hΦ2 => ?_)
  have h_3 : Φ2 h = some (o_ 7 [.ref f, .int 5]) := fset_at hΦ2
  refine z_iinc (k := 0) (v := 2) (lv' := [(4, .int 2), (0, .ref h), (1, .long vl), (3, .int 4)]) B dX5_put_50 rfl rfl (Nat.le_of_ble_eq_true rfl) rfl ?_
  refine z_goto (tgt := 5) B dX5_put_53 rfl ?_
  refine z_iload B dX5_put_5 0 rfl ?_
  refine z_if_lt (tgt := 56) B dX5_put_7 rfl (fun h9 => absurd h9 (by decide)) (fun c_3 => ?_)
  refine z_aload_n B dX5_put_10 rfl 1 rfl ?_
  refine z_get (ref := "FlowExporter$Message") (C := RX5) (T := TX5) (N := 2) (ci := 7) (v := .int 5) B (by decide +kernel) rfl 1 (by decide) (by decide +kernel) rfl h_3 rfl dX5_put_11 ?_
  refine z_aload_n B dX5_put_14 rfl 1 rfl ?_
  refine z_get (ref := "FlowExporter$Message") (C := RX5) (T := TX5) (N := 2) (ci := 7) (v := .ref f) B (by decide +kernel) rfl 0 (by decide) (by decide +kernel) rfl h_3 rfl dX5_put_15 ?_
  have h_4 : Φ2 f = some (ab_ G 700 (upd g (4 : Int32).toNatClampNeg (vp_nar .byte (((vl >>> ((24 : Int32).toInt64 &&& 63)).toInt32).toInt8.toInt32)))) := ((fset_fr hΦ2 (hm_ne hc1 hc0 (fun h9 => by cases h9))).trans h_1)
  refine z_alen (t := 2) (v := 700) B rfl h_4 rfl dX5_put_18 ?_
  refine z_icmp_ge (tgt := 50) B dX5_put_19 rfl (fun h9 => absurd h9 (by decide)) (fun c_4 => ?_)
  refine z_aload_n B dX5_put_22 rfl 1 rfl ?_
  refine z_get (ref := "FlowExporter$Message") (C := RX5) (T := TX5) (N := 2) (ci := 7) (v := .ref f) B (by decide +kernel) rfl 0 (by decide) (by decide +kernel) rfl h_3 rfl dX5_put_23 ?_
  refine z_aload_n B dX5_put_26 rfl 1 rfl ?_
  refine z_get (ref := "FlowExporter$Message") (C := RX5) (T := TX5) (N := 2) (ci := 7) (v := .int 5) B (by decide +kernel) rfl 1 (by decide) (by decide +kernel) rfl h_3 rfl dX5_put_27 ?_
  refine z_lload_n B dX5_put_30 rfl 2 rfl ?_
  refine z_bipush (v := 8) B dX5_put_31 rfl ?_
  refine z_iload B dX5_put_33 0 rfl ?_
  refine z_imul B dX5_put_35 ?_
  refine z_top (st1 := [.int 16, .long vl, .int 5, .ref f]) (congrArg (fun w9 : Int32 => ([.int w9, .long vl, .int 5, .ref f] : List Value)) (show (8 * 2 : Int32) = 16 by decide +kernel)) ?_
  refine z_lshr (v := vl >>> ((16 : Int32).toInt64 &&& 63)) B dX5_put_36 rfl ?_
  refine z_l2i (v := (vl >>> ((16 : Int32).toInt64 &&& 63)).toInt32) B dX5_put_37 rfl ?_
  refine z_i2b (v := ((vl >>> ((16 : Int32).toInt64 &&& 63)).toInt32).toInt8.toInt32) B dX5_put_38 rfl ?_
  refine z_bast B h_4 hna_f (vin rfl) dX5_put_39 (fun Φ3 hΦ3 => ?_)
  have h_5 : Φ3 f = some (ab_ G 700 (upd (upd g (4 : Int32).toNatClampNeg (vp_nar .byte (((vl >>> ((24 : Int32).toInt64 &&& 63)).toInt32).toInt8.toInt32))) (5 : Int32).toNatClampNeg (vp_nar .byte (((vl >>> ((16 : Int32).toInt64 &&& 63)).toInt32).toInt8.toInt32)))) := fset_at hΦ3
  refine z_aload_n B dX5_put_40 rfl 1 rfl ?_
  refine z_dup B dX5_put_41 rfl ?_
  have h_6 : Φ3 h = some (o_ 7 [.ref f, .int 5]) := ((fset_fr hΦ3 (hm_ne hc0 hc1 (fun h9 => by cases h9))).trans h_3)
  refine z_get (ref := "FlowExporter$Message") (C := RX5) (T := TX5) (N := 2) (ci := 7) (v := .int 5) B (by decide +kernel) rfl 1 (by decide) (by decide +kernel) rfl h_6 rfl dX5_put_42 ?_
  refine z_iconst (v := 1) B dX5_put_45 rfl ?_
  refine z_iadd B dX5_put_46 ?_
  refine z_top (st1 := [.int 6, .ref h]) (congrArg (fun w9 : Int32 => ([.int w9, .ref h] : List Value)) (show (5 + 1 : Int32) = 6 by decide +kernel)) ?_
  refine z_put (ref := "FlowExporter$Message") (C := RX5) (T := TX5) (N := 2) (ci := 7) (v := .int 6) B (by decide +kernel) tyX5 tyX5_ok nmX5 rfl 1 (by decide) (by decide +kernel) rfl (Or.inl rfl) h_6 hna_h rfl rfl (Nat.le_of_ble_eq_true rfl) dX5_put_47 (fun Φ4 hΦ4 => ?_)
  have h_7 : Φ4 h = some (o_ 7 [.ref f, .int 6]) := fset_at hΦ4
  refine z_iinc (k := 0) (v := 1) (lv' := [(4, .int 1), (0, .ref h), (1, .long vl), (3, .int 4)]) B dX5_put_50 rfl rfl (Nat.le_of_ble_eq_true rfl) rfl ?_
  refine z_goto (tgt := 5) B dX5_put_53 rfl ?_
  refine z_iload B dX5_put_5 0 rfl ?_
  refine z_if_lt (tgt := 56) B dX5_put_7 rfl (fun h9 => absurd h9 (by decide)) (fun c_5 => ?_)
  refine z_aload_n B dX5_put_10 rfl 1 rfl ?_
  refine z_get (ref := "FlowExporter$Message") (C := RX5) (T := TX5) (N := 2) (ci := 7) (v := .int 6) B (by decide +kernel) rfl 1 (by decide) (by decide +kernel) rfl h_7 rfl dX5_put_11 ?_
  refine z_aload_n B dX5_put_14 rfl 1 rfl ?_
  refine z_get (ref := "FlowExporter$Message") (C := RX5) (T := TX5) (N := 2) (ci := 7) (v := .ref f) B (by decide +kernel) rfl 0 (by decide) (by decide +kernel) rfl h_7 rfl dX5_put_15 ?_
  have h_8 : Φ4 f = some (ab_ G 700 (upd (upd g (4 : Int32).toNatClampNeg (vp_nar .byte (((vl >>> ((24 : Int32).toInt64 &&& 63)).toInt32).toInt8.toInt32))) (5 : Int32).toNatClampNeg (vp_nar .byte (((vl >>> ((16 : Int32).toInt64 &&& 63)).toInt32).toInt8.toInt32)))) := ((fset_fr hΦ4 (hm_ne hc1 hc0 (fun h9 => by cases h9))).trans h_5)
  refine z_alen (t := 2) (v := 700) B rfl h_8 rfl dX5_put_18 ?_
  refine z_icmp_ge (tgt := 50) B dX5_put_19 rfl (fun h9 => absurd h9 (by decide)) (fun c_6 => ?_)
  refine z_aload_n B dX5_put_22 rfl 1 rfl ?_
  refine z_get (ref := "FlowExporter$Message") (C := RX5) (T := TX5) (N := 2) (ci := 7) (v := .ref f) B (by decide +kernel) rfl 0 (by decide) (by decide +kernel) rfl h_7 rfl dX5_put_23 ?_
  refine z_aload_n B dX5_put_26 rfl 1 rfl ?_
  refine z_get (ref := "FlowExporter$Message") (C := RX5) (T := TX5) (N := 2) (ci := 7) (v := .int 6) B (by decide +kernel) rfl 1 (by decide) (by decide +kernel) rfl h_7 rfl dX5_put_27 ?_
  refine z_lload_n B dX5_put_30 rfl 2 rfl ?_
  refine z_bipush (v := 8) B dX5_put_31 rfl ?_
  refine z_iload B dX5_put_33 0 rfl ?_
  refine z_imul B dX5_put_35 ?_
  refine z_top (st1 := [.int 8, .long vl, .int 6, .ref f]) (congrArg (fun w9 : Int32 => ([.int w9, .long vl, .int 6, .ref f] : List Value)) (show (8 * 1 : Int32) = 8 by decide +kernel)) ?_
  refine z_lshr (v := vl >>> ((8 : Int32).toInt64 &&& 63)) B dX5_put_36 rfl ?_
  refine z_l2i (v := (vl >>> ((8 : Int32).toInt64 &&& 63)).toInt32) B dX5_put_37 rfl ?_
  refine z_i2b (v := ((vl >>> ((8 : Int32).toInt64 &&& 63)).toInt32).toInt8.toInt32) B dX5_put_38 rfl ?_
  refine z_bast B h_8 hna_f (vin rfl) dX5_put_39 (fun Φ5 hΦ5 => ?_)
  have h_9 : Φ5 f = some (ab_ G 700 (upd (upd (upd g (4 : Int32).toNatClampNeg (vp_nar .byte (((vl >>> ((24 : Int32).toInt64 &&& 63)).toInt32).toInt8.toInt32))) (5 : Int32).toNatClampNeg (vp_nar .byte (((vl >>> ((16 : Int32).toInt64 &&& 63)).toInt32).toInt8.toInt32))) (6 : Int32).toNatClampNeg (vp_nar .byte (((vl >>> ((8 : Int32).toInt64 &&& 63)).toInt32).toInt8.toInt32)))) := fset_at hΦ5
  refine z_aload_n B dX5_put_40 rfl 1 rfl ?_
  refine z_dup B dX5_put_41 rfl ?_
  have h_10 : Φ5 h = some (o_ 7 [.ref f, .int 6]) := ((fset_fr hΦ5 (hm_ne hc0 hc1 (fun h9 => by cases h9))).trans h_7)
  refine z_get (ref := "FlowExporter$Message") (C := RX5) (T := TX5) (N := 2) (ci := 7) (v := .int 6) B (by decide +kernel) rfl 1 (by decide) (by decide +kernel) rfl h_10 rfl dX5_put_42 ?_
  refine z_iconst (v := 1) B dX5_put_45 rfl ?_
  refine z_iadd B dX5_put_46 ?_
  refine z_top (st1 := [.int 7, .ref h]) (congrArg (fun w9 : Int32 => ([.int w9, .ref h] : List Value)) (show (6 + 1 : Int32) = 7 by decide +kernel)) ?_
  refine z_put (ref := "FlowExporter$Message") (C := RX5) (T := TX5) (N := 2) (ci := 7) (v := .int 7) B (by decide +kernel) tyX5 tyX5_ok nmX5 rfl 1 (by decide) (by decide +kernel) rfl (Or.inl rfl) h_10 hna_h rfl rfl (Nat.le_of_ble_eq_true rfl) dX5_put_47 (fun Φ6 hΦ6 => ?_)
  have h_11 : Φ6 h = some (o_ 7 [.ref f, .int 7]) := fset_at hΦ6
  refine z_iinc (k := 0) (v := 0) (lv' := [(4, .int 0), (0, .ref h), (1, .long vl), (3, .int 4)]) B dX5_put_50 rfl rfl (Nat.le_of_ble_eq_true rfl) rfl ?_
  refine z_goto (tgt := 5) B dX5_put_53 rfl ?_
  refine z_iload B dX5_put_5 0 rfl ?_
  refine z_if_lt (tgt := 56) B dX5_put_7 rfl (fun h9 => absurd h9 (by decide)) (fun c_7 => ?_)
  refine z_aload_n B dX5_put_10 rfl 1 rfl ?_
  refine z_get (ref := "FlowExporter$Message") (C := RX5) (T := TX5) (N := 2) (ci := 7) (v := .int 7) B (by decide +kernel) rfl 1 (by decide) (by decide +kernel) rfl h_11 rfl dX5_put_11 ?_
  refine z_aload_n B dX5_put_14 rfl 1 rfl ?_
  refine z_get (ref := "FlowExporter$Message") (C := RX5) (T := TX5) (N := 2) (ci := 7) (v := .ref f) B (by decide +kernel) rfl 0 (by decide) (by decide +kernel) rfl h_11 rfl dX5_put_15 ?_
  have h_12 : Φ6 f = some (ab_ G 700 (upd (upd (upd g (4 : Int32).toNatClampNeg (vp_nar .byte (((vl >>> ((24 : Int32).toInt64 &&& 63)).toInt32).toInt8.toInt32))) (5 : Int32).toNatClampNeg (vp_nar .byte (((vl >>> ((16 : Int32).toInt64 &&& 63)).toInt32).toInt8.toInt32))) (6 : Int32).toNatClampNeg (vp_nar .byte (((vl >>> ((8 : Int32).toInt64 &&& 63)).toInt32).toInt8.toInt32)))) := ((fset_fr hΦ6 (hm_ne hc1 hc0 (fun h9 => by cases h9))).trans h_9)
  refine z_alen (t := 2) (v := 700) B rfl h_12 rfl dX5_put_18 ?_
  refine z_icmp_ge (tgt := 50) B dX5_put_19 rfl (fun h9 => absurd h9 (by decide)) (fun c_8 => ?_)
  refine z_aload_n B dX5_put_22 rfl 1 rfl ?_
  refine z_get (ref := "FlowExporter$Message") (C := RX5) (T := TX5) (N := 2) (ci := 7) (v := .ref f) B (by decide +kernel) rfl 0 (by decide) (by decide +kernel) rfl h_11 rfl dX5_put_23 ?_
  refine z_aload_n B dX5_put_26 rfl 1 rfl ?_
  refine z_get (ref := "FlowExporter$Message") (C := RX5) (T := TX5) (N := 2) (ci := 7) (v := .int 7) B (by decide +kernel) rfl 1 (by decide) (by decide +kernel) rfl h_11 rfl dX5_put_27 ?_
  refine z_lload_n B dX5_put_30 rfl 2 rfl ?_
  refine z_bipush (v := 8) B dX5_put_31 rfl ?_
  refine z_iload B dX5_put_33 0 rfl ?_
  refine z_imul B dX5_put_35 ?_
  refine z_top (st1 := [.int 0, .long vl, .int 7, .ref f]) (congrArg (fun w9 : Int32 => ([.int w9, .long vl, .int 7, .ref f] : List Value)) (show (8 * 0 : Int32) = 0 by decide +kernel)) ?_
  refine z_lshr (v := vl >>> ((0 : Int32).toInt64 &&& 63)) B dX5_put_36 rfl ?_
  refine z_l2i (v := (vl >>> ((0 : Int32).toInt64 &&& 63)).toInt32) B dX5_put_37 rfl ?_
  refine z_i2b (v := ((vl >>> ((0 : Int32).toInt64 &&& 63)).toInt32).toInt8.toInt32) B dX5_put_38 rfl ?_
  refine z_bast B h_12 hna_f (vin rfl) dX5_put_39 (fun Φ7 hΦ7 => ?_)
  have h_13 : Φ7 f = some (ab_ G 700 (upd (upd (upd (upd g (4 : Int32).toNatClampNeg (vp_nar .byte (((vl >>> ((24 : Int32).toInt64 &&& 63)).toInt32).toInt8.toInt32))) (5 : Int32).toNatClampNeg (vp_nar .byte (((vl >>> ((16 : Int32).toInt64 &&& 63)).toInt32).toInt8.toInt32))) (6 : Int32).toNatClampNeg (vp_nar .byte (((vl >>> ((8 : Int32).toInt64 &&& 63)).toInt32).toInt8.toInt32))) (7 : Int32).toNatClampNeg (vp_nar .byte (((vl >>> ((0 : Int32).toInt64 &&& 63)).toInt32).toInt8.toInt32)))) := fset_at hΦ7
  refine z_aload_n B dX5_put_40 rfl 1 rfl ?_
  refine z_dup B dX5_put_41 rfl ?_
  have h_14 : Φ7 h = some (o_ 7 [.ref f, .int 7]) := ((fset_fr hΦ7 (hm_ne hc0 hc1 (fun h9 => by cases h9))).trans h_11)
  refine z_get (ref := "FlowExporter$Message") (C := RX5) (T := TX5) (N := 2) (ci := 7) (v := .int 7) B (by decide +kernel) rfl 1 (by decide) (by decide +kernel) rfl h_14 rfl dX5_put_42 ?_
  refine z_iconst (v := 1) B dX5_put_45 rfl ?_
  refine z_iadd B dX5_put_46 ?_
  refine z_top (st1 := [.int 8, .ref h]) (congrArg (fun w9 : Int32 => ([.int w9, .ref h] : List Value)) (show (7 + 1 : Int32) = 8 by decide +kernel)) ?_
  refine z_put (ref := "FlowExporter$Message") (C := RX5) (T := TX5) (N := 2) (ci := 7) (v := .int 8) B (by decide +kernel) tyX5 tyX5_ok nmX5 rfl 1 (by decide) (by decide +kernel) rfl (Or.inl rfl) h_14 hna_h rfl rfl (Nat.le_of_ble_eq_true rfl) dX5_put_47 (fun Φ8 hΦ8 => ?_)
  have h_15 : Φ8 h = some (o_ 7 [.ref f, .int 8]) := fset_at hΦ8
  refine z_iinc (k := 0) (v := (-1)) (lv' := [(4, .int (-1)), (0, .ref h), (1, .long vl), (3, .int 4)]) B dX5_put_50 rfl rfl (Nat.le_of_ble_eq_true rfl) rfl ?_
  refine z_goto (tgt := 5) B dX5_put_53 rfl ?_
  refine z_iload B dX5_put_5 0 rfl ?_
  refine z_if_lt (tgt := 56) B dX5_put_7 rfl (fun c_9 => ?_) (fun h9 => absurd (by decide) h9)
  have h_16 : Φ8 f = some (ab_ G 700 (upd (upd (upd (upd g (4 : Int32).toNatClampNeg (vp_nar .byte (((vl >>> ((24 : Int32).toInt64 &&& 63)).toInt32).toInt8.toInt32))) (5 : Int32).toNatClampNeg (vp_nar .byte (((vl >>> ((16 : Int32).toInt64 &&& 63)).toInt32).toInt8.toInt32))) (6 : Int32).toNatClampNeg (vp_nar .byte (((vl >>> ((8 : Int32).toInt64 &&& 63)).toInt32).toInt8.toInt32))) (7 : Int32).toNatClampNeg (vp_nar .byte (((vl >>> ((0 : Int32).toInt64 &&& 63)).toInt32).toInt8.toInt32)))) := ((fset_fr hΦ8 (hm_ne hc1 hc0 (fun h9 => by cases h9))).trans h_13)
  exact z_ret_v B dX5_put_56 ⟨rfl, rfl, (fun b9 h9a h9b => ((fset_fr hΦ8 h9b).trans ((fset_fr hΦ7 h9a).trans ((fset_fr hΦ6 h9b).trans ((fset_fr hΦ5 h9a).trans ((fset_fr hΦ4 h9b).trans ((fset_fr hΦ3 h9a).trans ((fset_fr hΦ2 h9b).trans ((fset_fr hΦ1 h9a).trans rfl))))))))), h_16, h_15⟩

set_option maxHeartbeats 4000000 in
set_option maxRecDepth 100000 in
theorem c_X5_put_8 (G : EnvG) (l : Launch) (Φ : Hm) (sz : Nat) (h : Nat) (f : Nat) (vl : Int64) (g : Nat → Int32) (hc0 : Φ h = some (o_ 7 [.ref f, .int 8])) (hc1 : Φ f = some (ab_ G 700 g)) (hna_h : G.2.2.2 ≤ h) (hna_f : G.2.2.2 ≤ f) : Ct G l yX5_put wsX5_put ({ frames := 0, cells := 0, slots := 0, locals := 0 }) 0 0 [.ref h, .long vl, .int 4] Φ sz (fun v Φ1 sz1 => v = none ∧ sz1 = sz ∧ (∀ b9 : Nat, b9 ≠ f → b9 ≠ h → Φ1 b9 = Φ b9) ∧ Φ1 f = some (ab_ G 700 (upd (upd (upd (upd g (8 : Int32).toNatClampNeg (vp_nar .byte (((vl >>> ((24 : Int32).toInt64 &&& 63)).toInt32).toInt8.toInt32))) (9 : Int32).toNatClampNeg (vp_nar .byte (((vl >>> ((16 : Int32).toInt64 &&& 63)).toInt32).toInt8.toInt32))) (10 : Int32).toNatClampNeg (vp_nar .byte (((vl >>> ((8 : Int32).toInt64 &&& 63)).toInt32).toInt8.toInt32))) (11 : Int32).toNatClampNeg (vp_nar .byte (((vl >>> ((0 : Int32).toInt64 &&& 63)).toInt32).toInt8.toInt32)))) ∧ Φ1 h = some (o_ 7 [.ref f, .int 12])) := by
  refine Ct.of (cc := cX5_put) (maxL := 5) (ret := none) (by decide) rfl (Nat.le_of_ble_eq_true rfl) ?_
  intro p9 e9 s9 m9 w9 t9 k9 B
  show Z p9 l e9 _ s9 m9 _ w9 t9 k9 _ G 5 0 [(0, .ref h), (1, .long vl), (3, .int 4)] [] Φ (sz) 0 0
  refine z_iload_n B dX5_put_0 rfl 2 rfl ?_
  refine z_iconst (v := 1) B dX5_put_1 rfl ?_
  refine z_isub B dX5_put_2 ?_
  refine z_top (st1 := [.int 3]) (congrArg (fun w9 : Int32 => ([.int w9] : List Value)) (show (4 - 1 : Int32) = 3 by decide +kernel)) ?_
  refine z_istore (lv' := [(4, .int 3), (0, .ref h), (1, .long vl), (3, .int 4)]) B dX5_put_3 (Nat.le_of_ble_eq_true rfl) rfl ?_
  refine z_iload B dX5_put_5 0 rfl ?_
  refine z_if_lt (tgt := 56) B dX5_put_7 rfl (fun h9 => absurd h9 (by decide)) (fun c_1 => ?_)
  refine z_aload_n B dX5_put_10 rfl 1 rfl ?_
  refine z_get (ref := "FlowExporter$Message") (C := RX5) (T := TX5) (N := 2) (ci := 7) (v := .int 8) B (by decide +kernel) rfl 1 (by decide) (by decide +kernel) rfl hc0 rfl dX5_put_11 ?_
  refine z_aload_n B dX5_put_14 rfl 1 rfl ?_
  refine z_get (ref := "FlowExporter$Message") (C := RX5) (T := TX5) (N := 2) (ci := 7) (v := .ref f) B (by decide +kernel) rfl 0 (by decide) (by decide +kernel) rfl hc0 rfl dX5_put_15 ?_
  refine z_alen (t := 2) (v := 700) B rfl hc1 rfl dX5_put_18 ?_
  refine z_icmp_ge (tgt := 50) B dX5_put_19 rfl (fun h9 => absurd h9 (by decide)) (fun c_2 => ?_)
  refine z_aload_n B dX5_put_22 rfl 1 rfl ?_
  refine z_get (ref := "FlowExporter$Message") (C := RX5) (T := TX5) (N := 2) (ci := 7) (v := .ref f) B (by decide +kernel) rfl 0 (by decide) (by decide +kernel) rfl hc0 rfl dX5_put_23 ?_
  refine z_aload_n B dX5_put_26 rfl 1 rfl ?_
  refine z_get (ref := "FlowExporter$Message") (C := RX5) (T := TX5) (N := 2) (ci := 7) (v := .int 8) B (by decide +kernel) rfl 1 (by decide) (by decide +kernel) rfl hc0 rfl dX5_put_27 ?_
  refine z_lload_n B dX5_put_30 rfl 2 rfl ?_
  refine z_bipush (v := 8) B dX5_put_31 rfl ?_
  refine z_iload B dX5_put_33 0 rfl ?_
  refine z_imul B dX5_put_35 ?_
  refine z_top (st1 := [.int 24, .long vl, .int 8, .ref f]) (congrArg (fun w9 : Int32 => ([.int w9, .long vl, .int 8, .ref f] : List Value)) (show (8 * 3 : Int32) = 24 by decide +kernel)) ?_
  refine z_lshr (v := vl >>> ((24 : Int32).toInt64 &&& 63)) B dX5_put_36 rfl ?_
  refine z_l2i (v := (vl >>> ((24 : Int32).toInt64 &&& 63)).toInt32) B dX5_put_37 rfl ?_
  refine z_i2b (v := ((vl >>> ((24 : Int32).toInt64 &&& 63)).toInt32).toInt8.toInt32) B dX5_put_38 rfl ?_
  refine z_bast B hc1 hna_f (vin rfl) dX5_put_39 (fun Φ1 hΦ1 => ?_)
  have h_1 : Φ1 f = some (ab_ G 700 (upd g (8 : Int32).toNatClampNeg (vp_nar .byte (((vl >>> ((24 : Int32).toInt64 &&& 63)).toInt32).toInt8.toInt32)))) := fset_at hΦ1
  refine z_aload_n B dX5_put_40 rfl 1 rfl ?_
  refine z_dup B dX5_put_41 rfl ?_
  have h_2 : Φ1 h = some (o_ 7 [.ref f, .int 8]) := ((fset_fr hΦ1 (hm_ne hc0 hc1 (fun h9 => by cases h9))).trans hc0)
  refine z_get (ref := "FlowExporter$Message") (C := RX5) (T := TX5) (N := 2) (ci := 7) (v := .int 8) B (by decide +kernel) rfl 1 (by decide) (by decide +kernel) rfl h_2 rfl dX5_put_42 ?_
  refine z_iconst (v := 1) B dX5_put_45 rfl ?_
  refine z_iadd B dX5_put_46 ?_
  refine z_top (st1 := [.int 9, .ref h]) (congrArg (fun w9 : Int32 => ([.int w9, .ref h] : List Value)) (show (8 + 1 : Int32) = 9 by decide +kernel)) ?_
  refine z_put (ref := "FlowExporter$Message") (C := RX5) (T := TX5) (N := 2) (ci := 7) (v := .int 9) B (by decide +kernel) tyX5 tyX5_ok nmX5 rfl 1 (by decide) (by decide +kernel) rfl (Or.inl rfl) h_2 hna_h rfl rfl (Nat.le_of_ble_eq_true rfl) dX5_put_47 (fun Φ2 hΦ2 => ?_)
  have h_3 : Φ2 h = some (o_ 7 [.ref f, .int 9]) := fset_at hΦ2
  refine z_iinc (k := 0) (v := 2) (lv' := [(4, .int 2), (0, .ref h), (1, .long vl), (3, .int 4)]) B dX5_put_50 rfl rfl (Nat.le_of_ble_eq_true rfl) rfl ?_
  refine z_goto (tgt := 5) B dX5_put_53 rfl ?_
  refine z_iload B dX5_put_5 0 rfl ?_
  refine z_if_lt (tgt := 56) B dX5_put_7 rfl (fun h9 => absurd h9 (by decide)) (fun c_3 => ?_)
  refine z_aload_n B dX5_put_10 rfl 1 rfl ?_
  refine z_get (ref := "FlowExporter$Message") (C := RX5) (T := TX5) (N := 2) (ci := 7) (v := .int 9) B (by decide +kernel) rfl 1 (by decide) (by decide +kernel) rfl h_3 rfl dX5_put_11 ?_
  refine z_aload_n B dX5_put_14 rfl 1 rfl ?_
  refine z_get (ref := "FlowExporter$Message") (C := RX5) (T := TX5) (N := 2) (ci := 7) (v := .ref f) B (by decide +kernel) rfl 0 (by decide) (by decide +kernel) rfl h_3 rfl dX5_put_15 ?_
  have h_4 : Φ2 f = some (ab_ G 700 (upd g (8 : Int32).toNatClampNeg (vp_nar .byte (((vl >>> ((24 : Int32).toInt64 &&& 63)).toInt32).toInt8.toInt32)))) := ((fset_fr hΦ2 (hm_ne hc1 hc0 (fun h9 => by cases h9))).trans h_1)
  refine z_alen (t := 2) (v := 700) B rfl h_4 rfl dX5_put_18 ?_
  refine z_icmp_ge (tgt := 50) B dX5_put_19 rfl (fun h9 => absurd h9 (by decide)) (fun c_4 => ?_)
  refine z_aload_n B dX5_put_22 rfl 1 rfl ?_
  refine z_get (ref := "FlowExporter$Message") (C := RX5) (T := TX5) (N := 2) (ci := 7) (v := .ref f) B (by decide +kernel) rfl 0 (by decide) (by decide +kernel) rfl h_3 rfl dX5_put_23 ?_
  refine z_aload_n B dX5_put_26 rfl 1 rfl ?_
  refine z_get (ref := "FlowExporter$Message") (C := RX5) (T := TX5) (N := 2) (ci := 7) (v := .int 9) B (by decide +kernel) rfl 1 (by decide) (by decide +kernel) rfl h_3 rfl dX5_put_27 ?_
  refine z_lload_n B dX5_put_30 rfl 2 rfl ?_
  refine z_bipush (v := 8) B dX5_put_31 rfl ?_
  refine z_iload B dX5_put_33 0 rfl ?_
  refine z_imul B dX5_put_35 ?_
  refine z_top (st1 := [.int 16, .long vl, .int 9, .ref f]) (congrArg (fun w9 : Int32 => ([.int w9, .long vl, .int 9, .ref f] : List Value)) (show (8 * 2 : Int32) = 16 by decide +kernel)) ?_
  refine z_lshr (v := vl >>> ((16 : Int32).toInt64 &&& 63)) B dX5_put_36 rfl ?_
  refine z_l2i (v := (vl >>> ((16 : Int32).toInt64 &&& 63)).toInt32) B dX5_put_37 rfl ?_
  refine z_i2b (v := ((vl >>> ((16 : Int32).toInt64 &&& 63)).toInt32).toInt8.toInt32) B dX5_put_38 rfl ?_
  refine z_bast B h_4 hna_f (vin rfl) dX5_put_39 (fun Φ3 hΦ3 => ?_)
  have h_5 : Φ3 f = some (ab_ G 700 (upd (upd g (8 : Int32).toNatClampNeg (vp_nar .byte (((vl >>> ((24 : Int32).toInt64 &&& 63)).toInt32).toInt8.toInt32))) (9 : Int32).toNatClampNeg (vp_nar .byte (((vl >>> ((16 : Int32).toInt64 &&& 63)).toInt32).toInt8.toInt32)))) := fset_at hΦ3
  refine z_aload_n B dX5_put_40 rfl 1 rfl ?_
  refine z_dup B dX5_put_41 rfl ?_
  have h_6 : Φ3 h = some (o_ 7 [.ref f, .int 9]) := ((fset_fr hΦ3 (hm_ne hc0 hc1 (fun h9 => by cases h9))).trans h_3)
  refine z_get (ref := "FlowExporter$Message") (C := RX5) (T := TX5) (N := 2) (ci := 7) (v := .int 9) B (by decide +kernel) rfl 1 (by decide) (by decide +kernel) rfl h_6 rfl dX5_put_42 ?_
  refine z_iconst (v := 1) B dX5_put_45 rfl ?_
  refine z_iadd B dX5_put_46 ?_
  refine z_top (st1 := [.int 10, .ref h]) (congrArg (fun w9 : Int32 => ([.int w9, .ref h] : List Value)) (show (9 + 1 : Int32) = 10 by decide +kernel)) ?_
  refine z_put (ref := "FlowExporter$Message") (C := RX5) (T := TX5) (N := 2) (ci := 7) (v := .int 10) B (by decide +kernel) tyX5 tyX5_ok nmX5 rfl 1 (by decide) (by decide +kernel) rfl (Or.inl rfl) h_6 hna_h rfl rfl (Nat.le_of_ble_eq_true rfl) dX5_put_47 (fun Φ4 hΦ4 => ?_)
  have h_7 : Φ4 h = some (o_ 7 [.ref f, .int 10]) := fset_at hΦ4
  refine z_iinc (k := 0) (v := 1) (lv' := [(4, .int 1), (0, .ref h), (1, .long vl), (3, .int 4)]) B dX5_put_50 rfl rfl (Nat.le_of_ble_eq_true rfl) rfl ?_
  refine z_goto (tgt := 5) B dX5_put_53 rfl ?_
  refine z_iload B dX5_put_5 0 rfl ?_
  refine z_if_lt (tgt := 56) B dX5_put_7 rfl (fun h9 => absurd h9 (by decide)) (fun c_5 => ?_)
  refine z_aload_n B dX5_put_10 rfl 1 rfl ?_
  refine z_get (ref := "FlowExporter$Message") (C := RX5) (T := TX5) (N := 2) (ci := 7) (v := .int 10) B (by decide +kernel) rfl 1 (by decide) (by decide +kernel) rfl h_7 rfl dX5_put_11 ?_
  refine z_aload_n B dX5_put_14 rfl 1 rfl ?_
  refine z_get (ref := "FlowExporter$Message") (C := RX5) (T := TX5) (N := 2) (ci := 7) (v := .ref f) B (by decide +kernel) rfl 0 (by decide) (by decide +kernel) rfl h_7 rfl dX5_put_15 ?_
  have h_8 : Φ4 f = some (ab_ G 700 (upd (upd g (8 : Int32).toNatClampNeg (vp_nar .byte (((vl >>> ((24 : Int32).toInt64 &&& 63)).toInt32).toInt8.toInt32))) (9 : Int32).toNatClampNeg (vp_nar .byte (((vl >>> ((16 : Int32).toInt64 &&& 63)).toInt32).toInt8.toInt32)))) := ((fset_fr hΦ4 (hm_ne hc1 hc0 (fun h9 => by cases h9))).trans h_5)
  refine z_alen (t := 2) (v := 700) B rfl h_8 rfl dX5_put_18 ?_
  refine z_icmp_ge (tgt := 50) B dX5_put_19 rfl (fun h9 => absurd h9 (by decide)) (fun c_6 => ?_)
  refine z_aload_n B dX5_put_22 rfl 1 rfl ?_
  refine z_get (ref := "FlowExporter$Message") (C := RX5) (T := TX5) (N := 2) (ci := 7) (v := .ref f) B (by decide +kernel) rfl 0 (by decide) (by decide +kernel) rfl h_7 rfl dX5_put_23 ?_
  refine z_aload_n B dX5_put_26 rfl 1 rfl ?_
  refine z_get (ref := "FlowExporter$Message") (C := RX5) (T := TX5) (N := 2) (ci := 7) (v := .int 10) B (by decide +kernel) rfl 1 (by decide) (by decide +kernel) rfl h_7 rfl dX5_put_27 ?_
  refine z_lload_n B dX5_put_30 rfl 2 rfl ?_
  refine z_bipush (v := 8) B dX5_put_31 rfl ?_
  refine z_iload B dX5_put_33 0 rfl ?_
  refine z_imul B dX5_put_35 ?_
  refine z_top (st1 := [.int 8, .long vl, .int 10, .ref f]) (congrArg (fun w9 : Int32 => ([.int w9, .long vl, .int 10, .ref f] : List Value)) (show (8 * 1 : Int32) = 8 by decide +kernel)) ?_
  refine z_lshr (v := vl >>> ((8 : Int32).toInt64 &&& 63)) B dX5_put_36 rfl ?_
  refine z_l2i (v := (vl >>> ((8 : Int32).toInt64 &&& 63)).toInt32) B dX5_put_37 rfl ?_
  refine z_i2b (v := ((vl >>> ((8 : Int32).toInt64 &&& 63)).toInt32).toInt8.toInt32) B dX5_put_38 rfl ?_
  refine z_bast B h_8 hna_f (vin rfl) dX5_put_39 (fun Φ5 hΦ5 => ?_)
  have h_9 : Φ5 f = some (ab_ G 700 (upd (upd (upd g (8 : Int32).toNatClampNeg (vp_nar .byte (((vl >>> ((24 : Int32).toInt64 &&& 63)).toInt32).toInt8.toInt32))) (9 : Int32).toNatClampNeg (vp_nar .byte (((vl >>> ((16 : Int32).toInt64 &&& 63)).toInt32).toInt8.toInt32))) (10 : Int32).toNatClampNeg (vp_nar .byte (((vl >>> ((8 : Int32).toInt64 &&& 63)).toInt32).toInt8.toInt32)))) := fset_at hΦ5
  refine z_aload_n B dX5_put_40 rfl 1 rfl ?_
  refine z_dup B dX5_put_41 rfl ?_
  have h_10 : Φ5 h = some (o_ 7 [.ref f, .int 10]) := ((fset_fr hΦ5 (hm_ne hc0 hc1 (fun h9 => by cases h9))).trans h_7)
  refine z_get (ref := "FlowExporter$Message") (C := RX5) (T := TX5) (N := 2) (ci := 7) (v := .int 10) B (by decide +kernel) rfl 1 (by decide) (by decide +kernel) rfl h_10 rfl dX5_put_42 ?_
  refine z_iconst (v := 1) B dX5_put_45 rfl ?_
  refine z_iadd B dX5_put_46 ?_
  refine z_top (st1 := [.int 11, .ref h]) (congrArg (fun w9 : Int32 => ([.int w9, .ref h] : List Value)) (show (10 + 1 : Int32) = 11 by decide +kernel)) ?_
  refine z_put (ref := "FlowExporter$Message") (C := RX5) (T := TX5) (N := 2) (ci := 7) (v := .int 11) B (by decide +kernel) tyX5 tyX5_ok nmX5 rfl 1 (by decide) (by decide +kernel) rfl (Or.inl rfl) h_10 hna_h rfl rfl (Nat.le_of_ble_eq_true rfl) dX5_put_47 (fun Φ6 hΦ6 => ?_)
  have h_11 : Φ6 h = some (o_ 7 [.ref f, .int 11]) := fset_at hΦ6
  refine z_iinc (k := 0) (v := 0) (lv' := [(4, .int 0), (0, .ref h), (1, .long vl), (3, .int 4)]) B dX5_put_50 rfl rfl (Nat.le_of_ble_eq_true rfl) rfl ?_
  refine z_goto (tgt := 5) B dX5_put_53 rfl ?_
  refine z_iload B dX5_put_5 0 rfl ?_
  refine z_if_lt (tgt := 56) B dX5_put_7 rfl (fun h9 => absurd h9 (by decide)) (fun c_7 => ?_)
  refine z_aload_n B dX5_put_10 rfl 1 rfl ?_
  refine z_get (ref := "FlowExporter$Message") (C := RX5) (T := TX5) (N := 2) (ci := 7) (v := .int 11) B (by decide +kernel) rfl 1 (by decide) (by decide +kernel) rfl h_11 rfl dX5_put_11 ?_
  refine z_aload_n B dX5_put_14 rfl 1 rfl ?_
  refine z_get (ref := "FlowExporter$Message") (C := RX5) (T := TX5) (N := 2) (ci := 7) (v := .ref f) B (by decide +kernel) rfl 0 (by decide) (by decide +kernel) rfl h_11 rfl dX5_put_15 ?_
  have h_12 : Φ6 f = some (ab_ G 700 (upd (upd (upd g (8 : Int32).toNatClampNeg (vp_nar .byte (((vl >>> ((24 : Int32).toInt64 &&& 63)).toInt32).toInt8.toInt32))) (9 : Int32).toNatClampNeg (vp_nar .byte (((vl >>> ((16 : Int32).toInt64 &&& 63)).toInt32).toInt8.toInt32))) (10 : Int32).toNatClampNeg (vp_nar .byte (((vl >>> ((8 : Int32).toInt64 &&& 63)).toInt32).toInt8.toInt32)))) := ((fset_fr hΦ6 (hm_ne hc1 hc0 (fun h9 => by cases h9))).trans h_9)
  refine z_alen (t := 2) (v := 700) B rfl h_12 rfl dX5_put_18 ?_
  refine z_icmp_ge (tgt := 50) B dX5_put_19 rfl (fun h9 => absurd h9 (by decide)) (fun c_8 => ?_)
  refine z_aload_n B dX5_put_22 rfl 1 rfl ?_
  refine z_get (ref := "FlowExporter$Message") (C := RX5) (T := TX5) (N := 2) (ci := 7) (v := .ref f) B (by decide +kernel) rfl 0 (by decide) (by decide +kernel) rfl h_11 rfl dX5_put_23 ?_
  refine z_aload_n B dX5_put_26 rfl 1 rfl ?_
  refine z_get (ref := "FlowExporter$Message") (C := RX5) (T := TX5) (N := 2) (ci := 7) (v := .int 11) B (by decide +kernel) rfl 1 (by decide) (by decide +kernel) rfl h_11 rfl dX5_put_27 ?_
  refine z_lload_n B dX5_put_30 rfl 2 rfl ?_
  refine z_bipush (v := 8) B dX5_put_31 rfl ?_
  refine z_iload B dX5_put_33 0 rfl ?_
  refine z_imul B dX5_put_35 ?_
  refine z_top (st1 := [.int 0, .long vl, .int 11, .ref f]) (congrArg (fun w9 : Int32 => ([.int w9, .long vl, .int 11, .ref f] : List Value)) (show (8 * 0 : Int32) = 0 by decide +kernel)) ?_
  refine z_lshr (v := vl >>> ((0 : Int32).toInt64 &&& 63)) B dX5_put_36 rfl ?_
  refine z_l2i (v := (vl >>> ((0 : Int32).toInt64 &&& 63)).toInt32) B dX5_put_37 rfl ?_
  refine z_i2b (v := ((vl >>> ((0 : Int32).toInt64 &&& 63)).toInt32).toInt8.toInt32) B dX5_put_38 rfl ?_
  refine z_bast B h_12 hna_f (vin rfl) dX5_put_39 (fun Φ7 hΦ7 => ?_)
  have h_13 : Φ7 f = some (ab_ G 700 (upd (upd (upd (upd g (8 : Int32).toNatClampNeg (vp_nar .byte (((vl >>> ((24 : Int32).toInt64 &&& 63)).toInt32).toInt8.toInt32))) (9 : Int32).toNatClampNeg (vp_nar .byte (((vl >>> ((16 : Int32).toInt64 &&& 63)).toInt32).toInt8.toInt32))) (10 : Int32).toNatClampNeg (vp_nar .byte (((vl >>> ((8 : Int32).toInt64 &&& 63)).toInt32).toInt8.toInt32))) (11 : Int32).toNatClampNeg (vp_nar .byte (((vl >>> ((0 : Int32).toInt64 &&& 63)).toInt32).toInt8.toInt32)))) := fset_at hΦ7
  refine z_aload_n B dX5_put_40 rfl 1 rfl ?_
  refine z_dup B dX5_put_41 rfl ?_
  have h_14 : Φ7 h = some (o_ 7 [.ref f, .int 11]) := ((fset_fr hΦ7 (hm_ne hc0 hc1 (fun h9 => by cases h9))).trans h_11)
  refine z_get (ref := "FlowExporter$Message") (C := RX5) (T := TX5) (N := 2) (ci := 7) (v := .int 11) B (by decide +kernel) rfl 1 (by decide) (by decide +kernel) rfl h_14 rfl dX5_put_42 ?_
  refine z_iconst (v := 1) B dX5_put_45 rfl ?_
  refine z_iadd B dX5_put_46 ?_
  refine z_top (st1 := [.int 12, .ref h]) (congrArg (fun w9 : Int32 => ([.int w9, .ref h] : List Value)) (show (11 + 1 : Int32) = 12 by decide +kernel)) ?_
  refine z_put (ref := "FlowExporter$Message") (C := RX5) (T := TX5) (N := 2) (ci := 7) (v := .int 12) B (by decide +kernel) tyX5 tyX5_ok nmX5 rfl 1 (by decide) (by decide +kernel) rfl (Or.inl rfl) h_14 hna_h rfl rfl (Nat.le_of_ble_eq_true rfl) dX5_put_47 (fun Φ8 hΦ8 => ?_)
  have h_15 : Φ8 h = some (o_ 7 [.ref f, .int 12]) := fset_at hΦ8
  refine z_iinc (k := 0) (v := (-1)) (lv' := [(4, .int (-1)), (0, .ref h), (1, .long vl), (3, .int 4)]) B dX5_put_50 rfl rfl (Nat.le_of_ble_eq_true rfl) rfl ?_
  refine z_goto (tgt := 5) B dX5_put_53 rfl ?_
  refine z_iload B dX5_put_5 0 rfl ?_
  refine z_if_lt (tgt := 56) B dX5_put_7 rfl (fun c_9 => ?_) (fun h9 => absurd (by decide) h9)
  have h_16 : Φ8 f = some (ab_ G 700 (upd (upd (upd (upd g (8 : Int32).toNatClampNeg (vp_nar .byte (((vl >>> ((24 : Int32).toInt64 &&& 63)).toInt32).toInt8.toInt32))) (9 : Int32).toNatClampNeg (vp_nar .byte (((vl >>> ((16 : Int32).toInt64 &&& 63)).toInt32).toInt8.toInt32))) (10 : Int32).toNatClampNeg (vp_nar .byte (((vl >>> ((8 : Int32).toInt64 &&& 63)).toInt32).toInt8.toInt32))) (11 : Int32).toNatClampNeg (vp_nar .byte (((vl >>> ((0 : Int32).toInt64 &&& 63)).toInt32).toInt8.toInt32)))) := ((fset_fr hΦ8 (hm_ne hc1 hc0 (fun h9 => by cases h9))).trans h_13)
  exact z_ret_v B dX5_put_56 ⟨rfl, rfl, (fun b9 h9a h9b => ((fset_fr hΦ8 h9b).trans ((fset_fr hΦ7 h9a).trans ((fset_fr hΦ6 h9b).trans ((fset_fr hΦ5 h9a).trans ((fset_fr hΦ4 h9b).trans ((fset_fr hΦ3 h9a).trans ((fset_fr hΦ2 h9b).trans ((fset_fr hΦ1 h9a).trans rfl))))))))), h_16, h_15⟩

set_option maxHeartbeats 4000000 in
set_option maxRecDepth 100000 in
theorem c_X5_put_12 (G : EnvG) (l : Launch) (Φ : Hm) (sz : Nat) (h : Nat) (f : Nat) (vl : Int64) (g : Nat → Int32) (hc0 : Φ h = some (o_ 7 [.ref f, .int 12])) (hc1 : Φ f = some (ab_ G 700 g)) (hna_h : G.2.2.2 ≤ h) (hna_f : G.2.2.2 ≤ f) : Ct G l yX5_put wsX5_put ({ frames := 0, cells := 0, slots := 0, locals := 0 }) 0 0 [.ref h, .long vl, .int 4] Φ sz (fun v Φ1 sz1 => v = none ∧ sz1 = sz ∧ (∀ b9 : Nat, b9 ≠ f → b9 ≠ h → Φ1 b9 = Φ b9) ∧ Φ1 f = some (ab_ G 700 (upd (upd (upd (upd g (12 : Int32).toNatClampNeg (vp_nar .byte (((vl >>> ((24 : Int32).toInt64 &&& 63)).toInt32).toInt8.toInt32))) (13 : Int32).toNatClampNeg (vp_nar .byte (((vl >>> ((16 : Int32).toInt64 &&& 63)).toInt32).toInt8.toInt32))) (14 : Int32).toNatClampNeg (vp_nar .byte (((vl >>> ((8 : Int32).toInt64 &&& 63)).toInt32).toInt8.toInt32))) (15 : Int32).toNatClampNeg (vp_nar .byte (((vl >>> ((0 : Int32).toInt64 &&& 63)).toInt32).toInt8.toInt32)))) ∧ Φ1 h = some (o_ 7 [.ref f, .int 16])) := by
  refine Ct.of (cc := cX5_put) (maxL := 5) (ret := none) (by decide) rfl (Nat.le_of_ble_eq_true rfl) ?_
  intro p9 e9 s9 m9 w9 t9 k9 B
  show Z p9 l e9 _ s9 m9 _ w9 t9 k9 _ G 5 0 [(0, .ref h), (1, .long vl), (3, .int 4)] [] Φ (sz) 0 0
  refine z_iload_n B dX5_put_0 rfl 2 rfl ?_
  refine z_iconst (v := 1) B dX5_put_1 rfl ?_
  refine z_isub B dX5_put_2 ?_
  refine z_top (st1 := [.int 3]) (congrArg (fun w9 : Int32 => ([.int w9] : List Value)) (show (4 - 1 : Int32) = 3 by decide +kernel)) ?_
  refine z_istore (lv' := [(4, .int 3), (0, .ref h), (1, .long vl), (3, .int 4)]) B dX5_put_3 (Nat.le_of_ble_eq_true rfl) rfl ?_
  refine z_iload B dX5_put_5 0 rfl ?_
  refine z_if_lt (tgt := 56) B dX5_put_7 rfl (fun h9 => absurd h9 (by decide)) (fun c_1 => ?_)
  refine z_aload_n B dX5_put_10 rfl 1 rfl ?_
  refine z_get (ref := "FlowExporter$Message") (C := RX5) (T := TX5) (N := 2) (ci := 7) (v := .int 12) B (by decide +kernel) rfl 1 (by decide) (by decide +kernel) rfl hc0 rfl dX5_put_11 ?_
  refine z_aload_n B dX5_put_14 rfl 1 rfl ?_
  refine z_get (ref := "FlowExporter$Message") (C := RX5) (T := TX5) (N := 2) (ci := 7) (v := .ref f) B (by decide +kernel) rfl 0 (by decide) (by decide +kernel) rfl hc0 rfl dX5_put_15 ?_
  refine z_alen (t := 2) (v := 700) B rfl hc1 rfl dX5_put_18 ?_
  refine z_icmp_ge (tgt := 50) B dX5_put_19 rfl (fun h9 => absurd h9 (by decide)) (fun c_2 => ?_)
  refine z_aload_n B dX5_put_22 rfl 1 rfl ?_
  refine z_get (ref := "FlowExporter$Message") (C := RX5) (T := TX5) (N := 2) (ci := 7) (v := .ref f) B (by decide +kernel) rfl 0 (by decide) (by decide +kernel) rfl hc0 rfl dX5_put_23 ?_
  refine z_aload_n B dX5_put_26 rfl 1 rfl ?_
  refine z_get (ref := "FlowExporter$Message") (C := RX5) (T := TX5) (N := 2) (ci := 7) (v := .int 12) B (by decide +kernel) rfl 1 (by decide) (by decide +kernel) rfl hc0 rfl dX5_put_27 ?_
  refine z_lload_n B dX5_put_30 rfl 2 rfl ?_
  refine z_bipush (v := 8) B dX5_put_31 rfl ?_
  refine z_iload B dX5_put_33 0 rfl ?_
  refine z_imul B dX5_put_35 ?_
  refine z_top (st1 := [.int 24, .long vl, .int 12, .ref f]) (congrArg (fun w9 : Int32 => ([.int w9, .long vl, .int 12, .ref f] : List Value)) (show (8 * 3 : Int32) = 24 by decide +kernel)) ?_
  refine z_lshr (v := vl >>> ((24 : Int32).toInt64 &&& 63)) B dX5_put_36 rfl ?_
  refine z_l2i (v := (vl >>> ((24 : Int32).toInt64 &&& 63)).toInt32) B dX5_put_37 rfl ?_
  refine z_i2b (v := ((vl >>> ((24 : Int32).toInt64 &&& 63)).toInt32).toInt8.toInt32) B dX5_put_38 rfl ?_
  refine z_bast B hc1 hna_f (vin rfl) dX5_put_39 (fun Φ1 hΦ1 => ?_)
  have h_1 : Φ1 f = some (ab_ G 700 (upd g (12 : Int32).toNatClampNeg (vp_nar .byte (((vl >>> ((24 : Int32).toInt64 &&& 63)).toInt32).toInt8.toInt32)))) := fset_at hΦ1
  refine z_aload_n B dX5_put_40 rfl 1 rfl ?_
  refine z_dup B dX5_put_41 rfl ?_
  have h_2 : Φ1 h = some (o_ 7 [.ref f, .int 12]) := ((fset_fr hΦ1 (hm_ne hc0 hc1 (fun h9 => by cases h9))).trans hc0)
  refine z_get (ref := "FlowExporter$Message") (C := RX5) (T := TX5) (N := 2) (ci := 7) (v := .int 12) B (by decide +kernel) rfl 1 (by decide) (by decide +kernel) rfl h_2 rfl dX5_put_42 ?_
  refine z_iconst (v := 1) B dX5_put_45 rfl ?_
  refine z_iadd B dX5_put_46 ?_
  refine z_top (st1 := [.int 13, .ref h]) (congrArg (fun w9 : Int32 => ([.int w9, .ref h] : List Value)) (show (12 + 1 : Int32) = 13 by decide +kernel)) ?_
  refine z_put (ref := "FlowExporter$Message") (C := RX5) (T := TX5) (N := 2) (ci := 7) (v := .int 13) B (by decide +kernel) tyX5 tyX5_ok nmX5 rfl 1 (by decide) (by decide +kernel) rfl (Or.inl rfl) h_2 hna_h rfl rfl (Nat.le_of_ble_eq_true rfl) dX5_put_47 (fun Φ2 hΦ2 => ?_)
  have h_3 : Φ2 h = some (o_ 7 [.ref f, .int 13]) := fset_at hΦ2
  refine z_iinc (k := 0) (v := 2) (lv' := [(4, .int 2), (0, .ref h), (1, .long vl), (3, .int 4)]) B dX5_put_50 rfl rfl (Nat.le_of_ble_eq_true rfl) rfl ?_
  refine z_goto (tgt := 5) B dX5_put_53 rfl ?_
  refine z_iload B dX5_put_5 0 rfl ?_
  refine z_if_lt (tgt := 56) B dX5_put_7 rfl (fun h9 => absurd h9 (by decide)) (fun c_3 => ?_)
  refine z_aload_n B dX5_put_10 rfl 1 rfl ?_
  refine z_get (ref := "FlowExporter$Message") (C := RX5) (T := TX5) (N := 2) (ci := 7) (v := .int 13) B (by decide +kernel) rfl 1 (by decide) (by decide +kernel) rfl h_3 rfl dX5_put_11 ?_
  refine z_aload_n B dX5_put_14 rfl 1 rfl ?_
  refine z_get (ref := "FlowExporter$Message") (C := RX5) (T := TX5) (N := 2) (ci := 7) (v := .ref f) B (by decide +kernel) rfl 0 (by decide) (by decide +kernel) rfl h_3 rfl dX5_put_15 ?_
  have h_4 : Φ2 f = some (ab_ G 700 (upd g (12 : Int32).toNatClampNeg (vp_nar .byte (((vl >>> ((24 : Int32).toInt64 &&& 63)).toInt32).toInt8.toInt32)))) := ((fset_fr hΦ2 (hm_ne hc1 hc0 (fun h9 => by cases h9))).trans h_1)
  refine z_alen (t := 2) (v := 700) B rfl h_4 rfl dX5_put_18 ?_
  refine z_icmp_ge (tgt := 50) B dX5_put_19 rfl (fun h9 => absurd h9 (by decide)) (fun c_4 => ?_)
  refine z_aload_n B dX5_put_22 rfl 1 rfl ?_
  refine z_get (ref := "FlowExporter$Message") (C := RX5) (T := TX5) (N := 2) (ci := 7) (v := .ref f) B (by decide +kernel) rfl 0 (by decide) (by decide +kernel) rfl h_3 rfl dX5_put_23 ?_
  refine z_aload_n B dX5_put_26 rfl 1 rfl ?_
  refine z_get (ref := "FlowExporter$Message") (C := RX5) (T := TX5) (N := 2) (ci := 7) (v := .int 13) B (by decide +kernel) rfl 1 (by decide) (by decide +kernel) rfl h_3 rfl dX5_put_27 ?_
  refine z_lload_n B dX5_put_30 rfl 2 rfl ?_
  refine z_bipush (v := 8) B dX5_put_31 rfl ?_
  refine z_iload B dX5_put_33 0 rfl ?_
  refine z_imul B dX5_put_35 ?_
  refine z_top (st1 := [.int 16, .long vl, .int 13, .ref f]) (congrArg (fun w9 : Int32 => ([.int w9, .long vl, .int 13, .ref f] : List Value)) (show (8 * 2 : Int32) = 16 by decide +kernel)) ?_
  refine z_lshr (v := vl >>> ((16 : Int32).toInt64 &&& 63)) B dX5_put_36 rfl ?_
  refine z_l2i (v := (vl >>> ((16 : Int32).toInt64 &&& 63)).toInt32) B dX5_put_37 rfl ?_
  refine z_i2b (v := ((vl >>> ((16 : Int32).toInt64 &&& 63)).toInt32).toInt8.toInt32) B dX5_put_38 rfl ?_
  refine z_bast B h_4 hna_f (vin rfl) dX5_put_39 (fun Φ3 hΦ3 => ?_)
  have h_5 : Φ3 f = some (ab_ G 700 (upd (upd g (12 : Int32).toNatClampNeg (vp_nar .byte (((vl >>> ((24 : Int32).toInt64 &&& 63)).toInt32).toInt8.toInt32))) (13 : Int32).toNatClampNeg (vp_nar .byte (((vl >>> ((16 : Int32).toInt64 &&& 63)).toInt32).toInt8.toInt32)))) := fset_at hΦ3
  refine z_aload_n B dX5_put_40 rfl 1 rfl ?_
  refine z_dup B dX5_put_41 rfl ?_
  have h_6 : Φ3 h = some (o_ 7 [.ref f, .int 13]) := ((fset_fr hΦ3 (hm_ne hc0 hc1 (fun h9 => by cases h9))).trans h_3)
  refine z_get (ref := "FlowExporter$Message") (C := RX5) (T := TX5) (N := 2) (ci := 7) (v := .int 13) B (by decide +kernel) rfl 1 (by decide) (by decide +kernel) rfl h_6 rfl dX5_put_42 ?_
  refine z_iconst (v := 1) B dX5_put_45 rfl ?_
  refine z_iadd B dX5_put_46 ?_
  refine z_top (st1 := [.int 14, .ref h]) (congrArg (fun w9 : Int32 => ([.int w9, .ref h] : List Value)) (show (13 + 1 : Int32) = 14 by decide +kernel)) ?_
  refine z_put (ref := "FlowExporter$Message") (C := RX5) (T := TX5) (N := 2) (ci := 7) (v := .int 14) B (by decide +kernel) tyX5 tyX5_ok nmX5 rfl 1 (by decide) (by decide +kernel) rfl (Or.inl rfl) h_6 hna_h rfl rfl (Nat.le_of_ble_eq_true rfl) dX5_put_47 (fun Φ4 hΦ4 => ?_)
  have h_7 : Φ4 h = some (o_ 7 [.ref f, .int 14]) := fset_at hΦ4
  refine z_iinc (k := 0) (v := 1) (lv' := [(4, .int 1), (0, .ref h), (1, .long vl), (3, .int 4)]) B dX5_put_50 rfl rfl (Nat.le_of_ble_eq_true rfl) rfl ?_
  refine z_goto (tgt := 5) B dX5_put_53 rfl ?_
  refine z_iload B dX5_put_5 0 rfl ?_
  refine z_if_lt (tgt := 56) B dX5_put_7 rfl (fun h9 => absurd h9 (by decide)) (fun c_5 => ?_)
  refine z_aload_n B dX5_put_10 rfl 1 rfl ?_
  refine z_get (ref := "FlowExporter$Message") (C := RX5) (T := TX5) (N := 2) (ci := 7) (v := .int 14) B (by decide +kernel) rfl 1 (by decide) (by decide +kernel) rfl h_7 rfl dX5_put_11 ?_
  refine z_aload_n B dX5_put_14 rfl 1 rfl ?_
  refine z_get (ref := "FlowExporter$Message") (C := RX5) (T := TX5) (N := 2) (ci := 7) (v := .ref f) B (by decide +kernel) rfl 0 (by decide) (by decide +kernel) rfl h_7 rfl dX5_put_15 ?_
  have h_8 : Φ4 f = some (ab_ G 700 (upd (upd g (12 : Int32).toNatClampNeg (vp_nar .byte (((vl >>> ((24 : Int32).toInt64 &&& 63)).toInt32).toInt8.toInt32))) (13 : Int32).toNatClampNeg (vp_nar .byte (((vl >>> ((16 : Int32).toInt64 &&& 63)).toInt32).toInt8.toInt32)))) := ((fset_fr hΦ4 (hm_ne hc1 hc0 (fun h9 => by cases h9))).trans h_5)
  refine z_alen (t := 2) (v := 700) B rfl h_8 rfl dX5_put_18 ?_
  refine z_icmp_ge (tgt := 50) B dX5_put_19 rfl (fun h9 => absurd h9 (by decide)) (fun c_6 => ?_)
  refine z_aload_n B dX5_put_22 rfl 1 rfl ?_
  refine z_get (ref := "FlowExporter$Message") (C := RX5) (T := TX5) (N := 2) (ci := 7) (v := .ref f) B (by decide +kernel) rfl 0 (by decide) (by decide +kernel) rfl h_7 rfl dX5_put_23 ?_
  refine z_aload_n B dX5_put_26 rfl 1 rfl ?_
  refine z_get (ref := "FlowExporter$Message") (C := RX5) (T := TX5) (N := 2) (ci := 7) (v := .int 14) B (by decide +kernel) rfl 1 (by decide) (by decide +kernel) rfl h_7 rfl dX5_put_27 ?_
  refine z_lload_n B dX5_put_30 rfl 2 rfl ?_
  refine z_bipush (v := 8) B dX5_put_31 rfl ?_
  refine z_iload B dX5_put_33 0 rfl ?_
  refine z_imul B dX5_put_35 ?_
  refine z_top (st1 := [.int 8, .long vl, .int 14, .ref f]) (congrArg (fun w9 : Int32 => ([.int w9, .long vl, .int 14, .ref f] : List Value)) (show (8 * 1 : Int32) = 8 by decide +kernel)) ?_
  refine z_lshr (v := vl >>> ((8 : Int32).toInt64 &&& 63)) B dX5_put_36 rfl ?_
  refine z_l2i (v := (vl >>> ((8 : Int32).toInt64 &&& 63)).toInt32) B dX5_put_37 rfl ?_
  refine z_i2b (v := ((vl >>> ((8 : Int32).toInt64 &&& 63)).toInt32).toInt8.toInt32) B dX5_put_38 rfl ?_
  refine z_bast B h_8 hna_f (vin rfl) dX5_put_39 (fun Φ5 hΦ5 => ?_)
  have h_9 : Φ5 f = some (ab_ G 700 (upd (upd (upd g (12 : Int32).toNatClampNeg (vp_nar .byte (((vl >>> ((24 : Int32).toInt64 &&& 63)).toInt32).toInt8.toInt32))) (13 : Int32).toNatClampNeg (vp_nar .byte (((vl >>> ((16 : Int32).toInt64 &&& 63)).toInt32).toInt8.toInt32))) (14 : Int32).toNatClampNeg (vp_nar .byte (((vl >>> ((8 : Int32).toInt64 &&& 63)).toInt32).toInt8.toInt32)))) := fset_at hΦ5
  refine z_aload_n B dX5_put_40 rfl 1 rfl ?_
  refine z_dup B dX5_put_41 rfl ?_
  have h_10 : Φ5 h = some (o_ 7 [.ref f, .int 14]) := ((fset_fr hΦ5 (hm_ne hc0 hc1 (fun h9 => by cases h9))).trans h_7)
  refine z_get (ref := "FlowExporter$Message") (C := RX5) (T := TX5) (N := 2) (ci := 7) (v := .int 14) B (by decide +kernel) rfl 1 (by decide) (by decide +kernel) rfl h_10 rfl dX5_put_42 ?_
  refine z_iconst (v := 1) B dX5_put_45 rfl ?_
  refine z_iadd B dX5_put_46 ?_
  refine z_top (st1 := [.int 15, .ref h]) (congrArg (fun w9 : Int32 => ([.int w9, .ref h] : List Value)) (show (14 + 1 : Int32) = 15 by decide +kernel)) ?_
  refine z_put (ref := "FlowExporter$Message") (C := RX5) (T := TX5) (N := 2) (ci := 7) (v := .int 15) B (by decide +kernel) tyX5 tyX5_ok nmX5 rfl 1 (by decide) (by decide +kernel) rfl (Or.inl rfl) h_10 hna_h rfl rfl (Nat.le_of_ble_eq_true rfl) dX5_put_47 (fun Φ6 hΦ6 => ?_)
  have h_11 : Φ6 h = some (o_ 7 [.ref f, .int 15]) := fset_at hΦ6
  refine z_iinc (k := 0) (v := 0) (lv' := [(4, .int 0), (0, .ref h), (1, .long vl), (3, .int 4)]) B dX5_put_50 rfl rfl (Nat.le_of_ble_eq_true rfl) rfl ?_
  refine z_goto (tgt := 5) B dX5_put_53 rfl ?_
  refine z_iload B dX5_put_5 0 rfl ?_
  refine z_if_lt (tgt := 56) B dX5_put_7 rfl (fun h9 => absurd h9 (by decide)) (fun c_7 => ?_)
  refine z_aload_n B dX5_put_10 rfl 1 rfl ?_
  refine z_get (ref := "FlowExporter$Message") (C := RX5) (T := TX5) (N := 2) (ci := 7) (v := .int 15) B (by decide +kernel) rfl 1 (by decide) (by decide +kernel) rfl h_11 rfl dX5_put_11 ?_
  refine z_aload_n B dX5_put_14 rfl 1 rfl ?_
  refine z_get (ref := "FlowExporter$Message") (C := RX5) (T := TX5) (N := 2) (ci := 7) (v := .ref f) B (by decide +kernel) rfl 0 (by decide) (by decide +kernel) rfl h_11 rfl dX5_put_15 ?_
  have h_12 : Φ6 f = some (ab_ G 700 (upd (upd (upd g (12 : Int32).toNatClampNeg (vp_nar .byte (((vl >>> ((24 : Int32).toInt64 &&& 63)).toInt32).toInt8.toInt32))) (13 : Int32).toNatClampNeg (vp_nar .byte (((vl >>> ((16 : Int32).toInt64 &&& 63)).toInt32).toInt8.toInt32))) (14 : Int32).toNatClampNeg (vp_nar .byte (((vl >>> ((8 : Int32).toInt64 &&& 63)).toInt32).toInt8.toInt32)))) := ((fset_fr hΦ6 (hm_ne hc1 hc0 (fun h9 => by cases h9))).trans h_9)
  refine z_alen (t := 2) (v := 700) B rfl h_12 rfl dX5_put_18 ?_
  refine z_icmp_ge (tgt := 50) B dX5_put_19 rfl (fun h9 => absurd h9 (by decide)) (fun c_8 => ?_)
  refine z_aload_n B dX5_put_22 rfl 1 rfl ?_
  refine z_get (ref := "FlowExporter$Message") (C := RX5) (T := TX5) (N := 2) (ci := 7) (v := .ref f) B (by decide +kernel) rfl 0 (by decide) (by decide +kernel) rfl h_11 rfl dX5_put_23 ?_
  refine z_aload_n B dX5_put_26 rfl 1 rfl ?_
  refine z_get (ref := "FlowExporter$Message") (C := RX5) (T := TX5) (N := 2) (ci := 7) (v := .int 15) B (by decide +kernel) rfl 1 (by decide) (by decide +kernel) rfl h_11 rfl dX5_put_27 ?_
  refine z_lload_n B dX5_put_30 rfl 2 rfl ?_
  refine z_bipush (v := 8) B dX5_put_31 rfl ?_
  refine z_iload B dX5_put_33 0 rfl ?_
  refine z_imul B dX5_put_35 ?_
  refine z_top (st1 := [.int 0, .long vl, .int 15, .ref f]) (congrArg (fun w9 : Int32 => ([.int w9, .long vl, .int 15, .ref f] : List Value)) (show (8 * 0 : Int32) = 0 by decide +kernel)) ?_
  refine z_lshr (v := vl >>> ((0 : Int32).toInt64 &&& 63)) B dX5_put_36 rfl ?_
  refine z_l2i (v := (vl >>> ((0 : Int32).toInt64 &&& 63)).toInt32) B dX5_put_37 rfl ?_
  refine z_i2b (v := ((vl >>> ((0 : Int32).toInt64 &&& 63)).toInt32).toInt8.toInt32) B dX5_put_38 rfl ?_
  refine z_bast B h_12 hna_f (vin rfl) dX5_put_39 (fun Φ7 hΦ7 => ?_)
  have h_13 : Φ7 f = some (ab_ G 700 (upd (upd (upd (upd g (12 : Int32).toNatClampNeg (vp_nar .byte (((vl >>> ((24 : Int32).toInt64 &&& 63)).toInt32).toInt8.toInt32))) (13 : Int32).toNatClampNeg (vp_nar .byte (((vl >>> ((16 : Int32).toInt64 &&& 63)).toInt32).toInt8.toInt32))) (14 : Int32).toNatClampNeg (vp_nar .byte (((vl >>> ((8 : Int32).toInt64 &&& 63)).toInt32).toInt8.toInt32))) (15 : Int32).toNatClampNeg (vp_nar .byte (((vl >>> ((0 : Int32).toInt64 &&& 63)).toInt32).toInt8.toInt32)))) := fset_at hΦ7
  refine z_aload_n B dX5_put_40 rfl 1 rfl ?_
  refine z_dup B dX5_put_41 rfl ?_
  have h_14 : Φ7 h = some (o_ 7 [.ref f, .int 15]) := ((fset_fr hΦ7 (hm_ne hc0 hc1 (fun h9 => by cases h9))).trans h_11)
  refine z_get (ref := "FlowExporter$Message") (C := RX5) (T := TX5) (N := 2) (ci := 7) (v := .int 15) B (by decide +kernel) rfl 1 (by decide) (by decide +kernel) rfl h_14 rfl dX5_put_42 ?_
  refine z_iconst (v := 1) B dX5_put_45 rfl ?_
  refine z_iadd B dX5_put_46 ?_
  refine z_top (st1 := [.int 16, .ref h]) (congrArg (fun w9 : Int32 => ([.int w9, .ref h] : List Value)) (show (15 + 1 : Int32) = 16 by decide +kernel)) ?_
  refine z_put (ref := "FlowExporter$Message") (C := RX5) (T := TX5) (N := 2) (ci := 7) (v := .int 16) B (by decide +kernel) tyX5 tyX5_ok nmX5 rfl 1 (by decide) (by decide +kernel) rfl (Or.inl rfl) h_14 hna_h rfl rfl (Nat.le_of_ble_eq_true rfl) dX5_put_47 (fun Φ8 hΦ8 => ?_)
  have h_15 : Φ8 h = some (o_ 7 [.ref f, .int 16]) := fset_at hΦ8
  refine z_iinc (k := 0) (v := (-1)) (lv' := [(4, .int (-1)), (0, .ref h), (1, .long vl), (3, .int 4)]) B dX5_put_50 rfl rfl (Nat.le_of_ble_eq_true rfl) rfl ?_
  refine z_goto (tgt := 5) B dX5_put_53 rfl ?_
  refine z_iload B dX5_put_5 0 rfl ?_
  refine z_if_lt (tgt := 56) B dX5_put_7 rfl (fun c_9 => ?_) (fun h9 => absurd (by decide) h9)
  have h_16 : Φ8 f = some (ab_ G 700 (upd (upd (upd (upd g (12 : Int32).toNatClampNeg (vp_nar .byte (((vl >>> ((24 : Int32).toInt64 &&& 63)).toInt32).toInt8.toInt32))) (13 : Int32).toNatClampNeg (vp_nar .byte (((vl >>> ((16 : Int32).toInt64 &&& 63)).toInt32).toInt8.toInt32))) (14 : Int32).toNatClampNeg (vp_nar .byte (((vl >>> ((8 : Int32).toInt64 &&& 63)).toInt32).toInt8.toInt32))) (15 : Int32).toNatClampNeg (vp_nar .byte (((vl >>> ((0 : Int32).toInt64 &&& 63)).toInt32).toInt8.toInt32)))) := ((fset_fr hΦ8 (hm_ne hc1 hc0 (fun h9 => by cases h9))).trans h_13)
  exact z_ret_v B dX5_put_56 ⟨rfl, rfl, (fun b9 h9a h9b => ((fset_fr hΦ8 h9b).trans ((fset_fr hΦ7 h9a).trans ((fset_fr hΦ6 h9b).trans ((fset_fr hΦ5 h9a).trans ((fset_fr hΦ4 h9b).trans ((fset_fr hΦ3 h9a).trans ((fset_fr hΦ2 h9b).trans ((fset_fr hΦ1 h9a).trans rfl))))))))), h_16, h_15⟩

set_option maxHeartbeats 4000000 in
set_option maxRecDepth 100000 in
theorem c_X5_put_16 (G : EnvG) (l : Launch) (Φ : Hm) (sz : Nat) (h : Nat) (f : Nat) (vl : Int64) (g : Nat → Int32) (hc0 : Φ h = some (o_ 7 [.ref f, .int 16])) (hc1 : Φ f = some (ab_ G 700 g)) (hna_h : G.2.2.2 ≤ h) (hna_f : G.2.2.2 ≤ f) : Ct G l yX5_put wsX5_put ({ frames := 0, cells := 0, slots := 0, locals := 0 }) 0 0 [.ref h, .long vl, .int 4] Φ sz (fun v Φ1 sz1 => v = none ∧ sz1 = sz ∧ (∀ b9 : Nat, b9 ≠ f → b9 ≠ h → Φ1 b9 = Φ b9) ∧ Φ1 f = some (ab_ G 700 (upd (upd (upd (upd g (16 : Int32).toNatClampNeg (vp_nar .byte (((vl >>> ((24 : Int32).toInt64 &&& 63)).toInt32).toInt8.toInt32))) (17 : Int32).toNatClampNeg (vp_nar .byte (((vl >>> ((16 : Int32).toInt64 &&& 63)).toInt32).toInt8.toInt32))) (18 : Int32).toNatClampNeg (vp_nar .byte (((vl >>> ((8 : Int32).toInt64 &&& 63)).toInt32).toInt8.toInt32))) (19 : Int32).toNatClampNeg (vp_nar .byte (((vl >>> ((0 : Int32).toInt64 &&& 63)).toInt32).toInt8.toInt32)))) ∧ Φ1 h = some (o_ 7 [.ref f, .int 20])) := by
  refine Ct.of (cc := cX5_put) (maxL := 5) (ret := none) (by decide) rfl (Nat.le_of_ble_eq_true rfl) ?_
  intro p9 e9 s9 m9 w9 t9 k9 B
  show Z p9 l e9 _ s9 m9 _ w9 t9 k9 _ G 5 0 [(0, .ref h), (1, .long vl), (3, .int 4)] [] Φ (sz) 0 0
  refine z_iload_n B dX5_put_0 rfl 2 rfl ?_
  refine z_iconst (v := 1) B dX5_put_1 rfl ?_
  refine z_isub B dX5_put_2 ?_
  refine z_top (st1 := [.int 3]) (congrArg (fun w9 : Int32 => ([.int w9] : List Value)) (show (4 - 1 : Int32) = 3 by decide +kernel)) ?_
  refine z_istore (lv' := [(4, .int 3), (0, .ref h), (1, .long vl), (3, .int 4)]) B dX5_put_3 (Nat.le_of_ble_eq_true rfl) rfl ?_
  refine z_iload B dX5_put_5 0 rfl ?_
  refine z_if_lt (tgt := 56) B dX5_put_7 rfl (fun h9 => absurd h9 (by decide)) (fun c_1 => ?_)
  refine z_aload_n B dX5_put_10 rfl 1 rfl ?_
  refine z_get (ref := "FlowExporter$Message") (C := RX5) (T := TX5) (N := 2) (ci := 7) (v := .int 16) B (by decide +kernel) rfl 1 (by decide) (by decide +kernel) rfl hc0 rfl dX5_put_11 ?_
  refine z_aload_n B dX5_put_14 rfl 1 rfl ?_
  refine z_get (ref := "FlowExporter$Message") (C := RX5) (T := TX5) (N := 2) (ci := 7) (v := .ref f) B (by decide +kernel) rfl 0 (by decide) (by decide +kernel) rfl hc0 rfl dX5_put_15 ?_
  refine z_alen (t := 2) (v := 700) B rfl hc1 rfl dX5_put_18 ?_
  refine z_icmp_ge (tgt := 50) B dX5_put_19 rfl (fun h9 => absurd h9 (by decide)) (fun c_2 => ?_)
  refine z_aload_n B dX5_put_22 rfl 1 rfl ?_
  refine z_get (ref := "FlowExporter$Message") (C := RX5) (T := TX5) (N := 2) (ci := 7) (v := .ref f) B (by decide +kernel) rfl 0 (by decide) (by decide +kernel) rfl hc0 rfl dX5_put_23 ?_
  refine z_aload_n B dX5_put_26 rfl 1 rfl ?_
  refine z_get (ref := "FlowExporter$Message") (C := RX5) (T := TX5) (N := 2) (ci := 7) (v := .int 16) B (by decide +kernel) rfl 1 (by decide) (by decide +kernel) rfl hc0 rfl dX5_put_27 ?_
  refine z_lload_n B dX5_put_30 rfl 2 rfl ?_
  refine z_bipush (v := 8) B dX5_put_31 rfl ?_
  refine z_iload B dX5_put_33 0 rfl ?_
  refine z_imul B dX5_put_35 ?_
  refine z_top (st1 := [.int 24, .long vl, .int 16, .ref f]) (congrArg (fun w9 : Int32 => ([.int w9, .long vl, .int 16, .ref f] : List Value)) (show (8 * 3 : Int32) = 24 by decide +kernel)) ?_
  refine z_lshr (v := vl >>> ((24 : Int32).toInt64 &&& 63)) B dX5_put_36 rfl ?_
  refine z_l2i (v := (vl >>> ((24 : Int32).toInt64 &&& 63)).toInt32) B dX5_put_37 rfl ?_
  refine z_i2b (v := ((vl >>> ((24 : Int32).toInt64 &&& 63)).toInt32).toInt8.toInt32) B dX5_put_38 rfl ?_
  refine z_bast B hc1 hna_f (vin rfl) dX5_put_39 (fun Φ1 hΦ1 => ?_)
  have h_1 : Φ1 f = some (ab_ G 700 (upd g (16 : Int32).toNatClampNeg (vp_nar .byte (((vl >>> ((24 : Int32).toInt64 &&& 63)).toInt32).toInt8.toInt32)))) := fset_at hΦ1
  refine z_aload_n B dX5_put_40 rfl 1 rfl ?_
  refine z_dup B dX5_put_41 rfl ?_
  have h_2 : Φ1 h = some (o_ 7 [.ref f, .int 16]) := ((fset_fr hΦ1 (hm_ne hc0 hc1 (fun h9 => by cases h9))).trans hc0)
  refine z_get (ref := "FlowExporter$Message") (C := RX5) (T := TX5) (N := 2) (ci := 7) (v := .int 16) B (by decide +kernel) rfl 1 (by decide) (by decide +kernel) rfl h_2 rfl dX5_put_42 ?_
  refine z_iconst (v := 1) B dX5_put_45 rfl ?_
  refine z_iadd B dX5_put_46 ?_
  refine z_top (st1 := [.int 17, .ref h]) (congrArg (fun w9 : Int32 => ([.int w9, .ref h] : List Value)) (show (16 + 1 : Int32) = 17 by decide +kernel)) ?_
  refine z_put (ref := "FlowExporter$Message") (C := RX5) (T := TX5) (N := 2) (ci := 7) (v := .int 17) B (by decide +kernel) tyX5 tyX5_ok nmX5 rfl 1 (by decide) (by decide +kernel) rfl (Or.inl rfl) h_2 hna_h rfl rfl (Nat.le_of_ble_eq_true rfl) dX5_put_47 (fun Φ2 hΦ2 => ?_)
  have h_3 : Φ2 h = some (o_ 7 [.ref f, .int 17]) := fset_at hΦ2
  refine z_iinc (k := 0) (v := 2) (lv' := [(4, .int 2), (0, .ref h), (1, .long vl), (3, .int 4)]) B dX5_put_50 rfl rfl (Nat.le_of_ble_eq_true rfl) rfl ?_
  refine z_goto (tgt := 5) B dX5_put_53 rfl ?_
  refine z_iload B dX5_put_5 0 rfl ?_
  refine z_if_lt (tgt := 56) B dX5_put_7 rfl (fun h9 => absurd h9 (by decide)) (fun c_3 => ?_)
  refine z_aload_n B dX5_put_10 rfl 1 rfl ?_
  refine z_get (ref := "FlowExporter$Message") (C := RX5) (T := TX5) (N := 2) (ci := 7) (v := .int 17) B (by decide +kernel) rfl 1 (by decide) (by decide +kernel) rfl h_3 rfl dX5_put_11 ?_
  refine z_aload_n B dX5_put_14 rfl 1 rfl ?_
  refine z_get (ref := "FlowExporter$Message") (C := RX5) (T := TX5) (N := 2) (ci := 7) (v := .ref f) B (by decide +kernel) rfl 0 (by decide) (by decide +kernel) rfl h_3 rfl dX5_put_15 ?_
  have h_4 : Φ2 f = some (ab_ G 700 (upd g (16 : Int32).toNatClampNeg (vp_nar .byte (((vl >>> ((24 : Int32).toInt64 &&& 63)).toInt32).toInt8.toInt32)))) := ((fset_fr hΦ2 (hm_ne hc1 hc0 (fun h9 => by cases h9))).trans h_1)
  refine z_alen (t := 2) (v := 700) B rfl h_4 rfl dX5_put_18 ?_
  refine z_icmp_ge (tgt := 50) B dX5_put_19 rfl (fun h9 => absurd h9 (by decide)) (fun c_4 => ?_)
  refine z_aload_n B dX5_put_22 rfl 1 rfl ?_
  refine z_get (ref := "FlowExporter$Message") (C := RX5) (T := TX5) (N := 2) (ci := 7) (v := .ref f) B (by decide +kernel) rfl 0 (by decide) (by decide +kernel) rfl h_3 rfl dX5_put_23 ?_
  refine z_aload_n B dX5_put_26 rfl 1 rfl ?_
  refine z_get (ref := "FlowExporter$Message") (C := RX5) (T := TX5) (N := 2) (ci := 7) (v := .int 17) B (by decide +kernel) rfl 1 (by decide) (by decide +kernel) rfl h_3 rfl dX5_put_27 ?_
  refine z_lload_n B dX5_put_30 rfl 2 rfl ?_
  refine z_bipush (v := 8) B dX5_put_31 rfl ?_
  refine z_iload B dX5_put_33 0 rfl ?_
  refine z_imul B dX5_put_35 ?_
  refine z_top (st1 := [.int 16, .long vl, .int 17, .ref f]) (congrArg (fun w9 : Int32 => ([.int w9, .long vl, .int 17, .ref f] : List Value)) (show (8 * 2 : Int32) = 16 by decide +kernel)) ?_
  refine z_lshr (v := vl >>> ((16 : Int32).toInt64 &&& 63)) B dX5_put_36 rfl ?_
  refine z_l2i (v := (vl >>> ((16 : Int32).toInt64 &&& 63)).toInt32) B dX5_put_37 rfl ?_
  refine z_i2b (v := ((vl >>> ((16 : Int32).toInt64 &&& 63)).toInt32).toInt8.toInt32) B dX5_put_38 rfl ?_
  refine z_bast B h_4 hna_f (vin rfl) dX5_put_39 (fun Φ3 hΦ3 => ?_)
  have h_5 : Φ3 f = some (ab_ G 700 (upd (upd g (16 : Int32).toNatClampNeg (vp_nar .byte (((vl >>> ((24 : Int32).toInt64 &&& 63)).toInt32).toInt8.toInt32))) (17 : Int32).toNatClampNeg (vp_nar .byte (((vl >>> ((16 : Int32).toInt64 &&& 63)).toInt32).toInt8.toInt32)))) := fset_at hΦ3
  refine z_aload_n B dX5_put_40 rfl 1 rfl ?_
  refine z_dup B dX5_put_41 rfl ?_
  have h_6 : Φ3 h = some (o_ 7 [.ref f, .int 17]) := ((fset_fr hΦ3 (hm_ne hc0 hc1 (fun h9 => by cases h9))).trans h_3)
  refine z_get (ref := "FlowExporter$Message") (C := RX5) (T := TX5) (N := 2) (ci := 7) (v := .int 17) B (by decide +kernel) rfl 1 (by decide) (by decide +kernel) rfl h_6 rfl dX5_put_42 ?_
  refine z_iconst (v := 1) B dX5_put_45 rfl ?_
  refine z_iadd B dX5_put_46 ?_
  refine z_top (st1 := [.int 18, .ref h]) (congrArg (fun w9 : Int32 => ([.int w9, .ref h] : List Value)) (show (17 + 1 : Int32) = 18 by decide +kernel)) ?_
  refine z_put (ref := "FlowExporter$Message") (C := RX5) (T := TX5) (N := 2) (ci := 7) (v := .int 18) B (by decide +kernel) tyX5 tyX5_ok nmX5 rfl 1 (by decide) (by decide +kernel) rfl (Or.inl rfl) h_6 hna_h rfl rfl (Nat.le_of_ble_eq_true rfl) dX5_put_47 (fun Φ4 hΦ4 => ?_)
  have h_7 : Φ4 h = some (o_ 7 [.ref f, .int 18]) := fset_at hΦ4
  refine z_iinc (k := 0) (v := 1) (lv' := [(4, .int 1), (0, .ref h), (1, .long vl), (3, .int 4)]) B dX5_put_50 rfl rfl (Nat.le_of_ble_eq_true rfl) rfl ?_
  refine z_goto (tgt := 5) B dX5_put_53 rfl ?_
  refine z_iload B dX5_put_5 0 rfl ?_
  refine z_if_lt (tgt := 56) B dX5_put_7 rfl (fun h9 => absurd h9 (by decide)) (fun c_5 => ?_)
  refine z_aload_n B dX5_put_10 rfl 1 rfl ?_
  refine z_get (ref := "FlowExporter$Message") (C := RX5) (T := TX5) (N := 2) (ci := 7) (v := .int 18) B (by decide +kernel) rfl 1 (by decide) (by decide +kernel) rfl h_7 rfl dX5_put_11 ?_
  refine z_aload_n B dX5_put_14 rfl 1 rfl ?_
  refine z_get (ref := "FlowExporter$Message") (C := RX5) (T := TX5) (N := 2) (ci := 7) (v := .ref f) B (by decide +kernel) rfl 0 (by decide) (by decide +kernel) rfl h_7 rfl dX5_put_15 ?_
  have h_8 : Φ4 f = some (ab_ G 700 (upd (upd g (16 : Int32).toNatClampNeg (vp_nar .byte (((vl >>> ((24 : Int32).toInt64 &&& 63)).toInt32).toInt8.toInt32))) (17 : Int32).toNatClampNeg (vp_nar .byte (((vl >>> ((16 : Int32).toInt64 &&& 63)).toInt32).toInt8.toInt32)))) := ((fset_fr hΦ4 (hm_ne hc1 hc0 (fun h9 => by cases h9))).trans h_5)
  refine z_alen (t := 2) (v := 700) B rfl h_8 rfl dX5_put_18 ?_
  refine z_icmp_ge (tgt := 50) B dX5_put_19 rfl (fun h9 => absurd h9 (by decide)) (fun c_6 => ?_)
  refine z_aload_n B dX5_put_22 rfl 1 rfl ?_
  refine z_get (ref := "FlowExporter$Message") (C := RX5) (T := TX5) (N := 2) (ci := 7) (v := .ref f) B (by decide +kernel) rfl 0 (by decide) (by decide +kernel) rfl h_7 rfl dX5_put_23 ?_
  refine z_aload_n B dX5_put_26 rfl 1 rfl ?_
  refine z_get (ref := "FlowExporter$Message") (C := RX5) (T := TX5) (N := 2) (ci := 7) (v := .int 18) B (by decide +kernel) rfl 1 (by decide) (by decide +kernel) rfl h_7 rfl dX5_put_27 ?_
  refine z_lload_n B dX5_put_30 rfl 2 rfl ?_
  refine z_bipush (v := 8) B dX5_put_31 rfl ?_
  refine z_iload B dX5_put_33 0 rfl ?_
  refine z_imul B dX5_put_35 ?_
  refine z_top (st1 := [.int 8, .long vl, .int 18, .ref f]) (congrArg (fun w9 : Int32 => ([.int w9, .long vl, .int 18, .ref f] : List Value)) (show (8 * 1 : Int32) = 8 by decide +kernel)) ?_
  refine z_lshr (v := vl >>> ((8 : Int32).toInt64 &&& 63)) B dX5_put_36 rfl ?_
  refine z_l2i (v := (vl >>> ((8 : Int32).toInt64 &&& 63)).toInt32) B dX5_put_37 rfl ?_
  refine z_i2b (v := ((vl >>> ((8 : Int32).toInt64 &&& 63)).toInt32).toInt8.toInt32) B dX5_put_38 rfl ?_
  refine z_bast B h_8 hna_f (vin rfl) dX5_put_39 (fun Φ5 hΦ5 => ?_)
  have h_9 : Φ5 f = some (ab_ G 700 (upd (upd (upd g (16 : Int32).toNatClampNeg (vp_nar .byte (((vl >>> ((24 : Int32).toInt64 &&& 63)).toInt32).toInt8.toInt32))) (17 : Int32).toNatClampNeg (vp_nar .byte (((vl >>> ((16 : Int32).toInt64 &&& 63)).toInt32).toInt8.toInt32))) (18 : Int32).toNatClampNeg (vp_nar .byte (((vl >>> ((8 : Int32).toInt64 &&& 63)).toInt32).toInt8.toInt32)))) := fset_at hΦ5
  refine z_aload_n B dX5_put_40 rfl 1 rfl ?_
  refine z_dup B dX5_put_41 rfl ?_
  have h_10 : Φ5 h = some (o_ 7 [.ref f, .int 18]) := ((fset_fr hΦ5 (hm_ne hc0 hc1 (fun h9 => by cases h9))).trans h_7)
  refine z_get (ref := "FlowExporter$Message") (C := RX5) (T := TX5) (N := 2) (ci := 7) (v := .int 18) B (by decide +kernel) rfl 1 (by decide) (by decide +kernel) rfl h_10 rfl dX5_put_42 ?_
  refine z_iconst (v := 1) B dX5_put_45 rfl ?_
  refine z_iadd B dX5_put_46 ?_
  refine z_top (st1 := [.int 19, .ref h]) (congrArg (fun w9 : Int32 => ([.int w9, .ref h] : List Value)) (show (18 + 1 : Int32) = 19 by decide +kernel)) ?_
  refine z_put (ref := "FlowExporter$Message") (C := RX5) (T := TX5) (N := 2) (ci := 7) (v := .int 19) B (by decide +kernel) tyX5 tyX5_ok nmX5 rfl 1 (by decide) (by decide +kernel) rfl (Or.inl rfl) h_10 hna_h rfl rfl (Nat.le_of_ble_eq_true rfl) dX5_put_47 (fun Φ6 hΦ6 => ?_)
  have h_11 : Φ6 h = some (o_ 7 [.ref f, .int 19]) := fset_at hΦ6
  refine z_iinc (k := 0) (v := 0) (lv' := [(4, .int 0), (0, .ref h), (1, .long vl), (3, .int 4)]) B dX5_put_50 rfl rfl (Nat.le_of_ble_eq_true rfl) rfl ?_
  refine z_goto (tgt := 5) B dX5_put_53 rfl ?_
  refine z_iload B dX5_put_5 0 rfl ?_
  refine z_if_lt (tgt := 56) B dX5_put_7 rfl (fun h9 => absurd h9 (by decide)) (fun c_7 => ?_)
  refine z_aload_n B dX5_put_10 rfl 1 rfl ?_
  refine z_get (ref := "FlowExporter$Message") (C := RX5) (T := TX5) (N := 2) (ci := 7) (v := .int 19) B (by decide +kernel) rfl 1 (by decide) (by decide +kernel) rfl h_11 rfl dX5_put_11 ?_
  refine z_aload_n B dX5_put_14 rfl 1 rfl ?_
  refine z_get (ref := "FlowExporter$Message") (C := RX5) (T := TX5) (N := 2) (ci := 7) (v := .ref f) B (by decide +kernel) rfl 0 (by decide) (by decide +kernel) rfl h_11 rfl dX5_put_15 ?_
  have h_12 : Φ6 f = some (ab_ G 700 (upd (upd (upd g (16 : Int32).toNatClampNeg (vp_nar .byte (((vl >>> ((24 : Int32).toInt64 &&& 63)).toInt32).toInt8.toInt32))) (17 : Int32).toNatClampNeg (vp_nar .byte (((vl >>> ((16 : Int32).toInt64 &&& 63)).toInt32).toInt8.toInt32))) (18 : Int32).toNatClampNeg (vp_nar .byte (((vl >>> ((8 : Int32).toInt64 &&& 63)).toInt32).toInt8.toInt32)))) := ((fset_fr hΦ6 (hm_ne hc1 hc0 (fun h9 => by cases h9))).trans h_9)
  refine z_alen (t := 2) (v := 700) B rfl h_12 rfl dX5_put_18 ?_
  refine z_icmp_ge (tgt := 50) B dX5_put_19 rfl (fun h9 => absurd h9 (by decide)) (fun c_8 => ?_)
  refine z_aload_n B dX5_put_22 rfl 1 rfl ?_
  refine z_get (ref := "FlowExporter$Message") (C := RX5) (T := TX5) (N := 2) (ci := 7) (v := .ref f) B (by decide +kernel) rfl 0 (by decide) (by decide +kernel) rfl h_11 rfl dX5_put_23 ?_
  refine z_aload_n B dX5_put_26 rfl 1 rfl ?_
  refine z_get (ref := "FlowExporter$Message") (C := RX5) (T := TX5) (N := 2) (ci := 7) (v := .int 19) B (by decide +kernel) rfl 1 (by decide) (by decide +kernel) rfl h_11 rfl dX5_put_27 ?_
  refine z_lload_n B dX5_put_30 rfl 2 rfl ?_
  refine z_bipush (v := 8) B dX5_put_31 rfl ?_
  refine z_iload B dX5_put_33 0 rfl ?_
  refine z_imul B dX5_put_35 ?_
  refine z_top (st1 := [.int 0, .long vl, .int 19, .ref f]) (congrArg (fun w9 : Int32 => ([.int w9, .long vl, .int 19, .ref f] : List Value)) (show (8 * 0 : Int32) = 0 by decide +kernel)) ?_
  refine z_lshr (v := vl >>> ((0 : Int32).toInt64 &&& 63)) B dX5_put_36 rfl ?_
  refine z_l2i (v := (vl >>> ((0 : Int32).toInt64 &&& 63)).toInt32) B dX5_put_37 rfl ?_
  refine z_i2b (v := ((vl >>> ((0 : Int32).toInt64 &&& 63)).toInt32).toInt8.toInt32) B dX5_put_38 rfl ?_
  refine z_bast B h_12 hna_f (vin rfl) dX5_put_39 (fun Φ7 hΦ7 => ?_)
  have h_13 : Φ7 f = some (ab_ G 700 (upd (upd (upd (upd g (16 : Int32).toNatClampNeg (vp_nar .byte (((vl >>> ((24 : Int32).toInt64 &&& 63)).toInt32).toInt8.toInt32))) (17 : Int32).toNatClampNeg (vp_nar .byte (((vl >>> ((16 : Int32).toInt64 &&& 63)).toInt32).toInt8.toInt32))) (18 : Int32).toNatClampNeg (vp_nar .byte (((vl >>> ((8 : Int32).toInt64 &&& 63)).toInt32).toInt8.toInt32))) (19 : Int32).toNatClampNeg (vp_nar .byte (((vl >>> ((0 : Int32).toInt64 &&& 63)).toInt32).toInt8.toInt32)))) := fset_at hΦ7
  refine z_aload_n B dX5_put_40 rfl 1 rfl ?_
  refine z_dup B dX5_put_41 rfl ?_
  have h_14 : Φ7 h = some (o_ 7 [.ref f, .int 19]) := ((fset_fr hΦ7 (hm_ne hc0 hc1 (fun h9 => by cases h9))).trans h_11)
  refine z_get (ref := "FlowExporter$Message") (C := RX5) (T := TX5) (N := 2) (ci := 7) (v := .int 19) B (by decide +kernel) rfl 1 (by decide) (by decide +kernel) rfl h_14 rfl dX5_put_42 ?_
  refine z_iconst (v := 1) B dX5_put_45 rfl ?_
  refine z_iadd B dX5_put_46 ?_
  refine z_top (st1 := [.int 20, .ref h]) (congrArg (fun w9 : Int32 => ([.int w9, .ref h] : List Value)) (show (19 + 1 : Int32) = 20 by decide +kernel)) ?_
  refine z_put (ref := "FlowExporter$Message") (C := RX5) (T := TX5) (N := 2) (ci := 7) (v := .int 20) B (by decide +kernel) tyX5 tyX5_ok nmX5 rfl 1 (by decide) (by decide +kernel) rfl (Or.inl rfl) h_14 hna_h rfl rfl (Nat.le_of_ble_eq_true rfl) dX5_put_47 (fun Φ8 hΦ8 => ?_)
  have h_15 : Φ8 h = some (o_ 7 [.ref f, .int 20]) := fset_at hΦ8
  refine z_iinc (k := 0) (v := (-1)) (lv' := [(4, .int (-1)), (0, .ref h), (1, .long vl), (3, .int 4)]) B dX5_put_50 rfl rfl (Nat.le_of_ble_eq_true rfl) rfl ?_
  refine z_goto (tgt := 5) B dX5_put_53 rfl ?_
  refine z_iload B dX5_put_5 0 rfl ?_
  refine z_if_lt (tgt := 56) B dX5_put_7 rfl (fun c_9 => ?_) (fun h9 => absurd (by decide) h9)
  have h_16 : Φ8 f = some (ab_ G 700 (upd (upd (upd (upd g (16 : Int32).toNatClampNeg (vp_nar .byte (((vl >>> ((24 : Int32).toInt64 &&& 63)).toInt32).toInt8.toInt32))) (17 : Int32).toNatClampNeg (vp_nar .byte (((vl >>> ((16 : Int32).toInt64 &&& 63)).toInt32).toInt8.toInt32))) (18 : Int32).toNatClampNeg (vp_nar .byte (((vl >>> ((8 : Int32).toInt64 &&& 63)).toInt32).toInt8.toInt32))) (19 : Int32).toNatClampNeg (vp_nar .byte (((vl >>> ((0 : Int32).toInt64 &&& 63)).toInt32).toInt8.toInt32)))) := ((fset_fr hΦ8 (hm_ne hc1 hc0 (fun h9 => by cases h9))).trans h_13)
  exact z_ret_v B dX5_put_56 ⟨rfl, rfl, (fun b9 h9a h9b => ((fset_fr hΦ8 h9b).trans ((fset_fr hΦ7 h9a).trans ((fset_fr hΦ6 h9b).trans ((fset_fr hΦ5 h9a).trans ((fset_fr hΦ4 h9b).trans ((fset_fr hΦ3 h9a).trans ((fset_fr hΦ2 h9b).trans ((fset_fr hΦ1 h9a).trans rfl))))))))), h_16, h_15⟩

set_option maxHeartbeats 4000000 in
set_option maxRecDepth 100000 in
theorem f_X11_appendInput (G : EnvG) (l : Launch) (Φ : Hm) (sz : Nat) (x : Nat) (a : Int32) (b : Int32) (d : Int32) (f : Int32) (g : Int32) (hc0_ : Φ x = some (o_ 13 [.ref (x + 1), .ref (x + 3), .ref (x + 24), .ref (x + 46), .ref (x + 74), .ref (x + 80), .ref (x + 132), .ref (x + 121)])) (hc1_ : Φ (x + 1) = some (o_ 7 [.ref (x + 2), .int 0])) (hc2_ : Φ (x + 2) = some (ab_ G 700 (fun _ => 0))) (hna : G.2.2.2 ≤ x) : Ct G l yX11_appendInput wsX11_appendInput ({ frames := 1, cells := 0, slots := 0, locals := 24 }) 0 0 [.ref x, .int a, .int b, .int d, .int f, .int g] Φ sz (fun v Φ1 sz1 => v = some (.int 20) ∧ ∀ b9 : Nat, x + 149 ≤ b9 → Φ1 b9 = Φ b9) := by
  refine Ct.of (cc := cX11_appendInput) (maxL := 6) (ret := (some .int)) (by decide) rfl (Nat.le_of_ble_eq_true rfl) ?_
  intro p9 e9 s9 m9 w9 t9 k9 B
  show Z p9 l e9 _ s9 m9 _ w9 t9 k9 _ G 6 0 [(0, .ref x), (1, .int a), (2, .int b), (3, .int d), (4, .int f), (5, .int g)] [] Φ sz 0 0
  refine z_aload_n B dX11_appendInput_0 rfl 0 rfl ?_
  refine z_get (ref := "FlowExporter") (C := RX11) (T := TX11) (N := 8) (ci := 13) (v := .ref (x + 1)) B (by decide +kernel) rfl 0 (by decide) (by decide +kernel) rfl hc0_ rfl dX11_appendInput_1 ?_
  refine z_get (ref := "FlowExporter$Message") (C := RX5) (T := TX5) (N := 2) (ci := 7) (v := .int 0) B (by decide +kernel) rfl 1 (by decide) (by decide +kernel) rfl hc1_ rfl dX11_appendInput_4 ?_
  refine z_bipush (v := 20) B dX11_appendInput_7 rfl ?_
  refine z_iadd B dX11_appendInput_9 ?_
  refine z_top (st1 := [.int 20]) (congrArg (fun w9 : Int32 => ([.int w9] : List Value)) (show (0 + 20 : Int32) = 20 by decide +kernel)) ?_
  refine z_sipush (v := 700) B dX11_appendInput_10 rfl ?_
  refine z_icmp_le (tgt := 18) B dX11_appendInput_13 rfl (fun c_1 => ?_) (fun h9 => absurd (by decide) h9)
  refine z_aload_n B dX11_appendInput_18 rfl 0 rfl ?_
  refine z_get (ref := "FlowExporter") (C := RX11) (T := TX11) (N := 8) (ci := 13) (v := .ref (x + 1)) B (by decide +kernel) rfl 0 (by decide) (by decide +kernel) rfl hc0_ rfl dX11_appendInput_19 ?_
  refine z_iload_n B dX11_appendInput_22 rfl 1 rfl ?_
  refine z_i2l (v := a.toInt64) B dX11_appendInput_23 rfl ?_
  refine z_iconst (v := 4) B dX11_appendInput_24 rfl ?_
  refine z_callV (As := [.long a.toInt64, .int 4]) (rest := []) B (c_X5_put_0 G l Φ sz (x + 1) (x + 2) a.toInt64 (fun _ => 0) hc1_ hc2_ (Nat.le_trans hna (Nat.le_add_right x 1)) (Nat.le_trans hna (Nat.le_add_right x 2))) (cwV 2 B.1.2.2.2.2 gX11_appendInput_X5_put rfl rfl rfl (by decide +kernel) ⟨Nat.le_of_ble_eq_true rfl, Nat.le_of_ble_eq_true rfl⟩) hc1_ rfl rfl rfl rfl (Nat.le_of_ble_eq_true rfl) dX11_appendInput_25 ⟨Nat.le_of_ble_eq_true rfl, Nat.le_of_ble_eq_true rfl⟩ (fun v1 Φ1 sz1 st1 hp1 hs1 => ?_)
  obtain ⟨rfl, hq1, fr1, h_1, h_2⟩ := hp1
  replace hq1 : sz1 = sz := hq1
  subst sz1
  replace hs1 : st1 = [] := hs1
  subst st1
  have h_3 : Φ1 (x + 2) = some (ab_ G 700 (upd (upd (upd (upd (fun _ => 0) (0 : Int32).toNatClampNeg (vp_nar .byte (((a.toInt64 >>> ((24 : Int32).toInt64 &&& 63)).toInt32).toInt8.toInt32))) (1 : Int32).toNatClampNeg (vp_nar .byte (((a.toInt64 >>> ((16 : Int32).toInt64 &&& 63)).toInt32).toInt8.toInt32))) (2 : Int32).toNatClampNeg (vp_nar .byte (((a.toInt64 >>> ((8 : Int32).toInt64 &&& 63)).toInt32).toInt8.toInt32))) (3 : Int32).toNatClampNeg (vp_nar .byte (((a.toInt64 >>> ((0 : Int32).toInt64 &&& 63)).toInt32).toInt8.toInt32)))) := h_1
  have h_4 : Φ1 (x + 1) = some (o_ 7 [.ref (x + 2), .int 4]) := h_2
  refine z_aload_n B dX11_appendInput_28 rfl 0 rfl ?_
  have h_5 : Φ1 x = some (o_ 13 [.ref (x + 1), .ref (x + 3), .ref (x + 24), .ref (x + 46), .ref (x + 74), .ref (x + 80), .ref (x + 132), .ref (x + 121)]) := ((fr1 x (ne_off (x := x) (i := 0) (j := 2) rfl) (ne_off (x := x) (i := 0) (j := 1) rfl)).trans hc0_)
  refine z_get (ref := "FlowExporter") (C := RX11) (T := TX11) (N := 8) (ci := 13) (v := .ref (x + 1)) B (by decide +kernel) rfl 0 (by decide) (by decide +kernel) rfl h_5 rfl dX11_appendInput_29 ?_
  refine z_iload_n B dX11_appendInput_32 rfl 2 rfl ?_
  refine z_i2l (v := b.toInt64) B dX11_appendInput_33 rfl ?_
  refine z_iconst (v := 4) B dX11_appendInput_34 rfl ?_
  refine z_callV (As := [.long b.toInt64, .int 4]) (rest := []) B (c_X5_put_4 G l Φ1 sz (x + 1) (x + 2) b.toInt64 (upd (upd (upd (upd (fun _ => 0) (0 : Int32).toNatClampNeg (vp_nar .byte (((a.toInt64 >>> ((24 : Int32).toInt64 &&& 63)).toInt32).toInt8.toInt32))) (1 : Int32).toNatClampNeg (vp_nar .byte (((a.toInt64 >>> ((16 : Int32).toInt64 &&& 63)).toInt32).toInt8.toInt32))) (2 : Int32).toNatClampNeg (vp_nar .byte (((a.toInt64 >>> ((8 : Int32).toInt64 &&& 63)).toInt32).toInt8.toInt32))) (3 : Int32).toNatClampNeg (vp_nar .byte (((a.toInt64 >>> ((0 : Int32).toInt64 &&& 63)).toInt32).toInt8.toInt32))) h_4 h_3 (Nat.le_trans hna (Nat.le_add_right x 1)) (Nat.le_trans hna (Nat.le_add_right x 2))) (cwV 2 B.1.2.2.2.2 gX11_appendInput_X5_put rfl rfl rfl (by decide +kernel) ⟨Nat.le_of_ble_eq_true rfl, Nat.le_of_ble_eq_true rfl⟩) h_4 rfl rfl rfl rfl (Nat.le_of_ble_eq_true rfl) dX11_appendInput_35 ⟨Nat.le_of_ble_eq_true rfl, Nat.le_of_ble_eq_true rfl⟩ (fun v2 Φ2 sz2 st2 hp2 hs2 => ?_)
  obtain ⟨rfl, hq2, fr2, h_6, h_7⟩ := hp2
  replace hq2 : sz2 = sz := hq2
  subst sz2
  replace hs2 : st2 = [] := hs2
  subst st2
  have h_8 : Φ2 (x + 2) = some (ab_ G 700 (upd (upd (upd (upd (upd (upd (upd (upd (fun _ => 0) (0 : Int32).toNatClampNeg (vp_nar .byte (((a.toInt64 >>> ((24 : Int32).toInt64 &&& 63)).toInt32).toInt8.toInt32))) (1 : Int32).toNatClampNeg (vp_nar .byte (((a.toInt64 >>> ((16 : Int32).toInt64 &&& 63)).toInt32).toInt8.toInt32))) (2 : Int32).toNatClampNeg (vp_nar .byte (((a.toInt64 >>> ((8 : Int32).toInt64 &&& 63)).toInt32).toInt8.toInt32))) (3 : Int32).toNatClampNeg (vp_nar .byte (((a.toInt64 >>> ((0 : Int32).toInt64 &&& 63)).toInt32).toInt8.toInt32))) (4 : Int32).toNatClampNeg (vp_nar .byte (((b.toInt64 >>> ((24 : Int32).toInt64 &&& 63)).toInt32).toInt8.toInt32))) (5 : Int32).toNatClampNeg (vp_nar .byte (((b.toInt64 >>> ((16 : Int32).toInt64 &&& 63)).toInt32).toInt8.toInt32))) (6 : Int32).toNatClampNeg (vp_nar .byte (((b.toInt64 >>> ((8 : Int32).toInt64 &&& 63)).toInt32).toInt8.toInt32))) (7 : Int32).toNatClampNeg (vp_nar .byte (((b.toInt64 >>> ((0 : Int32).toInt64 &&& 63)).toInt32).toInt8.toInt32)))) := h_6
  have h_9 : Φ2 (x + 1) = some (o_ 7 [.ref (x + 2), .int 8]) := h_7
  refine z_aload_n B dX11_appendInput_38 rfl 0 rfl ?_
  have h_10 : Φ2 x = some (o_ 13 [.ref (x + 1), .ref (x + 3), .ref (x + 24), .ref (x + 46), .ref (x + 74), .ref (x + 80), .ref (x + 132), .ref (x + 121)]) := ((fr2 x (ne_off (x := x) (i := 0) (j := 2) rfl) (ne_off (x := x) (i := 0) (j := 1) rfl)).trans h_5)
  refine z_get (ref := "FlowExporter") (C := RX11) (T := TX11) (N := 8) (ci := 13) (v := .ref (x + 1)) B (by decide +kernel) rfl 0 (by decide) (by decide +kernel) rfl h_10 rfl dX11_appendInput_39 ?_
  refine z_iload_n B dX11_appendInput_42 rfl 3 rfl ?_
  refine z_i2l (v := d.toInt64) B dX11_appendInput_43 rfl ?_
  refine z_iconst (v := 4) B dX11_appendInput_44 rfl ?_
  refine z_callV (As := [.long d.toInt64, .int 4]) (rest := []) B (c_X5_put_8 G l Φ2 sz (x + 1) (x + 2) d.toInt64 (upd (upd (upd (upd (upd (upd (upd (upd (fun _ => 0) (0 : Int32).toNatClampNeg (vp_nar .byte (((a.toInt64 >>> ((24 : Int32).toInt64 &&& 63)).toInt32).toInt8.toInt32))) (1 : Int32).toNatClampNeg (vp_nar .byte (((a.toInt64 >>> ((16 : Int32).toInt64 &&& 63)).toInt32).toInt8.toInt32))) (2 : Int32).toNatClampNeg (vp_nar .byte (((a.toInt64 >>> ((8 : Int32).toInt64 &&& 63)).toInt32).toInt8.toInt32))) (3 : Int32).toNatClampNeg (vp_nar .byte (((a.toInt64 >>> ((0 : Int32).toInt64 &&& 63)).toInt32).toInt8.toInt32))) (4 : Int32).toNatClampNeg (vp_nar .byte (((b.toInt64 >>> ((24 : Int32).toInt64 &&& 63)).toInt32).toInt8.toInt32))) (5 : Int32).toNatClampNeg (vp_nar .byte (((b.toInt64 >>> ((16 : Int32).toInt64 &&& 63)).toInt32).toInt8.toInt32))) (6 : Int32).toNatClampNeg (vp_nar .byte (((b.toInt64 >>> ((8 : Int32).toInt64 &&& 63)).toInt32).toInt8.toInt32))) (7 : Int32).toNatClampNeg (vp_nar .byte (((b.toInt64 >>> ((0 : Int32).toInt64 &&& 63)).toInt32).toInt8.toInt32))) h_9 h_8 (Nat.le_trans hna (Nat.le_add_right x 1)) (Nat.le_trans hna (Nat.le_add_right x 2))) (cwV 2 B.1.2.2.2.2 gX11_appendInput_X5_put rfl rfl rfl (by decide +kernel) ⟨Nat.le_of_ble_eq_true rfl, Nat.le_of_ble_eq_true rfl⟩) h_9 rfl rfl rfl rfl (Nat.le_of_ble_eq_true rfl) dX11_appendInput_45 ⟨Nat.le_of_ble_eq_true rfl, Nat.le_of_ble_eq_true rfl⟩ (fun v3 Φ3 sz3 st3 hp3 hs3 => ?_)
  obtain ⟨rfl, hq3, fr3, h_11, h_12⟩ := hp3
  replace hq3 : sz3 = sz := hq3
  subst sz3
  replace hs3 : st3 = [] := hs3
  subst st3
  have h_13 : Φ3 (x + 2) = some (ab_ G 700 (upd (upd (upd (upd (upd (upd (upd (upd (upd (upd (upd (upd (fun _ => 0) (0 : Int32).toNatClampNeg (vp_nar .byte (((a.toInt64 >>> ((24 : Int32).toInt64 &&& 63)).toInt32).toInt8.toInt32))) (1 : Int32).toNatClampNeg (vp_nar .byte (((a.toInt64 >>> ((16 : Int32).toInt64 &&& 63)).toInt32).toInt8.toInt32))) (2 : Int32).toNatClampNeg (vp_nar .byte (((a.toInt64 >>> ((8 : Int32).toInt64 &&& 63)).toInt32).toInt8.toInt32))) (3 : Int32).toNatClampNeg (vp_nar .byte (((a.toInt64 >>> ((0 : Int32).toInt64 &&& 63)).toInt32).toInt8.toInt32))) (4 : Int32).toNatClampNeg (vp_nar .byte (((b.toInt64 >>> ((24 : Int32).toInt64 &&& 63)).toInt32).toInt8.toInt32))) (5 : Int32).toNatClampNeg (vp_nar .byte (((b.toInt64 >>> ((16 : Int32).toInt64 &&& 63)).toInt32).toInt8.toInt32))) (6 : Int32).toNatClampNeg (vp_nar .byte (((b.toInt64 >>> ((8 : Int32).toInt64 &&& 63)).toInt32).toInt8.toInt32))) (7 : Int32).toNatClampNeg (vp_nar .byte (((b.toInt64 >>> ((0 : Int32).toInt64 &&& 63)).toInt32).toInt8.toInt32))) (8 : Int32).toNatClampNeg (vp_nar .byte (((d.toInt64 >>> ((24 : Int32).toInt64 &&& 63)).toInt32).toInt8.toInt32))) (9 : Int32).toNatClampNeg (vp_nar .byte (((d.toInt64 >>> ((16 : Int32).toInt64 &&& 63)).toInt32).toInt8.toInt32))) (10 : Int32).toNatClampNeg (vp_nar .byte (((d.toInt64 >>> ((8 : Int32).toInt64 &&& 63)).toInt32).toInt8.toInt32))) (11 : Int32).toNatClampNeg (vp_nar .byte (((d.toInt64 >>> ((0 : Int32).toInt64 &&& 63)).toInt32).toInt8.toInt32)))) := h_11
  have h_14 : Φ3 (x + 1) = some (o_ 7 [.ref (x + 2), .int 12]) := h_12
  refine z_aload_n B dX11_appendInput_48 rfl 0 rfl ?_
  have h_15 : Φ3 x = some (o_ 13 [.ref (x + 1), .ref (x + 3), .ref (x + 24), .ref (x + 46), .ref (x + 74), .ref (x + 80), .ref (x + 132), .ref (x + 121)]) := ((fr3 x (ne_off (x := x) (i := 0) (j := 2) rfl) (ne_off (x := x) (i := 0) (j := 1) rfl)).trans h_10)
  refine z_get (ref := "FlowExporter") (C := RX11) (T := TX11) (N := 8) (ci := 13) (v := .ref (x + 1)) B (by decide +kernel) rfl 0 (by decide) (by decide +kernel) rfl h_15 rfl dX11_appendInput_49 ?_
  refine z_iload B dX11_appendInput_52 4 rfl ?_
  refine z_i2l (v := f.toInt64) B dX11_appendInput_54 rfl ?_
  refine z_iconst (v := 4) B dX11_appendInput_55 rfl ?_
  refine z_callV (As := [.long f.toInt64, .int 4]) (rest := []) B (c_X5_put_12 G l Φ3 sz (x + 1) (x + 2) f.toInt64 (upd (upd (upd (upd (upd (upd (upd (upd (upd (upd (upd (upd (fun _ => 0) (0 : Int32).toNatClampNeg (vp_nar .byte (((a.toInt64 >>> ((24 : Int32).toInt64 &&& 63)).toInt32).toInt8.toInt32))) (1 : Int32).toNatClampNeg (vp_nar .byte (((a.toInt64 >>> ((16 : Int32).toInt64 &&& 63)).toInt32).toInt8.toInt32))) (2 : Int32).toNatClampNeg (vp_nar .byte (((a.toInt64 >>> ((8 : Int32).toInt64 &&& 63)).toInt32).toInt8.toInt32))) (3 : Int32).toNatClampNeg (vp_nar .byte (((a.toInt64 >>> ((0 : Int32).toInt64 &&& 63)).toInt32).toInt8.toInt32))) (4 : Int32).toNatClampNeg (vp_nar .byte (((b.toInt64 >>> ((24 : Int32).toInt64 &&& 63)).toInt32).toInt8.toInt32))) (5 : Int32).toNatClampNeg (vp_nar .byte (((b.toInt64 >>> ((16 : Int32).toInt64 &&& 63)).toInt32).toInt8.toInt32))) (6 : Int32).toNatClampNeg (vp_nar .byte (((b.toInt64 >>> ((8 : Int32).toInt64 &&& 63)).toInt32).toInt8.toInt32))) (7 : Int32).toNatClampNeg (vp_nar .byte (((b.toInt64 >>> ((0 : Int32).toInt64 &&& 63)).toInt32).toInt8.toInt32))) (8 : Int32).toNatClampNeg (vp_nar .byte (((d.toInt64 >>> ((24 : Int32).toInt64 &&& 63)).toInt32).toInt8.toInt32))) (9 : Int32).toNatClampNeg (vp_nar .byte (((d.toInt64 >>> ((16 : Int32).toInt64 &&& 63)).toInt32).toInt8.toInt32))) (10 : Int32).toNatClampNeg (vp_nar .byte (((d.toInt64 >>> ((8 : Int32).toInt64 &&& 63)).toInt32).toInt8.toInt32))) (11 : Int32).toNatClampNeg (vp_nar .byte (((d.toInt64 >>> ((0 : Int32).toInt64 &&& 63)).toInt32).toInt8.toInt32))) h_14 h_13 (Nat.le_trans hna (Nat.le_add_right x 1)) (Nat.le_trans hna (Nat.le_add_right x 2))) (cwV 2 B.1.2.2.2.2 gX11_appendInput_X5_put rfl rfl rfl (by decide +kernel) ⟨Nat.le_of_ble_eq_true rfl, Nat.le_of_ble_eq_true rfl⟩) h_14 rfl rfl rfl rfl (Nat.le_of_ble_eq_true rfl) dX11_appendInput_56 ⟨Nat.le_of_ble_eq_true rfl, Nat.le_of_ble_eq_true rfl⟩ (fun v4 Φ4 sz4 st4 hp4 hs4 => ?_)
  obtain ⟨rfl, hq4, fr4, h_16, h_17⟩ := hp4
  replace hq4 : sz4 = sz := hq4
  subst sz4
  replace hs4 : st4 = [] := hs4
  subst st4
  have h_18 : Φ4 (x + 2) = some (ab_ G 700 (upd (upd (upd (upd (upd (upd (upd (upd (upd (upd (upd (upd (upd (upd (upd (upd (fun _ => 0) (0 : Int32).toNatClampNeg (vp_nar .byte (((a.toInt64 >>> ((24 : Int32).toInt64 &&& 63)).toInt32).toInt8.toInt32))) (1 : Int32).toNatClampNeg (vp_nar .byte (((a.toInt64 >>> ((16 : Int32).toInt64 &&& 63)).toInt32).toInt8.toInt32))) (2 : Int32).toNatClampNeg (vp_nar .byte (((a.toInt64 >>> ((8 : Int32).toInt64 &&& 63)).toInt32).toInt8.toInt32))) (3 : Int32).toNatClampNeg (vp_nar .byte (((a.toInt64 >>> ((0 : Int32).toInt64 &&& 63)).toInt32).toInt8.toInt32))) (4 : Int32).toNatClampNeg (vp_nar .byte (((b.toInt64 >>> ((24 : Int32).toInt64 &&& 63)).toInt32).toInt8.toInt32))) (5 : Int32).toNatClampNeg (vp_nar .byte (((b.toInt64 >>> ((16 : Int32).toInt64 &&& 63)).toInt32).toInt8.toInt32))) (6 : Int32).toNatClampNeg (vp_nar .byte (((b.toInt64 >>> ((8 : Int32).toInt64 &&& 63)).toInt32).toInt8.toInt32))) (7 : Int32).toNatClampNeg (vp_nar .byte (((b.toInt64 >>> ((0 : Int32).toInt64 &&& 63)).toInt32).toInt8.toInt32))) (8 : Int32).toNatClampNeg (vp_nar .byte (((d.toInt64 >>> ((24 : Int32).toInt64 &&& 63)).toInt32).toInt8.toInt32))) (9 : Int32).toNatClampNeg (vp_nar .byte (((d.toInt64 >>> ((16 : Int32).toInt64 &&& 63)).toInt32).toInt8.toInt32))) (10 : Int32).toNatClampNeg (vp_nar .byte (((d.toInt64 >>> ((8 : Int32).toInt64 &&& 63)).toInt32).toInt8.toInt32))) (11 : Int32).toNatClampNeg (vp_nar .byte (((d.toInt64 >>> ((0 : Int32).toInt64 &&& 63)).toInt32).toInt8.toInt32))) (12 : Int32).toNatClampNeg (vp_nar .byte (((f.toInt64 >>> ((24 : Int32).toInt64 &&& 63)).toInt32).toInt8.toInt32))) (13 : Int32).toNatClampNeg (vp_nar .byte (((f.toInt64 >>> ((16 : Int32).toInt64 &&& 63)).toInt32).toInt8.toInt32))) (14 : Int32).toNatClampNeg (vp_nar .byte (((f.toInt64 >>> ((8 : Int32).toInt64 &&& 63)).toInt32).toInt8.toInt32))) (15 : Int32).toNatClampNeg (vp_nar .byte (((f.toInt64 >>> ((0 : Int32).toInt64 &&& 63)).toInt32).toInt8.toInt32)))) := h_16
  have h_19 : Φ4 (x + 1) = some (o_ 7 [.ref (x + 2), .int 16]) := h_17
  refine z_aload_n B dX11_appendInput_59 rfl 0 rfl ?_
  have h_20 : Φ4 x = some (o_ 13 [.ref (x + 1), .ref (x + 3), .ref (x + 24), .ref (x + 46), .ref (x + 74), .ref (x + 80), .ref (x + 132), .ref (x + 121)]) := ((fr4 x (ne_off (x := x) (i := 0) (j := 2) rfl) (ne_off (x := x) (i := 0) (j := 1) rfl)).trans h_15)
  refine z_get (ref := "FlowExporter") (C := RX11) (T := TX11) (N := 8) (ci := 13) (v := .ref (x + 1)) B (by decide +kernel) rfl 0 (by decide) (by decide +kernel) rfl h_20 rfl dX11_appendInput_60 ?_
  refine z_iload B dX11_appendInput_63 5 rfl ?_
  refine z_i2l (v := g.toInt64) B dX11_appendInput_65 rfl ?_
  refine z_iconst (v := 4) B dX11_appendInput_66 rfl ?_
  refine z_callV (As := [.long g.toInt64, .int 4]) (rest := []) B (c_X5_put_16 G l Φ4 sz (x + 1) (x + 2) g.toInt64 (upd (upd (upd (upd (upd (upd (upd (upd (upd (upd (upd (upd (upd (upd (upd (upd (fun _ => 0) (0 : Int32).toNatClampNeg (vp_nar .byte (((a.toInt64 >>> ((24 : Int32).toInt64 &&& 63)).toInt32).toInt8.toInt32))) (1 : Int32).toNatClampNeg (vp_nar .byte (((a.toInt64 >>> ((16 : Int32).toInt64 &&& 63)).toInt32).toInt8.toInt32))) (2 : Int32).toNatClampNeg (vp_nar .byte (((a.toInt64 >>> ((8 : Int32).toInt64 &&& 63)).toInt32).toInt8.toInt32))) (3 : Int32).toNatClampNeg (vp_nar .byte (((a.toInt64 >>> ((0 : Int32).toInt64 &&& 63)).toInt32).toInt8.toInt32))) (4 : Int32).toNatClampNeg (vp_nar .byte (((b.toInt64 >>> ((24 : Int32).toInt64 &&& 63)).toInt32).toInt8.toInt32))) (5 : Int32).toNatClampNeg (vp_nar .byte (((b.toInt64 >>> ((16 : Int32).toInt64 &&& 63)).toInt32).toInt8.toInt32))) (6 : Int32).toNatClampNeg (vp_nar .byte (((b.toInt64 >>> ((8 : Int32).toInt64 &&& 63)).toInt32).toInt8.toInt32))) (7 : Int32).toNatClampNeg (vp_nar .byte (((b.toInt64 >>> ((0 : Int32).toInt64 &&& 63)).toInt32).toInt8.toInt32))) (8 : Int32).toNatClampNeg (vp_nar .byte (((d.toInt64 >>> ((24 : Int32).toInt64 &&& 63)).toInt32).toInt8.toInt32))) (9 : Int32).toNatClampNeg (vp_nar .byte (((d.toInt64 >>> ((16 : Int32).toInt64 &&& 63)).toInt32).toInt8.toInt32))) (10 : Int32).toNatClampNeg (vp_nar .byte (((d.toInt64 >>> ((8 : Int32).toInt64 &&& 63)).toInt32).toInt8.toInt32))) (11 : Int32).toNatClampNeg (vp_nar .byte (((d.toInt64 >>> ((0 : Int32).toInt64 &&& 63)).toInt32).toInt8.toInt32))) (12 : Int32).toNatClampNeg (vp_nar .byte (((f.toInt64 >>> ((24 : Int32).toInt64 &&& 63)).toInt32).toInt8.toInt32))) (13 : Int32).toNatClampNeg (vp_nar .byte (((f.toInt64 >>> ((16 : Int32).toInt64 &&& 63)).toInt32).toInt8.toInt32))) (14 : Int32).toNatClampNeg (vp_nar .byte (((f.toInt64 >>> ((8 : Int32).toInt64 &&& 63)).toInt32).toInt8.toInt32))) (15 : Int32).toNatClampNeg (vp_nar .byte (((f.toInt64 >>> ((0 : Int32).toInt64 &&& 63)).toInt32).toInt8.toInt32))) h_19 h_18 (Nat.le_trans hna (Nat.le_add_right x 1)) (Nat.le_trans hna (Nat.le_add_right x 2))) (cwV 2 B.1.2.2.2.2 gX11_appendInput_X5_put rfl rfl rfl (by decide +kernel) ⟨Nat.le_of_ble_eq_true rfl, Nat.le_of_ble_eq_true rfl⟩) h_19 rfl rfl rfl rfl (Nat.le_of_ble_eq_true rfl) dX11_appendInput_67 ⟨Nat.le_of_ble_eq_true rfl, Nat.le_of_ble_eq_true rfl⟩ (fun v5 Φ5 sz5 st5 hp5 hs5 => ?_)
  obtain ⟨rfl, hq5, fr5, h_21, h_22⟩ := hp5
  replace hq5 : sz5 = sz := hq5
  subst sz5
  replace hs5 : st5 = [] := hs5
  subst st5
  have h_23 : Φ5 (x + 2) = some (ab_ G 700 (upd (upd (upd (upd (upd (upd (upd (upd (upd (upd (upd (upd (upd (upd (upd (upd (upd (upd (upd (upd (fun _ => 0) (0 : Int32).toNatClampNeg (vp_nar .byte (((a.toInt64 >>> ((24 : Int32).toInt64 &&& 63)).toInt32).toInt8.toInt32))) (1 : Int32).toNatClampNeg (vp_nar .byte (((a.toInt64 >>> ((16 : Int32).toInt64 &&& 63)).toInt32).toInt8.toInt32))) (2 : Int32).toNatClampNeg (vp_nar .byte (((a.toInt64 >>> ((8 : Int32).toInt64 &&& 63)).toInt32).toInt8.toInt32))) (3 : Int32).toNatClampNeg (vp_nar .byte (((a.toInt64 >>> ((0 : Int32).toInt64 &&& 63)).toInt32).toInt8.toInt32))) (4 : Int32).toNatClampNeg (vp_nar .byte (((b.toInt64 >>> ((24 : Int32).toInt64 &&& 63)).toInt32).toInt8.toInt32))) (5 : Int32).toNatClampNeg (vp_nar .byte (((b.toInt64 >>> ((16 : Int32).toInt64 &&& 63)).toInt32).toInt8.toInt32))) (6 : Int32).toNatClampNeg (vp_nar .byte (((b.toInt64 >>> ((8 : Int32).toInt64 &&& 63)).toInt32).toInt8.toInt32))) (7 : Int32).toNatClampNeg (vp_nar .byte (((b.toInt64 >>> ((0 : Int32).toInt64 &&& 63)).toInt32).toInt8.toInt32))) (8 : Int32).toNatClampNeg (vp_nar .byte (((d.toInt64 >>> ((24 : Int32).toInt64 &&& 63)).toInt32).toInt8.toInt32))) (9 : Int32).toNatClampNeg (vp_nar .byte (((d.toInt64 >>> ((16 : Int32).toInt64 &&& 63)).toInt32).toInt8.toInt32))) (10 : Int32).toNatClampNeg (vp_nar .byte (((d.toInt64 >>> ((8 : Int32).toInt64 &&& 63)).toInt32).toInt8.toInt32))) (11 : Int32).toNatClampNeg (vp_nar .byte (((d.toInt64 >>> ((0 : Int32).toInt64 &&& 63)).toInt32).toInt8.toInt32))) (12 : Int32).toNatClampNeg (vp_nar .byte (((f.toInt64 >>> ((24 : Int32).toInt64 &&& 63)).toInt32).toInt8.toInt32))) (13 : Int32).toNatClampNeg (vp_nar .byte (((f.toInt64 >>> ((16 : Int32).toInt64 &&& 63)).toInt32).toInt8.toInt32))) (14 : Int32).toNatClampNeg (vp_nar .byte (((f.toInt64 >>> ((8 : Int32).toInt64 &&& 63)).toInt32).toInt8.toInt32))) (15 : Int32).toNatClampNeg (vp_nar .byte (((f.toInt64 >>> ((0 : Int32).toInt64 &&& 63)).toInt32).toInt8.toInt32))) (16 : Int32).toNatClampNeg (vp_nar .byte (((g.toInt64 >>> ((24 : Int32).toInt64 &&& 63)).toInt32).toInt8.toInt32))) (17 : Int32).toNatClampNeg (vp_nar .byte (((g.toInt64 >>> ((16 : Int32).toInt64 &&& 63)).toInt32).toInt8.toInt32))) (18 : Int32).toNatClampNeg (vp_nar .byte (((g.toInt64 >>> ((8 : Int32).toInt64 &&& 63)).toInt32).toInt8.toInt32))) (19 : Int32).toNatClampNeg (vp_nar .byte (((g.toInt64 >>> ((0 : Int32).toInt64 &&& 63)).toInt32).toInt8.toInt32)))) := h_21
  have h_24 : Φ5 (x + 1) = some (o_ 7 [.ref (x + 2), .int 20]) := h_22
  refine z_aload_n B dX11_appendInput_70 rfl 0 rfl ?_
  have h_25 : Φ5 x = some (o_ 13 [.ref (x + 1), .ref (x + 3), .ref (x + 24), .ref (x + 46), .ref (x + 74), .ref (x + 80), .ref (x + 132), .ref (x + 121)]) := ((fr5 x (ne_off (x := x) (i := 0) (j := 2) rfl) (ne_off (x := x) (i := 0) (j := 1) rfl)).trans h_20)
  refine z_get (ref := "FlowExporter") (C := RX11) (T := TX11) (N := 8) (ci := 13) (v := .ref (x + 1)) B (by decide +kernel) rfl 0 (by decide) (by decide +kernel) rfl h_25 rfl dX11_appendInput_71 ?_
  refine z_get (ref := "FlowExporter$Message") (C := RX5) (T := TX5) (N := 2) (ci := 7) (v := .int 20) B (by decide +kernel) rfl 1 (by decide) (by decide +kernel) rfl h_24 rfl dX11_appendInput_74 ?_
  exact z_ret_i B dX11_appendInput_77 ⟨rfl, fun b9 h9 => ((fr5 b9 (Nat.ne_of_gt (Nat.lt_of_lt_of_le (lt_off (x := x) (i := 2) (j := 149) rfl) h9)) (Nat.ne_of_gt (Nat.lt_of_lt_of_le (lt_off (x := x) (i := 1) (j := 149) rfl) h9))).trans ((fr4 b9 (Nat.ne_of_gt (Nat.lt_of_lt_of_le (lt_off (x := x) (i := 2) (j := 149) rfl) h9)) (Nat.ne_of_gt (Nat.lt_of_lt_of_le (lt_off (x := x) (i := 1) (j := 149) rfl) h9))).trans ((fr3 b9 (Nat.ne_of_gt (Nat.lt_of_lt_of_le (lt_off (x := x) (i := 2) (j := 149) rfl) h9)) (Nat.ne_of_gt (Nat.lt_of_lt_of_le (lt_off (x := x) (i := 1) (j := 149) rfl) h9))).trans ((fr2 b9 (Nat.ne_of_gt (Nat.lt_of_lt_of_le (lt_off (x := x) (i := 2) (j := 149) rfl) h9)) (Nat.ne_of_gt (Nat.lt_of_lt_of_le (lt_off (x := x) (i := 1) (j := 149) rfl) h9))).trans ((fr1 b9 (Nat.ne_of_gt (Nat.lt_of_lt_of_le (lt_off (x := x) (i := 2) (j := 149) rfl) h9)) (Nat.ne_of_gt (Nat.lt_of_lt_of_le (lt_off (x := x) (i := 1) (j := 149) rfl) h9))).trans rfl)))))⟩

set_option maxHeartbeats 4000000 in
set_option maxRecDepth 100000 in
theorem f_X4_isFull_t (G : EnvG) (l : Launch) (Φ : Hm) (sz : Nat) (x : Nat) (hc95_ : Φ (x + 95) = some (o_ 6 [.ref (x + 96), .int 0])) (hc96_ : Φ (x + 96) = some (aq_ G 5 24 (va_up (va_up (va_up (va_up (va_up (va_up (va_up (va_up (va_up (va_up (va_up (va_up (va_up (va_up (va_up (va_up (va_up (va_up (va_up (va_up (va_up (va_up (va_up (va_up (fun _ => none) (0 : Int32).toNatClampNeg (some (x + 97))) (1 : Int32).toNatClampNeg (some (x + 98))) (2 : Int32).toNatClampNeg (some (x + 99))) (3 : Int32).toNatClampNeg (some (x + 100))) (4 : Int32).toNatClampNeg (some (x + 101))) (5 : Int32).toNatClampNeg (some (x + 102))) (6 : Int32).toNatClampNeg (some (x + 103))) (7 : Int32).toNatClampNeg (some (x + 104))) (8 : Int32).toNatClampNeg (some (x + 105))) (9 : Int32).toNatClampNeg (some (x + 106))) (10 : Int32).toNatClampNeg (some (x + 107))) (11 : Int32).toNatClampNeg (some (x + 108))) (12 : Int32).toNatClampNeg (some (x + 109))) (13 : Int32).toNatClampNeg (some (x + 110))) (14 : Int32).toNatClampNeg (some (x + 111))) (15 : Int32).toNatClampNeg (some (x + 112))) (16 : Int32).toNatClampNeg (some (x + 113))) (17 : Int32).toNatClampNeg (some (x + 114))) (18 : Int32).toNatClampNeg (some (x + 115))) (19 : Int32).toNatClampNeg (some (x + 116))) (20 : Int32).toNatClampNeg (some (x + 117))) (21 : Int32).toNatClampNeg (some (x + 118))) (22 : Int32).toNatClampNeg (some (x + 119))) (23 : Int32).toNatClampNeg (some (x + 120))))) : Ct G l yX4_isFull wsX4_isFull ({ frames := 0, cells := 0, slots := 0, locals := 0 }) 0 0 [.ref (x + 95)] Φ sz (fun v Φ1 sz1 => v = some (.int 0) ∧ sz1 = sz ∧ (∀ b9 : Nat, Φ1 b9 = Φ b9)) := by
  refine Ct.of (cc := cX4_isFull) (maxL := 1) (ret := (some .boolean)) (by decide) rfl (Nat.le_of_ble_eq_true rfl) ?_
  intro p9 e9 s9 m9 w9 t9 k9 B
  show Z p9 l e9 _ s9 m9 _ w9 t9 k9 _ G 1 0 [(0, .ref (x + 95))] [] Φ sz 0 0
  refine z_aload_n B dX4_isFull_0 rfl 0 rfl ?_
  refine z_get (ref := "FlowExporter$FlowTable") (C := RX4) (T := TX4) (N := 2) (ci := 6) (v := .int 0) B (by decide +kernel) rfl 1 (by decide) (by decide +kernel) rfl hc95_ rfl dX4_isFull_1 ?_
  refine z_aload_n B dX4_isFull_4 rfl 0 rfl ?_
  refine z_get (ref := "FlowExporter$FlowTable") (C := RX4) (T := TX4) (N := 2) (ci := 6) (v := .ref (x + 96)) B (by decide +kernel) rfl 0 (by decide) (by decide +kernel) rfl hc95_ rfl dX4_isFull_5 ?_
  refine z_alen (t := 5) (v := 24) B rfl hc96_ rfl dX4_isFull_8 ?_
  refine z_icmp_lt (tgt := 16) B dX4_isFull_9 rfl (fun c_1 => ?_) (fun h9 => absurd (by decide) h9)
  refine z_iconst (v := 0) B dX4_isFull_16 rfl ?_
  exact z_ret_z B dX4_isFull_17 (by decide) ⟨rfl, rfl, (fun b9 => rfl)⟩

set_option maxHeartbeats 4000000 in
set_option maxRecDepth 100000 in
theorem f_X4_isFull_c (G : EnvG) (l : Launch) (Φ : Hm) (sz : Nat) (x : Nat) (hc81_ : Φ (x + 81) = some (o_ 6 [.ref (x + 82), .int 0])) (hc82_ : Φ (x + 82) = some (aq_ G 5 12 (va_up (va_up (va_up (va_up (va_up (va_up (va_up (va_up (va_up (va_up (va_up (va_up (fun _ => none) (0 : Int32).toNatClampNeg (some (x + 83))) (1 : Int32).toNatClampNeg (some (x + 84))) (2 : Int32).toNatClampNeg (some (x + 85))) (3 : Int32).toNatClampNeg (some (x + 86))) (4 : Int32).toNatClampNeg (some (x + 87))) (5 : Int32).toNatClampNeg (some (x + 88))) (6 : Int32).toNatClampNeg (some (x + 89))) (7 : Int32).toNatClampNeg (some (x + 90))) (8 : Int32).toNatClampNeg (some (x + 91))) (9 : Int32).toNatClampNeg (some (x + 92))) (10 : Int32).toNatClampNeg (some (x + 93))) (11 : Int32).toNatClampNeg (some (x + 94))))) : Ct G l yX4_isFull wsX4_isFull ({ frames := 0, cells := 0, slots := 0, locals := 0 }) 0 0 [.ref (x + 81)] Φ sz (fun v Φ1 sz1 => v = some (.int 0) ∧ sz1 = sz ∧ (∀ b9 : Nat, Φ1 b9 = Φ b9)) := by
  refine Ct.of (cc := cX4_isFull) (maxL := 1) (ret := (some .boolean)) (by decide) rfl (Nat.le_of_ble_eq_true rfl) ?_
  intro p9 e9 s9 m9 w9 t9 k9 B
  show Z p9 l e9 _ s9 m9 _ w9 t9 k9 _ G 1 0 [(0, .ref (x + 81))] [] Φ sz 0 0
  refine z_aload_n B dX4_isFull_0 rfl 0 rfl ?_
  refine z_get (ref := "FlowExporter$FlowTable") (C := RX4) (T := TX4) (N := 2) (ci := 6) (v := .int 0) B (by decide +kernel) rfl 1 (by decide) (by decide +kernel) rfl hc81_ rfl dX4_isFull_1 ?_
  refine z_aload_n B dX4_isFull_4 rfl 0 rfl ?_
  refine z_get (ref := "FlowExporter$FlowTable") (C := RX4) (T := TX4) (N := 2) (ci := 6) (v := .ref (x + 82)) B (by decide +kernel) rfl 0 (by decide) (by decide +kernel) rfl hc81_ rfl dX4_isFull_5 ?_
  refine z_alen (t := 5) (v := 12) B rfl hc82_ rfl dX4_isFull_8 ?_
  refine z_icmp_lt (tgt := 16) B dX4_isFull_9 rfl (fun c_1 => ?_) (fun h9 => absurd (by decide) h9)
  refine z_iconst (v := 0) B dX4_isFull_16 rfl ?_
  exact z_ret_z B dX4_isFull_17 (by decide) ⟨rfl, rfl, (fun b9 => rfl)⟩

set_option maxHeartbeats 4000000 in
set_option maxRecDepth 100000 in
theorem f_X4_flowAt_t (G : EnvG) (l : Launch) (Φ : Hm) (sz : Nat) (x : Nat) (hc95_ : Φ (x + 95) = some (o_ 6 [.ref (x + 96), .int 0])) (hc96_ : Φ (x + 96) = some (aq_ G 5 24 (va_up (va_up (va_up (va_up (va_up (va_up (va_up (va_up (va_up (va_up (va_up (va_up (va_up (va_up (va_up (va_up (va_up (va_up (va_up (va_up (va_up (va_up (va_up (va_up (fun _ => none) (0 : Int32).toNatClampNeg (some (x + 97))) (1 : Int32).toNatClampNeg (some (x + 98))) (2 : Int32).toNatClampNeg (some (x + 99))) (3 : Int32).toNatClampNeg (some (x + 100))) (4 : Int32).toNatClampNeg (some (x + 101))) (5 : Int32).toNatClampNeg (some (x + 102))) (6 : Int32).toNatClampNeg (some (x + 103))) (7 : Int32).toNatClampNeg (some (x + 104))) (8 : Int32).toNatClampNeg (some (x + 105))) (9 : Int32).toNatClampNeg (some (x + 106))) (10 : Int32).toNatClampNeg (some (x + 107))) (11 : Int32).toNatClampNeg (some (x + 108))) (12 : Int32).toNatClampNeg (some (x + 109))) (13 : Int32).toNatClampNeg (some (x + 110))) (14 : Int32).toNatClampNeg (some (x + 111))) (15 : Int32).toNatClampNeg (some (x + 112))) (16 : Int32).toNatClampNeg (some (x + 113))) (17 : Int32).toNatClampNeg (some (x + 114))) (18 : Int32).toNatClampNeg (some (x + 115))) (19 : Int32).toNatClampNeg (some (x + 116))) (20 : Int32).toNatClampNeg (some (x + 117))) (21 : Int32).toNatClampNeg (some (x + 118))) (22 : Int32).toNatClampNeg (some (x + 119))) (23 : Int32).toNatClampNeg (some (x + 120))))) : Ct G l yX4_flowAt wsX4_flowAt ({ frames := 0, cells := 0, slots := 0, locals := 0 }) 0 0 [.ref (x + 95), .int 0] Φ sz (fun v Φ1 sz1 => v = some (.ref (x + 97)) ∧ sz1 = sz ∧ (∀ b9 : Nat, Φ1 b9 = Φ b9)) := by
  refine Ct.of (cc := cX4_flowAt) (maxL := 2) (ret := (some (.object "FlowExporter$Flow"))) (by decide) rfl (Nat.le_of_ble_eq_true rfl) ?_
  intro p9 e9 s9 m9 w9 t9 k9 B
  show Z p9 l e9 _ s9 m9 _ w9 t9 k9 _ G 2 0 [(0, .ref (x + 95)), (1, .int 0)] [] Φ sz 0 0
  refine z_aload_n B dX4_flowAt_0 rfl 0 rfl ?_
  refine z_get (ref := "FlowExporter$FlowTable") (C := RX4) (T := TX4) (N := 2) (ci := 6) (v := .ref (x + 96)) B (by decide +kernel) rfl 0 (by decide) (by decide +kernel) rfl hc95_ rfl dX4_flowAt_1 ?_
  refine z_iload_n B dX4_flowAt_4 rfl 1 rfl ?_
  refine z_if_lt (tgt := 21) B dX4_flowAt_5 rfl (fun h9 => absurd h9 (by decide)) (fun c_1 => ?_)
  refine z_iload_n B dX4_flowAt_8 rfl 1 rfl ?_
  refine z_aload_n B dX4_flowAt_9 rfl 0 rfl ?_
  refine z_get (ref := "FlowExporter$FlowTable") (C := RX4) (T := TX4) (N := 2) (ci := 6) (v := .ref (x + 96)) B (by decide +kernel) rfl 0 (by decide) (by decide +kernel) rfl hc95_ rfl dX4_flowAt_10 ?_
  refine z_alen (t := 5) (v := 24) B rfl hc96_ rfl dX4_flowAt_13 ?_
  refine z_icmp_ge (tgt := 21) B dX4_flowAt_14 rfl (fun h9 => absurd h9 (by decide)) (fun c_2 => ?_)
  refine z_iload_n B dX4_flowAt_17 rfl 1 rfl ?_
  refine z_goto (tgt := 22) B dX4_flowAt_18 rfl ?_
  refine z_aald (b := x + 97) B rfl hc96_ (vin rfl) rfl dX4_flowAt_22 ?_
  exact z_ret_a B dX4_flowAt_23 ⟨rfl, rfl, (fun b9 => rfl)⟩

set_option maxHeartbeats 4000000 in
set_option maxRecDepth 100000 in
theorem f_X4_flowAt_c (G : EnvG) (l : Launch) (Φ : Hm) (sz : Nat) (x : Nat) (hc81_ : Φ (x + 81) = some (o_ 6 [.ref (x + 82), .int 0])) (hc82_ : Φ (x + 82) = some (aq_ G 5 12 (va_up (va_up (va_up (va_up (va_up (va_up (va_up (va_up (va_up (va_up (va_up (va_up (fun _ => none) (0 : Int32).toNatClampNeg (some (x + 83))) (1 : Int32).toNatClampNeg (some (x + 84))) (2 : Int32).toNatClampNeg (some (x + 85))) (3 : Int32).toNatClampNeg (some (x + 86))) (4 : Int32).toNatClampNeg (some (x + 87))) (5 : Int32).toNatClampNeg (some (x + 88))) (6 : Int32).toNatClampNeg (some (x + 89))) (7 : Int32).toNatClampNeg (some (x + 90))) (8 : Int32).toNatClampNeg (some (x + 91))) (9 : Int32).toNatClampNeg (some (x + 92))) (10 : Int32).toNatClampNeg (some (x + 93))) (11 : Int32).toNatClampNeg (some (x + 94))))) : Ct G l yX4_flowAt wsX4_flowAt ({ frames := 0, cells := 0, slots := 0, locals := 0 }) 0 0 [.ref (x + 81), .int 0] Φ sz (fun v Φ1 sz1 => v = some (.ref (x + 83)) ∧ sz1 = sz ∧ (∀ b9 : Nat, Φ1 b9 = Φ b9)) := by
  refine Ct.of (cc := cX4_flowAt) (maxL := 2) (ret := (some (.object "FlowExporter$Flow"))) (by decide) rfl (Nat.le_of_ble_eq_true rfl) ?_
  intro p9 e9 s9 m9 w9 t9 k9 B
  show Z p9 l e9 _ s9 m9 _ w9 t9 k9 _ G 2 0 [(0, .ref (x + 81)), (1, .int 0)] [] Φ sz 0 0
  refine z_aload_n B dX4_flowAt_0 rfl 0 rfl ?_
  refine z_get (ref := "FlowExporter$FlowTable") (C := RX4) (T := TX4) (N := 2) (ci := 6) (v := .ref (x + 82)) B (by decide +kernel) rfl 0 (by decide) (by decide +kernel) rfl hc81_ rfl dX4_flowAt_1 ?_
  refine z_iload_n B dX4_flowAt_4 rfl 1 rfl ?_
  refine z_if_lt (tgt := 21) B dX4_flowAt_5 rfl (fun h9 => absurd h9 (by decide)) (fun c_1 => ?_)
  refine z_iload_n B dX4_flowAt_8 rfl 1 rfl ?_
  refine z_aload_n B dX4_flowAt_9 rfl 0 rfl ?_
  refine z_get (ref := "FlowExporter$FlowTable") (C := RX4) (T := TX4) (N := 2) (ci := 6) (v := .ref (x + 82)) B (by decide +kernel) rfl 0 (by decide) (by decide +kernel) rfl hc81_ rfl dX4_flowAt_10 ?_
  refine z_alen (t := 5) (v := 12) B rfl hc82_ rfl dX4_flowAt_13 ?_
  refine z_icmp_ge (tgt := 21) B dX4_flowAt_14 rfl (fun h9 => absurd h9 (by decide)) (fun c_2 => ?_)
  refine z_iload_n B dX4_flowAt_17 rfl 1 rfl ?_
  refine z_goto (tgt := 22) B dX4_flowAt_18 rfl ?_
  refine z_aald (b := x + 83) B rfl hc82_ (vin rfl) rfl dX4_flowAt_22 ?_
  exact z_ret_a B dX4_flowAt_23 ⟨rfl, rfl, (fun b9 => rfl)⟩

set_option maxHeartbeats 4000000 in
set_option maxRecDepth 100000 in
theorem c_X3_begin (G : EnvG) (l : Launch) (Φ : Hm) (sz : Nat) (h : Nat) (k : Int64) (t : Int32) (a : Int64) (b : Int64) (d : Int64) (e : Int32) (f : Int32) (hc0 : Φ h = some (o_ 5 [.long a, .long b, .long d, .int e, .int f])) (hna_h : G.2.2.2 ≤ h) : Ct G l yX3_begin wsX3_begin ({ frames := 0, cells := 0, slots := 0, locals := 0 }) 0 0 [.ref h, .long k, .int t] Φ sz (fun v Φ1 sz1 => v = none ∧ sz1 = sz ∧ (∀ b9 : Nat, b9 ≠ h → Φ1 b9 = Φ b9) ∧ Φ1 h = some (o_ 5 [.long k, .long 0, .long 0, .int t, .int t])) := by
  refine Ct.of (cc := cX3_begin) (maxL := 4) (ret := none) (by decide) rfl (Nat.le_of_ble_eq_true rfl) ?_
  intro p9 e9 s9 m9 w9 t9 k9 B
  show Z p9 l e9 _ s9 m9 _ w9 t9 k9 _ G 4 0 [(0, .ref h), (1, .long k), (3, .int t)] [] Φ (sz) 0 0
  refine z_aload_n B dX3_begin_0 rfl 0 rfl ?_
  refine z_lload_n B dX3_begin_1 rfl 1 rfl ?_
  refine z_put (ref := "FlowExporter$Flow") (C := RX3) (T := TX3) (N := 5) (ci := 5) (v := .long k) B (by decide +kernel) tyX3 tyX3_ok nmX3 rfl 0 (by decide) (by decide +kernel) rfl (Or.inl rfl) hc0 hna_h rfl rfl (Nat.le_of_ble_eq_true rfl) dX3_begin_2 (fun Φ1 hΦ1 => ?_)
  have h_1 : Φ1 h = some (o_ 5 [.long k, .long b, .long d, .int e, .int f]) := fset_at hΦ1
  refine z_aload_n B dX3_begin_5 rfl 0 rfl ?_
  refine z_lconst (v := 0) B dX3_begin_6 rfl ?_
  refine z_put (ref := "FlowExporter$Flow") (C := RX3) (T := TX3) (N := 5) (ci := 5) (v := .long 0) B (by decide +kernel) tyX3 tyX3_ok nmX3 rfl 1 (by decide) (by decide +kernel) rfl (Or.inl rfl) h_1 hna_h rfl rfl (Nat.le_of_ble_eq_true rfl) dX3_begin_7 (fun Φ2 hΦ2 => ?_)
  have h_2 : Φ2 h = some (o_ 5 [.long k, .long 0, .long d, .int e, .int f]) := fset_at hΦ2
  refine z_aload_n B dX3_begin_10 rfl 0 rfl ?_
  refine z_lconst (v := 0) B dX3_begin_11 rfl ?_
  refine z_put (ref := "FlowExporter$Flow") (C := RX3) (T := TX3) (N := 5) (ci := 5) (v := .long 0) B (by decide +kernel) tyX3 tyX3_ok nmX3 rfl 2 (by decide) (by decide +kernel) rfl (Or.inl rfl) h_2 hna_h rfl rfl (Nat.le_of_ble_eq_true rfl) dX3_begin_12 (fun Φ3 hΦ3 => ?_)
  have h_3 : Φ3 h = some (o_ 5 [.long k, .long 0, .long 0, .int e, .int f]) := fset_at hΦ3
  refine z_aload_n B dX3_begin_15 rfl 0 rfl ?_
  refine z_iload_n B dX3_begin_16 rfl 2 rfl ?_
  refine z_put (ref := "FlowExporter$Flow") (C := RX3) (T := TX3) (N := 5) (ci := 5) (v := .int t) B (by decide +kernel) tyX3 tyX3_ok nmX3 rfl 3 (by decide) (by decide +kernel) rfl (Or.inl rfl) h_3 hna_h rfl rfl (Nat.le_of_ble_eq_true rfl) dX3_begin_17 (fun Φ4 hΦ4 => ?_)
  have h_4 : Φ4 h = some (o_ 5 [.long k, .long 0, .long 0, .int t, .int f]) := fset_at hΦ4
  refine z_aload_n B dX3_begin_20 rfl 0 rfl ?_
  refine z_iload_n B dX3_begin_21 rfl 2 rfl ?_
  refine z_put (ref := "FlowExporter$Flow") (C := RX3) (T := TX3) (N := 5) (ci := 5) (v := .int t) B (by decide +kernel) tyX3 tyX3_ok nmX3 rfl 4 (by decide) (by decide +kernel) rfl (Or.inl rfl) h_4 hna_h rfl rfl (Nat.le_of_ble_eq_true rfl) dX3_begin_22 (fun Φ5 hΦ5 => ?_)
  have h_5 : Φ5 h = some (o_ 5 [.long k, .long 0, .long 0, .int t, .int t]) := fset_at hΦ5
  exact z_ret_v B dX3_begin_25 ⟨rfl, rfl, (fun b9 h9a => ((fset_fr hΦ5 h9a).trans ((fset_fr hΦ4 h9a).trans ((fset_fr hΦ3 h9a).trans ((fset_fr hΦ2 h9a).trans ((fset_fr hΦ1 h9a).trans rfl)))))), h_5⟩

set_option maxHeartbeats 4000000 in
set_option maxRecDepth 100000 in
theorem f_X4_addFlow_t (G : EnvG) (l : Launch) (Φ : Hm) (sz : Nat) (x : Nat) (k : Int64) (hc95_ : Φ (x + 95) = some (o_ 6 [.ref (x + 96), .int 0])) (hc96_ : Φ (x + 96) = some (aq_ G 5 24 (va_up (va_up (va_up (va_up (va_up (va_up (va_up (va_up (va_up (va_up (va_up (va_up (va_up (va_up (va_up (va_up (va_up (va_up (va_up (va_up (va_up (va_up (va_up (va_up (fun _ => none) (0 : Int32).toNatClampNeg (some (x + 97))) (1 : Int32).toNatClampNeg (some (x + 98))) (2 : Int32).toNatClampNeg (some (x + 99))) (3 : Int32).toNatClampNeg (some (x + 100))) (4 : Int32).toNatClampNeg (some (x + 101))) (5 : Int32).toNatClampNeg (some (x + 102))) (6 : Int32).toNatClampNeg (some (x + 103))) (7 : Int32).toNatClampNeg (some (x + 104))) (8 : Int32).toNatClampNeg (some (x + 105))) (9 : Int32).toNatClampNeg (some (x + 106))) (10 : Int32).toNatClampNeg (some (x + 107))) (11 : Int32).toNatClampNeg (some (x + 108))) (12 : Int32).toNatClampNeg (some (x + 109))) (13 : Int32).toNatClampNeg (some (x + 110))) (14 : Int32).toNatClampNeg (some (x + 111))) (15 : Int32).toNatClampNeg (some (x + 112))) (16 : Int32).toNatClampNeg (some (x + 113))) (17 : Int32).toNatClampNeg (some (x + 114))) (18 : Int32).toNatClampNeg (some (x + 115))) (19 : Int32).toNatClampNeg (some (x + 116))) (20 : Int32).toNatClampNeg (some (x + 117))) (21 : Int32).toNatClampNeg (some (x + 118))) (22 : Int32).toNatClampNeg (some (x + 119))) (23 : Int32).toNatClampNeg (some (x + 120))))) (hc97_ : Φ (x + 97) = some (o_ 5 [.long 0, .long 0, .long 0, .int 0, .int 0])) (hna : G.2.2.2 ≤ x) : Ct G l yX4_addFlow wsX4_addFlow ({ frames := 1, cells := 0, slots := 0, locals := 23 }) 0 0 [.ref (x + 95), .long k, .int 0] Φ sz (fun v Φ1 sz1 => v = some (.ref (x + 97)) ∧ sz1 = sz ∧ (∀ b9 : Nat, b9 ≠ x + 95 → b9 ≠ x + 97 → Φ1 b9 = Φ b9) ∧ Φ1 (x + 95) = some (o_ 6 [.ref (x + 96), .int 1]) ∧ Φ1 (x + 97) = some (o_ 5 [.long k, .long 0, .long 0, .int 0, .int 0])) := by
  refine Ct.of (cc := cX4_addFlow) (maxL := 5) (ret := (some (.object "FlowExporter$Flow"))) (by decide) rfl (Nat.le_of_ble_eq_true rfl) ?_
  intro p9 e9 s9 m9 w9 t9 k9 B
  show Z p9 l e9 _ s9 m9 _ w9 t9 k9 _ G 5 0 [(0, .ref (x + 95)), (1, .long k), (3, .int 0)] [] Φ sz 0 0
  refine z_aload_n B dX4_addFlow_0 rfl 0 rfl ?_
  refine z_aload_n B dX4_addFlow_1 rfl 0 rfl ?_
  refine z_get (ref := "FlowExporter$FlowTable") (C := RX4) (T := TX4) (N := 2) (ci := 6) (v := .int 0) B (by decide +kernel) rfl 1 (by decide) (by decide +kernel) rfl hc95_ rfl dX4_addFlow_2 ?_
  refine z_callV (As := [.int 0]) (rest := []) B (f_X4_flowAt_t G l Φ sz x hc95_ hc96_) (cwV 1 B.1.2.2.2.2 gX4_addFlow_X4_flowAt rfl rfl rfl (by decide +kernel) ⟨Nat.le_of_ble_eq_true rfl, Nat.le_of_ble_eq_true rfl⟩) hc95_ rfl rfl rfl rfl (Nat.le_of_ble_eq_true rfl) dX4_addFlow_5 ⟨Nat.le_of_ble_eq_true rfl, Nat.le_of_ble_eq_true rfl⟩ (fun v1 Φ1 sz1 st1 hp1 hs1 => ?_)
  obtain ⟨rfl, hq1, fr1⟩ := hp1
  replace hq1 : sz1 = sz := hq1
  subst sz1
  replace hs1 : st1 = [.ref (x + 97)] := hs1
  subst st1
  refine z_astore (lv' := [(4, .ref (x + 97)), (0, .ref (x + 95)), (1, .long k), (3, .int 0)]) B dX4_addFlow_8 (Nat.le_of_ble_eq_true rfl) rfl ?_
  refine z_aload B dX4_addFlow_10 0 rfl ?_
  refine z_lload_n B dX4_addFlow_12 rfl 2 rfl ?_
  refine z_iload_n B dX4_addFlow_13 rfl 3 rfl ?_
  have h_1 : Φ1 (x + 97) = some (o_ 5 [.long 0, .long 0, .long 0, .int 0, .int 0]) := ((fr1 (x + 97)).trans hc97_)
  refine z_callV (As := [.long k, .int 0]) (rest := []) B (c_X3_begin G l Φ1 sz (x + 97) k 0 0 0 0 0 0 h_1 (Nat.le_trans hna (Nat.le_add_right x 97))) (cwV 2 B.1.2.2.2.2 gX4_addFlow_X3_begin rfl rfl rfl (by decide +kernel) ⟨Nat.le_of_ble_eq_true rfl, Nat.le_of_ble_eq_true rfl⟩) h_1 rfl rfl rfl rfl (Nat.le_of_ble_eq_true rfl) dX4_addFlow_14 ⟨Nat.le_of_ble_eq_true rfl, Nat.le_of_ble_eq_true rfl⟩ (fun v2 Φ2 sz2 st2 hp2 hs2 => ?_)
  obtain ⟨rfl, hq2, fr2, h_2⟩ := hp2
  replace hq2 : sz2 = sz := hq2
  subst sz2
  replace hs2 : st2 = [] := hs2
  subst st2
  have h_3 : Φ2 (x + 97) = some (o_ 5 [.long k, .long 0, .long 0, .int 0, .int 0]) := h_2
  refine z_aload_n B dX4_addFlow_17 rfl 1 rfl ?_
  refine z_aload_n B dX4_addFlow_18 rfl 1 rfl ?_
  have h_4 : Φ2 (x + 95) = some (o_ 6 [.ref (x + 96), .int 0]) := ((fr2 (x + 95) (ne_off (x := x) (i := 95) (j := 97) rfl)).trans ((fr1 (x + 95)).trans hc95_))
  refine z_get (ref := "FlowExporter$FlowTable") (C := RX4) (T := TX4) (N := 2) (ci := 6) (v := .int 0) B (by decide +kernel) rfl 1 (by decide) (by decide +kernel) rfl h_4 rfl dX4_addFlow_19 ?_
  refine z_iconst (v := 1) B dX4_addFlow_22 rfl ?_
  refine z_iadd B dX4_addFlow_23 ?_
  refine z_top (st1 := [.int 1, .ref (x + 95)]) (congrArg (fun w9 : Int32 => ([.int w9, .ref (x + 95)] : List Value)) (show (0 + 1 : Int32) = 1 by decide +kernel)) ?_
  refine z_aload_n B dX4_addFlow_24 rfl 1 rfl ?_
  refine z_get (ref := "FlowExporter$FlowTable") (C := RX4) (T := TX4) (N := 2) (ci := 6) (v := .ref (x + 96)) B (by decide +kernel) rfl 0 (by decide) (by decide +kernel) rfl h_4 rfl dX4_addFlow_25 ?_
  have h_5 : Φ2 (x + 96) = some (aq_ G 5 24 (va_up (va_up (va_up (va_up (va_up (va_up (va_up (va_up (va_up (va_up (va_up (va_up (va_up (va_up (va_up (va_up (va_up (va_up (va_up (va_up (va_up (va_up (va_up (va_up (fun _ => none) (0 : Int32).toNatClampNeg (some (x + 97))) (1 : Int32).toNatClampNeg (some (x + 98))) (2 : Int32).toNatClampNeg (some (x + 99))) (3 : Int32).toNatClampNeg (some (x + 100))) (4 : Int32).toNatClampNeg (some (x + 101))) (5 : Int32).toNatClampNeg (some (x + 102))) (6 : Int32).toNatClampNeg (some (x + 103))) (7 : Int32).toNatClampNeg (some (x + 104))) (8 : Int32).toNatClampNeg (some (x + 105))) (9 : Int32).toNatClampNeg (some (x + 106))) (10 : Int32).toNatClampNeg (some (x + 107))) (11 : Int32).toNatClampNeg (some (x + 108))) (12 : Int32).toNatClampNeg (some (x + 109))) (13 : Int32).toNatClampNeg (some (x + 110))) (14 : Int32).toNatClampNeg (some (x + 111))) (15 : Int32).toNatClampNeg (some (x + 112))) (16 : Int32).toNatClampNeg (some (x + 113))) (17 : Int32).toNatClampNeg (some (x + 114))) (18 : Int32).toNatClampNeg (some (x + 115))) (19 : Int32).toNatClampNeg (some (x + 116))) (20 : Int32).toNatClampNeg (some (x + 117))) (21 : Int32).toNatClampNeg (some (x + 118))) (22 : Int32).toNatClampNeg (some (x + 119))) (23 : Int32).toNatClampNeg (some (x + 120)))) := ((fr2 (x + 96) (ne_off (x := x) (i := 96) (j := 97) rfl)).trans ((fr1 (x + 96)).trans hc96_))
  refine z_alen (t := 5) (v := 24) B rfl h_5 rfl dX4_addFlow_28 ?_
  refine z_mmin (v := 1) B (by decide +kernel) (by decide +kernel) (by decide +kernel) (by decide +kernel) (by decide) ⟨Nat.le_of_ble_eq_true rfl, Nat.le_of_ble_eq_true rfl⟩ ⟨Nat.le_of_ble_eq_true rfl, Nat.le_of_ble_eq_true rfl⟩ dX4_addFlow_29 ?_
  refine z_put (ref := "FlowExporter$FlowTable") (C := RX4) (T := TX4) (N := 2) (ci := 6) (v := .int 1) B (by decide +kernel) tyX4 tyX4_ok nmX4 rfl 1 (by decide) (by decide +kernel) rfl (Or.inl rfl) h_4 (Nat.le_trans hna (Nat.le_add_right x 95)) rfl rfl (Nat.le_of_ble_eq_true rfl) dX4_addFlow_32 (fun Φ3 hΦ1 => ?_)
  have h_6 : Φ3 (x + 95) = some (o_ 6 [.ref (x + 96), .int 1]) := fset_at hΦ1
  refine z_aload B dX4_addFlow_35 0 rfl ?_
  have h_7 : Φ3 (x + 97) = some (o_ 5 [.long k, .long 0, .long 0, .int 0, .int 0]) := ((fset_fr hΦ1 (ne_off (x := x) (i := 97) (j := 95) rfl)).trans h_3)
  exact z_ret_a B dX4_addFlow_37 ⟨rfl, rfl, (fun b9 h9a h9b => ((fset_fr hΦ1 h9a).trans ((fr2 b9 h9b).trans ((fr1 b9).trans rfl)))), h_6, h_7⟩

set_option maxHeartbeats 4000000 in
set_option maxRecDepth 100000 in
theorem f_X4_addFlow_c (G : EnvG) (l : Launch) (Φ : Hm) (sz : Nat) (x : Nat) (k : Int64) (hc81_ : Φ (x + 81) = some (o_ 6 [.ref (x + 82), .int 0])) (hc82_ : Φ (x + 82) = some (aq_ G 5 12 (va_up (va_up (va_up (va_up (va_up (va_up (va_up (va_up (va_up (va_up (va_up (va_up (fun _ => none) (0 : Int32).toNatClampNeg (some (x + 83))) (1 : Int32).toNatClampNeg (some (x + 84))) (2 : Int32).toNatClampNeg (some (x + 85))) (3 : Int32).toNatClampNeg (some (x + 86))) (4 : Int32).toNatClampNeg (some (x + 87))) (5 : Int32).toNatClampNeg (some (x + 88))) (6 : Int32).toNatClampNeg (some (x + 89))) (7 : Int32).toNatClampNeg (some (x + 90))) (8 : Int32).toNatClampNeg (some (x + 91))) (9 : Int32).toNatClampNeg (some (x + 92))) (10 : Int32).toNatClampNeg (some (x + 93))) (11 : Int32).toNatClampNeg (some (x + 94))))) (hc83_ : Φ (x + 83) = some (o_ 5 [.long 0, .long 0, .long 0, .int 0, .int 0])) (hna : G.2.2.2 ≤ x) : Ct G l yX4_addFlow wsX4_addFlow ({ frames := 1, cells := 0, slots := 0, locals := 23 }) 0 0 [.ref (x + 81), .long k, .int 0] Φ sz (fun v Φ1 sz1 => v = some (.ref (x + 83)) ∧ sz1 = sz ∧ (∀ b9 : Nat, b9 ≠ x + 81 → b9 ≠ x + 83 → Φ1 b9 = Φ b9) ∧ Φ1 (x + 81) = some (o_ 6 [.ref (x + 82), .int 1]) ∧ Φ1 (x + 83) = some (o_ 5 [.long k, .long 0, .long 0, .int 0, .int 0])) := by
  refine Ct.of (cc := cX4_addFlow) (maxL := 5) (ret := (some (.object "FlowExporter$Flow"))) (by decide) rfl (Nat.le_of_ble_eq_true rfl) ?_
  intro p9 e9 s9 m9 w9 t9 k9 B
  show Z p9 l e9 _ s9 m9 _ w9 t9 k9 _ G 5 0 [(0, .ref (x + 81)), (1, .long k), (3, .int 0)] [] Φ sz 0 0
  refine z_aload_n B dX4_addFlow_0 rfl 0 rfl ?_
  refine z_aload_n B dX4_addFlow_1 rfl 0 rfl ?_
  refine z_get (ref := "FlowExporter$FlowTable") (C := RX4) (T := TX4) (N := 2) (ci := 6) (v := .int 0) B (by decide +kernel) rfl 1 (by decide) (by decide +kernel) rfl hc81_ rfl dX4_addFlow_2 ?_
  refine z_callV (As := [.int 0]) (rest := []) B (f_X4_flowAt_c G l Φ sz x hc81_ hc82_) (cwV 1 B.1.2.2.2.2 gX4_addFlow_X4_flowAt rfl rfl rfl (by decide +kernel) ⟨Nat.le_of_ble_eq_true rfl, Nat.le_of_ble_eq_true rfl⟩) hc81_ rfl rfl rfl rfl (Nat.le_of_ble_eq_true rfl) dX4_addFlow_5 ⟨Nat.le_of_ble_eq_true rfl, Nat.le_of_ble_eq_true rfl⟩ (fun v1 Φ1 sz1 st1 hp1 hs1 => ?_)
  obtain ⟨rfl, hq1, fr1⟩ := hp1
  replace hq1 : sz1 = sz := hq1
  subst sz1
  replace hs1 : st1 = [.ref (x + 83)] := hs1
  subst st1
  refine z_astore (lv' := [(4, .ref (x + 83)), (0, .ref (x + 81)), (1, .long k), (3, .int 0)]) B dX4_addFlow_8 (Nat.le_of_ble_eq_true rfl) rfl ?_
  refine z_aload B dX4_addFlow_10 0 rfl ?_
  refine z_lload_n B dX4_addFlow_12 rfl 2 rfl ?_
  refine z_iload_n B dX4_addFlow_13 rfl 3 rfl ?_
  have h_1 : Φ1 (x + 83) = some (o_ 5 [.long 0, .long 0, .long 0, .int 0, .int 0]) := ((fr1 (x + 83)).trans hc83_)
  refine z_callV (As := [.long k, .int 0]) (rest := []) B (c_X3_begin G l Φ1 sz (x + 83) k 0 0 0 0 0 0 h_1 (Nat.le_trans hna (Nat.le_add_right x 83))) (cwV 2 B.1.2.2.2.2 gX4_addFlow_X3_begin rfl rfl rfl (by decide +kernel) ⟨Nat.le_of_ble_eq_true rfl, Nat.le_of_ble_eq_true rfl⟩) h_1 rfl rfl rfl rfl (Nat.le_of_ble_eq_true rfl) dX4_addFlow_14 ⟨Nat.le_of_ble_eq_true rfl, Nat.le_of_ble_eq_true rfl⟩ (fun v2 Φ2 sz2 st2 hp2 hs2 => ?_)
  obtain ⟨rfl, hq2, fr2, h_2⟩ := hp2
  replace hq2 : sz2 = sz := hq2
  subst sz2
  replace hs2 : st2 = [] := hs2
  subst st2
  have h_3 : Φ2 (x + 83) = some (o_ 5 [.long k, .long 0, .long 0, .int 0, .int 0]) := h_2
  refine z_aload_n B dX4_addFlow_17 rfl 1 rfl ?_
  refine z_aload_n B dX4_addFlow_18 rfl 1 rfl ?_
  have h_4 : Φ2 (x + 81) = some (o_ 6 [.ref (x + 82), .int 0]) := ((fr2 (x + 81) (ne_off (x := x) (i := 81) (j := 83) rfl)).trans ((fr1 (x + 81)).trans hc81_))
  refine z_get (ref := "FlowExporter$FlowTable") (C := RX4) (T := TX4) (N := 2) (ci := 6) (v := .int 0) B (by decide +kernel) rfl 1 (by decide) (by decide +kernel) rfl h_4 rfl dX4_addFlow_19 ?_
  refine z_iconst (v := 1) B dX4_addFlow_22 rfl ?_
  refine z_iadd B dX4_addFlow_23 ?_
  refine z_top (st1 := [.int 1, .ref (x + 81)]) (congrArg (fun w9 : Int32 => ([.int w9, .ref (x + 81)] : List Value)) (show (0 + 1 : Int32) = 1 by decide +kernel)) ?_
  refine z_aload_n B dX4_addFlow_24 rfl 1 rfl ?_
  refine z_get (ref := "FlowExporter$FlowTable") (C := RX4) (T := TX4) (N := 2) (ci := 6) (v := .ref (x + 82)) B (by decide +kernel) rfl 0 (by decide) (by decide +kernel) rfl h_4 rfl dX4_addFlow_25 ?_
  have h_5 : Φ2 (x + 82) = some (aq_ G 5 12 (va_up (va_up (va_up (va_up (va_up (va_up (va_up (va_up (va_up (va_up (va_up (va_up (fun _ => none) (0 : Int32).toNatClampNeg (some (x + 83))) (1 : Int32).toNatClampNeg (some (x + 84))) (2 : Int32).toNatClampNeg (some (x + 85))) (3 : Int32).toNatClampNeg (some (x + 86))) (4 : Int32).toNatClampNeg (some (x + 87))) (5 : Int32).toNatClampNeg (some (x + 88))) (6 : Int32).toNatClampNeg (some (x + 89))) (7 : Int32).toNatClampNeg (some (x + 90))) (8 : Int32).toNatClampNeg (some (x + 91))) (9 : Int32).toNatClampNeg (some (x + 92))) (10 : Int32).toNatClampNeg (some (x + 93))) (11 : Int32).toNatClampNeg (some (x + 94)))) := ((fr2 (x + 82) (ne_off (x := x) (i := 82) (j := 83) rfl)).trans ((fr1 (x + 82)).trans hc82_))
  refine z_alen (t := 5) (v := 12) B rfl h_5 rfl dX4_addFlow_28 ?_
  refine z_mmin (v := 1) B (by decide +kernel) (by decide +kernel) (by decide +kernel) (by decide +kernel) (by decide) ⟨Nat.le_of_ble_eq_true rfl, Nat.le_of_ble_eq_true rfl⟩ ⟨Nat.le_of_ble_eq_true rfl, Nat.le_of_ble_eq_true rfl⟩ dX4_addFlow_29 ?_
  refine z_put (ref := "FlowExporter$FlowTable") (C := RX4) (T := TX4) (N := 2) (ci := 6) (v := .int 1) B (by decide +kernel) tyX4 tyX4_ok nmX4 rfl 1 (by decide) (by decide +kernel) rfl (Or.inl rfl) h_4 (Nat.le_trans hna (Nat.le_add_right x 81)) rfl rfl (Nat.le_of_ble_eq_true rfl) dX4_addFlow_32 (fun Φ3 hΦ1 => ?_)
  have h_6 : Φ3 (x + 81) = some (o_ 6 [.ref (x + 82), .int 1]) := fset_at hΦ1
  refine z_aload B dX4_addFlow_35 0 rfl ?_
  have h_7 : Φ3 (x + 83) = some (o_ 5 [.long k, .long 0, .long 0, .int 0, .int 0]) := ((fset_fr hΦ1 (ne_off (x := x) (i := 83) (j := 81) rfl)).trans h_3)
  exact z_ret_a B dX4_addFlow_37 ⟨rfl, rfl, (fun b9 h9a h9b => ((fset_fr hΦ1 h9a).trans ((fr2 b9 h9b).trans ((fr1 b9).trans rfl)))), h_6, h_7⟩

set_option maxHeartbeats 4000000 in
set_option maxRecDepth 100000 in
theorem f_X11_load (G : EnvG) (l : Launch) (Φ : Hm) (sz : Nat) (x : Nat) (hc0_ : Φ x = some (o_ 13 [.ref (x + 1), .ref (x + 3), .ref (x + 24), .ref (x + 46), .ref (x + 74), .ref (x + 80), .ref (x + 132), .ref (x + 121)])) (hc1_ : Φ (x + 1) = some (o_ 7 [.ref (x + 2), .int 0])) (hc3_ : Φ (x + 3) = some (o_ 3 [.ref (x + 4), .ref (x + 5), .ref (x + 6), .ref (x + 7), .int 1, .int 511])) (hc4_ : Φ (x + 4) = some (ai_ G 9 usT)) (hc5_ : Φ (x + 5) = some (ai_ G 256 (fun _ => 0))) (hc6_ : Φ (x + 6) = some (aq_ G 4 4 (va_up (va_up (va_up (va_up (fun _ => none) (0 : Int32).toNatClampNeg (some (x + 8))) (1 : Int32).toNatClampNeg (some (x + 12))) (2 : Int32).toNatClampNeg (some (x + 16))) (3 : Int32).toNatClampNeg (some (x + 20))))) (hc7_ : Φ (x + 7) = some (aq_ G 4 4 (va_up (va_up (va_up (va_up (fun _ => none) (0 : Int32).toNatClampNeg (some (x + 10))) (1 : Int32).toNatClampNeg (some (x + 14))) (2 : Int32).toNatClampNeg (some (x + 18))) (3 : Int32).toNatClampNeg (some (x + 22))))) (hc8_ : Φ (x + 8) = some (o_ 12 [.ref (x + 9), .int 9, .int 511, .int 29])) (hc9_ : Φ (x + 9) = some (ai_ G 9 (upd (upd (upd (upd (upd (upd (upd (upd (upd (fun _ => 0) (0 : Int32).toNatClampNeg 0) (1 : Int32).toNatClampNeg 1) (2 : Int32).toNatClampNeg 2) (3 : Int32).toNatClampNeg 3) (4 : Int32).toNatClampNeg 4) (5 : Int32).toNatClampNeg 5) (6 : Int32).toNatClampNeg 6) (7 : Int32).toNatClampNeg 7) (8 : Int32).toNatClampNeg 8))) (hc10_ : Φ (x + 10) = some (o_ 12 [.ref (x + 11), .int 9, .int 511, .int 29])) (hc11_ : Φ (x + 11) = some (ai_ G 9 (upd (upd (upd (upd (upd (upd (upd (upd (upd (fun _ => 0) (0 : Int32).toNatClampNeg 0) (1 : Int32).toNatClampNeg 1) (2 : Int32).toNatClampNeg 2) (3 : Int32).toNatClampNeg 3) (4 : Int32).toNatClampNeg 4) (5 : Int32).toNatClampNeg 5) (6 : Int32).toNatClampNeg 6) (7 : Int32).toNatClampNeg 7) (8 : Int32).toNatClampNeg 8))) (hc12_ : Φ (x + 12) = some (o_ 12 [.ref (x + 13), .int 0, .int 0, .int 0])) (hc14_ : Φ (x + 14) = some (o_ 12 [.ref (x + 15), .int 0, .int 0, .int 0])) (hc16_ : Φ (x + 16) = some (o_ 12 [.ref (x + 17), .int 0, .int 0, .int 0])) (hc18_ : Φ (x + 18) = some (o_ 12 [.ref (x + 19), .int 0, .int 0, .int 0])) (hc20_ : Φ (x + 20) = some (o_ 12 [.ref (x + 21), .int 0, .int 0, .int 0])) (hc22_ : Φ (x + 22) = some (o_ 12 [.ref (x + 23), .int 0, .int 0, .int 0])) (hc24_ : Φ (x + 24) = some (o_ 8 [.ref (x + 25), .int 0, .int (-1), .ref (x + 1), .int 0, .int 0, .int 0, .int 0])) (hc25_ : Φ (x + 25) = some (o_ 3 [.ref (x + 26), .ref (x + 27), .ref (x + 28), .ref (x + 29), .int 1, .int 511])) (hc26_ : Φ (x + 26) = some (ai_ G 9 usT)) (hc27_ : Φ (x + 27) = some (ai_ G 256 (fun _ => 0))) (hc28_ : Φ (x + 28) = some (aq_ G 4 4 (va_up (va_up (va_up (va_up (fun _ => none) (0 : Int32).toNatClampNeg (some (x + 30))) (1 : Int32).toNatClampNeg (some (x + 34))) (2 : Int32).toNatClampNeg (some (x + 38))) (3 : Int32).toNatClampNeg (some (x + 42))))) (hc30_ : Φ (x + 30) = some (o_ 12 [.ref (x + 31), .int 9, .int 511, .int 29])) (hc31_ : Φ (x + 31) = some (ai_ G 9 (upd (upd (upd (upd (upd (upd (upd (upd (upd (fun _ => 0) (0 : Int32).toNatClampNeg 0) (1 : Int32).toNatClampNeg 1) (2 : Int32).toNatClampNeg 2) (3 : Int32).toNatClampNeg 3) (4 : Int32).toNatClampNeg 4) (5 : Int32).toNatClampNeg 5) (6 : Int32).toNatClampNeg 6) (7 : Int32).toNatClampNeg 7) (8 : Int32).toNatClampNeg 8))) (hc34_ : Φ (x + 34) = some (o_ 12 [.ref (x + 35), .int 0, .int 0, .int 0])) (hc38_ : Φ (x + 38) = some (o_ 12 [.ref (x + 39), .int 0, .int 0, .int 0])) (hc42_ : Φ (x + 42) = some (o_ 12 [.ref (x + 43), .int 0, .int 0, .int 0])) (hc46_ : Φ (x + 46) = some (o_ 9 [.ref (x + 47), .int 0, .int 0])) (hc74_ : Φ (x + 74) = some (o_ 10 [.ref (x + 3), .ref (x + 46), .ref (x + 75), .ref (x + 77), .int 0, .ref (x + 78), .ref (x + 79), .int 0, .long 0, .int 0])) (hc75_ : Φ (x + 75) = some (o_ 7 [.ref (x + 76), .int 0])) (hc78_ : Φ (x + 78) = some (ai_ G 4 (fun _ => 0))) (hc80_ : Φ (x + 80) = some (o_ 4 [.ref (x + 3), .ref (x + 74), .ref (x + 81), .ref (x + 95), .int 0, .int 1, .int 1, .int 0, .int 0, .int 0, .long 0, .long 0, .long 0])) (hc81_ : Φ (x + 81) = some (o_ 6 [.ref (x + 82), .int 0])) (hc95_ : Φ (x + 95) = some (o_ 6 [.ref (x + 96), .int 0])) (hc121_ : Φ (x + 121) = some (o_ 11 [.ref (x + 122), .ref (x + 123), .ref (x + 126), .ref (x + 129), .int 0])) (hc132_ : Φ (x + 132) = some (o_ 2 [.ref (x + 3), .ref (x + 121), .ref (x + 133), .ref (x + 134), .ref (x + 135), .ref (x + 137), .ref (x + 138), .ref (x + 139), .ref (x + 140), .int 0, .int 0, .int 0])) (hc133_ : Φ (x + 133) = some (aq_ G 4 4 (va_up (va_up (va_up (va_up (fun _ => none) (0 : Int32).toNatClampNeg (some (x + 141))) (1 : Int32).toNatClampNeg (some (x + 143))) (2 : Int32).toNatClampNeg (some (x + 145))) (3 : Int32).toNatClampNeg (some (x + 147))))) (hc139_ : Φ (x + 139) = some (al_ G 9 (fun _ => 0))) (hc141_ : Φ (x + 141) = some (o_ 12 [.ref (x + 142), .int 0, .int 0, .int 0])) (hc143_ : Φ (x + 143) = some (o_ 12 [.ref (x + 144), .int 0, .int 0, .int 0])) (hc145_ : Φ (x + 145) = some (o_ 12 [.ref (x + 146), .int 0, .int 0, .int 0])) (hc147_ : Φ (x + 147) = some (o_ 12 [.ref (x + 148), .int 0, .int 0, .int 0])) (hna : G.2.2.2 ≤ x) : Ct G l yX11_load wsX11_load ({ frames := 5, cells := 0, slots := 0, locals := 109 }) 0 0 [.ref x] Φ sz (fun v Φ1 sz1 => v = some (.int 0) ∧ ∀ b9 : Nat, x + 149 ≤ b9 → Φ1 b9 = Φ b9) := by
  refine Ct.of (cc := cX11_load) (maxL := 2) (ret := (some .int)) (by decide) rfl (Nat.le_of_ble_eq_true rfl) ?_
  intro p9 e9 s9 m9 w9 t9 k9 B
  show Z p9 l e9 _ s9 m9 _ w9 t9 k9 _ G 2 0 [(0, .ref x)] [] Φ sz 0 0
  refine z_aload_n B dX11_load_0 rfl 0 rfl ?_
  refine z_get (ref := "FlowExporter") (C := RX11) (T := TX11) (N := 8) (ci := 13) (v := .ref (x + 24)) B (by decide +kernel) rfl 2 (by decide) (by decide +kernel) rfl hc0_ rfl dX11_load_1 ?_
  refine z_callV (As := []) (rest := []) B (c_X6_readText_empty G l Φ sz (x + 24) (x + 1) (x + 2) 0 (-1) 0 0 0 0 (x + 25) usT (fun _ => 0) 1 511 9 511 29 0 0 0 0 0 0 0 0 0 (upd (upd (upd (upd (upd (upd (upd (upd (upd (fun _ => 0) (0 : Int32).toNatClampNeg 0) (1 : Int32).toNatClampNeg 1) (2 : Int32).toNatClampNeg 2) (3 : Int32).toNatClampNeg 3) (4 : Int32).toNatClampNeg 4) (5 : Int32).toNatClampNeg 5) (6 : Int32).toNatClampNeg 6) (7 : Int32).toNatClampNeg 7) (8 : Int32).toNatClampNeg 8) hc24_ hc1_ hc25_ hc26_ hc27_ hc28_ hc30_ hc34_ hc38_ hc42_ hc31_ (ne_off (x := x) (i := 24) (j := 1) rfl) (Nat.le_trans hna (Nat.le_add_right x 24)) (Nat.le_trans hna (Nat.le_add_right x 25)) (by omega) (by omega)) (cwV 0 B.1.2.2.2.2 gX11_load_X6_readText rfl rfl rfl (by decide +kernel) ⟨Nat.le_of_ble_eq_true rfl, Nat.le_of_ble_eq_true rfl⟩) hc24_ rfl rfl rfl rfl (Nat.le_of_ble_eq_true rfl) dX11_load_4 ⟨Nat.le_of_ble_eq_true rfl, Nat.le_of_ble_eq_true rfl⟩ (fun v1 Φ1 sz1 st1 hp1 hs1 => ?_)
  obtain ⟨rfl, hq1, fr1, h_1, h_2, h_3, h_4, h_5, h_6, h_7, h_8, h_9⟩ := hp1
  replace hq1 : sz1 = sz := hq1
  subst sz1
  replace hs1 : st1 = [.int 0] := hs1
  subst st1
  have h_10 : Φ1 (x + 25) = some (o_ 3 [.ref (x + 26), .ref (x + 27), .ref (x + 28), .ref (x + 29), .int 1, .int 511]) := h_1
  have h_11 : Φ1 (x + 26) = some (ai_ G 9 usT) := h_2
  have h_12 : Φ1 (x + 38) = some (o_ 12 [.ref (x + 39), .int 0, .int 0, .int 0]) := h_3
  have h_13 : Φ1 (x + 42) = some (o_ 12 [.ref (x + 43), .int 0, .int 0, .int 0]) := h_4
  have h_14 : Φ1 (x + 27) = some (ai_ G 256 (fun _ => 0)) := h_5
  have h_15 : Φ1 (x + 30) = some (o_ 12 [.ref (x + 31), .int 9, .int 511, .int 29]) := h_6
  have h_16 : Φ1 (x + 31) = some (ai_ G 9 (upd (upd (upd (upd (upd (upd (upd (upd (upd (upd (upd (upd (upd (upd (upd (upd (upd (upd (fun _ => 0) (0 : Int32).toNatClampNeg 0) (1 : Int32).toNatClampNeg 1) (2 : Int32).toNatClampNeg 2) (3 : Int32).toNatClampNeg 3) (4 : Int32).toNatClampNeg 4) (5 : Int32).toNatClampNeg 5) (6 : Int32).toNatClampNeg 6) (7 : Int32).toNatClampNeg 7) (8 : Int32).toNatClampNeg 8) (0 : Int32).toNatClampNeg 0) (1 : Int32).toNatClampNeg 1) (2 : Int32).toNatClampNeg 2) (3 : Int32).toNatClampNeg 3) (4 : Int32).toNatClampNeg 4) (5 : Int32).toNatClampNeg 5) (6 : Int32).toNatClampNeg 6) (7 : Int32).toNatClampNeg 7) (8 : Int32).toNatClampNeg 8)) := h_7
  have h_17 : Φ1 (x + 34) = some (o_ 12 [.ref (x + 35), .int 0, .int 0, .int 0]) := h_8
  have h_18 : Φ1 (x + 24) = some (o_ 8 [.ref (x + 25), .int 0, .int (-1), .ref (x + 1), .int 0, .int 0, .int 0, .int 0]) := h_9
  refine z_istore_n (lv' := [(1, .int 0), (0, .ref x)]) B dX11_load_7 rfl (Nat.le_of_ble_eq_true rfl) rfl ?_
  refine z_aload_n B dX11_load_8 rfl 1 rfl ?_
  have h_19 : Φ1 x = some (o_ 13 [.ref (x + 1), .ref (x + 3), .ref (x + 24), .ref (x + 46), .ref (x + 74), .ref (x + 80), .ref (x + 132), .ref (x + 121)]) := ((fr1 x (ne_off (x := x) (i := 0) (j := 25) rfl) (ne_off (x := x) (i := 0) (j := 26) rfl) (ne_off (x := x) (i := 0) (j := 38) rfl) (ne_off (x := x) (i := 0) (j := 42) rfl) (ne_off (x := x) (i := 0) (j := 27) rfl) (ne_off (x := x) (i := 0) (j := 30) rfl) (ne_off (x := x) (i := 0) (j := 31) rfl) (ne_off (x := x) (i := 0) (j := 34) rfl) (ne_off (x := x) (i := 0) (j := 24) rfl)).trans hc0_)
  refine z_get (ref := "FlowExporter") (C := RX11) (T := TX11) (N := 8) (ci := 13) (v := .ref (x + 1)) B (by decide +kernel) rfl 0 (by decide) (by decide +kernel) rfl h_19 rfl dX11_load_9 ?_
  refine z_iconst (v := 0) B dX11_load_12 rfl ?_
  have h_20 : Φ1 (x + 1) = some (o_ 7 [.ref (x + 2), .int 0]) := ((fr1 (x + 1) (ne_off (x := x) (i := 1) (j := 25) rfl) (ne_off (x := x) (i := 1) (j := 26) rfl) (ne_off (x := x) (i := 1) (j := 38) rfl) (ne_off (x := x) (i := 1) (j := 42) rfl) (ne_off (x := x) (i := 1) (j := 27) rfl) (ne_off (x := x) (i := 1) (j := 30) rfl) (ne_off (x := x) (i := 1) (j := 31) rfl) (ne_off (x := x) (i := 1) (j := 34) rfl) (ne_off (x := x) (i := 1) (j := 24) rfl)).trans hc1_)
  refine z_put (ref := "FlowExporter$Message") (C := RX5) (T := TX5) (N := 2) (ci := 7) (v := .int 0) B (by decide +kernel) tyX5 tyX5_ok nmX5 rfl 1 (by decide) (by decide +kernel) rfl (Or.inl rfl) h_20 (Nat.le_trans hna (Nat.le_add_right x 1)) rfl rfl (Nat.le_of_ble_eq_true rfl) dX11_load_13 (fun Φ2 hΦ1 => ?_)
  have h_21 : Φ2 (x + 1) = some (o_ 7 [.ref (x + 2), .int 0]) := fset_at hΦ1
  refine z_iload_n B dX11_load_16 rfl 0 rfl ?_
  refine z_if_lt (tgt := 24) B dX11_load_17 rfl (fun h9 => absurd h9 (by decide)) (fun c_1 => ?_)
  refine z_aload_n B dX11_load_20 rfl 1 rfl ?_
  have h_22 : Φ2 x = some (o_ 13 [.ref (x + 1), .ref (x + 3), .ref (x + 24), .ref (x + 46), .ref (x + 74), .ref (x + 80), .ref (x + 132), .ref (x + 121)]) := ((fset_fr hΦ1 (ne_off (x := x) (i := 0) (j := 1) rfl)).trans h_19)
  have h_23 : Φ2 (x + 3) = some (o_ 3 [.ref (x + 4), .ref (x + 5), .ref (x + 6), .ref (x + 7), .int 1, .int 511]) := ((fset_fr hΦ1 (ne_off (x := x) (i := 3) (j := 1) rfl)).trans ((fr1 (x + 3) (ne_off (x := x) (i := 3) (j := 25) rfl) (ne_off (x := x) (i := 3) (j := 26) rfl) (ne_off (x := x) (i := 3) (j := 38) rfl) (ne_off (x := x) (i := 3) (j := 42) rfl) (ne_off (x := x) (i := 3) (j := 27) rfl) (ne_off (x := x) (i := 3) (j := 30) rfl) (ne_off (x := x) (i := 3) (j := 31) rfl) (ne_off (x := x) (i := 3) (j := 34) rfl) (ne_off (x := x) (i := 3) (j := 24) rfl)).trans hc3_))
  have h_24 : Φ2 (x + 4) = some (ai_ G 9 usT) := ((fset_fr hΦ1 (ne_off (x := x) (i := 4) (j := 1) rfl)).trans ((fr1 (x + 4) (ne_off (x := x) (i := 4) (j := 25) rfl) (ne_off (x := x) (i := 4) (j := 26) rfl) (ne_off (x := x) (i := 4) (j := 38) rfl) (ne_off (x := x) (i := 4) (j := 42) rfl) (ne_off (x := x) (i := 4) (j := 27) rfl) (ne_off (x := x) (i := 4) (j := 30) rfl) (ne_off (x := x) (i := 4) (j := 31) rfl) (ne_off (x := x) (i := 4) (j := 34) rfl) (ne_off (x := x) (i := 4) (j := 24) rfl)).trans hc4_))
  have h_25 : Φ2 (x + 5) = some (ai_ G 256 (fun _ => 0)) := ((fset_fr hΦ1 (ne_off (x := x) (i := 5) (j := 1) rfl)).trans ((fr1 (x + 5) (ne_off (x := x) (i := 5) (j := 25) rfl) (ne_off (x := x) (i := 5) (j := 26) rfl) (ne_off (x := x) (i := 5) (j := 38) rfl) (ne_off (x := x) (i := 5) (j := 42) rfl) (ne_off (x := x) (i := 5) (j := 27) rfl) (ne_off (x := x) (i := 5) (j := 30) rfl) (ne_off (x := x) (i := 5) (j := 31) rfl) (ne_off (x := x) (i := 5) (j := 34) rfl) (ne_off (x := x) (i := 5) (j := 24) rfl)).trans hc5_))
  have h_26 : Φ2 (x + 6) = some (aq_ G 4 4 (va_up (va_up (va_up (va_up (fun _ => none) (0 : Int32).toNatClampNeg (some (x + 8))) (1 : Int32).toNatClampNeg (some (x + 12))) (2 : Int32).toNatClampNeg (some (x + 16))) (3 : Int32).toNatClampNeg (some (x + 20)))) := ((fset_fr hΦ1 (ne_off (x := x) (i := 6) (j := 1) rfl)).trans ((fr1 (x + 6) (ne_off (x := x) (i := 6) (j := 25) rfl) (ne_off (x := x) (i := 6) (j := 26) rfl) (ne_off (x := x) (i := 6) (j := 38) rfl) (ne_off (x := x) (i := 6) (j := 42) rfl) (ne_off (x := x) (i := 6) (j := 27) rfl) (ne_off (x := x) (i := 6) (j := 30) rfl) (ne_off (x := x) (i := 6) (j := 31) rfl) (ne_off (x := x) (i := 6) (j := 34) rfl) (ne_off (x := x) (i := 6) (j := 24) rfl)).trans hc6_))
  have h_27 : Φ2 (x + 7) = some (aq_ G 4 4 (va_up (va_up (va_up (va_up (fun _ => none) (0 : Int32).toNatClampNeg (some (x + 10))) (1 : Int32).toNatClampNeg (some (x + 14))) (2 : Int32).toNatClampNeg (some (x + 18))) (3 : Int32).toNatClampNeg (some (x + 22)))) := ((fset_fr hΦ1 (ne_off (x := x) (i := 7) (j := 1) rfl)).trans ((fr1 (x + 7) (ne_off (x := x) (i := 7) (j := 25) rfl) (ne_off (x := x) (i := 7) (j := 26) rfl) (ne_off (x := x) (i := 7) (j := 38) rfl) (ne_off (x := x) (i := 7) (j := 42) rfl) (ne_off (x := x) (i := 7) (j := 27) rfl) (ne_off (x := x) (i := 7) (j := 30) rfl) (ne_off (x := x) (i := 7) (j := 31) rfl) (ne_off (x := x) (i := 7) (j := 34) rfl) (ne_off (x := x) (i := 7) (j := 24) rfl)).trans hc7_))
  have h_28 : Φ2 (x + 8) = some (o_ 12 [.ref (x + 9), .int 9, .int 511, .int 29]) := ((fset_fr hΦ1 (ne_off (x := x) (i := 8) (j := 1) rfl)).trans ((fr1 (x + 8) (ne_off (x := x) (i := 8) (j := 25) rfl) (ne_off (x := x) (i := 8) (j := 26) rfl) (ne_off (x := x) (i := 8) (j := 38) rfl) (ne_off (x := x) (i := 8) (j := 42) rfl) (ne_off (x := x) (i := 8) (j := 27) rfl) (ne_off (x := x) (i := 8) (j := 30) rfl) (ne_off (x := x) (i := 8) (j := 31) rfl) (ne_off (x := x) (i := 8) (j := 34) rfl) (ne_off (x := x) (i := 8) (j := 24) rfl)).trans hc8_))
  have h_29 : Φ2 (x + 9) = some (ai_ G 9 (upd (upd (upd (upd (upd (upd (upd (upd (upd (fun _ => 0) (0 : Int32).toNatClampNeg 0) (1 : Int32).toNatClampNeg 1) (2 : Int32).toNatClampNeg 2) (3 : Int32).toNatClampNeg 3) (4 : Int32).toNatClampNeg 4) (5 : Int32).toNatClampNeg 5) (6 : Int32).toNatClampNeg 6) (7 : Int32).toNatClampNeg 7) (8 : Int32).toNatClampNeg 8)) := ((fset_fr hΦ1 (ne_off (x := x) (i := 9) (j := 1) rfl)).trans ((fr1 (x + 9) (ne_off (x := x) (i := 9) (j := 25) rfl) (ne_off (x := x) (i := 9) (j := 26) rfl) (ne_off (x := x) (i := 9) (j := 38) rfl) (ne_off (x := x) (i := 9) (j := 42) rfl) (ne_off (x := x) (i := 9) (j := 27) rfl) (ne_off (x := x) (i := 9) (j := 30) rfl) (ne_off (x := x) (i := 9) (j := 31) rfl) (ne_off (x := x) (i := 9) (j := 34) rfl) (ne_off (x := x) (i := 9) (j := 24) rfl)).trans hc9_))
  have h_30 : Φ2 (x + 10) = some (o_ 12 [.ref (x + 11), .int 9, .int 511, .int 29]) := ((fset_fr hΦ1 (ne_off (x := x) (i := 10) (j := 1) rfl)).trans ((fr1 (x + 10) (ne_off (x := x) (i := 10) (j := 25) rfl) (ne_off (x := x) (i := 10) (j := 26) rfl) (ne_off (x := x) (i := 10) (j := 38) rfl) (ne_off (x := x) (i := 10) (j := 42) rfl) (ne_off (x := x) (i := 10) (j := 27) rfl) (ne_off (x := x) (i := 10) (j := 30) rfl) (ne_off (x := x) (i := 10) (j := 31) rfl) (ne_off (x := x) (i := 10) (j := 34) rfl) (ne_off (x := x) (i := 10) (j := 24) rfl)).trans hc10_))
  have h_31 : Φ2 (x + 11) = some (ai_ G 9 (upd (upd (upd (upd (upd (upd (upd (upd (upd (fun _ => 0) (0 : Int32).toNatClampNeg 0) (1 : Int32).toNatClampNeg 1) (2 : Int32).toNatClampNeg 2) (3 : Int32).toNatClampNeg 3) (4 : Int32).toNatClampNeg 4) (5 : Int32).toNatClampNeg 5) (6 : Int32).toNatClampNeg 6) (7 : Int32).toNatClampNeg 7) (8 : Int32).toNatClampNeg 8)) := ((fset_fr hΦ1 (ne_off (x := x) (i := 11) (j := 1) rfl)).trans ((fr1 (x + 11) (ne_off (x := x) (i := 11) (j := 25) rfl) (ne_off (x := x) (i := 11) (j := 26) rfl) (ne_off (x := x) (i := 11) (j := 38) rfl) (ne_off (x := x) (i := 11) (j := 42) rfl) (ne_off (x := x) (i := 11) (j := 27) rfl) (ne_off (x := x) (i := 11) (j := 30) rfl) (ne_off (x := x) (i := 11) (j := 31) rfl) (ne_off (x := x) (i := 11) (j := 34) rfl) (ne_off (x := x) (i := 11) (j := 24) rfl)).trans hc11_))
  have h_32 : Φ2 (x + 12) = some (o_ 12 [.ref (x + 13), .int 0, .int 0, .int 0]) := ((fset_fr hΦ1 (ne_off (x := x) (i := 12) (j := 1) rfl)).trans ((fr1 (x + 12) (ne_off (x := x) (i := 12) (j := 25) rfl) (ne_off (x := x) (i := 12) (j := 26) rfl) (ne_off (x := x) (i := 12) (j := 38) rfl) (ne_off (x := x) (i := 12) (j := 42) rfl) (ne_off (x := x) (i := 12) (j := 27) rfl) (ne_off (x := x) (i := 12) (j := 30) rfl) (ne_off (x := x) (i := 12) (j := 31) rfl) (ne_off (x := x) (i := 12) (j := 34) rfl) (ne_off (x := x) (i := 12) (j := 24) rfl)).trans hc12_))
  have h_33 : Φ2 (x + 14) = some (o_ 12 [.ref (x + 15), .int 0, .int 0, .int 0]) := ((fset_fr hΦ1 (ne_off (x := x) (i := 14) (j := 1) rfl)).trans ((fr1 (x + 14) (ne_off (x := x) (i := 14) (j := 25) rfl) (ne_off (x := x) (i := 14) (j := 26) rfl) (ne_off (x := x) (i := 14) (j := 38) rfl) (ne_off (x := x) (i := 14) (j := 42) rfl) (ne_off (x := x) (i := 14) (j := 27) rfl) (ne_off (x := x) (i := 14) (j := 30) rfl) (ne_off (x := x) (i := 14) (j := 31) rfl) (ne_off (x := x) (i := 14) (j := 34) rfl) (ne_off (x := x) (i := 14) (j := 24) rfl)).trans hc14_))
  have h_34 : Φ2 (x + 16) = some (o_ 12 [.ref (x + 17), .int 0, .int 0, .int 0]) := ((fset_fr hΦ1 (ne_off (x := x) (i := 16) (j := 1) rfl)).trans ((fr1 (x + 16) (ne_off (x := x) (i := 16) (j := 25) rfl) (ne_off (x := x) (i := 16) (j := 26) rfl) (ne_off (x := x) (i := 16) (j := 38) rfl) (ne_off (x := x) (i := 16) (j := 42) rfl) (ne_off (x := x) (i := 16) (j := 27) rfl) (ne_off (x := x) (i := 16) (j := 30) rfl) (ne_off (x := x) (i := 16) (j := 31) rfl) (ne_off (x := x) (i := 16) (j := 34) rfl) (ne_off (x := x) (i := 16) (j := 24) rfl)).trans hc16_))
  have h_35 : Φ2 (x + 18) = some (o_ 12 [.ref (x + 19), .int 0, .int 0, .int 0]) := ((fset_fr hΦ1 (ne_off (x := x) (i := 18) (j := 1) rfl)).trans ((fr1 (x + 18) (ne_off (x := x) (i := 18) (j := 25) rfl) (ne_off (x := x) (i := 18) (j := 26) rfl) (ne_off (x := x) (i := 18) (j := 38) rfl) (ne_off (x := x) (i := 18) (j := 42) rfl) (ne_off (x := x) (i := 18) (j := 27) rfl) (ne_off (x := x) (i := 18) (j := 30) rfl) (ne_off (x := x) (i := 18) (j := 31) rfl) (ne_off (x := x) (i := 18) (j := 34) rfl) (ne_off (x := x) (i := 18) (j := 24) rfl)).trans hc18_))
  have h_36 : Φ2 (x + 20) = some (o_ 12 [.ref (x + 21), .int 0, .int 0, .int 0]) := ((fset_fr hΦ1 (ne_off (x := x) (i := 20) (j := 1) rfl)).trans ((fr1 (x + 20) (ne_off (x := x) (i := 20) (j := 25) rfl) (ne_off (x := x) (i := 20) (j := 26) rfl) (ne_off (x := x) (i := 20) (j := 38) rfl) (ne_off (x := x) (i := 20) (j := 42) rfl) (ne_off (x := x) (i := 20) (j := 27) rfl) (ne_off (x := x) (i := 20) (j := 30) rfl) (ne_off (x := x) (i := 20) (j := 31) rfl) (ne_off (x := x) (i := 20) (j := 34) rfl) (ne_off (x := x) (i := 20) (j := 24) rfl)).trans hc20_))
  have h_37 : Φ2 (x + 22) = some (o_ 12 [.ref (x + 23), .int 0, .int 0, .int 0]) := ((fset_fr hΦ1 (ne_off (x := x) (i := 22) (j := 1) rfl)).trans ((fr1 (x + 22) (ne_off (x := x) (i := 22) (j := 25) rfl) (ne_off (x := x) (i := 22) (j := 26) rfl) (ne_off (x := x) (i := 22) (j := 38) rfl) (ne_off (x := x) (i := 22) (j := 42) rfl) (ne_off (x := x) (i := 22) (j := 27) rfl) (ne_off (x := x) (i := 22) (j := 30) rfl) (ne_off (x := x) (i := 22) (j := 31) rfl) (ne_off (x := x) (i := 22) (j := 34) rfl) (ne_off (x := x) (i := 22) (j := 24) rfl)).trans hc22_))
  have h_38 : Φ2 (x + 25) = some (o_ 3 [.ref (x + 26), .ref (x + 27), .ref (x + 28), .ref (x + 29), .int 1, .int 511]) := ((fset_fr hΦ1 (ne_off (x := x) (i := 25) (j := 1) rfl)).trans h_10)
  have h_39 : Φ2 (x + 26) = some (ai_ G 9 usT) := ((fset_fr hΦ1 (ne_off (x := x) (i := 26) (j := 1) rfl)).trans h_11)
  have h_40 : Φ2 (x + 27) = some (ai_ G 256 (fun _ => 0)) := ((fset_fr hΦ1 (ne_off (x := x) (i := 27) (j := 1) rfl)).trans h_14)
  have h_41 : Φ2 (x + 28) = some (aq_ G 4 4 (va_up (va_up (va_up (va_up (fun _ => none) (0 : Int32).toNatClampNeg (some (x + 30))) (1 : Int32).toNatClampNeg (some (x + 34))) (2 : Int32).toNatClampNeg (some (x + 38))) (3 : Int32).toNatClampNeg (some (x + 42)))) := ((fset_fr hΦ1 (ne_off (x := x) (i := 28) (j := 1) rfl)).trans ((fr1 (x + 28) (ne_off (x := x) (i := 28) (j := 25) rfl) (ne_off (x := x) (i := 28) (j := 26) rfl) (ne_off (x := x) (i := 28) (j := 38) rfl) (ne_off (x := x) (i := 28) (j := 42) rfl) (ne_off (x := x) (i := 28) (j := 27) rfl) (ne_off (x := x) (i := 28) (j := 30) rfl) (ne_off (x := x) (i := 28) (j := 31) rfl) (ne_off (x := x) (i := 28) (j := 34) rfl) (ne_off (x := x) (i := 28) (j := 24) rfl)).trans hc28_))
  have h_42 : Φ2 (x + 30) = some (o_ 12 [.ref (x + 31), .int 9, .int 511, .int 29]) := ((fset_fr hΦ1 (ne_off (x := x) (i := 30) (j := 1) rfl)).trans h_15)
  have h_43 : Φ2 (x + 31) = some (ai_ G 9 (upd (upd (upd (upd (upd (upd (upd (upd (upd (upd (upd (upd (upd (upd (upd (upd (upd (upd (fun _ => 0) (0 : Int32).toNatClampNeg 0) (1 : Int32).toNatClampNeg 1) (2 : Int32).toNatClampNeg 2) (3 : Int32).toNatClampNeg 3) (4 : Int32).toNatClampNeg 4) (5 : Int32).toNatClampNeg 5) (6 : Int32).toNatClampNeg 6) (7 : Int32).toNatClampNeg 7) (8 : Int32).toNatClampNeg 8) (0 : Int32).toNatClampNeg 0) (1 : Int32).toNatClampNeg 1) (2 : Int32).toNatClampNeg 2) (3 : Int32).toNatClampNeg 3) (4 : Int32).toNatClampNeg 4) (5 : Int32).toNatClampNeg 5) (6 : Int32).toNatClampNeg 6) (7 : Int32).toNatClampNeg 7) (8 : Int32).toNatClampNeg 8)) := ((fset_fr hΦ1 (ne_off (x := x) (i := 31) (j := 1) rfl)).trans h_16)
  have h_44 : Φ2 (x + 34) = some (o_ 12 [.ref (x + 35), .int 0, .int 0, .int 0]) := ((fset_fr hΦ1 (ne_off (x := x) (i := 34) (j := 1) rfl)).trans h_17)
  have h_45 : Φ2 (x + 38) = some (o_ 12 [.ref (x + 39), .int 0, .int 0, .int 0]) := ((fset_fr hΦ1 (ne_off (x := x) (i := 38) (j := 1) rfl)).trans h_12)
  have h_46 : Φ2 (x + 42) = some (o_ 12 [.ref (x + 43), .int 0, .int 0, .int 0]) := ((fset_fr hΦ1 (ne_off (x := x) (i := 42) (j := 1) rfl)).trans h_13)
  have h_47 : Φ2 (x + 24) = some (o_ 8 [.ref (x + 25), .int 0, .int (-1), .ref (x + 1), .int 0, .int 0, .int 0, .int 0]) := ((fset_fr hΦ1 (ne_off (x := x) (i := 24) (j := 1) rfl)).trans h_18)
  have h_48 : Φ2 (x + 46) = some (o_ 9 [.ref (x + 47), .int 0, .int 0]) := ((fset_fr hΦ1 (ne_off (x := x) (i := 46) (j := 1) rfl)).trans ((fr1 (x + 46) (ne_off (x := x) (i := 46) (j := 25) rfl) (ne_off (x := x) (i := 46) (j := 26) rfl) (ne_off (x := x) (i := 46) (j := 38) rfl) (ne_off (x := x) (i := 46) (j := 42) rfl) (ne_off (x := x) (i := 46) (j := 27) rfl) (ne_off (x := x) (i := 46) (j := 30) rfl) (ne_off (x := x) (i := 46) (j := 31) rfl) (ne_off (x := x) (i := 46) (j := 34) rfl) (ne_off (x := x) (i := 46) (j := 24) rfl)).trans hc46_))
  have h_49 : Φ2 (x + 74) = some (o_ 10 [.ref (x + 3), .ref (x + 46), .ref (x + 75), .ref (x + 77), .int 0, .ref (x + 78), .ref (x + 79), .int 0, .long 0, .int 0]) := ((fset_fr hΦ1 (ne_off (x := x) (i := 74) (j := 1) rfl)).trans ((fr1 (x + 74) (ne_off (x := x) (i := 74) (j := 25) rfl) (ne_off (x := x) (i := 74) (j := 26) rfl) (ne_off (x := x) (i := 74) (j := 38) rfl) (ne_off (x := x) (i := 74) (j := 42) rfl) (ne_off (x := x) (i := 74) (j := 27) rfl) (ne_off (x := x) (i := 74) (j := 30) rfl) (ne_off (x := x) (i := 74) (j := 31) rfl) (ne_off (x := x) (i := 74) (j := 34) rfl) (ne_off (x := x) (i := 74) (j := 24) rfl)).trans hc74_))
  have h_50 : Φ2 (x + 75) = some (o_ 7 [.ref (x + 76), .int 0]) := ((fset_fr hΦ1 (ne_off (x := x) (i := 75) (j := 1) rfl)).trans ((fr1 (x + 75) (ne_off (x := x) (i := 75) (j := 25) rfl) (ne_off (x := x) (i := 75) (j := 26) rfl) (ne_off (x := x) (i := 75) (j := 38) rfl) (ne_off (x := x) (i := 75) (j := 42) rfl) (ne_off (x := x) (i := 75) (j := 27) rfl) (ne_off (x := x) (i := 75) (j := 30) rfl) (ne_off (x := x) (i := 75) (j := 31) rfl) (ne_off (x := x) (i := 75) (j := 34) rfl) (ne_off (x := x) (i := 75) (j := 24) rfl)).trans hc75_))
  have h_51 : Φ2 (x + 78) = some (ai_ G 4 (fun _ => 0)) := ((fset_fr hΦ1 (ne_off (x := x) (i := 78) (j := 1) rfl)).trans ((fr1 (x + 78) (ne_off (x := x) (i := 78) (j := 25) rfl) (ne_off (x := x) (i := 78) (j := 26) rfl) (ne_off (x := x) (i := 78) (j := 38) rfl) (ne_off (x := x) (i := 78) (j := 42) rfl) (ne_off (x := x) (i := 78) (j := 27) rfl) (ne_off (x := x) (i := 78) (j := 30) rfl) (ne_off (x := x) (i := 78) (j := 31) rfl) (ne_off (x := x) (i := 78) (j := 34) rfl) (ne_off (x := x) (i := 78) (j := 24) rfl)).trans hc78_))
  have h_52 : Φ2 (x + 80) = some (o_ 4 [.ref (x + 3), .ref (x + 74), .ref (x + 81), .ref (x + 95), .int 0, .int 1, .int 1, .int 0, .int 0, .int 0, .long 0, .long 0, .long 0]) := ((fset_fr hΦ1 (ne_off (x := x) (i := 80) (j := 1) rfl)).trans ((fr1 (x + 80) (ne_off (x := x) (i := 80) (j := 25) rfl) (ne_off (x := x) (i := 80) (j := 26) rfl) (ne_off (x := x) (i := 80) (j := 38) rfl) (ne_off (x := x) (i := 80) (j := 42) rfl) (ne_off (x := x) (i := 80) (j := 27) rfl) (ne_off (x := x) (i := 80) (j := 30) rfl) (ne_off (x := x) (i := 80) (j := 31) rfl) (ne_off (x := x) (i := 80) (j := 34) rfl) (ne_off (x := x) (i := 80) (j := 24) rfl)).trans hc80_))
  have h_53 : Φ2 (x + 81) = some (o_ 6 [.ref (x + 82), .int 0]) := ((fset_fr hΦ1 (ne_off (x := x) (i := 81) (j := 1) rfl)).trans ((fr1 (x + 81) (ne_off (x := x) (i := 81) (j := 25) rfl) (ne_off (x := x) (i := 81) (j := 26) rfl) (ne_off (x := x) (i := 81) (j := 38) rfl) (ne_off (x := x) (i := 81) (j := 42) rfl) (ne_off (x := x) (i := 81) (j := 27) rfl) (ne_off (x := x) (i := 81) (j := 30) rfl) (ne_off (x := x) (i := 81) (j := 31) rfl) (ne_off (x := x) (i := 81) (j := 34) rfl) (ne_off (x := x) (i := 81) (j := 24) rfl)).trans hc81_))
  have h_54 : Φ2 (x + 95) = some (o_ 6 [.ref (x + 96), .int 0]) := ((fset_fr hΦ1 (ne_off (x := x) (i := 95) (j := 1) rfl)).trans ((fr1 (x + 95) (ne_off (x := x) (i := 95) (j := 25) rfl) (ne_off (x := x) (i := 95) (j := 26) rfl) (ne_off (x := x) (i := 95) (j := 38) rfl) (ne_off (x := x) (i := 95) (j := 42) rfl) (ne_off (x := x) (i := 95) (j := 27) rfl) (ne_off (x := x) (i := 95) (j := 30) rfl) (ne_off (x := x) (i := 95) (j := 31) rfl) (ne_off (x := x) (i := 95) (j := 34) rfl) (ne_off (x := x) (i := 95) (j := 24) rfl)).trans hc95_))
  have h_55 : Φ2 (x + 121) = some (o_ 11 [.ref (x + 122), .ref (x + 123), .ref (x + 126), .ref (x + 129), .int 0]) := ((fset_fr hΦ1 (ne_off (x := x) (i := 121) (j := 1) rfl)).trans ((fr1 (x + 121) (ne_off (x := x) (i := 121) (j := 25) rfl) (ne_off (x := x) (i := 121) (j := 26) rfl) (ne_off (x := x) (i := 121) (j := 38) rfl) (ne_off (x := x) (i := 121) (j := 42) rfl) (ne_off (x := x) (i := 121) (j := 27) rfl) (ne_off (x := x) (i := 121) (j := 30) rfl) (ne_off (x := x) (i := 121) (j := 31) rfl) (ne_off (x := x) (i := 121) (j := 34) rfl) (ne_off (x := x) (i := 121) (j := 24) rfl)).trans hc121_))
  have h_56 : Φ2 (x + 132) = some (o_ 2 [.ref (x + 3), .ref (x + 121), .ref (x + 133), .ref (x + 134), .ref (x + 135), .ref (x + 137), .ref (x + 138), .ref (x + 139), .ref (x + 140), .int 0, .int 0, .int 0]) := ((fset_fr hΦ1 (ne_off (x := x) (i := 132) (j := 1) rfl)).trans ((fr1 (x + 132) (ne_off (x := x) (i := 132) (j := 25) rfl) (ne_off (x := x) (i := 132) (j := 26) rfl) (ne_off (x := x) (i := 132) (j := 38) rfl) (ne_off (x := x) (i := 132) (j := 42) rfl) (ne_off (x := x) (i := 132) (j := 27) rfl) (ne_off (x := x) (i := 132) (j := 30) rfl) (ne_off (x := x) (i := 132) (j := 31) rfl) (ne_off (x := x) (i := 132) (j := 34) rfl) (ne_off (x := x) (i := 132) (j := 24) rfl)).trans hc132_))
  have h_57 : Φ2 (x + 133) = some (aq_ G 4 4 (va_up (va_up (va_up (va_up (fun _ => none) (0 : Int32).toNatClampNeg (some (x + 141))) (1 : Int32).toNatClampNeg (some (x + 143))) (2 : Int32).toNatClampNeg (some (x + 145))) (3 : Int32).toNatClampNeg (some (x + 147)))) := ((fset_fr hΦ1 (ne_off (x := x) (i := 133) (j := 1) rfl)).trans ((fr1 (x + 133) (ne_off (x := x) (i := 133) (j := 25) rfl) (ne_off (x := x) (i := 133) (j := 26) rfl) (ne_off (x := x) (i := 133) (j := 38) rfl) (ne_off (x := x) (i := 133) (j := 42) rfl) (ne_off (x := x) (i := 133) (j := 27) rfl) (ne_off (x := x) (i := 133) (j := 30) rfl) (ne_off (x := x) (i := 133) (j := 31) rfl) (ne_off (x := x) (i := 133) (j := 34) rfl) (ne_off (x := x) (i := 133) (j := 24) rfl)).trans hc133_))
  have h_58 : Φ2 (x + 141) = some (o_ 12 [.ref (x + 142), .int 0, .int 0, .int 0]) := ((fset_fr hΦ1 (ne_off (x := x) (i := 141) (j := 1) rfl)).trans ((fr1 (x + 141) (ne_off (x := x) (i := 141) (j := 25) rfl) (ne_off (x := x) (i := 141) (j := 26) rfl) (ne_off (x := x) (i := 141) (j := 38) rfl) (ne_off (x := x) (i := 141) (j := 42) rfl) (ne_off (x := x) (i := 141) (j := 27) rfl) (ne_off (x := x) (i := 141) (j := 30) rfl) (ne_off (x := x) (i := 141) (j := 31) rfl) (ne_off (x := x) (i := 141) (j := 34) rfl) (ne_off (x := x) (i := 141) (j := 24) rfl)).trans hc141_))
  have h_59 : Φ2 (x + 143) = some (o_ 12 [.ref (x + 144), .int 0, .int 0, .int 0]) := ((fset_fr hΦ1 (ne_off (x := x) (i := 143) (j := 1) rfl)).trans ((fr1 (x + 143) (ne_off (x := x) (i := 143) (j := 25) rfl) (ne_off (x := x) (i := 143) (j := 26) rfl) (ne_off (x := x) (i := 143) (j := 38) rfl) (ne_off (x := x) (i := 143) (j := 42) rfl) (ne_off (x := x) (i := 143) (j := 27) rfl) (ne_off (x := x) (i := 143) (j := 30) rfl) (ne_off (x := x) (i := 143) (j := 31) rfl) (ne_off (x := x) (i := 143) (j := 34) rfl) (ne_off (x := x) (i := 143) (j := 24) rfl)).trans hc143_))
  have h_60 : Φ2 (x + 145) = some (o_ 12 [.ref (x + 146), .int 0, .int 0, .int 0]) := ((fset_fr hΦ1 (ne_off (x := x) (i := 145) (j := 1) rfl)).trans ((fr1 (x + 145) (ne_off (x := x) (i := 145) (j := 25) rfl) (ne_off (x := x) (i := 145) (j := 26) rfl) (ne_off (x := x) (i := 145) (j := 38) rfl) (ne_off (x := x) (i := 145) (j := 42) rfl) (ne_off (x := x) (i := 145) (j := 27) rfl) (ne_off (x := x) (i := 145) (j := 30) rfl) (ne_off (x := x) (i := 145) (j := 31) rfl) (ne_off (x := x) (i := 145) (j := 34) rfl) (ne_off (x := x) (i := 145) (j := 24) rfl)).trans hc145_))
  have h_61 : Φ2 (x + 147) = some (o_ 12 [.ref (x + 148), .int 0, .int 0, .int 0]) := ((fset_fr hΦ1 (ne_off (x := x) (i := 147) (j := 1) rfl)).trans ((fr1 (x + 147) (ne_off (x := x) (i := 147) (j := 25) rfl) (ne_off (x := x) (i := 147) (j := 26) rfl) (ne_off (x := x) (i := 147) (j := 38) rfl) (ne_off (x := x) (i := 147) (j := 42) rfl) (ne_off (x := x) (i := 147) (j := 27) rfl) (ne_off (x := x) (i := 147) (j := 30) rfl) (ne_off (x := x) (i := 147) (j := 31) rfl) (ne_off (x := x) (i := 147) (j := 34) rfl) (ne_off (x := x) (i := 147) (j := 24) rfl)).trans hc147_))
  have h_62 : Φ2 (x + 139) = some (al_ G 9 (fun _ => 0)) := ((fset_fr hΦ1 (ne_off (x := x) (i := 139) (j := 1) rfl)).trans ((fr1 (x + 139) (ne_off (x := x) (i := 139) (j := 25) rfl) (ne_off (x := x) (i := 139) (j := 26) rfl) (ne_off (x := x) (i := 139) (j := 38) rfl) (ne_off (x := x) (i := 139) (j := 42) rfl) (ne_off (x := x) (i := 139) (j := 27) rfl) (ne_off (x := x) (i := 139) (j := 30) rfl) (ne_off (x := x) (i := 139) (j := 31) rfl) (ne_off (x := x) (i := 139) (j := 34) rfl) (ne_off (x := x) (i := 139) (j := 24) rfl)).trans hc139_))
  refine z_callV (As := []) (rest := []) B (c_X11_startAnew G l Φ2 sz x usT (fun _ => 0) 1 511 9 511 29 (upd (upd (upd (upd (upd (upd (upd (upd (upd (fun _ => 0) (0 : Int32).toNatClampNeg 0) (1 : Int32).toNatClampNeg 1) (2 : Int32).toNatClampNeg 2) (3 : Int32).toNatClampNeg 3) (4 : Int32).toNatClampNeg 4) (5 : Int32).toNatClampNeg 5) (6 : Int32).toNatClampNeg 6) (7 : Int32).toNatClampNeg 7) (8 : Int32).toNatClampNeg 8) 0 0 0 0 0 0 0 0 0 9 511 29 (upd (upd (upd (upd (upd (upd (upd (upd (upd (fun _ => 0) (0 : Int32).toNatClampNeg 0) (1 : Int32).toNatClampNeg 1) (2 : Int32).toNatClampNeg 2) (3 : Int32).toNatClampNeg 3) (4 : Int32).toNatClampNeg 4) (5 : Int32).toNatClampNeg 5) (6 : Int32).toNatClampNeg 6) (7 : Int32).toNatClampNeg 7) (8 : Int32).toNatClampNeg 8) 0 0 0 0 0 0 0 0 0 usT (fun _ => 0) (upd (upd (upd (upd (upd (upd (upd (upd (upd (fun _ => 0) (0 : Int32).toNatClampNeg 0) (1 : Int32).toNatClampNeg 1) (2 : Int32).toNatClampNeg 2) (3 : Int32).toNatClampNeg 3) (4 : Int32).toNatClampNeg 4) (5 : Int32).toNatClampNeg 5) (6 : Int32).toNatClampNeg 6) (7 : Int32).toNatClampNeg 7) (8 : Int32).toNatClampNeg 8) 0 (-1) 0 0 0 0 0 0 0 0 0 0 0 (fun _ => 0) 0 1 1 0 0 0 0 0 0 0 0 0 0 0 0 (fun _ => 0) h_22 h_23 h_24 h_25 h_26 h_27 h_28 h_29 h_30 h_31 h_32 h_33 h_34 h_35 h_36 h_37 h_38 h_39 h_40 h_41 h_42 h_43 h_44 h_45 h_46 h_47 h_48 h_49 h_50 h_51 h_52 h_53 h_54 h_55 h_56 h_57 h_58 h_59 h_60 h_61 h_62 hna) (cwV 0 B.1.2.2.2.2 gX11_load_X11_startAnew rfl rfl rfl (by decide +kernel) ⟨Nat.le_of_ble_eq_true rfl, Nat.le_of_ble_eq_true rfl⟩) h_22 rfl rfl rfl rfl (Nat.le_of_ble_eq_true rfl) dX11_load_21 ⟨Nat.le_of_ble_eq_true rfl, Nat.le_of_ble_eq_true rfl⟩ (fun v2 Φ3 sz2 st2 hp2 hs2 => ?_)
  obtain ⟨rfl, hq2, fr2, h_63, h_64, h_65, h_66, h_67, h_68, h_69, h_70, h_71, h_72, h_73, h_74, h_75, h_76, h_77, h_78, h_79, h_80, h_81, h_82, h_83, h_84, h_85, h_86, h_87, h_88, h_89⟩ := hp2
  replace hq2 : sz2 = sz := hq2
  subst sz2
  replace hs2 : st2 = [] := hs2
  subst st2
  have h_90 : Φ3 (x + 10) = some (o_ 12 [.ref (x + 11), .int 9, .int 511, .int 29]) := h_63
  have h_91 : Φ3 (x + 11) = some (ai_ G 9 (upd (upd (upd (upd (upd (upd (upd (upd (upd (upd (upd (upd (upd (upd (upd (upd (upd (upd (fun _ => 0) (0 : Int32).toNatClampNeg 0) (1 : Int32).toNatClampNeg 1) (2 : Int32).toNatClampNeg 2) (3 : Int32).toNatClampNeg 3) (4 : Int32).toNatClampNeg 4) (5 : Int32).toNatClampNeg 5) (6 : Int32).toNatClampNeg 6) (7 : Int32).toNatClampNeg 7) (8 : Int32).toNatClampNeg 8) (0 : Int32).toNatClampNeg 0) (1 : Int32).toNatClampNeg 1) (2 : Int32).toNatClampNeg 2) (3 : Int32).toNatClampNeg 3) (4 : Int32).toNatClampNeg 4) (5 : Int32).toNatClampNeg 5) (6 : Int32).toNatClampNeg 6) (7 : Int32).toNatClampNeg 7) (8 : Int32).toNatClampNeg 8)) := h_64
  have h_92 : Φ3 (x + 12) = some (o_ 12 [.ref (x + 13), .int 0, .int 0, .int 0]) := h_65
  have h_93 : Φ3 (x + 121) = some (o_ 11 [.ref (x + 122), .ref (x + 123), .ref (x + 126), .ref (x + 129), .int 0]) := h_66
  have h_94 : Φ3 (x + 132) = some (o_ 2 [.ref (x + 3), .ref (x + 121), .ref (x + 133), .ref (x + 134), .ref (x + 135), .ref (x + 137), .ref (x + 138), .ref (x + 139), .ref (x + 140), .int 0, .int 0, .int 0]) := h_67
  have h_95 : Φ3 (x + 139) = some (al_ G 9 (fun _ => 0)) := h_68
  have h_96 : Φ3 (x + 14) = some (o_ 12 [.ref (x + 15), .int 0, .int 0, .int 0]) := h_69
  have h_97 : Φ3 (x + 141) = some (o_ 12 [.ref (x + 142), .int 0, .int 0, .int 0]) := h_70
  have h_98 : Φ3 (x + 143) = some (o_ 12 [.ref (x + 144), .int 0, .int 0, .int 0]) := h_71
  have h_99 : Φ3 (x + 145) = some (o_ 12 [.ref (x + 146), .int 0, .int 0, .int 0]) := h_72
  have h_100 : Φ3 (x + 147) = some (o_ 12 [.ref (x + 148), .int 0, .int 0, .int 0]) := h_73
  have h_101 : Φ3 (x + 16) = some (o_ 12 [.ref (x + 17), .int 0, .int 0, .int 0]) := h_74
  have h_102 : Φ3 (x + 18) = some (o_ 12 [.ref (x + 19), .int 0, .int 0, .int 0]) := h_75
  have h_103 : Φ3 (x + 20) = some (o_ 12 [.ref (x + 21), .int 0, .int 0, .int 0]) := h_76
  have h_104 : Φ3 (x + 22) = some (o_ 12 [.ref (x + 23), .int 0, .int 0, .int 0]) := h_77
  have h_105 : Φ3 (x + 3) = some (o_ 3 [.ref (x + 4), .ref (x + 5), .ref (x + 6), .ref (x + 7), .int 1, .int 511]) := h_78
  have h_106 : Φ3 (x + 4) = some (ai_ G 9 usT) := h_79
  have h_107 : Φ3 (x + 46) = some (o_ 9 [.ref (x + 47), .int 0, .int 0]) := h_80
  have h_108 : Φ3 (x + 5) = some (ai_ G 256 (fun _ => 0)) := h_81
  have h_109 : Φ3 (x + 74) = some (o_ 10 [.ref (x + 3), .ref (x + 46), .ref (x + 75), .ref (x + 77), .int 0, .ref (x + 78), .ref (x + 79), .int 0, .long 0, .int 0]) := h_82
  have h_110 : Φ3 (x + 75) = some (o_ 7 [.ref (x + 76), .int 0]) := h_83
  have h_111 : Φ3 (x + 78) = some (ai_ G 4 (fun _ => 0)) := h_84
  have h_112 : Φ3 (x + 8) = some (o_ 12 [.ref (x + 9), .int 9, .int 511, .int 29]) := h_85
  have h_113 : Φ3 (x + 80) = some (o_ 4 [.ref (x + 3), .ref (x + 74), .ref (x + 81), .ref (x + 95), .int 0, .int 1, .int 1, .int 0, .int 0, .int 0, .long 0, .long 0, .long 0]) := h_86
  have h_114 : Φ3 (x + 81) = some (o_ 6 [.ref (x + 82), .int 0]) := h_87
  have h_115 : Φ3 (x + 9) = some (ai_ G 9 (upd (upd (upd (upd (upd (upd (upd (upd (upd (upd (upd (upd (upd (upd (upd (upd (upd (upd (fun _ => 0) (0 : Int32).toNatClampNeg 0) (1 : Int32).toNatClampNeg 1) (2 : Int32).toNatClampNeg 2) (3 : Int32).toNatClampNeg 3) (4 : Int32).toNatClampNeg 4) (5 : Int32).toNatClampNeg 5) (6 : Int32).toNatClampNeg 6) (7 : Int32).toNatClampNeg 7) (8 : Int32).toNatClampNeg 8) (0 : Int32).toNatClampNeg 0) (1 : Int32).toNatClampNeg 1) (2 : Int32).toNatClampNeg 2) (3 : Int32).toNatClampNeg 3) (4 : Int32).toNatClampNeg 4) (5 : Int32).toNatClampNeg 5) (6 : Int32).toNatClampNeg 6) (7 : Int32).toNatClampNeg 7) (8 : Int32).toNatClampNeg 8)) := h_88
  have h_116 : Φ3 (x + 95) = some (o_ 6 [.ref (x + 96), .int 0]) := h_89
  refine z_iload_n B dX11_load_24 rfl 0 rfl ?_
  exact z_ret_i B dX11_load_25 ⟨rfl, fun b9 h9 => ((fr2 b9 (Nat.ne_of_gt (Nat.lt_of_lt_of_le (lt_off (x := x) (i := 10) (j := 149) rfl) h9)) (Nat.ne_of_gt (Nat.lt_of_lt_of_le (lt_off (x := x) (i := 11) (j := 149) rfl) h9)) (Nat.ne_of_gt (Nat.lt_of_lt_of_le (lt_off (x := x) (i := 12) (j := 149) rfl) h9)) (Nat.ne_of_gt (Nat.lt_of_lt_of_le (lt_off (x := x) (i := 121) (j := 149) rfl) h9)) (Nat.ne_of_gt (Nat.lt_of_lt_of_le (lt_off (x := x) (i := 132) (j := 149) rfl) h9)) (Nat.ne_of_gt (Nat.lt_of_lt_of_le (lt_off (x := x) (i := 139) (j := 149) rfl) h9)) (Nat.ne_of_gt (Nat.lt_of_lt_of_le (lt_off (x := x) (i := 14) (j := 149) rfl) h9)) (Nat.ne_of_gt (Nat.lt_of_lt_of_le (lt_off (x := x) (i := 141) (j := 149) rfl) h9)) (Nat.ne_of_gt (Nat.lt_of_lt_of_le (lt_off (x := x) (i := 143) (j := 149) rfl) h9)) (Nat.ne_of_gt (Nat.lt_of_lt_of_le (lt_off (x := x) (i := 145) (j := 149) rfl) h9)) (Nat.ne_of_gt (Nat.lt_of_lt_of_le (lt_off (x := x) (i := 147) (j := 149) rfl) h9)) (Nat.ne_of_gt (Nat.lt_of_lt_of_le (lt_off (x := x) (i := 16) (j := 149) rfl) h9)) (Nat.ne_of_gt (Nat.lt_of_lt_of_le (lt_off (x := x) (i := 18) (j := 149) rfl) h9)) (Nat.ne_of_gt (Nat.lt_of_lt_of_le (lt_off (x := x) (i := 20) (j := 149) rfl) h9)) (Nat.ne_of_gt (Nat.lt_of_lt_of_le (lt_off (x := x) (i := 22) (j := 149) rfl) h9)) (Nat.ne_of_gt (Nat.lt_of_lt_of_le (lt_off (x := x) (i := 3) (j := 149) rfl) h9)) (Nat.ne_of_gt (Nat.lt_of_lt_of_le (lt_off (x := x) (i := 4) (j := 149) rfl) h9)) (Nat.ne_of_gt (Nat.lt_of_lt_of_le (lt_off (x := x) (i := 46) (j := 149) rfl) h9)) (Nat.ne_of_gt (Nat.lt_of_lt_of_le (lt_off (x := x) (i := 5) (j := 149) rfl) h9)) (Nat.ne_of_gt (Nat.lt_of_lt_of_le (lt_off (x := x) (i := 74) (j := 149) rfl) h9)) (Nat.ne_of_gt (Nat.lt_of_lt_of_le (lt_off (x := x) (i := 75) (j := 149) rfl) h9)) (Nat.ne_of_gt (Nat.lt_of_lt_of_le (lt_off (x := x) (i := 78) (j := 149) rfl) h9)) (Nat.ne_of_gt (Nat.lt_of_lt_of_le (lt_off (x := x) (i := 8) (j := 149) rfl) h9)) (Nat.ne_of_gt (Nat.lt_of_lt_of_le (lt_off (x := x) (i := 80) (j := 149) rfl) h9)) (Nat.ne_of_gt (Nat.lt_of_lt_of_le (lt_off (x := x) (i := 81) (j := 149) rfl) h9)) (Nat.ne_of_gt (Nat.lt_of_lt_of_le (lt_off (x := x) (i := 9) (j := 149) rfl) h9)) (Nat.ne_of_gt (Nat.lt_of_lt_of_le (lt_off (x := x) (i := 95) (j := 149) rfl) h9))).trans ((fset_fr hΦ1 (Nat.ne_of_gt (Nat.lt_of_lt_of_le (lt_off (x := x) (i := 1) (j := 149) rfl) h9))).trans ((fr1 b9 (Nat.ne_of_gt (Nat.lt_of_lt_of_le (lt_off (x := x) (i := 25) (j := 149) rfl) h9)) (Nat.ne_of_gt (Nat.lt_of_lt_of_le (lt_off (x := x) (i := 26) (j := 149) rfl) h9)) (Nat.ne_of_gt (Nat.lt_of_lt_of_le (lt_off (x := x) (i := 38) (j := 149) rfl) h9)) (Nat.ne_of_gt (Nat.lt_of_lt_of_le (lt_off (x := x) (i := 42) (j := 149) rfl) h9)) (Nat.ne_of_gt (Nat.lt_of_lt_of_le (lt_off (x := x) (i := 27) (j := 149) rfl) h9)) (Nat.ne_of_gt (Nat.lt_of_lt_of_le (lt_off (x := x) (i := 30) (j := 149) rfl) h9)) (Nat.ne_of_gt (Nat.lt_of_lt_of_le (lt_off (x := x) (i := 31) (j := 149) rfl) h9)) (Nat.ne_of_gt (Nat.lt_of_lt_of_le (lt_off (x := x) (i := 34) (j := 149) rfl) h9)) (Nat.ne_of_gt (Nat.lt_of_lt_of_le (lt_off (x := x) (i := 24) (j := 149) rfl) h9))).trans rfl)))⟩

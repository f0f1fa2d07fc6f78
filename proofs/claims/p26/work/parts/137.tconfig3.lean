set_option maxHeartbeats 4000000 in
set_option maxRecDepth 100000 in
theorem c_X1_support (G : EnvG) (l : Launch) (Φ : Hm) (sz : Nat) (c : Nat) (m : Int32) (q : Int32) (xg0 : Nat → Int32) (ea0 : Int32) (eb0 : Int32) (ed0 : Int32) (eg0 : Nat → Int32) (ea1 : Int32) (eb1 : Int32) (ed1 : Int32) (ea2 : Int32) (eb2 : Int32) (ed2 : Int32) (ea3 : Int32) (eb3 : Int32) (ed3 : Int32) (hc0 : Φ c = some (o_ 3 [.ref (c + 1), .ref (c + 2), .ref (c + 3), .ref (c + 4), .int m, .int q])) (hc1 : Φ (c + 3) = some (aq_ G 4 4 (va_up (va_up (va_up (va_up (fun _ => none) (0 : Int32).toNatClampNeg (some (c + 5))) (1 : Int32).toNatClampNeg (some (c + 9))) (2 : Int32).toNatClampNeg (some (c + 13))) (3 : Int32).toNatClampNeg (some (c + 17))))) (hc2 : Φ (c + 4) = some (aq_ G 4 4 (va_up (va_up (va_up (va_up (fun _ => none) (0 : Int32).toNatClampNeg (some (c + 7))) (1 : Int32).toNatClampNeg (some (c + 11))) (2 : Int32).toNatClampNeg (some (c + 15))) (3 : Int32).toNatClampNeg (some (c + 19))))) (hc3 : Φ (c + 5) = some (o_ 12 [.ref (c + 6), .int 9, .int 511, .int 29])) (hc4 : Φ (c + 6) = some (ai_ G 9 (upd (upd (upd (upd (upd (upd (upd (upd (upd xg0 (0 : Int32).toNatClampNeg 0) (1 : Int32).toNatClampNeg 1) (2 : Int32).toNatClampNeg 2) (3 : Int32).toNatClampNeg 3) (4 : Int32).toNatClampNeg 4) (5 : Int32).toNatClampNeg 5) (6 : Int32).toNatClampNeg 6) (7 : Int32).toNatClampNeg 7) (8 : Int32).toNatClampNeg 8))) (hc5 : Φ (c + 7) = some (o_ 12 [.ref (c + 8), .int ea0, .int eb0, .int ed0])) (hc6 : Φ (c + 8) = some (ai_ G 9 eg0)) (hc7 : Φ (c + 9) = some (o_ 12 [.ref (c + 10), .int 0, .int 0, .int 0])) (hc8 : Φ (c + 11) = some (o_ 12 [.ref (c + 12), .int ea1, .int eb1, .int ed1])) (hc9 : Φ (c + 13) = some (o_ 12 [.ref (c + 14), .int 0, .int 0, .int 0])) (hc10 : Φ (c + 15) = some (o_ 12 [.ref (c + 16), .int ea2, .int eb2, .int ed2])) (hc11 : Φ (c + 17) = some (o_ 12 [.ref (c + 18), .int 0, .int 0, .int 0])) (hc12 : Φ (c + 19) = some (o_ 12 [.ref (c + 20), .int ea3, .int eb3, .int ed3])) (hna_c : G.2.2.2 ≤ c) : Ct G l yX1_support wsX1_support ({ frames := 2, cells := 0, slots := 0, locals := 45 }) 0 0 [.ref c, .int 511] Φ sz (fun v Φ1 sz1 => v = none ∧ sz1 = sz ∧ (∀ b9 : Nat, b9 ≠ c → b9 ≠ c + 11 → b9 ≠ c + 15 → b9 ≠ c + 19 → b9 ≠ c + 7 → b9 ≠ c + 8 → Φ1 b9 = Φ b9) ∧ Φ1 c = some (o_ 3 [.ref (c + 1), .ref (c + 2), .ref (c + 3), .ref (c + 4), .int m, .int 511]) ∧ Φ1 (c + 11) = some (o_ 12 [.ref (c + 12), .int 0, .int 0, .int 0]) ∧ Φ1 (c + 15) = some (o_ 12 [.ref (c + 16), .int 0, .int 0, .int 0]) ∧ Φ1 (c + 19) = some (o_ 12 [.ref (c + 20), .int 0, .int 0, .int 0]) ∧ Φ1 (c + 7) = some (o_ 12 [.ref (c + 8), .int 9, .int 511, .int 29]) ∧ Φ1 (c + 8) = some (ai_ G 9 (upd (upd (upd (upd (upd (upd (upd (upd (upd eg0 (0 : Int32).toNatClampNeg 0) (1 : Int32).toNatClampNeg 1) (2 : Int32).toNatClampNeg 2) (3 : Int32).toNatClampNeg 3) (4 : Int32).toNatClampNeg 4) (5 : Int32).toNatClampNeg 5) (6 : Int32).toNatClampNeg 6) (7 : Int32).toNatClampNeg 7) (8 : Int32).toNatClampNeg 8))) := by
  refine Ct.of (cc := cX1_support) (maxL := 3) (ret := none) (by decide) rfl (Nat.le_of_ble_eq_true rfl) ?_
  intro p9 e9 s9 m9 w9 t9 k9 B
  show Z p9 l e9 _ s9 m9 _ w9 t9 k9 _ G 3 0 [(0, .ref c), (1, .int 511)] [] Φ (sz) 0 0
  refine z_aload_n B dX1_support_0 rfl 0 rfl ?_
  refine z_iload_n B dX1_support_1 rfl 1 rfl ?_
  refine z_put (ref := "FlowExporter$Config") (C := RX1) (T := TX1) (N := 6) (ci := 3) (v := .int 511) B (by decide +kernel) tyX1 tyX1_ok nmX1 rfl 5 (by decide) (by decide +kernel) rfl (Or.inl rfl) hc0 hna_c rfl rfl (Nat.le_of_ble_eq_true rfl) dX1_support_2 (fun Φ1 hΦ1 => ?_)
  have h_1 : Φ1 c = some (o_ 3 [.ref (c + 1), .ref (c + 2), .ref (c + 3), .ref (c + 4), .int m, .int 511]) := fset_at hΦ1
  refine z_iconst (v := 0) B dX1_support_5 rfl ?_
  refine z_istore_n (lv' := [(2, .int 0), (0, .ref c), (1, .int 511)]) B dX1_support_6 rfl (Nat.le_of_ble_eq_true rfl) rfl ?_
  refine z_iload_n B dX1_support_7 rfl 0 rfl ?_
  refine z_iconst (v := 4) B dX1_support_8 rfl ?_
  refine z_icmp_ge (tgt := 34) B dX1_support_9 rfl (fun h9 => absurd h9 (by decide)) (fun c_1 => ?_)
  refine z_aload_n B dX1_support_12 rfl 1 rfl ?_
  refine z_get (ref := "FlowExporter$Config") (C := RX1) (T := TX1) (N := 6) (ci := 3) (v := .ref (c + 4)) B (by decide +kernel) rfl 3 (by decide) (by decide +kernel) rfl h_1 rfl dX1_support_13 ?_
  refine z_iload_n B dX1_support_16 rfl 0 rfl ?_
  have h_2 : Φ1 (c + 4) = some (aq_ G 4 4 (va_up (va_up (va_up (va_up (fun _ => none) (0 : Int32).toNatClampNeg (some (c + 7))) (1 : Int32).toNatClampNeg (some (c + 11))) (2 : Int32).toNatClampNeg (some (c + 15))) (3 : Int32).toNatClampNeg (some (c + 19)))) := ((fset_fr hΦ1 (ne_off (x := c) (i := 4) (j := 0) rfl)).trans hc2)
  refine z_aald (b := c + 7) B rfl h_2 (vin rfl) rfl dX1_support_17 ?_
  refine z_aload_n B dX1_support_18 rfl 1 rfl ?_
  refine z_get (ref := "FlowExporter$Config") (C := RX1) (T := TX1) (N := 6) (ci := 3) (v := .ref (c + 3)) B (by decide +kernel) rfl 2 (by decide) (by decide +kernel) rfl h_1 rfl dX1_support_19 ?_
  refine z_iload_n B dX1_support_22 rfl 0 rfl ?_
  have h_3 : Φ1 (c + 3) = some (aq_ G 4 4 (va_up (va_up (va_up (va_up (fun _ => none) (0 : Int32).toNatClampNeg (some (c + 5))) (1 : Int32).toNatClampNeg (some (c + 9))) (2 : Int32).toNatClampNeg (some (c + 13))) (3 : Int32).toNatClampNeg (some (c + 17)))) := ((fset_fr hΦ1 (ne_off (x := c) (i := 3) (j := 0) rfl)).trans hc1)
  refine z_aald (b := c + 5) B rfl h_3 (vin rfl) rfl dX1_support_23 ?_
  refine z_iload_n B dX1_support_24 rfl 2 rfl ?_
  have h_4 : Φ1 (c + 7) = some (o_ 12 [.ref (c + 8), .int ea0, .int eb0, .int ed0]) := ((fset_fr hΦ1 (ne_off (x := c) (i := 7) (j := 0) rfl)).trans hc5)
  have h_5 : Φ1 (c + 8) = some (ai_ G 9 eg0) := ((fset_fr hΦ1 (ne_off (x := c) (i := 8) (j := 0) rfl)).trans hc6)
  have h_6 : Φ1 (c + 5) = some (o_ 12 [.ref (c + 6), .int 9, .int 511, .int 29]) := ((fset_fr hΦ1 (ne_off (x := c) (i := 5) (j := 0) rfl)).trans hc3)
  have h_7 : Φ1 (c + 6) = some (ai_ G 9 (upd (upd (upd (upd (upd (upd (upd (upd (upd xg0 (0 : Int32).toNatClampNeg 0) (1 : Int32).toNatClampNeg 1) (2 : Int32).toNatClampNeg 2) (3 : Int32).toNatClampNeg 3) (4 : Int32).toNatClampNeg 4) (5 : Int32).toNatClampNeg 5) (6 : Int32).toNatClampNeg 6) (7 : Int32).toNatClampNeg 7) (8 : Int32).toNatClampNeg 8)) := ((fset_fr hΦ1 (ne_off (x := c) (i := 6) (j := 0) rfl)).trans hc4)
  refine z_callV (As := [.ref (c + 5), .int 511]) (rest := []) B (c_X10_copyFrom_9 G l Φ1 sz (c + 7) (c + 8) ea0 eb0 ed0 eg0 (c + 5) (c + 6) 511 29 (upd (upd (upd (upd (upd (upd (upd (upd (upd xg0 (0 : Int32).toNatClampNeg 0) (1 : Int32).toNatClampNeg 1) (2 : Int32).toNatClampNeg 2) (3 : Int32).toNatClampNeg 3) (4 : Int32).toNatClampNeg 4) (5 : Int32).toNatClampNeg 5) (6 : Int32).toNatClampNeg 6) (7 : Int32).toNatClampNeg 7) (8 : Int32).toNatClampNeg 8) h_4 h_5 h_6 h_7 (ne_off (x := c) (i := 7) (j := 5) rfl) (ne_off (x := c) (i := 8) (j := 6) rfl) (ne_off (x := c) (i := 7) (j := 8) rfl) (ne_off (x := c) (i := 5) (j := 8) rfl) (ne_off (x := c) (i := 7) (j := 6) rfl) (ne_off (x := c) (i := 5) (j := 6) rfl) (Nat.le_trans hna_c (Nat.le_add_right c 7)) (Nat.le_trans hna_c (Nat.le_add_right c 8)) rfl rfl rfl rfl rfl rfl rfl rfl rfl) (cwV 2 B.1.2.2.2.2 gX1_support_X10_copyFrom rfl rfl rfl (by decide +kernel) ⟨Nat.le_of_ble_eq_true rfl, Nat.le_of_ble_eq_true rfl⟩) h_4 rfl rfl rfl rfl (Nat.le_of_ble_eq_true rfl) dX1_support_25 ⟨Nat.le_of_ble_eq_true rfl, Nat.le_of_ble_eq_true rfl⟩ (fun v1 Φ2 sz1 st1 hp1 hs1 => ?_)
  obtain ⟨rfl, hq1, fr1, h_8, h_9⟩ := hp1
  replace hq1 : sz1 = sz := hq1
  subst sz1
  replace hs1 : st1 = [] := hs1
  subst st1
  have h_10 : Φ2 (c + 8) = some (ai_ G 9 (upd (upd (upd (upd (upd (upd (upd (upd (upd eg0 (0 : Int32).toNatClampNeg 0) (1 : Int32).toNatClampNeg 1) (2 : Int32).toNatClampNeg 2) (3 : Int32).toNatClampNeg 3) (4 : Int32).toNatClampNeg 4) (5 : Int32).toNatClampNeg 5) (6 : Int32).toNatClampNeg 6) (7 : Int32).toNatClampNeg 7) (8 : Int32).toNatClampNeg 8)) := h_8
  have h_11 : Φ2 (c + 7) = some (o_ 12 [.ref (c + 8), .int 9, .int 511, .int 29]) := h_9
  refine z_iinc (k := 0) (v := 1) (lv' := [(2, .int 1), (0, .ref c), (1, .int 511)]) B dX1_support_28 rfl rfl (Nat.le_of_ble_eq_true rfl) rfl ?_
  refine z_goto (tgt := 7) B dX1_support_31 rfl ?_
  refine z_iload_n B dX1_support_7 rfl 0 rfl ?_
  refine z_iconst (v := 4) B dX1_support_8 rfl ?_
  refine z_icmp_ge (tgt := 34) B dX1_support_9 rfl (fun h9 => absurd h9 (by decide)) (fun c_2 => ?_)
  refine z_aload_n B dX1_support_12 rfl 1 rfl ?_
  have h_12 : Φ2 c = some (o_ 3 [.ref (c + 1), .ref (c + 2), .ref (c + 3), .ref (c + 4), .int m, .int 511]) := ((fr1 c (ne_off (x := c) (i := 0) (j := 8) rfl) (ne_off (x := c) (i := 0) (j := 7) rfl)).trans h_1)
  refine z_get (ref := "FlowExporter$Config") (C := RX1) (T := TX1) (N := 6) (ci := 3) (v := .ref (c + 4)) B (by decide +kernel) rfl 3 (by decide) (by decide +kernel) rfl h_12 rfl dX1_support_13 ?_
  refine z_iload_n B dX1_support_16 rfl 0 rfl ?_
  have h_13 : Φ2 (c + 4) = some (aq_ G 4 4 (va_up (va_up (va_up (va_up (fun _ => none) (0 : Int32).toNatClampNeg (some (c + 7))) (1 : Int32).toNatClampNeg (some (c + 11))) (2 : Int32).toNatClampNeg (some (c + 15))) (3 : Int32).toNatClampNeg (some (c + 19)))) := ((fr1 (c + 4) (ne_off (x := c) (i := 4) (j := 8) rfl) (ne_off (x := c) (i := 4) (j := 7) rfl)).trans h_2)
  refine z_aald (b := c + 11) B rfl h_13 (vin rfl) rfl dX1_support_17 ?_
  refine z_aload_n B dX1_support_18 rfl 1 rfl ?_
  refine z_get (ref := "FlowExporter$Config") (C := RX1) (T := TX1) (N := 6) (ci := 3) (v := .ref (c + 3)) B (by decide +kernel) rfl 2 (by decide) (by decide +kernel) rfl h_12 rfl dX1_support_19 ?_
  refine z_iload_n B dX1_support_22 rfl 0 rfl ?_
  have h_14 : Φ2 (c + 3) = some (aq_ G 4 4 (va_up (va_up (va_up (va_up (fun _ => none) (0 : Int32).toNatClampNeg (some (c + 5))) (1 : Int32).toNatClampNeg (some (c + 9))) (2 : Int32).toNatClampNeg (some (c + 13))) (3 : Int32).toNatClampNeg (some (c + 17)))) := ((fr1 (c + 3) (ne_off (x := c) (i := 3) (j := 8) rfl) (ne_off (x := c) (i := 3) (j := 7) rfl)).trans h_3)
  refine z_aald (b := c + 9) B rfl h_14 (vin rfl) rfl dX1_support_23 ?_
  refine z_iload_n B dX1_support_24 rfl 2 rfl ?_
  have h_15 : Φ2 (c + 11) = some (o_ 12 [.ref (c + 12), .int ea1, .int eb1, .int ed1]) := ((fr1 (c + 11) (ne_off (x := c) (i := 11) (j := 8) rfl) (ne_off (x := c) (i := 11) (j := 7) rfl)).trans ((fset_fr hΦ1 (ne_off (x := c) (i := 11) (j := 0) rfl)).trans hc8))
  have h_16 : Φ2 (c + 9) = some (o_ 12 [.ref (c + 10), .int 0, .int 0, .int 0]) := ((fr1 (c + 9) (ne_off (x := c) (i := 9) (j := 8) rfl) (ne_off (x := c) (i := 9) (j := 7) rfl)).trans ((fset_fr hΦ1 (ne_off (x := c) (i := 9) (j := 0) rfl)).trans hc7))
  refine z_callV (As := [.ref (c + 9), .int 511]) (rest := []) B (c_X10_copyFrom_0 G l Φ2 sz (c + 11) (c + 12) ea1 eb1 ed1 (c + 9) (c + 10) 0 0 511 h_15 h_16 (ne_off (x := c) (i := 11) (j := 9) rfl) (Nat.le_trans hna_c (Nat.le_add_right c 11))) (cwV 2 B.1.2.2.2.2 gX1_support_X10_copyFrom rfl rfl rfl (by decide +kernel) ⟨Nat.le_of_ble_eq_true rfl, Nat.le_of_ble_eq_true rfl⟩) h_15 rfl rfl rfl rfl (Nat.le_of_ble_eq_true rfl) dX1_support_25 ⟨Nat.le_of_ble_eq_true rfl, Nat.le_of_ble_eq_true rfl⟩ (fun v2 Φ3 sz2 st2 hp2 hs2 => ?_)
  obtain ⟨rfl, hq2, fr2, h_17⟩ := hp2
  replace hq2 : sz2 = sz := hq2
  subst sz2
  replace hs2 : st2 = [] := hs2
  subst st2
  have h_18 : Φ3 (c + 11) = some (o_ 12 [.ref (c + 12), .int 0, .int 0, .int 0]) := h_17
  refine z_iinc (k := 0) (v := 2) (lv' := [(2, .int 2), (0, .ref c), (1, .int 511)]) B dX1_support_28 rfl rfl (Nat.le_of_ble_eq_true rfl) rfl ?_
  refine z_goto (tgt := 7) B dX1_support_31 rfl ?_
  refine z_iload_n B dX1_support_7 rfl 0 rfl ?_
  refine z_iconst (v := 4) B dX1_support_8 rfl ?_
  refine z_icmp_ge (tgt := 34) B dX1_support_9 rfl (fun h9 => absurd h9 (by decide)) (fun c_3 => ?_)
  refine z_aload_n B dX1_support_12 rfl 1 rfl ?_
  have h_19 : Φ3 c = some (o_ 3 [.ref (c + 1), .ref (c + 2), .ref (c + 3), .ref (c + 4), .int m, .int 511]) := ((fr2 c (ne_off (x := c) (i := 0) (j := 11) rfl)).trans h_12)
  refine z_get (ref := "FlowExporter$Config") (C := RX1) (T := TX1) (N := 6) (ci := 3) (v := .ref (c + 4)) B (by decide +kernel) rfl 3 (by decide) (by decide +kernel) rfl h_19 rfl dX1_support_13 ?_
  refine z_iload_n B dX1_support_16 rfl 0 rfl ?_
  have h_20 : Φ3 (c + 4) = some (aq_ G 4 4 (va_up (va_up (va_up (va_up (fun _ => none) (0 : Int32).toNatClampNeg (some (c + 7))) (1 : Int32).toNatClampNeg (some (c + 11))) (2 : Int32).toNatClampNeg (some (c + 15))) (3 : Int32).toNatClampNeg (some (c + 19)))) := ((fr2 (c + 4) (ne_off (x := c) (i := 4) (j := 11) rfl)).trans h_13)
  refine z_aald (b := c + 15) B rfl h_20 (vin rfl) rfl dX1_support_17 ?_
  refine z_aload_n B dX1_support_18 rfl 1 rfl ?_
  refine z_get (ref := "FlowExporter$Config") (C := RX1) (T := TX1) (N := 6) (ci := 3) (v := .ref (c + 3)) B (by decide +kernel) rfl 2 (by decide) (by decide +kernel) rfl h_19 rfl dX1_support_19 ?_
  refine z_iload_n B dX1_support_22 rfl 0 rfl ?_
  have h_21 : Φ3 (c + 3) = some (aq_ G 4 4 (va_up (va_up (va_up (va_up (fun _ => none) (0 : Int32).toNatClampNeg (some (c + 5))) (1 : Int32).toNatClampNeg (some (c + 9))) (2 : Int32).toNatClampNeg (some (c + 13))) (3 : Int32).toNatClampNeg (some (c + 17)))) := ((fr2 (c + 3) (ne_off (x := c) (i := 3) (j := 11) rfl)).trans h_14)
  refine z_aald (b := c + 13) B rfl h_21 (vin rfl) rfl dX1_support_23 ?_
  refine z_iload_n B dX1_support_24 rfl 2 rfl ?_
  have h_22 : Φ3 (c + 15) = some (o_ 12 [.ref (c + 16), .int ea2, .int eb2, .int ed2]) := ((fr2 (c + 15) (ne_off (x := c) (i := 15) (j := 11) rfl)).trans ((fr1 (c + 15) (ne_off (x := c) (i := 15) (j := 8) rfl) (ne_off (x := c) (i := 15) (j := 7) rfl)).trans ((fset_fr hΦ1 (ne_off (x := c) (i := 15) (j := 0) rfl)).trans hc10)))
  have h_23 : Φ3 (c + 13) = some (o_ 12 [.ref (c + 14), .int 0, .int 0, .int 0]) := ((fr2 (c + 13) (ne_off (x := c) (i := 13) (j := 11) rfl)).trans ((fr1 (c + 13) (ne_off (x := c) (i := 13) (j := 8) rfl) (ne_off (x := c) (i := 13) (j := 7) rfl)).trans ((fset_fr hΦ1 (ne_off (x := c) (i := 13) (j := 0) rfl)).trans hc9)))
  refine z_callV (As := [.ref (c + 13), .int 511]) (rest := []) B (c_X10_copyFrom_0 G l Φ3 sz (c + 15) (c + 16) ea2 eb2 ed2 (c + 13) (c + 14) 0 0 511 h_22 h_23 (ne_off (x := c) (i := 15) (j := 13) rfl) (Nat.le_trans hna_c (Nat.le_add_right c 15))) (cwV 2 B.1.2.2.2.2 gX1_support_X10_copyFrom rfl rfl rfl (by decide +kernel) ⟨Nat.le_of_ble_eq_true rfl, Nat.le_of_ble_eq_true rfl⟩) h_22 rfl rfl rfl rfl (Nat.le_of_ble_eq_true rfl) dX1_support_25 ⟨Nat.le_of_ble_eq_true rfl, Nat.le_of_ble_eq_true rfl⟩ (fun v3 Φ4 sz3 st3 hp3 hs3 => ?_)
  obtain ⟨rfl, hq3, fr3, h_24⟩ := hp3
  replace hq3 : sz3 = sz := hq3
  subst sz3
  replace hs3 : st3 = [] := hs3
  subst st3
  have h_25 : Φ4 (c + 15) = some (o_ 12 [.ref (c + 16), .int 0, .int 0, .int 0]) := h_24
  refine z_iinc (k := 0) (v := 3) (lv' := [(2, .int 3), (0, .ref c), (1, .int 511)]) B dX1_support_28 rfl rfl (Nat.le_of_ble_eq_true rfl) rfl ?_
  refine z_goto (tgt := 7) B dX1_support_31 rfl ?_
  refine z_iload_n B dX1_support_7 rfl 0 rfl ?_
  refine z_iconst (v := 4) B dX1_support_8 rfl ?_
  refine z_icmp_ge (tgt := 34) B dX1_support_9 rfl (fun h9 => absurd h9 (by decide)) (fun c_4 => ?_)
  refine z_aload_n B dX1_support_12 rfl 1 rfl ?_
  have h_26 : Φ4 c = some (o_ 3 [.ref (c + 1), .ref (c + 2), .ref (c + 3), .ref (c + 4), .int m, .int 511]) := ((fr3 c (ne_off (x := c) (i := 0) (j := 15) rfl)).trans h_19)
  refine z_get (ref := "FlowExporter$Config") (C := RX1) (T := TX1) (N := 6) (ci := 3) (v := .ref (c + 4)) B (by decide +kernel) rfl 3 (by decide) (by decide +kernel) rfl h_26 rfl dX1_support_13 ?_
  refine z_iload_n B dX1_support_16 rfl 0 rfl ?_
  have h_27 : Φ4 (c + 4) = some (aq_ G 4 4 (va_up (va_up (va_up (va_up (fun _ => none) (0 : Int32).toNatClampNeg (some (c + 7))) (1 : Int32).toNatClampNeg (some (c + 11))) (2 : Int32).toNatClampNeg (some (c + 15))) (3 : Int32).toNatClampNeg (some (c + 19)))) := ((fr3 (c + 4) (ne_off (x := c) (i := 4) (j := 15) rfl)).trans h_20)
  refine z_aald (b := c + 19) B rfl h_27 (vin rfl) rfl dX1_support_17 ?_
  refine z_aload_n B dX1_support_18 rfl 1 rfl ?_
  refine z_get (ref := "FlowExporter$Config") (C := RX1) (T := TX1) (N := 6) (ci := 3) (v := .ref (c + 3)) B (by decide +kernel) rfl 2 (by decide) (by decide +kernel) rfl h_26 rfl dX1_support_19 ?_
  refine z_iload_n B dX1_support_22 rfl 0 rfl ?_
  have h_28 : Φ4 (c + 3) = some (aq_ G 4 4 (va_up (va_up (va_up (va_up (fun _ => none) (0 : Int32).toNatClampNeg (some (c + 5))) (1 : Int32).toNatClampNeg (some (c + 9))) (2 : Int32).toNatClampNeg (some (c + 13))) (3 : Int32).toNatClampNeg (some (c + 17)))) := ((fr3 (c + 3) (ne_off (x := c) (i := 3) (j := 15) rfl)).trans h_21)
  refine z_aald (b := c + 17) B rfl h_28 (vin rfl) rfl dX1_support_23 ?_
  refine z_iload_n B dX1_support_24 rfl 2 rfl ?_
  have h_29 : Φ4 (c + 19) = some (o_ 12 [.ref (c + 20), .int ea3, .int eb3, .int ed3]) := ((fr3 (c + 19) (ne_off (x := c) (i := 19) (j := 15) rfl)).trans ((fr2 (c + 19) (ne_off (x := c) (i := 19) (j := 11) rfl)).trans ((fr1 (c + 19) (ne_off (x := c) (i := 19) (j := 8) rfl) (ne_off (x := c) (i := 19) (j := 7) rfl)).trans ((fset_fr hΦ1 (ne_off (x := c) (i := 19) (j := 0) rfl)).trans hc12))))
  have h_30 : Φ4 (c + 17) = some (o_ 12 [.ref (c + 18), .int 0, .int 0, .int 0]) := ((fr3 (c + 17) (ne_off (x := c) (i := 17) (j := 15) rfl)).trans ((fr2 (c + 17) (ne_off (x := c) (i := 17) (j := 11) rfl)).trans ((fr1 (c + 17) (ne_off (x := c) (i := 17) (j := 8) rfl) (ne_off (x := c) (i := 17) (j := 7) rfl)).trans ((fset_fr hΦ1 (ne_off (x := c) (i := 17) (j := 0) rfl)).trans hc11))))
  refine z_callV (As := [.ref (c + 17), .int 511]) (rest := []) B (c_X10_copyFrom_0 G l Φ4 sz (c + 19) (c + 20) ea3 eb3 ed3 (c + 17) (c + 18) 0 0 511 h_29 h_30 (ne_off (x := c) (i := 19) (j := 17) rfl) (Nat.le_trans hna_c (Nat.le_add_right c 19))) (cwV 2 B.1.2.2.2.2 gX1_support_X10_copyFrom rfl rfl rfl (by decide +kernel) ⟨Nat.le_of_ble_eq_true rfl, Nat.le_of_ble_eq_true rfl⟩) h_29 rfl rfl rfl rfl (Nat.le_of_ble_eq_true rfl) dX1_support_25 ⟨Nat.le_of_ble_eq_true rfl, Nat.le_of_ble_eq_true rfl⟩ (fun v4 Φ5 sz4 st4 hp4 hs4 => ?_)
  obtain ⟨rfl, hq4, fr4, h_31⟩ := hp4
  replace hq4 : sz4 = sz := hq4
  subst sz4
  replace hs4 : st4 = [] := hs4
  subst st4
  have h_32 : Φ5 (c + 19) = some (o_ 12 [.ref (c + 20), .int 0, .int 0, .int 0]) := h_31
  refine z_iinc (k := 0) (v := 4) (lv' := [(2, .int 4), (0, .ref c), (1, .int 511)]) B dX1_support_28 rfl rfl (Nat.le_of_ble_eq_true rfl) rfl ?_
  refine z_goto (tgt := 7) B dX1_support_31 rfl ?_
  refine z_iload_n B dX1_support_7 rfl 0 rfl ?_
  refine z_iconst (v := 4) B dX1_support_8 rfl ?_
  refine z_icmp_ge (tgt := 34) B dX1_support_9 rfl (fun c_5 => ?_) (fun h9 => absurd (by decide) h9)
  have h_33 : Φ5 c = some (o_ 3 [.ref (c + 1), .ref (c + 2), .ref (c + 3), .ref (c + 4), .int m, .int 511]) := ((fr4 c (ne_off (x := c) (i := 0) (j := 19) rfl)).trans h_26)
  have h_34 : Φ5 (c + 11) = some (o_ 12 [.ref (c + 12), .int 0, .int 0, .int 0]) := ((fr4 (c + 11) (ne_off (x := c) (i := 11) (j := 19) rfl)).trans ((fr3 (c + 11) (ne_off (x := c) (i := 11) (j := 15) rfl)).trans h_18))
  have h_35 : Φ5 (c + 15) = some (o_ 12 [.ref (c + 16), .int 0, .int 0, .int 0]) := ((fr4 (c + 15) (ne_off (x := c) (i := 15) (j := 19) rfl)).trans h_25)
  have h_36 : Φ5 (c + 7) = some (o_ 12 [.ref (c + 8), .int 9, .int 511, .int 29]) := ((fr4 (c + 7) (ne_off (x := c) (i := 7) (j := 19) rfl)).trans ((fr3 (c + 7) (ne_off (x := c) (i := 7) (j := 15) rfl)).trans ((fr2 (c + 7) (ne_off (x := c) (i := 7) (j := 11) rfl)).trans h_11)))
  have h_37 : Φ5 (c + 8) = some (ai_ G 9 (upd (upd (upd (upd (upd (upd (upd (upd (upd eg0 (0 : Int32).toNatClampNeg 0) (1 : Int32).toNatClampNeg 1) (2 : Int32).toNatClampNeg 2) (3 : Int32).toNatClampNeg 3) (4 : Int32).toNatClampNeg 4) (5 : Int32).toNatClampNeg 5) (6 : Int32).toNatClampNeg 6) (7 : Int32).toNatClampNeg 7) (8 : Int32).toNatClampNeg 8)) := ((fr4 (c + 8) (ne_off (x := c) (i := 8) (j := 19) rfl)).trans ((fr3 (c + 8) (ne_off (x := c) (i := 8) (j := 15) rfl)).trans ((fr2 (c + 8) (ne_off (x := c) (i := 8) (j := 11) rfl)).trans h_10)))
  exact z_ret_v B dX1_support_34 ⟨rfl, rfl, (fun b9 h9a h9b h9c h9d h9e h9f => ((fr4 b9 h9d).trans ((fr3 b9 h9c).trans ((fr2 b9 h9b).trans ((fr1 b9 h9f h9e).trans ((fset_fr hΦ1 h9a).trans rfl)))))), h_33, h_34, h_35, h_32, h_36, h_37⟩

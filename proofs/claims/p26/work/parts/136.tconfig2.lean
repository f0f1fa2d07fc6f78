set_option maxHeartbeats 4000000 in
set_option maxRecDepth 100000 in
theorem c_X1_clear (G : EnvG) (l : Launch) (Φ : Hm) (sz : Nat) (c : Nat) (s : Nat → Int32) (u : Nat → Int32) (m : Int32) (q : Int32) (wa0 : Int32) (wb0 : Int32) (wd0 : Int32) (wa1 : Int32) (wb1 : Int32) (wd1 : Int32) (wa2 : Int32) (wb2 : Int32) (wd2 : Int32) (wa3 : Int32) (wb3 : Int32) (wd3 : Int32) (hc0 : Φ c = some (o_ 3 [.ref (c + 1), .ref (c + 2), .ref (c + 3), .ref (c + 4), .int m, .int q])) (hc1 : Φ (c + 1) = some (ai_ G 9 s)) (hc2 : Φ (c + 2) = some (ai_ G 256 u)) (hc3 : Φ (c + 3) = some (aq_ G 4 4 (va_up (va_up (va_up (va_up (fun _ => none) (0 : Int32).toNatClampNeg (some (c + 5))) (1 : Int32).toNatClampNeg (some (c + 9))) (2 : Int32).toNatClampNeg (some (c + 13))) (3 : Int32).toNatClampNeg (some (c + 17))))) (hc4 : Φ (c + 5) = some (o_ 12 [.ref (c + 6), .int wa0, .int wb0, .int wd0])) (hc5 : Φ (c + 9) = some (o_ 12 [.ref (c + 10), .int wa1, .int wb1, .int wd1])) (hc6 : Φ (c + 13) = some (o_ 12 [.ref (c + 14), .int wa2, .int wb2, .int wd2])) (hc7 : Φ (c + 17) = some (o_ 12 [.ref (c + 18), .int wa3, .int wb3, .int wd3])) (hna_c : G.2.2.2 ≤ c) : Ct G l yX1_clear wsX1_clear ({ frames := 1, cells := 0, slots := 0, locals := 23 }) 0 0 [.ref c] Φ sz (fun v Φ1 sz1 => v = none ∧ sz1 = sz ∧ (∀ b9 : Nat, b9 ≠ c → b9 ≠ c + 1 → b9 ≠ c + 13 → b9 ≠ c + 17 → b9 ≠ c + 2 → b9 ≠ c + 5 → b9 ≠ c + 9 → Φ1 b9 = Φ b9) ∧ Φ1 c = some (o_ 3 [.ref (c + 1), .ref (c + 2), .ref (c + 3), .ref (c + 4), .int 0, .int 511]) ∧ Φ1 (c + 1) = some (ai_ G 9 usT) ∧ Φ1 (c + 13) = some (o_ 12 [.ref (c + 14), .int 0, .int 0, .int 0]) ∧ Φ1 (c + 17) = some (o_ 12 [.ref (c + 18), .int 0, .int 0, .int 0]) ∧ Φ1 (c + 2) = some (ai_ G 256 (fun _ => 0)) ∧ Φ1 (c + 5) = some (o_ 12 [.ref (c + 6), .int 0, .int 0, .int 0]) ∧ Φ1 (c + 9) = some (o_ 12 [.ref (c + 10), .int 0, .int 0, .int 0])) := by
  refine Ct.of (cc := cX1_clear) (maxL := 2) (ret := none) (by decide) rfl (Nat.le_of_ble_eq_true rfl) ?_
  intro p9 e9 s9 m9 w9 t9 k9 B
  show Z p9 l e9 _ s9 m9 _ w9 t9 k9 _ G 2 0 [(0, .ref c)] [] Φ (sz) 0 0
  refine z_staN (n := "USUAL") B B.2.2.2.2.2.1.1.2.1 (by decide +kernel) dX1_clear_0 ?_
  refine z_iconst (v := 0) B dX1_clear_3 rfl ?_
  refine z_aload_n B dX1_clear_4 rfl 0 rfl ?_
  refine z_get (ref := "FlowExporter$Config") (C := RX1) (T := TX1) (N := 6) (ci := 3) (v := .ref (c + 1)) B (by decide +kernel) rfl 0 (by decide) (by decide +kernel) rfl hc0 rfl dX1_clear_5 ?_
  refine z_iconst (v := 0) B dX1_clear_8 rfl ?_
  refine z_bipush (v := 9) B dX1_clear_9 rfl ?_
  refine z_copyS B (by decide +kernel) (by decide +kernel) (by decide +kernel) (by decide +kernel) B.2.2.2.2.2.1.2.2.2.1.2.1 (B.2.2.2.2.2.1.2.2.2.2 1 (by decide)) hc1 (Nat.le_trans hna_c (Nat.le_add_right c 1)) (by decide) (by decide) (by decide) (by decide) (by decide) (fun _ _ => rfl) (Nat.le_of_ble_eq_true rfl) (by decide +kernel) dX1_clear_11 (fun Φ1 hΦ1 => ?_)
  have h_1 : Φ1 (c + 1) = some (ai_ G 9 (va_cpy usT s (0 : Int32).toNatClampNeg (0 : Int32).toNatClampNeg (9 : Int32).toNatClampNeg)) := fset_at hΦ1
  refine z_row (t := 0) (g := usT) h_1 (fun j hj => pk_cpy0 hj) (fun Φ2 hΦ2 => ?_)
  have h_2 : Φ2 (c + 1) = some (ai_ G 9 usT) := fset_at hΦ2
  refine z_aload_n B dX1_clear_14 rfl 0 rfl ?_
  have h_3 : Φ2 c = some (o_ 3 [.ref (c + 1), .ref (c + 2), .ref (c + 3), .ref (c + 4), .int m, .int q]) := ((fset_fr hΦ2 (ne_off (x := c) (i := 0) (j := 1) rfl)).trans ((fset_fr hΦ1 (ne_off (x := c) (i := 0) (j := 1) rfl)).trans hc0))
  refine z_get (ref := "FlowExporter$Config") (C := RX1) (T := TX1) (N := 6) (ci := 3) (v := .ref (c + 2)) B (by decide +kernel) rfl 1 (by decide) (by decide +kernel) rfl h_3 rfl dX1_clear_15 ?_
  refine z_iconst (v := 0) B dX1_clear_18 rfl ?_
  have h_4 : Φ2 (c + 2) = some (ai_ G 256 u) := ((fset_fr hΦ2 (ne_off (x := c) (i := 2) (j := 1) rfl)).trans ((fset_fr hΦ1 (ne_off (x := c) (i := 2) (j := 1) rfl)).trans hc2))
  refine z_callS (As := [.ref (c + 2), .int 0]) (rest := []) B (c_J7_fill_53178 G l Φ2 sz (c + 2) 256 u 0 h_4 (Nat.le_trans hna_c (Nat.le_add_right c 2)) (by decide)) (va_cwS 2 B.1.2.2.2.2 gX1_clear_J7_fill_53178 rfl rfl rfl (by decide +kernel) ⟨Nat.le_of_ble_eq_true rfl, Nat.le_of_ble_eq_true rfl⟩) rfl rfl (Nat.le_of_ble_eq_true rfl) dX1_clear_19 ⟨Nat.le_of_ble_eq_true rfl, Nat.le_of_ble_eq_true rfl⟩ (fun v1 Φ3 sz1 st1 hp1 hs1 => ?_)
  obtain ⟨rfl, hq1, fr1, h_5⟩ := hp1
  replace hq1 : sz1 = sz := hq1
  subst sz1
  replace hs1 : st1 = [] := hs1
  subst st1
  have h_6 : Φ3 (c + 2) = some (ai_ G 256 (fun _ => 0)) := h_5
  refine z_iconst (v := 0) B dX1_clear_22 rfl ?_
  refine z_istore_n (lv' := [(1, .int 0), (0, .ref c)]) B dX1_clear_23 rfl (Nat.le_of_ble_eq_true rfl) rfl ?_
  refine z_iload_n B dX1_clear_24 rfl 0 rfl ?_
  refine z_iconst (v := 4) B dX1_clear_25 rfl ?_
  refine z_icmp_ge (tgt := 44) B dX1_clear_26 rfl (fun h9 => absurd h9 (by decide)) (fun c_1 => ?_)
  refine z_aload_n B dX1_clear_29 rfl 1 rfl ?_
  have h_7 : Φ3 c = some (o_ 3 [.ref (c + 1), .ref (c + 2), .ref (c + 3), .ref (c + 4), .int m, .int q]) := ((fr1 c (ne_off (x := c) (i := 0) (j := 2) rfl)).trans h_3)
  refine z_get (ref := "FlowExporter$Config") (C := RX1) (T := TX1) (N := 6) (ci := 3) (v := .ref (c + 3)) B (by decide +kernel) rfl 2 (by decide) (by decide +kernel) rfl h_7 rfl dX1_clear_30 ?_
  refine z_iload_n B dX1_clear_33 rfl 0 rfl ?_
  have h_8 : Φ3 (c + 3) = some (aq_ G 4 4 (va_up (va_up (va_up (va_up (fun _ => none) (0 : Int32).toNatClampNeg (some (c + 5))) (1 : Int32).toNatClampNeg (some (c + 9))) (2 : Int32).toNatClampNeg (some (c + 13))) (3 : Int32).toNatClampNeg (some (c + 17)))) := ((fr1 (c + 3) (ne_off (x := c) (i := 3) (j := 2) rfl)).trans ((fset_fr hΦ2 (ne_off (x := c) (i := 3) (j := 1) rfl)).trans ((fset_fr hΦ1 (ne_off (x := c) (i := 3) (j := 1) rfl)).trans hc3)))
  refine z_aald (b := c + 5) B rfl h_8 (vin rfl) rfl dX1_clear_34 ?_
  have h_9 : Φ3 (c + 5) = some (o_ 12 [.ref (c + 6), .int wa0, .int wb0, .int wd0]) := ((fr1 (c + 5) (ne_off (x := c) (i := 5) (j := 2) rfl)).trans ((fset_fr hΦ2 (ne_off (x := c) (i := 5) (j := 1) rfl)).trans ((fset_fr hΦ1 (ne_off (x := c) (i := 5) (j := 1) rfl)).trans hc4)))
  refine z_callV (As := []) (rest := []) B (c_X10_clear G l Φ3 sz (c + 5) (c + 6) wa0 wb0 wd0 h_9 (Nat.le_trans hna_c (Nat.le_add_right c 5))) (cwV 0 B.1.2.2.2.2 gX1_clear_X10_clear rfl rfl rfl (by decide +kernel) ⟨Nat.le_of_ble_eq_true rfl, Nat.le_of_ble_eq_true rfl⟩) h_9 rfl rfl rfl rfl (Nat.le_of_ble_eq_true rfl) dX1_clear_35 ⟨Nat.le_of_ble_eq_true rfl, Nat.le_of_ble_eq_true rfl⟩ (fun v2 Φ4 sz2 st2 hp2 hs2 => ?_)
  obtain ⟨rfl, hq2, fr2, h_10⟩ := hp2
  replace hq2 : sz2 = sz := hq2
  subst sz2
  replace hs2 : st2 = [] := hs2
  subst st2
  have h_11 : Φ4 (c + 5) = some (o_ 12 [.ref (c + 6), .int 0, .int 0, .int 0]) := h_10
  refine z_iinc (k := 0) (v := 1) (lv' := [(1, .int 1), (0, .ref c)]) B dX1_clear_38 rfl rfl (Nat.le_of_ble_eq_true rfl) rfl ?_
  refine z_goto (tgt := 24) B dX1_clear_41 rfl ?_
  refine z_iload_n B dX1_clear_24 rfl 0 rfl ?_
  refine z_iconst (v := 4) B dX1_clear_25 rfl ?_
  refine z_icmp_ge (tgt := 44) B dX1_clear_26 rfl (fun h9 => absurd h9 (by decide)) (fun c_2 => ?_)
  refine z_aload_n B dX1_clear_29 rfl 1 rfl ?_
  have h_12 : Φ4 c = some (o_ 3 [.ref (c + 1), .ref (c + 2), .ref (c + 3), .ref (c + 4), .int m, .int q]) := ((fr2 c (ne_off (x := c) (i := 0) (j := 5) rfl)).trans h_7)
  refine z_get (ref := "FlowExporter$Config") (C := RX1) (T := TX1) (N := 6) (ci := 3) (v := .ref (c + 3)) B (by decide +kernel) rfl 2 (by decide) (by decide +kernel) rfl h_12 rfl dX1_clear_30 ?_
  refine z_iload_n B dX1_clear_33 rfl 0 rfl ?_
  have h_13 : Φ4 (c + 3) = some (aq_ G 4 4 (va_up (va_up (va_up (va_up (fun _ => none) (0 : Int32).toNatClampNeg (some (c + 5))) (1 : Int32).toNatClampNeg (some (c + 9))) (2 : Int32).toNatClampNeg (some (c + 13))) (3 : Int32).toNatClampNeg (some (c + 17)))) := ((fr2 (c + 3) (ne_off (x := c) (i := 3) (j := 5) rfl)).trans h_8)
  refine z_aald (b := c + 9) B rfl h_13 (vin rfl) rfl dX1_clear_34 ?_
  have h_14 : Φ4 (c + 9) = some (o_ 12 [.ref (c + 10), .int wa1, .int wb1, .int wd1]) := ((fr2 (c + 9) (ne_off (x := c) (i := 9) (j := 5) rfl)).trans ((fr1 (c + 9) (ne_off (x := c) (i := 9) (j := 2) rfl)).trans ((fset_fr hΦ2 (ne_off (x := c) (i := 9) (j := 1) rfl)).trans ((fset_fr hΦ1 (ne_off (x := c) (i := 9) (j := 1) rfl)).trans hc5))))
  refine z_callV (As := []) (rest := []) B (c_X10_clear G l Φ4 sz (c + 9) (c + 10) wa1 wb1 wd1 h_14 (Nat.le_trans hna_c (Nat.le_add_right c 9))) (cwV 0 B.1.2.2.2.2 gX1_clear_X10_clear rfl rfl rfl (by decide +kernel) ⟨Nat.le_of_ble_eq_true rfl, Nat.le_of_ble_eq_true rfl⟩) h_14 rfl rfl rfl rfl (Nat.le_of_ble_eq_true rfl) dX1_clear_35 ⟨Nat.le_of_ble_eq_true rfl, Nat.le_of_ble_eq_true rfl⟩ (fun v3 Φ5 sz3 st3 hp3 hs3 => ?_)
  obtain ⟨rfl, hq3, fr3, h_15⟩ := hp3
  replace hq3 : sz3 = sz := hq3
  subst sz3
  replace hs3 : st3 = [] := hs3
  subst st3
  have h_16 : Φ5 (c + 9) = some (o_ 12 [.ref (c + 10), .int 0, .int 0, .int 0]) := h_15
  refine z_iinc (k := 0) (v := 2) (lv' := [(1, .int 2), (0, .ref c)]) B dX1_clear_38 rfl rfl (Nat.le_of_ble_eq_true rfl) rfl ?_
  refine z_goto (tgt := 24) B dX1_clear_41 rfl ?_
  refine z_iload_n B dX1_clear_24 rfl 0 rfl ?_
  refine z_iconst (v := 4) B dX1_clear_25 rfl ?_
  refine z_icmp_ge (tgt := 44) B dX1_clear_26 rfl (fun h9 => absurd h9 (by decide)) (fun c_3 => ?_)
  refine z_aload_n B dX1_clear_29 rfl 1 rfl ?_
  have h_17 : Φ5 c = some (o_ 3 [.ref (c + 1), .ref (c + 2), .ref (c + 3), .ref (c + 4), .int m, .int q]) := ((fr3 c (ne_off (x := c) (i := 0) (j := 9) rfl)).trans h_12)
  refine z_get (ref := "FlowExporter$Config") (C := RX1) (T := TX1) (N := 6) (ci := 3) (v := .ref (c + 3)) B (by decide +kernel) rfl 2 (by decide) (by decide +kernel) rfl h_17 rfl dX1_clear_30 ?_
  refine z_iload_n B dX1_clear_33 rfl 0 rfl ?_
  have h_18 : Φ5 (c + 3) = some (aq_ G 4 4 (va_up (va_up (va_up (va_up (fun _ => none) (0 : Int32).toNatClampNeg (some (c + 5))) (1 : Int32).toNatClampNeg (some (c + 9))) (2 : Int32).toNatClampNeg (some (c + 13))) (3 : Int32).toNatClampNeg (some (c + 17)))) := ((fr3 (c + 3) (ne_off (x := c) (i := 3) (j := 9) rfl)).trans h_13)
  refine z_aald (b := c + 13) B rfl h_18 (vin rfl) rfl dX1_clear_34 ?_
  have h_19 : Φ5 (c + 13) = some (o_ 12 [.ref (c + 14), .int wa2, .int wb2, .int wd2]) := ((fr3 (c + 13) (ne_off (x := c) (i := 13) (j := 9) rfl)).trans ((fr2 (c + 13) (ne_off (x := c) (i := 13) (j := 5) rfl)).trans ((fr1 (c + 13) (ne_off (x := c) (i := 13) (j := 2) rfl)).trans ((fset_fr hΦ2 (ne_off (x := c) (i := 13) (j := 1) rfl)).trans ((fset_fr hΦ1 (ne_off (x := c) (i := 13) (j := 1) rfl)).trans hc6)))))
  refine z_callV (As := []) (rest := []) B (c_X10_clear G l Φ5 sz (c + 13) (c + 14) wa2 wb2 wd2 h_19 (Nat.le_trans hna_c (Nat.le_add_right c 13))) (cwV 0 B.1.2.2.2.2 gX1_clear_X10_clear rfl rfl rfl (by decide +kernel) ⟨Nat.le_of_ble_eq_true rfl, Nat.le_of_ble_eq_true rfl⟩) h_19 rfl rfl rfl rfl (Nat.le_of_ble_eq_true rfl) dX1_clear_35 ⟨Nat.le_of_ble_eq_true rfl, Nat.le_of_ble_eq_true rfl⟩ (fun v4 Φ6 sz4 st4 hp4 hs4 => ?_)
  obtain ⟨rfl, hq4, fr4, h_20⟩ := hp4
  replace hq4 : sz4 = sz := hq4
  subst sz4
  replace hs4 : st4 = [] := hs4
  subst st4
  have h_21 : Φ6 (c + 13) = some (o_ 12 [.ref (c + 14), .int 0, .int 0, .int 0]) := h_20
  refine z_iinc (k := 0) (v := 3) (lv' := [(1, .int 3), (0, .ref c)]) B dX1_clear_38 rfl rfl (Nat.le_of_ble_eq_true rfl) rfl ?_
  refine z_goto (tgt := 24) B dX1_clear_41 rfl ?_
  refine z_iload_n B dX1_clear_24 rfl 0 rfl ?_
  refine z_iconst (v := 4) B dX1_clear_25 rfl ?_
  refine z_icmp_ge (tgt := 44) B dX1_clear_26 rfl (fun h9 => absurd h9 (by decide)) (fun c_4 => ?_)
  refine z_aload_n B dX1_clear_29 rfl 1 rfl ?_
  have h_22 : Φ6 c = some (o_ 3 [.ref (c + 1), .ref (c + 2), .ref (c + 3), .ref (c + 4), .int m, .int q]) := ((fr4 c (ne_off (x := c) (i := 0) (j := 13) rfl)).trans h_17)
  refine z_get (ref := "FlowExporter$Config") (C := RX1) (T := TX1) (N := 6) (ci := 3) (v := .ref (c + 3)) B (by decide +kernel) rfl 2 (by decide) (by decide +kernel) rfl h_22 rfl dX1_clear_30 ?_
  refine z_iload_n B dX1_clear_33 rfl 0 rfl ?_
  have h_23 : Φ6 (c + 3) = some (aq_ G 4 4 (va_up (va_up (va_up (va_up (fun _ => none) (0 : Int32).toNatClampNeg (some (c + 5))) (1 : Int32).toNatClampNeg (some (c + 9))) (2 : Int32).toNatClampNeg (some (c + 13))) (3 : Int32).toNatClampNeg (some (c + 17)))) := ((fr4 (c + 3) (ne_off (x := c) (i := 3) (j := 13) rfl)).trans h_18)
  refine z_aald (b := c + 17) B rfl h_23 (vin rfl) rfl dX1_clear_34 ?_
  have h_24 : Φ6 (c + 17) = some (o_ 12 [.ref (c + 18), .int wa3, .int wb3, .int wd3]) := ((fr4 (c + 17) (ne_off (x := c) (i := 17) (j := 13) rfl)).trans ((fr3 (c + 17) (ne_off (x := c) (i := 17) (j := 9) rfl)).trans ((fr2 (c + 17) (ne_off (x := c) (i := 17) (j := 5) rfl)).trans ((fr1 (c + 17) (ne_off (x := c) (i := 17) (j := 2) rfl)).trans ((fset_fr hΦ2 (ne_off (x := c) (i := 17) (j := 1) rfl)).trans ((fset_fr hΦ1 (ne_off (x := c) (i := 17) (j := 1) rfl)).trans hc7))))))
  refine z_callV (As := []) (rest := []) B (c_X10_clear G l Φ6 sz (c + 17) (c + 18) wa3 wb3 wd3 h_24 (Nat.le_trans hna_c (Nat.le_add_right c 17))) (cwV 0 B.1.2.2.2.2 gX1_clear_X10_clear rfl rfl rfl (by decide +kernel) ⟨Nat.le_of_ble_eq_true rfl, Nat.le_of_ble_eq_true rfl⟩) h_24 rfl rfl rfl rfl (Nat.le_of_ble_eq_true rfl) dX1_clear_35 ⟨Nat.le_of_ble_eq_true rfl, Nat.le_of_ble_eq_true rfl⟩ (fun v5 Φ7 sz5 st5 hp5 hs5 => ?_)
  obtain ⟨rfl, hq5, fr5, h_25⟩ := hp5
  replace hq5 : sz5 = sz := hq5
  subst sz5
  replace hs5 : st5 = [] := hs5
  subst st5
  have h_26 : Φ7 (c + 17) = some (o_ 12 [.ref (c + 18), .int 0, .int 0, .int 0]) := h_25
  refine z_iinc (k := 0) (v := 4) (lv' := [(1, .int 4), (0, .ref c)]) B dX1_clear_38 rfl rfl (Nat.le_of_ble_eq_true rfl) rfl ?_
  refine z_goto (tgt := 24) B dX1_clear_41 rfl ?_
  refine z_iload_n B dX1_clear_24 rfl 0 rfl ?_
  refine z_iconst (v := 4) B dX1_clear_25 rfl ?_
  refine z_icmp_ge (tgt := 44) B dX1_clear_26 rfl (fun c_5 => ?_) (fun h9 => absurd (by decide) h9)
  refine z_aload_n B dX1_clear_44 rfl 1 rfl ?_
  refine z_iconst (v := 0) B dX1_clear_45 rfl ?_
  have h_27 : Φ7 c = some (o_ 3 [.ref (c + 1), .ref (c + 2), .ref (c + 3), .ref (c + 4), .int m, .int q]) := ((fr5 c (ne_off (x := c) (i := 0) (j := 17) rfl)).trans h_22)
  refine z_put (ref := "FlowExporter$Config") (C := RX1) (T := TX1) (N := 6) (ci := 3) (v := .int 0) B (by decide +kernel) tyX1 tyX1_ok nmX1 rfl 4 (by decide) (by decide +kernel) rfl (Or.inl rfl) h_27 hna_c rfl rfl (Nat.le_of_ble_eq_true rfl) dX1_clear_46 (fun Φ8 hΦ3 => ?_)
  have h_28 : Φ8 c = some (o_ 3 [.ref (c + 1), .ref (c + 2), .ref (c + 3), .ref (c + 4), .int 0, .int q]) := fset_at hΦ3
  refine z_aload_n B dX1_clear_49 rfl 1 rfl ?_
  refine z_sipush (v := 511) B dX1_clear_50 rfl ?_
  refine z_put (ref := "FlowExporter$Config") (C := RX1) (T := TX1) (N := 6) (ci := 3) (v := .int 511) B (by decide +kernel) tyX1 tyX1_ok nmX1 rfl 5 (by decide) (by decide +kernel) rfl (Or.inl rfl) h_28 hna_c rfl rfl (Nat.le_of_ble_eq_true rfl) dX1_clear_53 (fun Φ9 hΦ4 => ?_)
  have h_29 : Φ9 c = some (o_ 3 [.ref (c + 1), .ref (c + 2), .ref (c + 3), .ref (c + 4), .int 0, .int 511]) := fset_at hΦ4
  have h_30 : Φ9 (c + 1) = some (ai_ G 9 usT) := ((fset_fr hΦ4 (ne_off (x := c) (i := 1) (j := 0) rfl)).trans ((fset_fr hΦ3 (ne_off (x := c) (i := 1) (j := 0) rfl)).trans ((fr5 (c + 1) (ne_off (x := c) (i := 1) (j := 17) rfl)).trans ((fr4 (c + 1) (ne_off (x := c) (i := 1) (j := 13) rfl)).trans ((fr3 (c + 1) (ne_off (x := c) (i := 1) (j := 9) rfl)).trans ((fr2 (c + 1) (ne_off (x := c) (i := 1) (j := 5) rfl)).trans ((fr1 (c + 1) (ne_off (x := c) (i := 1) (j := 2) rfl)).trans h_2)))))))
  have h_31 : Φ9 (c + 13) = some (o_ 12 [.ref (c + 14), .int 0, .int 0, .int 0]) := ((fset_fr hΦ4 (ne_off (x := c) (i := 13) (j := 0) rfl)).trans ((fset_fr hΦ3 (ne_off (x := c) (i := 13) (j := 0) rfl)).trans ((fr5 (c + 13) (ne_off (x := c) (i := 13) (j := 17) rfl)).trans h_21)))
  have h_32 : Φ9 (c + 17) = some (o_ 12 [.ref (c + 18), .int 0, .int 0, .int 0]) := ((fset_fr hΦ4 (ne_off (x := c) (i := 17) (j := 0) rfl)).trans ((fset_fr hΦ3 (ne_off (x := c) (i := 17) (j := 0) rfl)).trans h_26))
  have h_33 : Φ9 (c + 2) = some (ai_ G 256 (fun _ => 0)) := ((fset_fr hΦ4 (ne_off (x := c) (i := 2) (j := 0) rfl)).trans ((fset_fr hΦ3 (ne_off (x := c) (i := 2) (j := 0) rfl)).trans ((fr5 (c + 2) (ne_off (x := c) (i := 2) (j := 17) rfl)).trans ((fr4 (c + 2) (ne_off (x := c) (i := 2) (j := 13) rfl)).trans ((fr3 (c + 2) (ne_off (x := c) (i := 2) (j := 9) rfl)).trans ((fr2 (c + 2) (ne_off (x := c) (i := 2) (j := 5) rfl)).trans h_6))))))
  have h_34 : Φ9 (c + 5) = some (o_ 12 [.ref (c + 6), .int 0, .int 0, .int 0]) := ((fset_fr hΦ4 (ne_off (x := c) (i := 5) (j := 0) rfl)).trans ((fset_fr hΦ3 (ne_off (x := c) (i := 5) (j := 0) rfl)).trans ((fr5 (c + 5) (ne_off (x := c) (i := 5) (j := 17) rfl)).trans ((fr4 (c + 5) (ne_off (x := c) (i := 5) (j := 13) rfl)).trans ((fr3 (c + 5) (ne_off (x := c) (i := 5) (j := 9) rfl)).trans h_11)))))
  have h_35 : Φ9 (c + 9) = some (o_ 12 [.ref (c + 10), .int 0, .int 0, .int 0]) := ((fset_fr hΦ4 (ne_off (x := c) (i := 9) (j := 0) rfl)).trans ((fset_fr hΦ3 (ne_off (x := c) (i := 9) (j := 0) rfl)).trans ((fr5 (c + 9) (ne_off (x := c) (i := 9) (j := 17) rfl)).trans ((fr4 (c + 9) (ne_off (x := c) (i := 9) (j := 13) rfl)).trans h_16))))
  exact z_ret_v B dX1_clear_56 ⟨rfl, rfl, (fun b9 h9a h9b h9c h9d h9e h9f h9g => ((fset_fr hΦ4 h9a).trans ((fset_fr hΦ3 h9a).trans ((fr5 b9 h9d).trans ((fr4 b9 h9c).trans ((fr3 b9 h9g).trans ((fr2 b9 h9f).trans ((fr1 b9 h9e).trans ((fset_fr hΦ2 h9b).trans ((fset_fr hΦ1 h9b).trans rfl)))))))))), h_29, h_30, h_31, h_32, h_33, h_34, h_35⟩

set_option maxHeartbeats 4000000 in
set_option maxRecDepth 100000 in
theorem c_X1_addUsualTemplate (G : EnvG) (l : Launch) (Φ : Hm) (sz : Nat) (c : Nat) (m : Int32) (q : Int32) (wg0 : Nat → Int32) (hc0 : Φ c = some (o_ 3 [.ref (c + 1), .ref (c + 2), .ref (c + 3), .ref (c + 4), .int m, .int q])) (hc1 : Φ (c + 3) = some (aq_ G 4 4 (va_up (va_up (va_up (va_up (fun _ => none) (0 : Int32).toNatClampNeg (some (c + 5))) (1 : Int32).toNatClampNeg (some (c + 9))) (2 : Int32).toNatClampNeg (some (c + 13))) (3 : Int32).toNatClampNeg (some (c + 17))))) (hc2 : Φ (c + 5) = some (o_ 12 [.ref (c + 6), .int 0, .int 0, .int 0])) (hc3 : Φ (c + 6) = some (ai_ G 9 wg0)) (hna_c : G.2.2.2 ≤ c) : Ct G l yX1_addUsualTemplate wsX1_addUsualTemplate ({ frames := 1, cells := 0, slots := 0, locals := 21 }) 0 0 [.ref c] Φ sz (fun v Φ1 sz1 => v = none ∧ sz1 = sz ∧ (∀ b9 : Nat, b9 ≠ c → b9 ≠ c + 5 → b9 ≠ c + 6 → Φ1 b9 = Φ b9) ∧ Φ1 c = some (o_ 3 [.ref (c + 1), .ref (c + 2), .ref (c + 3), .ref (c + 4), .int 1, .int q]) ∧ Φ1 (c + 5) = some (o_ 12 [.ref (c + 6), .int 9, .int 511, .int 29]) ∧ Φ1 (c + 6) = some (ai_ G 9 (upd (upd (upd (upd (upd (upd (upd (upd (upd wg0 (0 : Int32).toNatClampNeg 0) (1 : Int32).toNatClampNeg 1) (2 : Int32).toNatClampNeg 2) (3 : Int32).toNatClampNeg 3) (4 : Int32).toNatClampNeg 4) (5 : Int32).toNatClampNeg 5) (6 : Int32).toNatClampNeg 6) (7 : Int32).toNatClampNeg 7) (8 : Int32).toNatClampNeg 8))) := by
  refine Ct.of (cc := cX1_addUsualTemplate) (maxL := 2) (ret := none) (by decide) rfl (Nat.le_of_ble_eq_true rfl) ?_
  intro p9 e9 s9 m9 w9 t9 k9 B
  show Z p9 l e9 _ s9 m9 _ w9 t9 k9 _ G 2 0 [(0, .ref c)] [] Φ (sz) 0 0
  refine z_aload_n B dX1_addUsualTemplate_0 rfl 0 rfl ?_
  refine z_iconst (v := 1) B dX1_addUsualTemplate_1 rfl ?_
  refine z_put (ref := "FlowExporter$Config") (C := RX1) (T := TX1) (N := 6) (ci := 3) (v := .int 1) B (by decide +kernel) tyX1 tyX1_ok nmX1 rfl 4 (by decide) (by decide +kernel) rfl (Or.inl rfl) hc0 hna_c rfl rfl (Nat.le_of_ble_eq_true rfl) dX1_addUsualTemplate_2 (fun Φ1 hΦ1 => ?_)
  have h_1 : Φ1 c = some (o_ 3 [.ref (c + 1), .ref (c + 2), .ref (c + 3), .ref (c + 4), .int 1, .int q]) := fset_at hΦ1
  refine z_iconst (v := 0) B dX1_addUsualTemplate_5 rfl ?_
  refine z_istore_n (lv' := [(1, .int 0), (0, .ref c)]) B dX1_addUsualTemplate_6 rfl (Nat.le_of_ble_eq_true rfl) rfl ?_
  refine z_iload_n B dX1_addUsualTemplate_7 rfl 0 rfl ?_
  refine z_bipush (v := 9) B dX1_addUsualTemplate_8 rfl ?_
  refine z_icmp_ge (tgt := 29) B dX1_addUsualTemplate_10 rfl (fun h9 => absurd h9 (by decide)) (fun c_1 => ?_)
  refine z_aload_n B dX1_addUsualTemplate_13 rfl 1 rfl ?_
  refine z_get (ref := "FlowExporter$Config") (C := RX1) (T := TX1) (N := 6) (ci := 3) (v := .ref (c + 3)) B (by decide +kernel) rfl 2 (by decide) (by decide +kernel) rfl h_1 rfl dX1_addUsualTemplate_14 ?_
  refine z_iconst (v := 0) B dX1_addUsualTemplate_17 rfl ?_
  have h_2 : Φ1 (c + 3) = some (aq_ G 4 4 (va_up (va_up (va_up (va_up (fun _ => none) (0 : Int32).toNatClampNeg (some (c + 5))) (1 : Int32).toNatClampNeg (some (c + 9))) (2 : Int32).toNatClampNeg (some (c + 13))) (3 : Int32).toNatClampNeg (some (c + 17)))) := ((fset_fr hΦ1 (ne_off (x := c) (i := 3) (j := 0) rfl)).trans hc1)
  refine z_aald (b := c + 5) B rfl h_2 (vin rfl) rfl dX1_addUsualTemplate_18 ?_
  refine z_iload_n B dX1_addUsualTemplate_19 rfl 0 rfl ?_
  have h_3 : Φ1 (c + 5) = some (o_ 12 [.ref (c + 6), .int 0, .int 0, .int 0]) := ((fset_fr hΦ1 (ne_off (x := c) (i := 5) (j := 0) rfl)).trans hc2)
  have h_4 : Φ1 (c + 6) = some (ai_ G 9 wg0) := ((fset_fr hΦ1 (ne_off (x := c) (i := 6) (j := 0) rfl)).trans hc3)
  refine z_callV (As := [.int 0]) (rest := []) B (c_X10_addField G l Φ1 sz (c + 5) (c + 6) 0 0 0 wg0 0 h_3 h_4 (ne_off (x := c) (i := 5) (j := 6) rfl) (Nat.le_trans hna_c (Nat.le_add_right c 5)) (Nat.le_trans hna_c (Nat.le_add_right c 6)) (by decide) (by decide) (by decide) (by decide) (vin rfl) (vin rfl)) (cwV 1 B.1.2.2.2.2 gX1_addUsualTemplate_X10_addField rfl rfl rfl (by decide +kernel) ⟨Nat.le_of_ble_eq_true rfl, Nat.le_of_ble_eq_true rfl⟩) h_3 rfl rfl rfl rfl (Nat.le_of_ble_eq_true rfl) dX1_addUsualTemplate_20 ⟨Nat.le_of_ble_eq_true rfl, Nat.le_of_ble_eq_true rfl⟩ (fun v1 Φ2 sz1 st1 hp1 hs1 => ?_)
  obtain ⟨rfl, hq1, fr1, h_5, h_6⟩ := hp1
  replace hq1 : sz1 = sz := hq1
  subst sz1
  replace hs1 : st1 = [] := hs1
  subst st1
  have h_7 : Φ2 (c + 6) = some (ai_ G 9 (upd wg0 (0 : Int32).toNatClampNeg 0)) := h_5
  have h_8 : Φ2 (c + 5) = some (o_ 12 [.ref (c + 6), .int 1, .int 1, .int 1]) := h_6
  refine z_iinc (k := 0) (v := 1) (lv' := [(1, .int 1), (0, .ref c)]) B dX1_addUsualTemplate_23 rfl rfl (Nat.le_of_ble_eq_true rfl) rfl ?_
  refine z_goto (tgt := 7) B dX1_addUsualTemplate_26 rfl ?_
  refine z_iload_n B dX1_addUsualTemplate_7 rfl 0 rfl ?_
  refine z_bipush (v := 9) B dX1_addUsualTemplate_8 rfl ?_
  refine z_icmp_ge (tgt := 29) B dX1_addUsualTemplate_10 rfl (fun h9 => absurd h9 (by decide)) (fun c_2 => ?_)
  refine z_aload_n B dX1_addUsualTemplate_13 rfl 1 rfl ?_
  have h_9 : Φ2 c = some (o_ 3 [.ref (c + 1), .ref (c + 2), .ref (c + 3), .ref (c + 4), .int 1, .int q]) := ((fr1 c (ne_off (x := c) (i := 0) (j := 6) rfl) (ne_off (x := c) (i := 0) (j := 5) rfl)).trans h_1)
  refine z_get (ref := "FlowExporter$Config") (C := RX1) (T := TX1) (N := 6) (ci := 3) (v := .ref (c + 3)) B (by decide +kernel) rfl 2 (by decide) (by decide +kernel) rfl h_9 rfl dX1_addUsualTemplate_14 ?_
  refine z_iconst (v := 0) B dX1_addUsualTemplate_17 rfl ?_
  have h_10 : Φ2 (c + 3) = some (aq_ G 4 4 (va_up (va_up (va_up (va_up (fun _ => none) (0 : Int32).toNatClampNeg (some (c + 5))) (1 : Int32).toNatClampNeg (some (c + 9))) (2 : Int32).toNatClampNeg (some (c + 13))) (3 : Int32).toNatClampNeg (some (c + 17)))) := ((fr1 (c + 3) (ne_off (x := c) (i := 3) (j := 6) rfl) (ne_off (x := c) (i := 3) (j := 5) rfl)).trans h_2)
  refine z_aald (b := c + 5) B rfl h_10 (vin rfl) rfl dX1_addUsualTemplate_18 ?_
  refine z_iload_n B dX1_addUsualTemplate_19 rfl 0 rfl ?_
  refine z_callV (As := [.int 1]) (rest := []) B (c_X10_addField G l Φ2 sz (c + 5) (c + 6) 1 1 1 (upd wg0 (0 : Int32).toNatClampNeg 0) 1 h_8 h_7 (ne_off (x := c) (i := 5) (j := 6) rfl) (Nat.le_trans hna_c (Nat.le_add_right c 5)) (Nat.le_trans hna_c (Nat.le_add_right c 6)) (by decide) (by decide) (by decide) (by decide) (vin rfl) (vin rfl)) (cwV 1 B.1.2.2.2.2 gX1_addUsualTemplate_X10_addField rfl rfl rfl (by decide +kernel) ⟨Nat.le_of_ble_eq_true rfl, Nat.le_of_ble_eq_true rfl⟩) h_8 rfl rfl rfl rfl (Nat.le_of_ble_eq_true rfl) dX1_addUsualTemplate_20 ⟨Nat.le_of_ble_eq_true rfl, Nat.le_of_ble_eq_true rfl⟩ (fun v2 Φ3 sz2 st2 hp2 hs2 => ?_)
  obtain ⟨rfl, hq2, fr2, h_11, h_12⟩ := hp2
  replace hq2 : sz2 = sz := hq2
  subst sz2
  replace hs2 : st2 = [] := hs2
  subst st2
  have h_13 : Φ3 (c + 6) = some (ai_ G 9 (upd (upd wg0 (0 : Int32).toNatClampNeg 0) (1 : Int32).toNatClampNeg 1)) := h_11
  have h_14 : Φ3 (c + 5) = some (o_ 12 [.ref (c + 6), .int 2, .int 3, .int 2]) := h_12
  refine z_iinc (k := 0) (v := 2) (lv' := [(1, .int 2), (0, .ref c)]) B dX1_addUsualTemplate_23 rfl rfl (Nat.le_of_ble_eq_true rfl) rfl ?_
  refine z_goto (tgt := 7) B dX1_addUsualTemplate_26 rfl ?_
  refine z_iload_n B dX1_addUsualTemplate_7 rfl 0 rfl ?_
  refine z_bipush (v := 9) B dX1_addUsualTemplate_8 rfl ?_
  refine z_icmp_ge (tgt := 29) B dX1_addUsualTemplate_10 rfl (fun h9 => absurd h9 (by decide)) (fun c_3 => ?_)
  refine z_aload_n B dX1_addUsualTemplate_13 rfl 1 rfl ?_
  have h_15 : Φ3 c = some (o_ 3 [.ref (c + 1), .ref (c + 2), .ref (c + 3), .ref (c + 4), .int 1, .int q]) := ((fr2 c (ne_off (x := c) (i := 0) (j := 6) rfl) (ne_off (x := c) (i := 0) (j := 5) rfl)).trans h_9)
  refine z_get (ref := "FlowExporter$Config") (C := RX1) (T := TX1) (N := 6) (ci := 3) (v := .ref (c + 3)) B (by decide +kernel) rfl 2 (by decide) (by decide +kernel) rfl h_15 rfl dX1_addUsualTemplate_14 ?_
  refine z_iconst (v := 0) B dX1_addUsualTemplate_17 rfl ?_
  have h_16 : Φ3 (c + 3) = some (aq_ G 4 4 (va_up (va_up (va_up (va_up (fun _ => none) (0 : Int32).toNatClampNeg (some (c + 5))) (1 : Int32).toNatClampNeg (some (c + 9))) (2 : Int32).toNatClampNeg (some (c + 13))) (3 : Int32).toNatClampNeg (some (c + 17)))) := ((fr2 (c + 3) (ne_off (x := c) (i := 3) (j := 6) rfl) (ne_off (x := c) (i := 3) (j := 5) rfl)).trans h_10)
  refine z_aald (b := c + 5) B rfl h_16 (vin rfl) rfl dX1_addUsualTemplate_18 ?_
  refine z_iload_n B dX1_addUsualTemplate_19 rfl 0 rfl ?_
  refine z_callV (As := [.int 2]) (rest := []) B (c_X10_addField G l Φ3 sz (c + 5) (c + 6) 2 3 2 (upd (upd wg0 (0 : Int32).toNatClampNeg 0) (1 : Int32).toNatClampNeg 1) 2 h_14 h_13 (ne_off (x := c) (i := 5) (j := 6) rfl) (Nat.le_trans hna_c (Nat.le_add_right c 5)) (Nat.le_trans hna_c (Nat.le_add_right c 6)) (by decide) (by decide) (by decide) (by decide) (vin rfl) (vin rfl)) (cwV 1 B.1.2.2.2.2 gX1_addUsualTemplate_X10_addField rfl rfl rfl (by decide +kernel) ⟨Nat.le_of_ble_eq_true rfl, Nat.le_of_ble_eq_true rfl⟩) h_14 rfl rfl rfl rfl (Nat.le_of_ble_eq_true rfl) dX1_addUsualTemplate_20 ⟨Nat.le_of_ble_eq_true rfl, Nat.le_of_ble_eq_true rfl⟩ (fun v3 Φ4 sz3 st3 hp3 hs3 => ?_)
  obtain ⟨rfl, hq3, fr3, h_17, h_18⟩ := hp3
  replace hq3 : sz3 = sz := hq3
  subst sz3
  replace hs3 : st3 = [] := hs3
  subst st3
  have h_19 : Φ4 (c + 6) = some (ai_ G 9 (upd (upd (upd wg0 (0 : Int32).toNatClampNeg 0) (1 : Int32).toNatClampNeg 1) (2 : Int32).toNatClampNeg 2)) := h_17
  have h_20 : Φ4 (c + 5) = some (o_ 12 [.ref (c + 6), .int 3, .int 7, .int 4]) := h_18
  refine z_iinc (k := 0) (v := 3) (lv' := [(1, .int 3), (0, .ref c)]) B dX1_addUsualTemplate_23 rfl rfl (Nat.le_of_ble_eq_true rfl) rfl ?_
  refine z_goto (tgt := 7) B dX1_addUsualTemplate_26 rfl ?_
  refine z_iload_n B dX1_addUsualTemplate_7 rfl 0 rfl ?_
  refine z_bipush (v := 9) B dX1_addUsualTemplate_8 rfl ?_
  refine z_icmp_ge (tgt := 29) B dX1_addUsualTemplate_10 rfl (fun h9 => absurd h9 (by decide)) (fun c_4 => ?_)
  refine z_aload_n B dX1_addUsualTemplate_13 rfl 1 rfl ?_
  have h_21 : Φ4 c = some (o_ 3 [.ref (c + 1), .ref (c + 2), .ref (c + 3), .ref (c + 4), .int 1, .int q]) := ((fr3 c (ne_off (x := c) (i := 0) (j := 6) rfl) (ne_off (x := c) (i := 0) (j := 5) rfl)).trans h_15)
  refine z_get (ref := "FlowExporter$Config") (C := RX1) (T := TX1) (N := 6) (ci := 3) (v := .ref (c + 3)) B (by decide +kernel) rfl 2 (by decide) (by decide +kernel) rfl h_21 rfl dX1_addUsualTemplate_14 ?_
  refine z_iconst (v := 0) B dX1_addUsualTemplate_17 rfl ?_
  have h_22 : Φ4 (c + 3) = some (aq_ G 4 4 (va_up (va_up (va_up (va_up (fun _ => none) (0 : Int32).toNatClampNeg (some (c + 5))) (1 : Int32).toNatClampNeg (some (c + 9))) (2 : Int32).toNatClampNeg (some (c + 13))) (3 : Int32).toNatClampNeg (some (c + 17)))) := ((fr3 (c + 3) (ne_off (x := c) (i := 3) (j := 6) rfl) (ne_off (x := c) (i := 3) (j := 5) rfl)).trans h_16)
  refine z_aald (b := c + 5) B rfl h_22 (vin rfl) rfl dX1_addUsualTemplate_18 ?_
  refine z_iload_n B dX1_addUsualTemplate_19 rfl 0 rfl ?_
  refine z_callV (As := [.int 3]) (rest := []) B (c_X10_addField G l Φ4 sz (c + 5) (c + 6) 3 7 4 (upd (upd (upd wg0 (0 : Int32).toNatClampNeg 0) (1 : Int32).toNatClampNeg 1) (2 : Int32).toNatClampNeg 2) 3 h_20 h_19 (ne_off (x := c) (i := 5) (j := 6) rfl) (Nat.le_trans hna_c (Nat.le_add_right c 5)) (Nat.le_trans hna_c (Nat.le_add_right c 6)) (by decide) (by decide) (by decide) (by decide) (vin rfl) (vin rfl)) (cwV 1 B.1.2.2.2.2 gX1_addUsualTemplate_X10_addField rfl rfl rfl (by decide +kernel) ⟨Nat.le_of_ble_eq_true rfl, Nat.le_of_ble_eq_true rfl⟩) h_20 rfl rfl rfl rfl (Nat.le_of_ble_eq_true rfl) dX1_addUsualTemplate_20 ⟨Nat.le_of_ble_eq_true rfl, Nat.le_of_ble_eq_true rfl⟩ (fun v4 Φ5 sz4 st4 hp4 hs4 => ?_)
  obtain ⟨rfl, hq4, fr4, h_23, h_24⟩ := hp4
  replace hq4 : sz4 = sz := hq4
  subst sz4
  replace hs4 : st4 = [] := hs4
  subst st4
  have h_25 : Φ5 (c + 6) = some (ai_ G 9 (upd (upd (upd (upd wg0 (0 : Int32).toNatClampNeg 0) (1 : Int32).toNatClampNeg 1) (2 : Int32).toNatClampNeg 2) (3 : Int32).toNatClampNeg 3)) := h_23
  have h_26 : Φ5 (c + 5) = some (o_ 12 [.ref (c + 6), .int 4, .int 15, .int 5]) := h_24
  refine z_iinc (k := 0) (v := 4) (lv' := [(1, .int 4), (0, .ref c)]) B dX1_addUsualTemplate_23 rfl rfl (Nat.le_of_ble_eq_true rfl) rfl ?_
  refine z_goto (tgt := 7) B dX1_addUsualTemplate_26 rfl ?_
  refine z_iload_n B dX1_addUsualTemplate_7 rfl 0 rfl ?_
  refine z_bipush (v := 9) B dX1_addUsualTemplate_8 rfl ?_
  refine z_icmp_ge (tgt := 29) B dX1_addUsualTemplate_10 rfl (fun h9 => absurd h9 (by decide)) (fun c_5 => ?_)
  refine z_aload_n B dX1_addUsualTemplate_13 rfl 1 rfl ?_
  have h_27 : Φ5 c = some (o_ 3 [.ref (c + 1), .ref (c + 2), .ref (c + 3), .ref (c + 4), .int 1, .int q]) := ((fr4 c (ne_off (x := c) (i := 0) (j := 6) rfl) (ne_off (x := c) (i := 0) (j := 5) rfl)).trans h_21)
  refine z_get (ref := "FlowExporter$Config") (C := RX1) (T := TX1) (N := 6) (ci := 3) (v := .ref (c + 3)) B (by decide +kernel) rfl 2 (by decide) (by decide +kernel) rfl h_27 rfl dX1_addUsualTemplate_14 ?_
  refine z_iconst (v := 0) B dX1_addUsualTemplate_17 rfl ?_
  have h_28 : Φ5 (c + 3) = some (aq_ G 4 4 (va_up (va_up (va_up (va_up (fun _ => none) (0 : Int32).toNatClampNeg (some (c + 5))) (1 : Int32).toNatClampNeg (some (c + 9))) (2 : Int32).toNatClampNeg (some (c + 13))) (3 : Int32).toNatClampNeg (some (c + 17)))) := ((fr4 (c + 3) (ne_off (x := c) (i := 3) (j := 6) rfl) (ne_off (x := c) (i := 3) (j := 5) rfl)).trans h_22)
  refine z_aald (b := c + 5) B rfl h_28 (vin rfl) rfl dX1_addUsualTemplate_18 ?_
  refine z_iload_n B dX1_addUsualTemplate_19 rfl 0 rfl ?_
  refine z_callV (As := [.int 4]) (rest := []) B (c_X10_addField G l Φ5 sz (c + 5) (c + 6) 4 15 5 (upd (upd (upd (upd wg0 (0 : Int32).toNatClampNeg 0) (1 : Int32).toNatClampNeg 1) (2 : Int32).toNatClampNeg 2) (3 : Int32).toNatClampNeg 3) 4 h_26 h_25 (ne_off (x := c) (i := 5) (j := 6) rfl) (Nat.le_trans hna_c (Nat.le_add_right c 5)) (Nat.le_trans hna_c (Nat.le_add_right c 6)) (by decide) (by decide) (by decide) (by decide) (vin rfl) (vin rfl)) (cwV 1 B.1.2.2.2.2 gX1_addUsualTemplate_X10_addField rfl rfl rfl (by decide +kernel) ⟨Nat.le_of_ble_eq_true rfl, Nat.le_of_ble_eq_true rfl⟩) h_26 rfl rfl rfl rfl (Nat.le_of_ble_eq_true rfl) dX1_addUsualTemplate_20 ⟨Nat.le_of_ble_eq_true rfl, Nat.le_of_ble_eq_true rfl⟩ (fun v5 Φ6 sz5 st5 hp5 hs5 => ?_)
  obtain ⟨rfl, hq5, fr5, h_29, h_30⟩ := hp5
  replace hq5 : sz5 = sz := hq5
  subst sz5
  replace hs5 : st5 = [] := hs5
  subst st5
  have h_31 : Φ6 (c + 6) = some (ai_ G 9 (upd (upd (upd (upd (upd wg0 (0 : Int32).toNatClampNeg 0) (1 : Int32).toNatClampNeg 1) (2 : Int32).toNatClampNeg 2) (3 : Int32).toNatClampNeg 3) (4 : Int32).toNatClampNeg 4)) := h_29
  have h_32 : Φ6 (c + 5) = some (o_ 12 [.ref (c + 6), .int 5, .int 31, .int 9]) := h_30
  refine z_iinc (k := 0) (v := 5) (lv' := [(1, .int 5), (0, .ref c)]) B dX1_addUsualTemplate_23 rfl rfl (Nat.le_of_ble_eq_true rfl) rfl ?_
  refine z_goto (tgt := 7) B dX1_addUsualTemplate_26 rfl ?_
  refine z_iload_n B dX1_addUsualTemplate_7 rfl 0 rfl ?_
  refine z_bipush (v := 9) B dX1_addUsualTemplate_8 rfl ?_
  refine z_icmp_ge (tgt := 29) B dX1_addUsualTemplate_10 rfl (fun h9 => absurd h9 (by decide)) (fun c_6 => ?_)
  refine z_aload_n B dX1_addUsualTemplate_13 rfl 1 rfl ?_
  have h_33 : Φ6 c = some (o_ 3 [.ref (c + 1), .ref (c + 2), .ref (c + 3), .ref (c + 4), .int 1, .int q]) := ((fr5 c (ne_off (x := c) (i := 0) (j := 6) rfl) (ne_off (x := c) (i := 0) (j := 5) rfl)).trans h_27)
  refine z_get (ref := "FlowExporter$Config") (C := RX1) (T := TX1) (N := 6) (ci := 3) (v := .ref (c + 3)) B (by decide +kernel) rfl 2 (by decide) (by decide +kernel) rfl h_33 rfl dX1_addUsualTemplate_14 ?_
  refine z_iconst (v := 0) B dX1_addUsualTemplate_17 rfl ?_
  have h_34 : Φ6 (c + 3) = some (aq_ G 4 4 (va_up (va_up (va_up (va_up (fun _ => none) (0 : Int32).toNatClampNeg (some (c + 5))) (1 : Int32).toNatClampNeg (some (c + 9))) (2 : Int32).toNatClampNeg (some (c + 13))) (3 : Int32).toNatClampNeg (some (c + 17)))) := ((fr5 (c + 3) (ne_off (x := c) (i := 3) (j := 6) rfl) (ne_off (x := c) (i := 3) (j := 5) rfl)).trans h_28)
  refine z_aald (b := c + 5) B rfl h_34 (vin rfl) rfl dX1_addUsualTemplate_18 ?_
  refine z_iload_n B dX1_addUsualTemplate_19 rfl 0 rfl ?_
  refine z_callV (As := [.int 5]) (rest := []) B (c_X10_addField G l Φ6 sz (c + 5) (c + 6) 5 31 9 (upd (upd (upd (upd (upd wg0 (0 : Int32).toNatClampNeg 0) (1 : Int32).toNatClampNeg 1) (2 : Int32).toNatClampNeg 2) (3 : Int32).toNatClampNeg 3) (4 : Int32).toNatClampNeg 4) 5 h_32 h_31 (ne_off (x := c) (i := 5) (j := 6) rfl) (Nat.le_trans hna_c (Nat.le_add_right c 5)) (Nat.le_trans hna_c (Nat.le_add_right c 6)) (by decide) (by decide) (by decide) (by decide) (vin rfl) (vin rfl)) (cwV 1 B.1.2.2.2.2 gX1_addUsualTemplate_X10_addField rfl rfl rfl (by decide +kernel) ⟨Nat.le_of_ble_eq_true rfl, Nat.le_of_ble_eq_true rfl⟩) h_32 rfl rfl rfl rfl (Nat.le_of_ble_eq_true rfl) dX1_addUsualTemplate_20 ⟨Nat.le_of_ble_eq_true rfl, Nat.le_of_ble_eq_true rfl⟩ (fun v6 Φ7 sz6 st6 hp6 hs6 => ?_)
  obtain ⟨rfl, hq6, fr6, h_35, h_36⟩ := hp6
  replace hq6 : sz6 = sz := hq6
  subst sz6
  replace hs6 : st6 = [] := hs6
  subst st6
  have h_37 : Φ7 (c + 6) = some (ai_ G 9 (upd (upd (upd (upd (upd (upd wg0 (0 : Int32).toNatClampNeg 0) (1 : Int32).toNatClampNeg 1) (2 : Int32).toNatClampNeg 2) (3 : Int32).toNatClampNeg 3) (4 : Int32).toNatClampNeg 4) (5 : Int32).toNatClampNeg 5)) := h_35
  have h_38 : Φ7 (c + 5) = some (o_ 12 [.ref (c + 6), .int 6, .int 63, .int 17]) := h_36
  refine z_iinc (k := 0) (v := 6) (lv' := [(1, .int 6), (0, .ref c)]) B dX1_addUsualTemplate_23 rfl rfl (Nat.le_of_ble_eq_true rfl) rfl ?_
  refine z_goto (tgt := 7) B dX1_addUsualTemplate_26 rfl ?_
  refine z_iload_n B dX1_addUsualTemplate_7 rfl 0 rfl ?_
  refine z_bipush (v := 9) B dX1_addUsualTemplate_8 rfl ?_
  refine z_icmp_ge (tgt := 29) B dX1_addUsualTemplate_10 rfl (fun h9 => absurd h9 (by decide)) (fun c_7 => ?_)
  refine z_aload_n B dX1_addUsualTemplate_13 rfl 1 rfl ?_
  have h_39 : Φ7 c = some (o_ 3 [.ref (c + 1), .ref (c + 2), .ref (c + 3), .ref (c + 4), .int 1, .int q]) := ((fr6 c (ne_off (x := c) (i := 0) (j := 6) rfl) (ne_off (x := c) (i := 0) (j := 5) rfl)).trans h_33)
  refine z_get (ref := "FlowExporter$Config") (C := RX1) (T := TX1) (N := 6) (ci := 3) (v := .ref (c + 3)) B (by decide +kernel) rfl 2 (by decide) (by decide +kernel) rfl h_39 rfl dX1_addUsualTemplate_14 ?_
  refine z_iconst (v := 0) B dX1_addUsualTemplate_17 rfl ?_
  have h_40 : Φ7 (c + 3) = some (aq_ G 4 4 (va_up (va_up (va_up (va_up (fun _ => none) (0 : Int32).toNatClampNeg (some (c + 5))) (1 : Int32).toNatClampNeg (some (c + 9))) (2 : Int32).toNatClampNeg (some (c + 13))) (3 : Int32).toNatClampNeg (some (c + 17)))) := ((fr6 (c + 3) (ne_off (x := c) (i := 3) (j := 6) rfl) (ne_off (x := c) (i := 3) (j := 5) rfl)).trans h_34)
  refine z_aald (b := c + 5) B rfl h_40 (vin rfl) rfl dX1_addUsualTemplate_18 ?_
  refine z_iload_n B dX1_addUsualTemplate_19 rfl 0 rfl ?_
  refine z_callV (As := [.int 6]) (rest := []) B (c_X10_addField G l Φ7 sz (c + 5) (c + 6) 6 63 17 (upd (upd (upd (upd (upd (upd wg0 (0 : Int32).toNatClampNeg 0) (1 : Int32).toNatClampNeg 1) (2 : Int32).toNatClampNeg 2) (3 : Int32).toNatClampNeg 3) (4 : Int32).toNatClampNeg 4) (5 : Int32).toNatClampNeg 5) 6 h_38 h_37 (ne_off (x := c) (i := 5) (j := 6) rfl) (Nat.le_trans hna_c (Nat.le_add_right c 5)) (Nat.le_trans hna_c (Nat.le_add_right c 6)) (by decide) (by decide) (by decide) (by decide) (vin rfl) (vin rfl)) (cwV 1 B.1.2.2.2.2 gX1_addUsualTemplate_X10_addField rfl rfl rfl (by decide +kernel) ⟨Nat.le_of_ble_eq_true rfl, Nat.le_of_ble_eq_true rfl⟩) h_38 rfl rfl rfl rfl (Nat.le_of_ble_eq_true rfl) dX1_addUsualTemplate_20 ⟨Nat.le_of_ble_eq_true rfl, Nat.le_of_ble_eq_true rfl⟩ (fun v7 Φ8 sz7 st7 hp7 hs7 => ?_)
  obtain ⟨rfl, hq7, fr7, h_41, h_42⟩ := hp7
  replace hq7 : sz7 = sz := hq7
  subst sz7
  replace hs7 : st7 = [] := hs7
  subst st7
  have h_43 : Φ8 (c + 6) = some (ai_ G 9 (upd (upd (upd (upd (upd (upd (upd wg0 (0 : Int32).toNatClampNeg 0) (1 : Int32).toNatClampNeg 1) (2 : Int32).toNatClampNeg 2) (3 : Int32).toNatClampNeg 3) (4 : Int32).toNatClampNeg 4) (5 : Int32).toNatClampNeg 5) (6 : Int32).toNatClampNeg 6)) := h_41
  have h_44 : Φ8 (c + 5) = some (o_ 12 [.ref (c + 6), .int 7, .int 127, .int 21]) := h_42
  refine z_iinc (k := 0) (v := 7) (lv' := [(1, .int 7), (0, .ref c)]) B dX1_addUsualTemplate_23 rfl rfl (Nat.le_of_ble_eq_true rfl) rfl ?_
  refine z_goto (tgt := 7) B dX1_addUsualTemplate_26 rfl ?_
  refine z_iload_n B dX1_addUsualTemplate_7 rfl 0 rfl ?_
  refine z_bipush (v := 9) B dX1_addUsualTemplate_8 rfl ?_
  refine z_icmp_ge (tgt := 29) B dX1_addUsualTemplate_10 rfl (fun h9 => absurd h9 (by decide)) (fun c_8 => ?_)
  refine z_aload_n B dX1_addUsualTemplate_13 rfl 1 rfl ?_
  have h_45 : Φ8 c = some (o_ 3 [.ref (c + 1), .ref (c + 2), .ref (c + 3), .ref (c + 4), .int 1, .int q]) := ((fr7 c (ne_off (x := c) (i := 0) (j := 6) rfl) (ne_off (x := c) (i := 0) (j := 5) rfl)).trans h_39)
  refine z_get (ref := "FlowExporter$Config") (C := RX1) (T := TX1) (N := 6) (ci := 3) (v := .ref (c + 3)) B (by decide +kernel) rfl 2 (by decide) (by decide +kernel) rfl h_45 rfl dX1_addUsualTemplate_14 ?_
  refine z_iconst (v := 0) B dX1_addUsualTemplate_17 rfl ?_
  have h_46 : Φ8 (c + 3) = some (aq_ G 4 4 (va_up (va_up (va_up (va_up (fun _ => none) (0 : Int32).toNatClampNeg (some (c + 5))) (1 : Int32).toNatClampNeg (some (c + 9))) (2 : Int32).toNatClampNeg (some (c + 13))) (3 : Int32).toNatClampNeg (some (c + 17)))) := ((fr7 (c + 3) (ne_off (x := c) (i := 3) (j := 6) rfl) (ne_off (x := c) (i := 3) (j := 5) rfl)).trans h_40)
  refine z_aald (b := c + 5) B rfl h_46 (vin rfl) rfl dX1_addUsualTemplate_18 ?_
  refine z_iload_n B dX1_addUsualTemplate_19 rfl 0 rfl ?_
  refine z_callV (As := [.int 7]) (rest := []) B (c_X10_addField G l Φ8 sz (c + 5) (c + 6) 7 127 21 (upd (upd (upd (upd (upd (upd (upd wg0 (0 : Int32).toNatClampNeg 0) (1 : Int32).toNatClampNeg 1) (2 : Int32).toNatClampNeg 2) (3 : Int32).toNatClampNeg 3) (4 : Int32).toNatClampNeg 4) (5 : Int32).toNatClampNeg 5) (6 : Int32).toNatClampNeg 6) 7 h_44 h_43 (ne_off (x := c) (i := 5) (j := 6) rfl) (Nat.le_trans hna_c (Nat.le_add_right c 5)) (Nat.le_trans hna_c (Nat.le_add_right c 6)) (by decide) (by decide) (by decide) (by decide) (vin rfl) (vin rfl)) (cwV 1 B.1.2.2.2.2 gX1_addUsualTemplate_X10_addField rfl rfl rfl (by decide +kernel) ⟨Nat.le_of_ble_eq_true rfl, Nat.le_of_ble_eq_true rfl⟩) h_44 rfl rfl rfl rfl (Nat.le_of_ble_eq_true rfl) dX1_addUsualTemplate_20 ⟨Nat.le_of_ble_eq_true rfl, Nat.le_of_ble_eq_true rfl⟩ (fun v8 Φ9 sz8 st8 hp8 hs8 => ?_)
  obtain ⟨rfl, hq8, fr8, h_47, h_48⟩ := hp8
  replace hq8 : sz8 = sz := hq8
  subst sz8
  replace hs8 : st8 = [] := hs8
  subst st8
  have h_49 : Φ9 (c + 6) = some (ai_ G 9 (upd (upd (upd (upd (upd (upd (upd (upd wg0 (0 : Int32).toNatClampNeg 0) (1 : Int32).toNatClampNeg 1) (2 : Int32).toNatClampNeg 2) (3 : Int32).toNatClampNeg 3) (4 : Int32).toNatClampNeg 4) (5 : Int32).toNatClampNeg 5) (6 : Int32).toNatClampNeg 6) (7 : Int32).toNatClampNeg 7)) := h_47
  have h_50 : Φ9 (c + 5) = some (o_ 12 [.ref (c + 6), .int 8, .int 255, .int 25]) := h_48
  refine z_iinc (k := 0) (v := 8) (lv' := [(1, .int 8), (0, .ref c)]) B dX1_addUsualTemplate_23 rfl rfl (Nat.le_of_ble_eq_true rfl) rfl ?_
  refine z_goto (tgt := 7) B dX1_addUsualTemplate_26 rfl ?_
  refine z_iload_n B dX1_addUsualTemplate_7 rfl 0 rfl ?_
  refine z_bipush (v := 9) B dX1_addUsualTemplate_8 rfl ?_
  refine z_icmp_ge (tgt := 29) B dX1_addUsualTemplate_10 rfl (fun h9 => absurd h9 (by decide)) (fun c_9 => ?_)
  refine z_aload_n B dX1_addUsualTemplate_13 rfl 1 rfl ?_
  have h_51 : Φ9 c = some (o_ 3 [.ref (c + 1), .ref (c + 2), .ref (c + 3), .ref (c + 4), .int 1, .int q]) := ((fr8 c (ne_off (x := c) (i := 0) (j := 6) rfl) (ne_off (x := c) (i := 0) (j := 5) rfl)).trans h_45)
  refine z_get (ref := "FlowExporter$Config") (C := RX1) (T := TX1) (N := 6) (ci := 3) (v := .ref (c + 3)) B (by decide +kernel) rfl 2 (by decide) (by decide +kernel) rfl h_51 rfl dX1_addUsualTemplate_14 ?_
  refine z_iconst (v := 0) B dX1_addUsualTemplate_17 rfl ?_
  have h_52 : Φ9 (c + 3) = some (aq_ G 4 4 (va_up (va_up (va_up (va_up (fun _ => none) (0 : Int32).toNatClampNeg (some (c + 5))) (1 : Int32).toNatClampNeg (some (c + 9))) (2 : Int32).toNatClampNeg (some (c + 13))) (3 : Int32).toNatClampNeg (some (c + 17)))) := ((fr8 (c + 3) (ne_off (x := c) (i := 3) (j := 6) rfl) (ne_off (x := c) (i := 3) (j := 5) rfl)).trans h_46)
  refine z_aald (b := c + 5) B rfl h_52 (vin rfl) rfl dX1_addUsualTemplate_18 ?_
  refine z_iload_n B dX1_addUsualTemplate_19 rfl 0 rfl ?_
  refine z_callV (As := [.int 8]) (rest := []) B (c_X10_addField G l Φ9 sz (c + 5) (c + 6) 8 255 25 (upd (upd (upd (upd (upd (upd (upd (upd wg0 (0 : Int32).toNatClampNeg 0) (1 : Int32).toNatClampNeg 1) (2 : Int32).toNatClampNeg 2) (3 : Int32).toNatClampNeg 3) (4 : Int32).toNatClampNeg 4) (5 : Int32).toNatClampNeg 5) (6 : Int32).toNatClampNeg 6) (7 : Int32).toNatClampNeg 7) 8 h_50 h_49 (ne_off (x := c) (i := 5) (j := 6) rfl) (Nat.le_trans hna_c (Nat.le_add_right c 5)) (Nat.le_trans hna_c (Nat.le_add_right c 6)) (by decide) (by decide) (by decide) (by decide) (vin rfl) (vin rfl)) (cwV 1 B.1.2.2.2.2 gX1_addUsualTemplate_X10_addField rfl rfl rfl (by decide +kernel) ⟨Nat.le_of_ble_eq_true rfl, Nat.le_of_ble_eq_true rfl⟩) h_50 rfl rfl rfl rfl (Nat.le_of_ble_eq_true rfl) dX1_addUsualTemplate_20 ⟨Nat.le_of_ble_eq_true rfl, Nat.le_of_ble_eq_true rfl⟩ (fun v9 Φ10 sz9 st9 hp9 hs9 => ?_)
  obtain ⟨rfl, hq9, fr9, h_53, h_54⟩ := hp9
  replace hq9 : sz9 = sz := hq9
  subst sz9
  replace hs9 : st9 = [] := hs9
  subst st9
  have h_55 : Φ10 (c + 6) = some (ai_ G 9 (upd (upd (upd (upd (upd (upd (upd (upd (upd wg0 (0 : Int32).toNatClampNeg 0) (1 : Int32).toNatClampNeg 1) (2 : Int32).toNatClampNeg 2) (3 : Int32).toNatClampNeg 3) (4 : Int32).toNatClampNeg 4) (5 : Int32).toNatClampNeg 5) (6 : Int32).toNatClampNeg 6) (7 : Int32).toNatClampNeg 7) (8 : Int32).toNatClampNeg 8)) := h_53
  have h_56 : Φ10 (c + 5) = some (o_ 12 [.ref (c + 6), .int 9, .int 511, .int 29]) := h_54
  refine z_iinc (k := 0) (v := 9) (lv' := [(1, .int 9), (0, .ref c)]) B dX1_addUsualTemplate_23 rfl rfl (Nat.le_of_ble_eq_true rfl) rfl ?_
  refine z_goto (tgt := 7) B dX1_addUsualTemplate_26 rfl ?_
  refine z_iload_n B dX1_addUsualTemplate_7 rfl 0 rfl ?_
  refine z_bipush (v := 9) B dX1_addUsualTemplate_8 rfl ?_
  refine z_icmp_ge (tgt := 29) B dX1_addUsualTemplate_10 rfl (fun c_10 => ?_) (fun h9 => absurd (by decide) h9)
  have h_57 : Φ10 c = some (o_ 3 [.ref (c + 1), .ref (c + 2), .ref (c + 3), .ref (c + 4), .int 1, .int q]) := ((fr9 c (ne_off (x := c) (i := 0) (j := 6) rfl) (ne_off (x := c) (i := 0) (j := 5) rfl)).trans h_51)
  exact z_ret_v B dX1_addUsualTemplate_29 ⟨rfl, rfl, (fun b9 h9a h9b h9c => ((fr9 b9 h9c h9b).trans ((fr8 b9 h9c h9b).trans ((fr7 b9 h9c h9b).trans ((fr6 b9 h9c h9b).trans ((fr5 b9 h9c h9b).trans ((fr4 b9 h9c h9b).trans ((fr3 b9 h9c h9b).trans ((fr2 b9 h9c h9b).trans ((fr1 b9 h9c h9b).trans ((fset_fr hΦ1 h9a).trans rfl))))))))))), h_57, h_56, h_55⟩

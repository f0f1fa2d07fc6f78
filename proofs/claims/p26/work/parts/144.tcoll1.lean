set_option maxHeartbeats 4000000 in
set_option maxRecDepth 100000 in
theorem c_X0_restart (G : EnvG) (l : Launch) (Φ : Hm) (sz : Nat) (k : Nat) (cf : Nat) (su : Nat) (ac : Int32) (ltm : Int32) (en : Int32) (hc0 : Φ k = some (o_ 2 [.ref (cf), .ref (su), .ref (k + 1), .ref (k + 2), .ref (k + 3), .ref (k + 5), .ref (k + 6), .ref (k + 7), .ref (k + 8), .int ac, .int ltm, .int en])) (hc1 : Φ (k + 1) = some (aq_ G 4 4 (va_up (va_up (va_up (va_up (fun _ => none) (0 : Int32).toNatClampNeg (some (k + 9))) (1 : Int32).toNatClampNeg (some (k + 11))) (2 : Int32).toNatClampNeg (some (k + 13))) (3 : Int32).toNatClampNeg (some (k + 15))))) (hc2 : Φ (k + 9) = some (o_ 12 [.ref (k + 10), .int 0, .int 0, .int 0])) (hc3 : Φ (k + 11) = some (o_ 12 [.ref (k + 12), .int 0, .int 0, .int 0])) (hc4 : Φ (k + 13) = some (o_ 12 [.ref (k + 14), .int 0, .int 0, .int 0])) (hc5 : Φ (k + 15) = some (o_ 12 [.ref (k + 16), .int 0, .int 0, .int 0])) (hna_k : G.2.2.2 ≤ k) : Ct G l yX0_restart wsX0_restart ({ frames := 1, cells := 0, slots := 0, locals := 20 }) 0 0 [.ref k] Φ sz (fun v Φ1 sz1 => v = some (.int 0) ∧ sz1 = sz ∧ (∀ b9 : Nat, b9 ≠ k → b9 ≠ k + 11 → b9 ≠ k + 13 → b9 ≠ k + 15 → b9 ≠ k + 9 → Φ1 b9 = Φ b9) ∧ Φ1 k = some (o_ 2 [.ref (cf), .ref (su), .ref (k + 1), .ref (k + 2), .ref (k + 3), .ref (k + 5), .ref (k + 6), .ref (k + 7), .ref (k + 8), .int 0, .int ltm, .int en]) ∧ Φ1 (k + 11) = some (o_ 12 [.ref (k + 12), .int 0, .int 0, .int 0]) ∧ Φ1 (k + 13) = some (o_ 12 [.ref (k + 14), .int 0, .int 0, .int 0]) ∧ Φ1 (k + 15) = some (o_ 12 [.ref (k + 16), .int 0, .int 0, .int 0]) ∧ Φ1 (k + 9) = some (o_ 12 [.ref (k + 10), .int 0, .int 0, .int 0])) := by
  refine Ct.of (cc := cX0_restart) (maxL := 3) (ret := (some .int)) (by decide) rfl (Nat.le_of_ble_eq_true rfl) ?_
  intro p9 e9 s9 m9 w9 t9 k9 B
  show Z p9 l e9 _ s9 m9 _ w9 t9 k9 _ G 3 0 [(0, .ref k)] [] Φ (sz) 0 0
  refine z_iconst (v := 0) B dX0_restart_0 rfl ?_
  refine z_istore_n (lv' := [(1, .int 0), (0, .ref k)]) B dX0_restart_1 rfl (Nat.le_of_ble_eq_true rfl) rfl ?_
  refine z_iconst (v := 0) B dX0_restart_2 rfl ?_
  refine z_istore_n (lv' := [(2, .int 0), (1, .int 0), (0, .ref k)]) B dX0_restart_3 rfl (Nat.le_of_ble_eq_true rfl) rfl ?_
  refine z_iload_n B dX0_restart_4 rfl 0 rfl ?_
  refine z_iconst (v := 4) B dX0_restart_5 rfl ?_
  refine z_icmp_ge (tgt := 39) B dX0_restart_6 rfl (fun h9 => absurd h9 (by decide)) (fun c_1 => ?_)
  refine z_aload_n B dX0_restart_9 rfl 2 rfl ?_
  refine z_get (ref := "FlowExporter$Collector") (C := RX0) (T := TX0) (N := 12) (ci := 2) (v := .ref (k + 1)) B (by decide +kernel) rfl 2 (by decide) (by decide +kernel) rfl hc0 rfl dX0_restart_10 ?_
  refine z_iload_n B dX0_restart_13 rfl 0 rfl ?_
  refine z_aald (b := k + 9) B rfl hc1 (vin rfl) rfl dX0_restart_14 ?_
  refine z_get (ref := "FlowExporter$Template") (C := RX10) (T := TX10) (N := 4) (ci := 12) (v := .int 0) B (by decide +kernel) rfl 1 (by decide) (by decide +kernel) rfl hc2 rfl dX0_restart_15 ?_
  refine z_if_le (tgt := 24) B dX0_restart_18 rfl (fun c_2 => ?_) (fun h9 => absurd (by decide) h9)
  refine z_aload_n B dX0_restart_24 rfl 2 rfl ?_
  refine z_get (ref := "FlowExporter$Collector") (C := RX0) (T := TX0) (N := 12) (ci := 2) (v := .ref (k + 1)) B (by decide +kernel) rfl 2 (by decide) (by decide +kernel) rfl hc0 rfl dX0_restart_25 ?_
  refine z_iload_n B dX0_restart_28 rfl 0 rfl ?_
  refine z_aald (b := k + 9) B rfl hc1 (vin rfl) rfl dX0_restart_29 ?_
  refine z_callV (As := []) (rest := []) B (c_X10_clear G l Φ sz (k + 9) (k + 10) 0 0 0 hc2 (Nat.le_trans hna_k (Nat.le_add_right k 9))) (cwV 0 B.1.2.2.2.2 gX0_restart_X10_clear rfl rfl rfl (by decide +kernel) ⟨Nat.le_of_ble_eq_true rfl, Nat.le_of_ble_eq_true rfl⟩) hc2 rfl rfl rfl rfl (Nat.le_of_ble_eq_true rfl) dX0_restart_30 ⟨Nat.le_of_ble_eq_true rfl, Nat.le_of_ble_eq_true rfl⟩ (fun v1 Φ1 sz1 st1 hp1 hs1 => ?_)
  obtain ⟨rfl, hq1, fr1, h_1⟩ := hp1
  replace hq1 : sz1 = sz := hq1
  subst sz1
  replace hs1 : st1 = [] := hs1
  subst st1
  have h_2 : Φ1 (k + 9) = some (o_ 12 [.ref (k + 10), .int 0, .int 0, .int 0]) := h_1
  refine z_iinc (k := 0) (v := 1) (lv' := [(2, .int 1), (1, .int 0), (0, .ref k)]) B dX0_restart_33 rfl rfl (Nat.le_of_ble_eq_true rfl) rfl ?_
  refine z_goto (tgt := 4) B dX0_restart_36 rfl ?_
  refine z_iload_n B dX0_restart_4 rfl 0 rfl ?_
  refine z_iconst (v := 4) B dX0_restart_5 rfl ?_
  refine z_icmp_ge (tgt := 39) B dX0_restart_6 rfl (fun h9 => absurd h9 (by decide)) (fun c_3 => ?_)
  refine z_aload_n B dX0_restart_9 rfl 2 rfl ?_
  have h_3 : Φ1 k = some (o_ 2 [.ref (cf), .ref (su), .ref (k + 1), .ref (k + 2), .ref (k + 3), .ref (k + 5), .ref (k + 6), .ref (k + 7), .ref (k + 8), .int ac, .int ltm, .int en]) := ((fr1 k (ne_off (x := k) (i := 0) (j := 9) rfl)).trans hc0)
  refine z_get (ref := "FlowExporter$Collector") (C := RX0) (T := TX0) (N := 12) (ci := 2) (v := .ref (k + 1)) B (by decide +kernel) rfl 2 (by decide) (by decide +kernel) rfl h_3 rfl dX0_restart_10 ?_
  refine z_iload_n B dX0_restart_13 rfl 0 rfl ?_
  have h_4 : Φ1 (k + 1) = some (aq_ G 4 4 (va_up (va_up (va_up (va_up (fun _ => none) (0 : Int32).toNatClampNeg (some (k + 9))) (1 : Int32).toNatClampNeg (some (k + 11))) (2 : Int32).toNatClampNeg (some (k + 13))) (3 : Int32).toNatClampNeg (some (k + 15)))) := ((fr1 (k + 1) (ne_off (x := k) (i := 1) (j := 9) rfl)).trans hc1)
  refine z_aald (b := k + 11) B rfl h_4 (vin rfl) rfl dX0_restart_14 ?_
  have h_5 : Φ1 (k + 11) = some (o_ 12 [.ref (k + 12), .int 0, .int 0, .int 0]) := ((fr1 (k + 11) (ne_off (x := k) (i := 11) (j := 9) rfl)).trans hc3)
  refine z_get (ref := "FlowExporter$Template") (C := RX10) (T := TX10) (N := 4) (ci := 12) (v := .int 0) B (by decide +kernel) rfl 1 (by decide) (by decide +kernel) rfl h_5 rfl dX0_restart_15 ?_
  refine z_if_le (tgt := 24) B dX0_restart_18 rfl (fun c_4 => ?_) (fun h9 => absurd (by decide) h9)
  refine z_aload_n B dX0_restart_24 rfl 2 rfl ?_
  refine z_get (ref := "FlowExporter$Collector") (C := RX0) (T := TX0) (N := 12) (ci := 2) (v := .ref (k + 1)) B (by decide +kernel) rfl 2 (by decide) (by decide +kernel) rfl h_3 rfl dX0_restart_25 ?_
  refine z_iload_n B dX0_restart_28 rfl 0 rfl ?_
  refine z_aald (b := k + 11) B rfl h_4 (vin rfl) rfl dX0_restart_29 ?_
  refine z_callV (As := []) (rest := []) B (c_X10_clear G l Φ1 sz (k + 11) (k + 12) 0 0 0 h_5 (Nat.le_trans hna_k (Nat.le_add_right k 11))) (cwV 0 B.1.2.2.2.2 gX0_restart_X10_clear rfl rfl rfl (by decide +kernel) ⟨Nat.le_of_ble_eq_true rfl, Nat.le_of_ble_eq_true rfl⟩) h_5 rfl rfl rfl rfl (Nat.le_of_ble_eq_true rfl) dX0_restart_30 ⟨Nat.le_of_ble_eq_true rfl, Nat.le_of_ble_eq_true rfl⟩ (fun v2 Φ2 sz2 st2 hp2 hs2 => ?_)
  obtain ⟨rfl, hq2, fr2, h_6⟩ := hp2
  replace hq2 : sz2 = sz := hq2
  subst sz2
  replace hs2 : st2 = [] := hs2
  subst st2
  have h_7 : Φ2 (k + 11) = some (o_ 12 [.ref (k + 12), .int 0, .int 0, .int 0]) := h_6
  refine z_iinc (k := 0) (v := 2) (lv' := [(2, .int 2), (1, .int 0), (0, .ref k)]) B dX0_restart_33 rfl rfl (Nat.le_of_ble_eq_true rfl) rfl ?_
  refine z_goto (tgt := 4) B dX0_restart_36 rfl ?_
  refine z_iload_n B dX0_restart_4 rfl 0 rfl ?_
  refine z_iconst (v := 4) B dX0_restart_5 rfl ?_
  refine z_icmp_ge (tgt := 39) B dX0_restart_6 rfl (fun h9 => absurd h9 (by decide)) (fun c_5 => ?_)
  refine z_aload_n B dX0_restart_9 rfl 2 rfl ?_
  have h_8 : Φ2 k = some (o_ 2 [.ref (cf), .ref (su), .ref (k + 1), .ref (k + 2), .ref (k + 3), .ref (k + 5), .ref (k + 6), .ref (k + 7), .ref (k + 8), .int ac, .int ltm, .int en]) := ((fr2 k (ne_off (x := k) (i := 0) (j := 11) rfl)).trans h_3)
  refine z_get (ref := "FlowExporter$Collector") (C := RX0) (T := TX0) (N := 12) (ci := 2) (v := .ref (k + 1)) B (by decide +kernel) rfl 2 (by decide) (by decide +kernel) rfl h_8 rfl dX0_restart_10 ?_
  refine z_iload_n B dX0_restart_13 rfl 0 rfl ?_
  have h_9 : Φ2 (k + 1) = some (aq_ G 4 4 (va_up (va_up (va_up (va_up (fun _ => none) (0 : Int32).toNatClampNeg (some (k + 9))) (1 : Int32).toNatClampNeg (some (k + 11))) (2 : Int32).toNatClampNeg (some (k + 13))) (3 : Int32).toNatClampNeg (some (k + 15)))) := ((fr2 (k + 1) (ne_off (x := k) (i := 1) (j := 11) rfl)).trans h_4)
  refine z_aald (b := k + 13) B rfl h_9 (vin rfl) rfl dX0_restart_14 ?_
  have h_10 : Φ2 (k + 13) = some (o_ 12 [.ref (k + 14), .int 0, .int 0, .int 0]) := ((fr2 (k + 13) (ne_off (x := k) (i := 13) (j := 11) rfl)).trans ((fr1 (k + 13) (ne_off (x := k) (i := 13) (j := 9) rfl)).trans hc4))
  refine z_get (ref := "FlowExporter$Template") (C := RX10) (T := TX10) (N := 4) (ci := 12) (v := .int 0) B (by decide +kernel) rfl 1 (by decide) (by decide +kernel) rfl h_10 rfl dX0_restart_15 ?_
  refine z_if_le (tgt := 24) B dX0_restart_18 rfl (fun c_6 => ?_) (fun h9 => absurd (by decide) h9)
  refine z_aload_n B dX0_restart_24 rfl 2 rfl ?_
  refine z_get (ref := "FlowExporter$Collector") (C := RX0) (T := TX0) (N := 12) (ci := 2) (v := .ref (k + 1)) B (by decide +kernel) rfl 2 (by decide) (by decide +kernel) rfl h_8 rfl dX0_restart_25 ?_
  refine z_iload_n B dX0_restart_28 rfl 0 rfl ?_
  refine z_aald (b := k + 13) B rfl h_9 (vin rfl) rfl dX0_restart_29 ?_
  refine z_callV (As := []) (rest := []) B (c_X10_clear G l Φ2 sz (k + 13) (k + 14) 0 0 0 h_10 (Nat.le_trans hna_k (Nat.le_add_right k 13))) (cwV 0 B.1.2.2.2.2 gX0_restart_X10_clear rfl rfl rfl (by decide +kernel) ⟨Nat.le_of_ble_eq_true rfl, Nat.le_of_ble_eq_true rfl⟩) h_10 rfl rfl rfl rfl (Nat.le_of_ble_eq_true rfl) dX0_restart_30 ⟨Nat.le_of_ble_eq_true rfl, Nat.le_of_ble_eq_true rfl⟩ (fun v3 Φ3 sz3 st3 hp3 hs3 => ?_)
  obtain ⟨rfl, hq3, fr3, h_11⟩ := hp3
  replace hq3 : sz3 = sz := hq3
  subst sz3
  replace hs3 : st3 = [] := hs3
  subst st3
  have h_12 : Φ3 (k + 13) = some (o_ 12 [.ref (k + 14), .int 0, .int 0, .int 0]) := h_11
  refine z_iinc (k := 0) (v := 3) (lv' := [(2, .int 3), (1, .int 0), (0, .ref k)]) B dX0_restart_33 rfl rfl (Nat.le_of_ble_eq_true rfl) rfl ?_
  refine z_goto (tgt := 4) B dX0_restart_36 rfl ?_
  refine z_iload_n B dX0_restart_4 rfl 0 rfl ?_
  refine z_iconst (v := 4) B dX0_restart_5 rfl ?_
  refine z_icmp_ge (tgt := 39) B dX0_restart_6 rfl (fun h9 => absurd h9 (by decide)) (fun c_7 => ?_)
  refine z_aload_n B dX0_restart_9 rfl 2 rfl ?_
  have h_13 : Φ3 k = some (o_ 2 [.ref (cf), .ref (su), .ref (k + 1), .ref (k + 2), .ref (k + 3), .ref (k + 5), .ref (k + 6), .ref (k + 7), .ref (k + 8), .int ac, .int ltm, .int en]) := ((fr3 k (ne_off (x := k) (i := 0) (j := 13) rfl)).trans h_8)
  refine z_get (ref := "FlowExporter$Collector") (C := RX0) (T := TX0) (N := 12) (ci := 2) (v := .ref (k + 1)) B (by decide +kernel) rfl 2 (by decide) (by decide +kernel) rfl h_13 rfl dX0_restart_10 ?_
  refine z_iload_n B dX0_restart_13 rfl 0 rfl ?_
  have h_14 : Φ3 (k + 1) = some (aq_ G 4 4 (va_up (va_up (va_up (va_up (fun _ => none) (0 : Int32).toNatClampNeg (some (k + 9))) (1 : Int32).toNatClampNeg (some (k + 11))) (2 : Int32).toNatClampNeg (some (k + 13))) (3 : Int32).toNatClampNeg (some (k + 15)))) := ((fr3 (k + 1) (ne_off (x := k) (i := 1) (j := 13) rfl)).trans h_9)
  refine z_aald (b := k + 15) B rfl h_14 (vin rfl) rfl dX0_restart_14 ?_
  have h_15 : Φ3 (k + 15) = some (o_ 12 [.ref (k + 16), .int 0, .int 0, .int 0]) := ((fr3 (k + 15) (ne_off (x := k) (i := 15) (j := 13) rfl)).trans ((fr2 (k + 15) (ne_off (x := k) (i := 15) (j := 11) rfl)).trans ((fr1 (k + 15) (ne_off (x := k) (i := 15) (j := 9) rfl)).trans hc5)))
  refine z_get (ref := "FlowExporter$Template") (C := RX10) (T := TX10) (N := 4) (ci := 12) (v := .int 0) B (by decide +kernel) rfl 1 (by decide) (by decide +kernel) rfl h_15 rfl dX0_restart_15 ?_
  refine z_if_le (tgt := 24) B dX0_restart_18 rfl (fun c_8 => ?_) (fun h9 => absurd (by decide) h9)
  refine z_aload_n B dX0_restart_24 rfl 2 rfl ?_
  refine z_get (ref := "FlowExporter$Collector") (C := RX0) (T := TX0) (N := 12) (ci := 2) (v := .ref (k + 1)) B (by decide +kernel) rfl 2 (by decide) (by decide +kernel) rfl h_13 rfl dX0_restart_25 ?_
  refine z_iload_n B dX0_restart_28 rfl 0 rfl ?_
  refine z_aald (b := k + 15) B rfl h_14 (vin rfl) rfl dX0_restart_29 ?_
  refine z_callV (As := []) (rest := []) B (c_X10_clear G l Φ3 sz (k + 15) (k + 16) 0 0 0 h_15 (Nat.le_trans hna_k (Nat.le_add_right k 15))) (cwV 0 B.1.2.2.2.2 gX0_restart_X10_clear rfl rfl rfl (by decide +kernel) ⟨Nat.le_of_ble_eq_true rfl, Nat.le_of_ble_eq_true rfl⟩) h_15 rfl rfl rfl rfl (Nat.le_of_ble_eq_true rfl) dX0_restart_30 ⟨Nat.le_of_ble_eq_true rfl, Nat.le_of_ble_eq_true rfl⟩ (fun v4 Φ4 sz4 st4 hp4 hs4 => ?_)
  obtain ⟨rfl, hq4, fr4, h_16⟩ := hp4
  replace hq4 : sz4 = sz := hq4
  subst sz4
  replace hs4 : st4 = [] := hs4
  subst st4
  have h_17 : Φ4 (k + 15) = some (o_ 12 [.ref (k + 16), .int 0, .int 0, .int 0]) := h_16
  refine z_iinc (k := 0) (v := 4) (lv' := [(2, .int 4), (1, .int 0), (0, .ref k)]) B dX0_restart_33 rfl rfl (Nat.le_of_ble_eq_true rfl) rfl ?_
  refine z_goto (tgt := 4) B dX0_restart_36 rfl ?_
  refine z_iload_n B dX0_restart_4 rfl 0 rfl ?_
  refine z_iconst (v := 4) B dX0_restart_5 rfl ?_
  refine z_icmp_ge (tgt := 39) B dX0_restart_6 rfl (fun c_9 => ?_) (fun h9 => absurd (by decide) h9)
  refine z_aload_n B dX0_restart_39 rfl 2 rfl ?_
  refine z_iconst (v := 0) B dX0_restart_40 rfl ?_
  have h_18 : Φ4 k = some (o_ 2 [.ref (cf), .ref (su), .ref (k + 1), .ref (k + 2), .ref (k + 3), .ref (k + 5), .ref (k + 6), .ref (k + 7), .ref (k + 8), .int ac, .int ltm, .int en]) := ((fr4 k (ne_off (x := k) (i := 0) (j := 15) rfl)).trans h_13)
  refine z_put (ref := "FlowExporter$Collector") (C := RX0) (T := TX0) (N := 12) (ci := 2) (v := .int 0) B (by decide +kernel) tyX0 tyX0_ok nmX0 rfl 9 (by decide) (by decide +kernel) rfl (Or.inl rfl) h_18 hna_k rfl rfl (Nat.le_of_ble_eq_true rfl) dX0_restart_41 (fun Φ5 hΦ1 => ?_)
  have h_19 : Φ5 k = some (o_ 2 [.ref (cf), .ref (su), .ref (k + 1), .ref (k + 2), .ref (k + 3), .ref (k + 5), .ref (k + 6), .ref (k + 7), .ref (k + 8), .int 0, .int ltm, .int en]) := fset_at hΦ1
  refine z_iload_n B dX0_restart_44 rfl 1 rfl ?_
  have h_20 : Φ5 (k + 11) = some (o_ 12 [.ref (k + 12), .int 0, .int 0, .int 0]) := ((fset_fr hΦ1 (ne_off (x := k) (i := 11) (j := 0) rfl)).trans ((fr4 (k + 11) (ne_off (x := k) (i := 11) (j := 15) rfl)).trans ((fr3 (k + 11) (ne_off (x := k) (i := 11) (j := 13) rfl)).trans h_7)))
  have h_21 : Φ5 (k + 13) = some (o_ 12 [.ref (k + 14), .int 0, .int 0, .int 0]) := ((fset_fr hΦ1 (ne_off (x := k) (i := 13) (j := 0) rfl)).trans ((fr4 (k + 13) (ne_off (x := k) (i := 13) (j := 15) rfl)).trans h_12))
  have h_22 : Φ5 (k + 15) = some (o_ 12 [.ref (k + 16), .int 0, .int 0, .int 0]) := ((fset_fr hΦ1 (ne_off (x := k) (i := 15) (j := 0) rfl)).trans h_17)
  have h_23 : Φ5 (k + 9) = some (o_ 12 [.ref (k + 10), .int 0, .int 0, .int 0]) := ((fset_fr hΦ1 (ne_off (x := k) (i := 9) (j := 0) rfl)).trans ((fr4 (k + 9) (ne_off (x := k) (i := 9) (j := 15) rfl)).trans ((fr3 (k + 9) (ne_off (x := k) (i := 9) (j := 13) rfl)).trans ((fr2 (k + 9) (ne_off (x := k) (i := 9) (j := 11) rfl)).trans h_2))))
  exact z_ret_i B dX0_restart_45 ⟨rfl, rfl, (fun b9 h9a h9b h9c h9d h9e => ((fset_fr hΦ1 h9a).trans ((fr4 b9 h9d).trans ((fr3 b9 h9c).trans ((fr2 b9 h9b).trans ((fr1 b9 h9e).trans rfl)))))), h_19, h_20, h_21, h_22, h_23⟩

set_option maxHeartbeats 4000000 in
set_option maxRecDepth 100000 in
theorem c_X0_clear (G : EnvG) (l : Launch) (Φ : Hm) (sz : Nat) (k : Nat) (cf : Nat) (su : Nat) (ac : Int32) (ltm : Int32) (en : Int32) (cn : Nat → Int64) (hc0 : Φ k = some (o_ 2 [.ref (cf), .ref (su), .ref (k + 1), .ref (k + 2), .ref (k + 3), .ref (k + 5), .ref (k + 6), .ref (k + 7), .ref (k + 8), .int ac, .int ltm, .int en])) (hc1 : Φ (k + 1) = some (aq_ G 4 4 (va_up (va_up (va_up (va_up (fun _ => none) (0 : Int32).toNatClampNeg (some (k + 9))) (1 : Int32).toNatClampNeg (some (k + 11))) (2 : Int32).toNatClampNeg (some (k + 13))) (3 : Int32).toNatClampNeg (some (k + 15))))) (hc2 : Φ (k + 9) = some (o_ 12 [.ref (k + 10), .int 0, .int 0, .int 0])) (hc3 : Φ (k + 11) = some (o_ 12 [.ref (k + 12), .int 0, .int 0, .int 0])) (hc4 : Φ (k + 13) = some (o_ 12 [.ref (k + 14), .int 0, .int 0, .int 0])) (hc5 : Φ (k + 15) = some (o_ 12 [.ref (k + 16), .int 0, .int 0, .int 0])) (hc6 : Φ (k + 7) = some (al_ G 9 cn)) (hna_k : G.2.2.2 ≤ k) : Ct G l yX0_clear wsX0_clear ({ frames := 2, cells := 0, slots := 0, locals := 42 }) 0 0 [.ref k] Φ sz (fun v Φ1 sz1 => v = none ∧ sz1 = sz ∧ (∀ b9 : Nat, b9 ≠ k → b9 ≠ k + 11 → b9 ≠ k + 13 → b9 ≠ k + 15 → b9 ≠ k + 7 → b9 ≠ k + 9 → Φ1 b9 = Φ b9) ∧ Φ1 k = some (o_ 2 [.ref cf, .ref su, .ref (k + 1), .ref (k + 2), .ref (k + 3), .ref (k + 5), .ref (k + 6), .ref (k + 7), .ref (k + 8), .int 0, .int ltm, .int en]) ∧ Φ1 (k + 11) = some (o_ 12 [.ref (k + 12), .int 0, .int 0, .int 0]) ∧ Φ1 (k + 13) = some (o_ 12 [.ref (k + 14), .int 0, .int 0, .int 0]) ∧ Φ1 (k + 15) = some (o_ 12 [.ref (k + 16), .int 0, .int 0, .int 0]) ∧ Φ1 (k + 7) = some (al_ G 9 (fun _ => 0)) ∧ Φ1 (k + 9) = some (o_ 12 [.ref (k + 10), .int 0, .int 0, .int 0])) := by
  refine Ct.of (cc := cX0_clear) (maxL := 1) (ret := none) (by decide) rfl (Nat.le_of_ble_eq_true rfl) ?_
  intro p9 e9 s9 m9 w9 t9 k9 B
  show Z p9 l e9 _ s9 m9 _ w9 t9 k9 _ G 1 0 [(0, .ref k)] [] Φ (sz) 0 0
  refine z_aload_n B dX0_clear_0 rfl 0 rfl ?_
  refine z_get (ref := "FlowExporter$Collector") (C := RX0) (T := TX0) (N := 12) (ci := 2) (v := .ref (k + 7)) B (by decide +kernel) rfl 7 (by decide) (by decide +kernel) rfl hc0 rfl dX0_clear_1 ?_
  refine z_lconst (v := 0) B dX0_clear_4 rfl ?_
  refine z_callS (As := [.ref (k + 7), .long 0]) (rest := []) B (c_J7_fill_d0a16 G l Φ sz (k + 7) 9 cn 0 hc6 (Nat.le_trans hna_k (Nat.le_add_right k 7)) (by decide)) (va_cwS 2 B.1.2.2.2.2 gX0_clear_J7_fill_d0a16 rfl rfl rfl (by decide +kernel) ⟨Nat.le_of_ble_eq_true rfl, Nat.le_of_ble_eq_true rfl⟩) rfl rfl (Nat.le_of_ble_eq_true rfl) dX0_clear_5 ⟨Nat.le_of_ble_eq_true rfl, Nat.le_of_ble_eq_true rfl⟩ (fun v1 Φ1 sz1 st1 hp1 hs1 => ?_)
  obtain ⟨rfl, hq1, fr1, h_1⟩ := hp1
  replace hq1 : sz1 = sz := hq1
  subst sz1
  replace hs1 : st1 = [] := hs1
  subst st1
  have h_2 : Φ1 (k + 7) = some (al_ G 9 (fun _ => 0)) := h_1
  refine z_aload_n B dX0_clear_8 rfl 0 rfl ?_
  have h_3 : Φ1 k = some (o_ 2 [.ref (cf), .ref (su), .ref (k + 1), .ref (k + 2), .ref (k + 3), .ref (k + 5), .ref (k + 6), .ref (k + 7), .ref (k + 8), .int ac, .int ltm, .int en]) := ((fr1 k (ne_off (x := k) (i := 0) (j := 7) rfl)).trans hc0)
  have h_4 : Φ1 (k + 1) = some (aq_ G 4 4 (va_up (va_up (va_up (va_up (fun _ => none) (0 : Int32).toNatClampNeg (some (k + 9))) (1 : Int32).toNatClampNeg (some (k + 11))) (2 : Int32).toNatClampNeg (some (k + 13))) (3 : Int32).toNatClampNeg (some (k + 15)))) := ((fr1 (k + 1) (ne_off (x := k) (i := 1) (j := 7) rfl)).trans hc1)
  have h_5 : Φ1 (k + 9) = some (o_ 12 [.ref (k + 10), .int 0, .int 0, .int 0]) := ((fr1 (k + 9) (ne_off (x := k) (i := 9) (j := 7) rfl)).trans hc2)
  have h_6 : Φ1 (k + 11) = some (o_ 12 [.ref (k + 12), .int 0, .int 0, .int 0]) := ((fr1 (k + 11) (ne_off (x := k) (i := 11) (j := 7) rfl)).trans hc3)
  have h_7 : Φ1 (k + 13) = some (o_ 12 [.ref (k + 14), .int 0, .int 0, .int 0]) := ((fr1 (k + 13) (ne_off (x := k) (i := 13) (j := 7) rfl)).trans hc4)
  have h_8 : Φ1 (k + 15) = some (o_ 12 [.ref (k + 16), .int 0, .int 0, .int 0]) := ((fr1 (k + 15) (ne_off (x := k) (i := 15) (j := 7) rfl)).trans hc5)
  refine z_callV (As := []) (rest := []) B (c_X0_restart G l Φ1 sz k cf su ac ltm en h_3 h_4 h_5 h_6 h_7 h_8 hna_k) (cwV 0 B.1.2.2.2.2 gX0_clear_X0_restart rfl rfl rfl (by decide +kernel) ⟨Nat.le_of_ble_eq_true rfl, Nat.le_of_ble_eq_true rfl⟩) h_3 rfl rfl rfl rfl (Nat.le_of_ble_eq_true rfl) dX0_clear_9 ⟨Nat.le_of_ble_eq_true rfl, Nat.le_of_ble_eq_true rfl⟩ (fun v2 Φ2 sz2 st2 hp2 hs2 => ?_)
  obtain ⟨rfl, hq2, fr2, h_9, h_10, h_11, h_12, h_13⟩ := hp2
  replace hq2 : sz2 = sz := hq2
  subst sz2
  replace hs2 : st2 = [.int 0] := hs2
  subst st2
  have h_14 : Φ2 k = some (o_ 2 [.ref cf, .ref su, .ref (k + 1), .ref (k + 2), .ref (k + 3), .ref (k + 5), .ref (k + 6), .ref (k + 7), .ref (k + 8), .int 0, .int ltm, .int en]) := h_9
  have h_15 : Φ2 (k + 11) = some (o_ 12 [.ref (k + 12), .int 0, .int 0, .int 0]) := h_10
  have h_16 : Φ2 (k + 13) = some (o_ 12 [.ref (k + 14), .int 0, .int 0, .int 0]) := h_11
  have h_17 : Φ2 (k + 15) = some (o_ 12 [.ref (k + 16), .int 0, .int 0, .int 0]) := h_12
  have h_18 : Φ2 (k + 9) = some (o_ 12 [.ref (k + 10), .int 0, .int 0, .int 0]) := h_13
  refine z_pop B dX0_clear_12 rfl ?_
  have h_19 : Φ2 (k + 7) = some (al_ G 9 (fun _ => 0)) := ((fr2 (k + 7) (ne_off (x := k) (i := 7) (j := 0) rfl) (ne_off (x := k) (i := 7) (j := 11) rfl) (ne_off (x := k) (i := 7) (j := 13) rfl) (ne_off (x := k) (i := 7) (j := 15) rfl) (ne_off (x := k) (i := 7) (j := 9) rfl)).trans h_2)
  exact z_ret_v B dX0_clear_13 ⟨rfl, rfl, (fun b9 h9a h9b h9c h9d h9e h9f => ((fr2 b9 h9a h9b h9c h9d h9f).trans ((fr1 b9 h9e).trans rfl))), h_14, h_15, h_16, h_17, h_19, h_18⟩

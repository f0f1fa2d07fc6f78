def inP (a b c : Int64) : Prop := ¬ lg_cmp a b < 0 ∧ ¬ 0 < lg_cmp a c

set_option maxHeartbeats 4000000 in
set_option maxRecDepth 100000 in
theorem c_X12_inRange_1 (G : EnvG) (l : Launch) (Φ : Hm) (sz : Nat) (a : Int64) (b : Int64) (d : Int64) (hp : inP a b d) : Ct G l yX12_inRange wsX12_inRange ({ frames := 0, cells := 0, slots := 0, locals := 0 }) 0 0 [.long a, .long b, .long d] Φ sz (fun v Φ1 sz1 => v = some (.int 1) ∧ sz1 = sz ∧ (∀ b9 : Nat, Φ1 b9 = Φ b9)) := by
  refine Ct.of (cc := cX12_inRange) (maxL := 6) (ret := (some .boolean)) (by decide) rfl (Nat.le_of_ble_eq_true rfl) ?_
  intro p9 e9 s9 m9 w9 t9 k9 B
  show Z p9 l e9 _ s9 m9 _ w9 t9 k9 _ G 6 0 [(0, .long a), (2, .long b), (4, .long d)] [] Φ (sz) 0 0
  refine z_lload_n B dX12_inRange_0 rfl 0 rfl ?_
  refine z_lload_n B dX12_inRange_1 rfl 1 rfl ?_
  refine z_lcmp B dX12_inRange_2 ?_
  refine z_if_lt (tgt := 17) B dX12_inRange_3 rfl (fun h9 => absurd h9 hp.1) (fun c_1 => ?_)
  refine z_lload_n B dX12_inRange_6 rfl 0 rfl ?_
  refine z_lload B dX12_inRange_7 2 rfl ?_
  refine z_lcmp B dX12_inRange_9 ?_
  refine z_if_gt (tgt := 17) B dX12_inRange_10 rfl (fun h9 => absurd h9 hp.2) (fun c_2 => ?_)
  refine z_iconst (v := 1) B dX12_inRange_13 rfl ?_
  refine z_goto (tgt := 18) B dX12_inRange_14 rfl ?_
  exact z_ret_z B dX12_inRange_18 (by decide) ⟨rfl, rfl, (fun b9 => rfl)⟩

set_option maxHeartbeats 4000000 in
set_option maxRecDepth 100000 in
theorem c_X12_inRange_0 (G : EnvG) (l : Launch) (Φ : Hm) (sz : Nat) (a : Int64) (b : Int64) (d : Int64) (hp : ¬ inP a b d) : Ct G l yX12_inRange wsX12_inRange ({ frames := 0, cells := 0, slots := 0, locals := 0 }) 0 0 [.long a, .long b, .long d] Φ sz (fun v Φ1 sz1 => v = some (.int 0) ∧ sz1 = sz ∧ (∀ b9 : Nat, Φ1 b9 = Φ b9)) := by
  refine Ct.of (cc := cX12_inRange) (maxL := 6) (ret := (some .boolean)) (by decide) rfl (Nat.le_of_ble_eq_true rfl) ?_
  intro p9 e9 s9 m9 w9 t9 k9 B
  show Z p9 l e9 _ s9 m9 _ w9 t9 k9 _ G 6 0 [(0, .long a), (2, .long b), (4, .long d)] [] Φ (sz) 0 0
  refine z_lload_n B dX12_inRange_0 rfl 0 rfl ?_
  refine z_lload_n B dX12_inRange_1 rfl 1 rfl ?_
  refine z_lcmp B dX12_inRange_2 ?_
  refine z_if_lt (tgt := 17) B dX12_inRange_3 rfl (fun c_1 => ?_) (fun c_1 => ?_)
  · refine z_iconst (v := 0) B dX12_inRange_17 rfl ?_
    exact z_ret_z B dX12_inRange_18 (by decide) ⟨rfl, rfl, fun _ => rfl⟩
  · refine z_lload_n B dX12_inRange_6 rfl 0 rfl ?_
    refine z_lload B dX12_inRange_7 2 rfl ?_
    refine z_lcmp B dX12_inRange_9 ?_
    refine z_if_gt (tgt := 17) B dX12_inRange_10 rfl (fun c_2 => ?_) (fun h9 => absurd (Decidable.byContradiction (fun h7 => hp ⟨c_1, h7⟩)) h9)
    refine z_iconst (v := 0) B dX12_inRange_17 rfl ?_
    exact z_ret_z B dX12_inRange_18 (by decide) ⟨rfl, rfl, fun _ => rfl⟩

set_option maxHeartbeats 4000000 in
set_option maxRecDepth 100000 in
theorem c_X12_throwsIf_1 (G : EnvG) (l : Launch) (Φ : Hm) (sz : Nat) (y : Nat) (z_thrown : Int32) (z_time : Int32) (z_random : Int32) (z_rate : Int32) (z_exportedHere : Int32) (z_adaptive : Int32) (z_messages : Int32) (z_sequence : Int64) (z_flows : Int32) (z_dropped : Int32) (z_observed : Int64) (z_sampled : Int64) (z_sent : Int64) (z_unsent : Int64) (z_pending : Int32) (z_length : Int32) (z_queue : Int32) (z_lastCount : Int32) (z_expected : Int64) (z_keys : Int32) (z_trueKeys : Int32) (z_inputLength : Int32) (z_next : Int32) (z_errorCode : Int32) (z_errorPosition : Int32) (z_kind : Int32) (z_start : Int32) (z_number : Int32) (z_value : Int64) (k : Int32) (hc0 : Φ y = some (o_ 14 [.int z_thrown, .ref (y + 1), .ref (y + 2), .int z_time, .int z_random, .int z_rate, .int z_exportedHere, .int z_adaptive, .ref (y + 3), .ref (y + 4), .int z_messages, .long z_sequence, .ref (y + 5), .int z_flows, .int z_dropped, .long z_observed, .long z_sampled, .long z_sent, .long z_unsent, .ref (y + 6), .ref (y + 7), .int z_pending, .ref (y + 8), .int z_length, .ref (y + 9), .ref (y + 10), .int z_queue, .ref (y + 11), .ref (y + 12), .ref (y + 13), .ref (y + 14), .ref (y + 15), .ref (y + 16), .int z_lastCount, .long z_expected, .ref (y + 17), .ref (y + 18), .ref (y + 19), .ref (y + 20), .ref (y + 21), .ref (y + 22), .int z_keys, .ref (y + 23), .ref (y + 24), .int z_trueKeys, .ref (y + 25), .int z_inputLength, .int z_next, .int z_errorCode, .int z_errorPosition, .int z_kind, .int z_start, .int z_number, .long z_value])) (hna_y : G.2.2.2 ≤ y) : Ct G l yX12_throwsIf wsX12_throwsIf ({ frames := 0, cells := 0, slots := 0, locals := 0 }) 0 0 [.ref y, .int 1, .int k] Φ sz (fun v Φ1 sz1 => v = some (.int 1) ∧ sz1 = sz ∧ (∀ b9 : Nat, b9 ≠ y → Φ1 b9 = Φ b9) ∧ Φ1 y = some (o_ 14 [.int k, .ref (y + 1), .ref (y + 2), .int z_time, .int z_random, .int z_rate, .int z_exportedHere, .int z_adaptive, .ref (y + 3), .ref (y + 4), .int z_messages, .long z_sequence, .ref (y + 5), .int z_flows, .int z_dropped, .long z_observed, .long z_sampled, .long z_sent, .long z_unsent, .ref (y + 6), .ref (y + 7), .int z_pending, .ref (y + 8), .int z_length, .ref (y + 9), .ref (y + 10), .int z_queue, .ref (y + 11), .ref (y + 12), .ref (y + 13), .ref (y + 14), .ref (y + 15), .ref (y + 16), .int z_lastCount, .long z_expected, .ref (y + 17), .ref (y + 18), .ref (y + 19), .ref (y + 20), .ref (y + 21), .ref (y + 22), .int z_keys, .ref (y + 23), .ref (y + 24), .int z_trueKeys, .ref (y + 25), .int z_inputLength, .int z_next, .int z_errorCode, .int z_errorPosition, .int z_kind, .int z_start, .int z_number, .long z_value])) := by
  refine Ct.of (cc := cX12_throwsIf) (maxL := 3) (ret := (some .boolean)) (by decide) rfl (Nat.le_of_ble_eq_true rfl) ?_
  intro p9 e9 s9 m9 w9 t9 k9 B
  show Z p9 l e9 _ s9 m9 _ w9 t9 k9 _ G 3 0 [(0, .ref y), (1, .int 1), (2, .int k)] [] Φ (sz) 0 0
  refine z_iload_n B dX12_throwsIf_0 rfl 1 rfl ?_
  refine z_if_eq (tgt := 9) B dX12_throwsIf_1 rfl (fun h9 => absurd h9 (by decide)) (fun c_1 => ?_)
  refine z_aload_n B dX12_throwsIf_4 rfl 0 rfl ?_
  refine z_iload_n B dX12_throwsIf_5 rfl 2 rfl ?_
  refine z_put (ref := "FlowExporterModel") (C := RX12) (T := TX12) (N := 54) (ci := 14) (v := .int k) B (by decide +kernel) tyX12 tyX12_ok nmX12 rfl 0 (by decide) (by decide +kernel) rfl (Or.inl rfl) hc0 hna_y rfl rfl (Nat.le_of_ble_eq_true rfl) dX12_throwsIf_6 (fun Φ1 hΦ1 => ?_)
  have h_1 : Φ1 y = some (o_ 14 [.int k, .ref (y + 1), .ref (y + 2), .int z_time, .int z_random, .int z_rate, .int z_exportedHere, .int z_adaptive, .ref (y + 3), .ref (y + 4), .int z_messages, .long z_sequence, .ref (y + 5), .int z_flows, .int z_dropped, .long z_observed, .long z_sampled, .long z_sent, .long z_unsent, .ref (y + 6), .ref (y + 7), .int z_pending, .ref (y + 8), .int z_length, .ref (y + 9), .ref (y + 10), .int z_queue, .ref (y + 11), .ref (y + 12), .ref (y + 13), .ref (y + 14), .ref (y + 15), .ref (y + 16), .int z_lastCount, .long z_expected, .ref (y + 17), .ref (y + 18), .ref (y + 19), .ref (y + 20), .ref (y + 21), .ref (y + 22), .int z_keys, .ref (y + 23), .ref (y + 24), .int z_trueKeys, .ref (y + 25), .int z_inputLength, .int z_next, .int z_errorCode, .int z_errorPosition, .int z_kind, .int z_start, .int z_number, .long z_value]) := fset_at hΦ1
  refine z_iload_n B dX12_throwsIf_9 rfl 1 rfl ?_
  exact z_ret_z B dX12_throwsIf_10 (by decide) ⟨rfl, rfl, (fun b9 h9a => ((fset_fr hΦ1 h9a).trans rfl)), h_1⟩

set_option maxHeartbeats 4000000 in
set_option maxRecDepth 100000 in
theorem c_X12_throwsIf_0 (G : EnvG) (l : Launch) (Φ : Hm) (sz : Nat) (y : Nat) (z_thrown : Int32) (z_time : Int32) (z_random : Int32) (z_rate : Int32) (z_exportedHere : Int32) (z_adaptive : Int32) (z_messages : Int32) (z_sequence : Int64) (z_flows : Int32) (z_dropped : Int32) (z_observed : Int64) (z_sampled : Int64) (z_sent : Int64) (z_unsent : Int64) (z_pending : Int32) (z_length : Int32) (z_queue : Int32) (z_lastCount : Int32) (z_expected : Int64) (z_keys : Int32) (z_trueKeys : Int32) (z_inputLength : Int32) (z_next : Int32) (z_errorCode : Int32) (z_errorPosition : Int32) (z_kind : Int32) (z_start : Int32) (z_number : Int32) (z_value : Int64) (k : Int32) (hc0 : Φ y = some (o_ 14 [.int z_thrown, .ref (y + 1), .ref (y + 2), .int z_time, .int z_random, .int z_rate, .int z_exportedHere, .int z_adaptive, .ref (y + 3), .ref (y + 4), .int z_messages, .long z_sequence, .ref (y + 5), .int z_flows, .int z_dropped, .long z_observed, .long z_sampled, .long z_sent, .long z_unsent, .ref (y + 6), .ref (y + 7), .int z_pending, .ref (y + 8), .int z_length, .ref (y + 9), .ref (y + 10), .int z_queue, .ref (y + 11), .ref (y + 12), .ref (y + 13), .ref (y + 14), .ref (y + 15), .ref (y + 16), .int z_lastCount, .long z_expected, .ref (y + 17), .ref (y + 18), .ref (y + 19), .ref (y + 20), .ref (y + 21), .ref (y + 22), .int z_keys, .ref (y + 23), .ref (y + 24), .int z_trueKeys, .ref (y + 25), .int z_inputLength, .int z_next, .int z_errorCode, .int z_errorPosition, .int z_kind, .int z_start, .int z_number, .long z_value])) (hna_y : G.2.2.2 ≤ y) : Ct G l yX12_throwsIf wsX12_throwsIf ({ frames := 0, cells := 0, slots := 0, locals := 0 }) 0 0 [.ref y, .int 0, .int k] Φ sz (fun v Φ1 sz1 => v = some (.int 0) ∧ sz1 = sz ∧ (∀ b9 : Nat, Φ1 b9 = Φ b9)) := by
  refine Ct.of (cc := cX12_throwsIf) (maxL := 3) (ret := (some .boolean)) (by decide) rfl (Nat.le_of_ble_eq_true rfl) ?_
  intro p9 e9 s9 m9 w9 t9 k9 B
  show Z p9 l e9 _ s9 m9 _ w9 t9 k9 _ G 3 0 [(0, .ref y), (1, .int 0), (2, .int k)] [] Φ (sz) 0 0
  refine z_iload_n B dX12_throwsIf_0 rfl 1 rfl ?_
  refine z_if_eq (tgt := 9) B dX12_throwsIf_1 rfl (fun c_1 => ?_) (fun h9 => absurd (by decide) h9)
  refine z_iload_n B dX12_throwsIf_9 rfl 1 rfl ?_
  exact z_ret_z B dX12_throwsIf_10 (by decide) ⟨rfl, rfl, (fun b9 => rfl)⟩

set_option maxHeartbeats 4000000 in
set_option maxRecDepth 100000 in
theorem m_X12_errorCode (G : EnvG) (l : Launch) (Φ : Hm) (sz : Nat) (y : Nat) (hc0_ : Φ y = some (o_ 14 [.int 0, .ref (y + 1), .ref (y + 2), .int 0, .int 1, .int 1, .int 0, .int 0, .ref (y + 3), .ref (y + 4), .int 0, .long 0, .ref (y + 5), .int 0, .int 0, .long 0, .long 0, .long 0, .long 0, .ref (y + 6), .ref (y + 7), .int 0, .ref (y + 8), .int 0, .ref (y + 9), .ref (y + 10), .int 0, .ref (y + 11), .ref (y + 12), .ref (y + 13), .ref (y + 14), .ref (y + 15), .ref (y + 16), .int 0, .long (-1), .ref (y + 17), .ref (y + 18), .ref (y + 19), .ref (y + 20), .ref (y + 21), .ref (y + 22), .int 0, .ref (y + 23), .ref (y + 24), .int 0, .ref (y + 25), .int 0, .int 0, .int 0, .int (-1), .int 0, .int 0, .int 0, .long 0])) (hna : G.2.2.2 ≤ y) : Ct G l yX12_errorCode wsX12_errorCode ({ frames := 0, cells := 0, slots := 0, locals := 0 }) 0 0 [.ref y] Φ sz (fun v Φ1 sz1 => v = some (.int 0) ∧ ∃ fs : List Value, Φ1 y = some (o_ 14 fs) ∧ fs[0]? = some (.int 0)) := by
  refine Ct.of (cc := cX12_errorCode) (maxL := 1) (ret := (some .int)) (by decide) rfl (Nat.le_of_ble_eq_true rfl) ?_
  intro p9 e9 s9 m9 w9 t9 k9 B
  show Z p9 l e9 _ s9 m9 _ w9 t9 k9 _ G 1 0 [(0, .ref y)] [] Φ sz 0 0
  refine z_aload_n B dX12_errorCode_0 rfl 0 rfl ?_
  refine z_iconst (v := 0) B dX12_errorCode_1 rfl ?_
  refine z_put (ref := "FlowExporterModel") (C := RX12) (T := TX12) (N := 54) (ci := 14) (v := .int 0) B (by decide +kernel) tyX12 tyX12_ok nmX12 rfl 0 (by decide) (by decide +kernel) rfl (Or.inl rfl) hc0_ hna rfl rfl (Nat.le_of_ble_eq_true rfl) dX12_errorCode_2 (fun Φ1 hΦ1 => ?_)
  have h_1 : Φ1 y = some (o_ 14 [.int 0, .ref (y + 1), .ref (y + 2), .int 0, .int 1, .int 1, .int 0, .int 0, .ref (y + 3), .ref (y + 4), .int 0, .long 0, .ref (y + 5), .int 0, .int 0, .long 0, .long 0, .long 0, .long 0, .ref (y + 6), .ref (y + 7), .int 0, .ref (y + 8), .int 0, .ref (y + 9), .ref (y + 10), .int 0, .ref (y + 11), .ref (y + 12), .ref (y + 13), .ref (y + 14), .ref (y + 15), .ref (y + 16), .int 0, .long (-1), .ref (y + 17), .ref (y + 18), .ref (y + 19), .ref (y + 20), .ref (y + 21), .ref (y + 22), .int 0, .ref (y + 23), .ref (y + 24), .int 0, .ref (y + 25), .int 0, .int 0, .int 0, .int (-1), .int 0, .int 0, .int 0, .long 0]) := fset_at hΦ1
  refine z_aload_n B dX12_errorCode_5 rfl 0 rfl ?_
  refine z_get (ref := "FlowExporterModel") (C := RX12) (T := TX12) (N := 54) (ci := 14) (v := .int 0) B (by decide +kernel) rfl 48 (by decide) (by decide +kernel) rfl h_1 rfl dX12_errorCode_6 ?_
  exact z_ret_i B dX12_errorCode_9 ⟨rfl, _, h_1, rfl⟩

set_option maxHeartbeats 4000000 in
set_option maxRecDepth 100000 in
theorem m_X12_errorPosition (G : EnvG) (l : Launch) (Φ : Hm) (sz : Nat) (y : Nat) (hc0_ : Φ y = some (o_ 14 [.int 0, .ref (y + 1), .ref (y + 2), .int 0, .int 1, .int 1, .int 0, .int 0, .ref (y + 3), .ref (y + 4), .int 0, .long 0, .ref (y + 5), .int 0, .int 0, .long 0, .long 0, .long 0, .long 0, .ref (y + 6), .ref (y + 7), .int 0, .ref (y + 8), .int 0, .ref (y + 9), .ref (y + 10), .int 0, .ref (y + 11), .ref (y + 12), .ref (y + 13), .ref (y + 14), .ref (y + 15), .ref (y + 16), .int 0, .long (-1), .ref (y + 17), .ref (y + 18), .ref (y + 19), .ref (y + 20), .ref (y + 21), .ref (y + 22), .int 0, .ref (y + 23), .ref (y + 24), .int 0, .ref (y + 25), .int 0, .int 0, .int 0, .int (-1), .int 0, .int 0, .int 0, .long 0])) (hna : G.2.2.2 ≤ y) : Ct G l yX12_errorPosition wsX12_errorPosition ({ frames := 0, cells := 0, slots := 0, locals := 0 }) 0 0 [.ref y] Φ sz (fun v Φ1 sz1 => v = some (.int (-1)) ∧ ∃ fs : List Value, Φ1 y = some (o_ 14 fs) ∧ fs[0]? = some (.int 0)) := by
  refine Ct.of (cc := cX12_errorPosition) (maxL := 1) (ret := (some .int)) (by decide) rfl (Nat.le_of_ble_eq_true rfl) ?_
  intro p9 e9 s9 m9 w9 t9 k9 B
  show Z p9 l e9 _ s9 m9 _ w9 t9 k9 _ G 1 0 [(0, .ref y)] [] Φ sz 0 0
  refine z_aload_n B dX12_errorPosition_0 rfl 0 rfl ?_
  refine z_iconst (v := 0) B dX12_errorPosition_1 rfl ?_
  refine z_put (ref := "FlowExporterModel") (C := RX12) (T := TX12) (N := 54) (ci := 14) (v := .int 0) B (by decide +kernel) tyX12 tyX12_ok nmX12 rfl 0 (by decide) (by decide +kernel) rfl (Or.inl rfl) hc0_ hna rfl rfl (Nat.le_of_ble_eq_true rfl) dX12_errorPosition_2 (fun Φ1 hΦ1 => ?_)
  have h_1 : Φ1 y = some (o_ 14 [.int 0, .ref (y + 1), .ref (y + 2), .int 0, .int 1, .int 1, .int 0, .int 0, .ref (y + 3), .ref (y + 4), .int 0, .long 0, .ref (y + 5), .int 0, .int 0, .long 0, .long 0, .long 0, .long 0, .ref (y + 6), .ref (y + 7), .int 0, .ref (y + 8), .int 0, .ref (y + 9), .ref (y + 10), .int 0, .ref (y + 11), .ref (y + 12), .ref (y + 13), .ref (y + 14), .ref (y + 15), .ref (y + 16), .int 0, .long (-1), .ref (y + 17), .ref (y + 18), .ref (y + 19), .ref (y + 20), .ref (y + 21), .ref (y + 22), .int 0, .ref (y + 23), .ref (y + 24), .int 0, .ref (y + 25), .int 0, .int 0, .int 0, .int (-1), .int 0, .int 0, .int 0, .long 0]) := fset_at hΦ1
  refine z_aload_n B dX12_errorPosition_5 rfl 0 rfl ?_
  refine z_get (ref := "FlowExporterModel") (C := RX12) (T := TX12) (N := 54) (ci := 14) (v := .int (-1)) B (by decide +kernel) rfl 49 (by decide) (by decide +kernel) rfl h_1 rfl dX12_errorPosition_6 ?_
  exact z_ret_i B dX12_errorPosition_9 ⟨rfl, _, h_1, rfl⟩

set_option maxHeartbeats 4000000 in
set_option maxRecDepth 100000 in
theorem m_X12_now (G : EnvG) (l : Launch) (Φ : Hm) (sz : Nat) (y : Nat) (hc0_ : Φ y = some (o_ 14 [.int 0, .ref (y + 1), .ref (y + 2), .int 0, .int 1, .int 1, .int 0, .int 0, .ref (y + 3), .ref (y + 4), .int 0, .long 0, .ref (y + 5), .int 0, .int 0, .long 0, .long 0, .long 0, .long 0, .ref (y + 6), .ref (y + 7), .int 0, .ref (y + 8), .int 0, .ref (y + 9), .ref (y + 10), .int 0, .ref (y + 11), .ref (y + 12), .ref (y + 13), .ref (y + 14), .ref (y + 15), .ref (y + 16), .int 0, .long (-1), .ref (y + 17), .ref (y + 18), .ref (y + 19), .ref (y + 20), .ref (y + 21), .ref (y + 22), .int 0, .ref (y + 23), .ref (y + 24), .int 0, .ref (y + 25), .int 0, .int 0, .int 0, .int (-1), .int 0, .int 0, .int 0, .long 0])) (hna : G.2.2.2 ≤ y) : Ct G l yX12_now wsX12_now ({ frames := 0, cells := 0, slots := 0, locals := 0 }) 0 0 [.ref y] Φ sz (fun v Φ1 sz1 => v = some (.int 0) ∧ ∃ fs : List Value, Φ1 y = some (o_ 14 fs) ∧ fs[0]? = some (.int 0)) := by
  refine Ct.of (cc := cX12_now) (maxL := 1) (ret := (some .int)) (by decide) rfl (Nat.le_of_ble_eq_true rfl) ?_
  intro p9 e9 s9 m9 w9 t9 k9 B
  show Z p9 l e9 _ s9 m9 _ w9 t9 k9 _ G 1 0 [(0, .ref y)] [] Φ sz 0 0
  refine z_aload_n B dX12_now_0 rfl 0 rfl ?_
  refine z_iconst (v := 0) B dX12_now_1 rfl ?_
  refine z_put (ref := "FlowExporterModel") (C := RX12) (T := TX12) (N := 54) (ci := 14) (v := .int 0) B (by decide +kernel) tyX12 tyX12_ok nmX12 rfl 0 (by decide) (by decide +kernel) rfl (Or.inl rfl) hc0_ hna rfl rfl (Nat.le_of_ble_eq_true rfl) dX12_now_2 (fun Φ1 hΦ1 => ?_)
  have h_1 : Φ1 y = some (o_ 14 [.int 0, .ref (y + 1), .ref (y + 2), .int 0, .int 1, .int 1, .int 0, .int 0, .ref (y + 3), .ref (y + 4), .int 0, .long 0, .ref (y + 5), .int 0, .int 0, .long 0, .long 0, .long 0, .long 0, .ref (y + 6), .ref (y + 7), .int 0, .ref (y + 8), .int 0, .ref (y + 9), .ref (y + 10), .int 0, .ref (y + 11), .ref (y + 12), .ref (y + 13), .ref (y + 14), .ref (y + 15), .ref (y + 16), .int 0, .long (-1), .ref (y + 17), .ref (y + 18), .ref (y + 19), .ref (y + 20), .ref (y + 21), .ref (y + 22), .int 0, .ref (y + 23), .ref (y + 24), .int 0, .ref (y + 25), .int 0, .int 0, .int 0, .int (-1), .int 0, .int 0, .int 0, .long 0]) := fset_at hΦ1
  refine z_aload_n B dX12_now_5 rfl 0 rfl ?_
  refine z_get (ref := "FlowExporterModel") (C := RX12) (T := TX12) (N := 54) (ci := 14) (v := .int 0) B (by decide +kernel) rfl 3 (by decide) (by decide +kernel) rfl h_1 rfl dX12_now_6 ?_
  exact z_ret_i B dX12_now_9 ⟨rfl, _, h_1, rfl⟩

set_option maxHeartbeats 4000000 in
set_option maxRecDepth 100000 in
theorem m_X12_cacheSize (G : EnvG) (l : Launch) (Φ : Hm) (sz : Nat) (y : Nat) (hc0_ : Φ y = some (o_ 14 [.int 0, .ref (y + 1), .ref (y + 2), .int 0, .int 1, .int 1, .int 0, .int 0, .ref (y + 3), .ref (y + 4), .int 0, .long 0, .ref (y + 5), .int 0, .int 0, .long 0, .long 0, .long 0, .long 0, .ref (y + 6), .ref (y + 7), .int 0, .ref (y + 8), .int 0, .ref (y + 9), .ref (y + 10), .int 0, .ref (y + 11), .ref (y + 12), .ref (y + 13), .ref (y + 14), .ref (y + 15), .ref (y + 16), .int 0, .long (-1), .ref (y + 17), .ref (y + 18), .ref (y + 19), .ref (y + 20), .ref (y + 21), .ref (y + 22), .int 0, .ref (y + 23), .ref (y + 24), .int 0, .ref (y + 25), .int 0, .int 0, .int 0, .int (-1), .int 0, .int 0, .int 0, .long 0])) (hna : G.2.2.2 ≤ y) : Ct G l yX12_cacheSize wsX12_cacheSize ({ frames := 0, cells := 0, slots := 0, locals := 0 }) 0 0 [.ref y] Φ sz (fun v Φ1 sz1 => v = some (.int 0) ∧ ∃ fs : List Value, Φ1 y = some (o_ 14 fs) ∧ fs[0]? = some (.int 0)) := by
  refine Ct.of (cc := cX12_cacheSize) (maxL := 1) (ret := (some .int)) (by decide) rfl (Nat.le_of_ble_eq_true rfl) ?_
  intro p9 e9 s9 m9 w9 t9 k9 B
  show Z p9 l e9 _ s9 m9 _ w9 t9 k9 _ G 1 0 [(0, .ref y)] [] Φ sz 0 0
  refine z_aload_n B dX12_cacheSize_0 rfl 0 rfl ?_
  refine z_iconst (v := 0) B dX12_cacheSize_1 rfl ?_
  refine z_put (ref := "FlowExporterModel") (C := RX12) (T := TX12) (N := 54) (ci := 14) (v := .int 0) B (by decide +kernel) tyX12 tyX12_ok nmX12 rfl 0 (by decide) (by decide +kernel) rfl (Or.inl rfl) hc0_ hna rfl rfl (Nat.le_of_ble_eq_true rfl) dX12_cacheSize_2 (fun Φ1 hΦ1 => ?_)
  have h_1 : Φ1 y = some (o_ 14 [.int 0, .ref (y + 1), .ref (y + 2), .int 0, .int 1, .int 1, .int 0, .int 0, .ref (y + 3), .ref (y + 4), .int 0, .long 0, .ref (y + 5), .int 0, .int 0, .long 0, .long 0, .long 0, .long 0, .ref (y + 6), .ref (y + 7), .int 0, .ref (y + 8), .int 0, .ref (y + 9), .ref (y + 10), .int 0, .ref (y + 11), .ref (y + 12), .ref (y + 13), .ref (y + 14), .ref (y + 15), .ref (y + 16), .int 0, .long (-1), .ref (y + 17), .ref (y + 18), .ref (y + 19), .ref (y + 20), .ref (y + 21), .ref (y + 22), .int 0, .ref (y + 23), .ref (y + 24), .int 0, .ref (y + 25), .int 0, .int 0, .int 0, .int (-1), .int 0, .int 0, .int 0, .long 0]) := fset_at hΦ1
  refine z_aload_n B dX12_cacheSize_5 rfl 0 rfl ?_
  refine z_get (ref := "FlowExporterModel") (C := RX12) (T := TX12) (N := 54) (ci := 14) (v := .int 0) B (by decide +kernel) rfl 13 (by decide) (by decide +kernel) rfl h_1 rfl dX12_cacheSize_6 ?_
  exact z_ret_i B dX12_cacheSize_9 ⟨rfl, _, h_1, rfl⟩

set_option maxHeartbeats 4000000 in
set_option maxRecDepth 100000 in
theorem m_X12_rate (G : EnvG) (l : Launch) (Φ : Hm) (sz : Nat) (y : Nat) (hc0_ : Φ y = some (o_ 14 [.int 0, .ref (y + 1), .ref (y + 2), .int 0, .int 1, .int 1, .int 0, .int 0, .ref (y + 3), .ref (y + 4), .int 0, .long 0, .ref (y + 5), .int 0, .int 0, .long 0, .long 0, .long 0, .long 0, .ref (y + 6), .ref (y + 7), .int 0, .ref (y + 8), .int 0, .ref (y + 9), .ref (y + 10), .int 0, .ref (y + 11), .ref (y + 12), .ref (y + 13), .ref (y + 14), .ref (y + 15), .ref (y + 16), .int 0, .long (-1), .ref (y + 17), .ref (y + 18), .ref (y + 19), .ref (y + 20), .ref (y + 21), .ref (y + 22), .int 0, .ref (y + 23), .ref (y + 24), .int 0, .ref (y + 25), .int 0, .int 0, .int 0, .int (-1), .int 0, .int 0, .int 0, .long 0])) (hna : G.2.2.2 ≤ y) : Ct G l yX12_rate wsX12_rate ({ frames := 0, cells := 0, slots := 0, locals := 0 }) 0 0 [.ref y] Φ sz (fun v Φ1 sz1 => v = some (.int 1) ∧ ∃ fs : List Value, Φ1 y = some (o_ 14 fs) ∧ fs[0]? = some (.int 0)) := by
  refine Ct.of (cc := cX12_rate) (maxL := 1) (ret := (some .int)) (by decide) rfl (Nat.le_of_ble_eq_true rfl) ?_
  intro p9 e9 s9 m9 w9 t9 k9 B
  show Z p9 l e9 _ s9 m9 _ w9 t9 k9 _ G 1 0 [(0, .ref y)] [] Φ sz 0 0
  refine z_aload_n B dX12_rate_0 rfl 0 rfl ?_
  refine z_iconst (v := 0) B dX12_rate_1 rfl ?_
  refine z_put (ref := "FlowExporterModel") (C := RX12) (T := TX12) (N := 54) (ci := 14) (v := .int 0) B (by decide +kernel) tyX12 tyX12_ok nmX12 rfl 0 (by decide) (by decide +kernel) rfl (Or.inl rfl) hc0_ hna rfl rfl (Nat.le_of_ble_eq_true rfl) dX12_rate_2 (fun Φ1 hΦ1 => ?_)
  have h_1 : Φ1 y = some (o_ 14 [.int 0, .ref (y + 1), .ref (y + 2), .int 0, .int 1, .int 1, .int 0, .int 0, .ref (y + 3), .ref (y + 4), .int 0, .long 0, .ref (y + 5), .int 0, .int 0, .long 0, .long 0, .long 0, .long 0, .ref (y + 6), .ref (y + 7), .int 0, .ref (y + 8), .int 0, .ref (y + 9), .ref (y + 10), .int 0, .ref (y + 11), .ref (y + 12), .ref (y + 13), .ref (y + 14), .ref (y + 15), .ref (y + 16), .int 0, .long (-1), .ref (y + 17), .ref (y + 18), .ref (y + 19), .ref (y + 20), .ref (y + 21), .ref (y + 22), .int 0, .ref (y + 23), .ref (y + 24), .int 0, .ref (y + 25), .int 0, .int 0, .int 0, .int (-1), .int 0, .int 0, .int 0, .long 0]) := fset_at hΦ1
  refine z_aload_n B dX12_rate_5 rfl 0 rfl ?_
  refine z_get (ref := "FlowExporterModel") (C := RX12) (T := TX12) (N := 54) (ci := 14) (v := .int 1) B (by decide +kernel) rfl 5 (by decide) (by decide +kernel) rfl h_1 rfl dX12_rate_6 ?_
  exact z_ret_i B dX12_rate_9 ⟨rfl, _, h_1, rfl⟩

set_option maxHeartbeats 4000000 in
set_option maxRecDepth 100000 in
theorem m_X12_templateCount (G : EnvG) (l : Launch) (Φ : Hm) (sz : Nat) (y : Nat) (hc0_ : Φ y = some (o_ 14 [.int 0, .ref (y + 1), .ref (y + 2), .int 0, .int 1, .int 1, .int 0, .int 0, .ref (y + 3), .ref (y + 4), .int 0, .long 0, .ref (y + 5), .int 0, .int 0, .long 0, .long 0, .long 0, .long 0, .ref (y + 6), .ref (y + 7), .int 0, .ref (y + 8), .int 0, .ref (y + 9), .ref (y + 10), .int 0, .ref (y + 11), .ref (y + 12), .ref (y + 13), .ref (y + 14), .ref (y + 15), .ref (y + 16), .int 0, .long (-1), .ref (y + 17), .ref (y + 18), .ref (y + 19), .ref (y + 20), .ref (y + 21), .ref (y + 22), .int 0, .ref (y + 23), .ref (y + 24), .int 0, .ref (y + 25), .int 0, .int 0, .int 0, .int (-1), .int 0, .int 0, .int 0, .long 0])) (hc2_ : Φ (y + 2) = some (ai_ G 307 (upd (upd (upd (upd (upd (upd (upd (upd (upd (upd (upd (upd (upd (upd (upd (upd (upd (upd (upd (upd (upd (fun _ => 0) (0 : Int32).toNatClampNeg 1) (1 : Int32).toNatClampNeg 100) (2 : Int32).toNatClampNeg 1000) (3 : Int32).toNatClampNeg 100) (4 : Int32).toNatClampNeg 20) (5 : Int32).toNatClampNeg 1000) (6 : Int32).toNatClampNeg 5000) (7 : Int32).toNatClampNeg 512) (8 : Int32).toNatClampNeg 1) (9 : Int32).toNatClampNeg 511) (10 : Int32).toNatClampNeg 1) (11 : Int32).toNatClampNeg 9) (15 : Int32).toNatClampNeg 0) (16 : Int32).toNatClampNeg 1) (17 : Int32).toNatClampNeg 2) (18 : Int32).toNatClampNeg 3) (19 : Int32).toNatClampNeg 4) (20 : Int32).toNatClampNeg 5) (21 : Int32).toNatClampNeg 6) (22 : Int32).toNatClampNeg 7) (23 : Int32).toNatClampNeg 8))) (hna : G.2.2.2 ≤ y) : Ct G l yX12_templateCount wsX12_templateCount ({ frames := 0, cells := 0, slots := 0, locals := 0 }) 0 0 [.ref y] Φ sz (fun v Φ1 sz1 => v = some (.int 1) ∧ ∃ fs : List Value, Φ1 y = some (o_ 14 fs) ∧ fs[0]? = some (.int 0)) := by
  refine Ct.of (cc := cX12_templateCount) (maxL := 1) (ret := (some .int)) (by decide) rfl (Nat.le_of_ble_eq_true rfl) ?_
  intro p9 e9 s9 m9 w9 t9 k9 B
  show Z p9 l e9 _ s9 m9 _ w9 t9 k9 _ G 1 0 [(0, .ref y)] [] Φ sz 0 0
  refine z_aload_n B dX12_templateCount_0 rfl 0 rfl ?_
  refine z_iconst (v := 0) B dX12_templateCount_1 rfl ?_
  refine z_put (ref := "FlowExporterModel") (C := RX12) (T := TX12) (N := 54) (ci := 14) (v := .int 0) B (by decide +kernel) tyX12 tyX12_ok nmX12 rfl 0 (by decide) (by decide +kernel) rfl (Or.inl rfl) hc0_ hna rfl rfl (Nat.le_of_ble_eq_true rfl) dX12_templateCount_2 (fun Φ1 hΦ1 => ?_)
  have h_1 : Φ1 y = some (o_ 14 [.int 0, .ref (y + 1), .ref (y + 2), .int 0, .int 1, .int 1, .int 0, .int 0, .ref (y + 3), .ref (y + 4), .int 0, .long 0, .ref (y + 5), .int 0, .int 0, .long 0, .long 0, .long 0, .long 0, .ref (y + 6), .ref (y + 7), .int 0, .ref (y + 8), .int 0, .ref (y + 9), .ref (y + 10), .int 0, .ref (y + 11), .ref (y + 12), .ref (y + 13), .ref (y + 14), .ref (y + 15), .ref (y + 16), .int 0, .long (-1), .ref (y + 17), .ref (y + 18), .ref (y + 19), .ref (y + 20), .ref (y + 21), .ref (y + 22), .int 0, .ref (y + 23), .ref (y + 24), .int 0, .ref (y + 25), .int 0, .int 0, .int 0, .int (-1), .int 0, .int 0, .int 0, .long 0]) := fset_at hΦ1
  refine z_aload_n B dX12_templateCount_5 rfl 0 rfl ?_
  refine z_get (ref := "FlowExporterModel") (C := RX12) (T := TX12) (N := 54) (ci := 14) (v := .ref (y + 2)) B (by decide +kernel) rfl 2 (by decide) (by decide +kernel) rfl h_1 rfl dX12_templateCount_6 ?_
  refine z_bipush (v := 10) B dX12_templateCount_9 rfl ?_
  have h_2 : Φ1 (y + 2) = some (ai_ G 307 (upd (upd (upd (upd (upd (upd (upd (upd (upd (upd (upd (upd (upd (upd (upd (upd (upd (upd (upd (upd (upd (fun _ => 0) (0 : Int32).toNatClampNeg 1) (1 : Int32).toNatClampNeg 100) (2 : Int32).toNatClampNeg 1000) (3 : Int32).toNatClampNeg 100) (4 : Int32).toNatClampNeg 20) (5 : Int32).toNatClampNeg 1000) (6 : Int32).toNatClampNeg 5000) (7 : Int32).toNatClampNeg 512) (8 : Int32).toNatClampNeg 1) (9 : Int32).toNatClampNeg 511) (10 : Int32).toNatClampNeg 1) (11 : Int32).toNatClampNeg 9) (15 : Int32).toNatClampNeg 0) (16 : Int32).toNatClampNeg 1) (17 : Int32).toNatClampNeg 2) (18 : Int32).toNatClampNeg 3) (19 : Int32).toNatClampNeg 4) (20 : Int32).toNatClampNeg 5) (21 : Int32).toNatClampNeg 6) (22 : Int32).toNatClampNeg 7) (23 : Int32).toNatClampNeg 8)) := ((fset_fr hΦ1 (ne_off (x := y) (i := 2) (j := 0) rfl)).trans hc2_)
  refine z_iald B h_2 (vin rfl) dX12_templateCount_11 ?_
  refine z_top (st1 := [.int 1]) (by rfl) ?_
  exact z_ret_i B dX12_templateCount_12 ⟨rfl, _, h_1, rfl⟩

set_option maxHeartbeats 4000000 in
set_option maxRecDepth 100000 in
theorem m_X12_observed (G : EnvG) (l : Launch) (Φ : Hm) (sz : Nat) (y : Nat) (hc0_ : Φ y = some (o_ 14 [.int 0, .ref (y + 1), .ref (y + 2), .int 0, .int 1, .int 1, .int 0, .int 0, .ref (y + 3), .ref (y + 4), .int 0, .long 0, .ref (y + 5), .int 0, .int 0, .long 0, .long 0, .long 0, .long 0, .ref (y + 6), .ref (y + 7), .int 0, .ref (y + 8), .int 0, .ref (y + 9), .ref (y + 10), .int 0, .ref (y + 11), .ref (y + 12), .ref (y + 13), .ref (y + 14), .ref (y + 15), .ref (y + 16), .int 0, .long (-1), .ref (y + 17), .ref (y + 18), .ref (y + 19), .ref (y + 20), .ref (y + 21), .ref (y + 22), .int 0, .ref (y + 23), .ref (y + 24), .int 0, .ref (y + 25), .int 0, .int 0, .int 0, .int (-1), .int 0, .int 0, .int 0, .long 0])) (hna : G.2.2.2 ≤ y) : Ct G l yX12_observed wsX12_observed ({ frames := 0, cells := 0, slots := 0, locals := 0 }) 0 0 [.ref y] Φ sz (fun v Φ1 sz1 => v = some (.long 0) ∧ ∃ fs : List Value, Φ1 y = some (o_ 14 fs) ∧ fs[0]? = some (.int 0)) := by
  refine Ct.of (cc := cX12_observed) (maxL := 1) (ret := (some .long)) (by decide) rfl (Nat.le_of_ble_eq_true rfl) ?_
  intro p9 e9 s9 m9 w9 t9 k9 B
  show Z p9 l e9 _ s9 m9 _ w9 t9 k9 _ G 1 0 [(0, .ref y)] [] Φ sz 0 0
  refine z_aload_n B dX12_observed_0 rfl 0 rfl ?_
  refine z_iconst (v := 0) B dX12_observed_1 rfl ?_
  refine z_put (ref := "FlowExporterModel") (C := RX12) (T := TX12) (N := 54) (ci := 14) (v := .int 0) B (by decide +kernel) tyX12 tyX12_ok nmX12 rfl 0 (by decide) (by decide +kernel) rfl (Or.inl rfl) hc0_ hna rfl rfl (Nat.le_of_ble_eq_true rfl) dX12_observed_2 (fun Φ1 hΦ1 => ?_)
  have h_1 : Φ1 y = some (o_ 14 [.int 0, .ref (y + 1), .ref (y + 2), .int 0, .int 1, .int 1, .int 0, .int 0, .ref (y + 3), .ref (y + 4), .int 0, .long 0, .ref (y + 5), .int 0, .int 0, .long 0, .long 0, .long 0, .long 0, .ref (y + 6), .ref (y + 7), .int 0, .ref (y + 8), .int 0, .ref (y + 9), .ref (y + 10), .int 0, .ref (y + 11), .ref (y + 12), .ref (y + 13), .ref (y + 14), .ref (y + 15), .ref (y + 16), .int 0, .long (-1), .ref (y + 17), .ref (y + 18), .ref (y + 19), .ref (y + 20), .ref (y + 21), .ref (y + 22), .int 0, .ref (y + 23), .ref (y + 24), .int 0, .ref (y + 25), .int 0, .int 0, .int 0, .int (-1), .int 0, .int 0, .int 0, .long 0]) := fset_at hΦ1
  refine z_aload_n B dX12_observed_5 rfl 0 rfl ?_
  refine z_get (ref := "FlowExporterModel") (C := RX12) (T := TX12) (N := 54) (ci := 14) (v := .long 0) B (by decide +kernel) rfl 15 (by decide) (by decide +kernel) rfl h_1 rfl dX12_observed_6 ?_
  exact z_ret_l B dX12_observed_9 ⟨rfl, _, h_1, rfl⟩

set_option maxHeartbeats 4000000 in
set_option maxRecDepth 100000 in
theorem m_X12_sampled (G : EnvG) (l : Launch) (Φ : Hm) (sz : Nat) (y : Nat) (hc0_ : Φ y = some (o_ 14 [.int 0, .ref (y + 1), .ref (y + 2), .int 0, .int 1, .int 1, .int 0, .int 0, .ref (y + 3), .ref (y + 4), .int 0, .long 0, .ref (y + 5), .int 0, .int 0, .long 0, .long 0, .long 0, .long 0, .ref (y + 6), .ref (y + 7), .int 0, .ref (y + 8), .int 0, .ref (y + 9), .ref (y + 10), .int 0, .ref (y + 11), .ref (y + 12), .ref (y + 13), .ref (y + 14), .ref (y + 15), .ref (y + 16), .int 0, .long (-1), .ref (y + 17), .ref (y + 18), .ref (y + 19), .ref (y + 20), .ref (y + 21), .ref (y + 22), .int 0, .ref (y + 23), .ref (y + 24), .int 0, .ref (y + 25), .int 0, .int 0, .int 0, .int (-1), .int 0, .int 0, .int 0, .long 0])) (hna : G.2.2.2 ≤ y) : Ct G l yX12_sampled wsX12_sampled ({ frames := 0, cells := 0, slots := 0, locals := 0 }) 0 0 [.ref y] Φ sz (fun v Φ1 sz1 => v = some (.long 0) ∧ ∃ fs : List Value, Φ1 y = some (o_ 14 fs) ∧ fs[0]? = some (.int 0)) := by
  refine Ct.of (cc := cX12_sampled) (maxL := 1) (ret := (some .long)) (by decide) rfl (Nat.le_of_ble_eq_true rfl) ?_
  intro p9 e9 s9 m9 w9 t9 k9 B
  show Z p9 l e9 _ s9 m9 _ w9 t9 k9 _ G 1 0 [(0, .ref y)] [] Φ sz 0 0
  refine z_aload_n B dX12_sampled_0 rfl 0 rfl ?_
  refine z_iconst (v := 0) B dX12_sampled_1 rfl ?_
  refine z_put (ref := "FlowExporterModel") (C := RX12) (T := TX12) (N := 54) (ci := 14) (v := .int 0) B (by decide +kernel) tyX12 tyX12_ok nmX12 rfl 0 (by decide) (by decide +kernel) rfl (Or.inl rfl) hc0_ hna rfl rfl (Nat.le_of_ble_eq_true rfl) dX12_sampled_2 (fun Φ1 hΦ1 => ?_)
  have h_1 : Φ1 y = some (o_ 14 [.int 0, .ref (y + 1), .ref (y + 2), .int 0, .int 1, .int 1, .int 0, .int 0, .ref (y + 3), .ref (y + 4), .int 0, .long 0, .ref (y + 5), .int 0, .int 0, .long 0, .long 0, .long 0, .long 0, .ref (y + 6), .ref (y + 7), .int 0, .ref (y + 8), .int 0, .ref (y + 9), .ref (y + 10), .int 0, .ref (y + 11), .ref (y + 12), .ref (y + 13), .ref (y + 14), .ref (y + 15), .ref (y + 16), .int 0, .long (-1), .ref (y + 17), .ref (y + 18), .ref (y + 19), .ref (y + 20), .ref (y + 21), .ref (y + 22), .int 0, .ref (y + 23), .ref (y + 24), .int 0, .ref (y + 25), .int 0, .int 0, .int 0, .int (-1), .int 0, .int 0, .int 0, .long 0]) := fset_at hΦ1
  refine z_aload_n B dX12_sampled_5 rfl 0 rfl ?_
  refine z_get (ref := "FlowExporterModel") (C := RX12) (T := TX12) (N := 54) (ci := 14) (v := .long 0) B (by decide +kernel) rfl 16 (by decide) (by decide +kernel) rfl h_1 rfl dX12_sampled_6 ?_
  exact z_ret_l B dX12_sampled_9 ⟨rfl, _, h_1, rfl⟩

set_option maxHeartbeats 4000000 in
set_option maxRecDepth 100000 in
theorem m_X12_unsent (G : EnvG) (l : Launch) (Φ : Hm) (sz : Nat) (y : Nat) (hc0_ : Φ y = some (o_ 14 [.int 0, .ref (y + 1), .ref (y + 2), .int 0, .int 1, .int 1, .int 0, .int 0, .ref (y + 3), .ref (y + 4), .int 0, .long 0, .ref (y + 5), .int 0, .int 0, .long 0, .long 0, .long 0, .long 0, .ref (y + 6), .ref (y + 7), .int 0, .ref (y + 8), .int 0, .ref (y + 9), .ref (y + 10), .int 0, .ref (y + 11), .ref (y + 12), .ref (y + 13), .ref (y + 14), .ref (y + 15), .ref (y + 16), .int 0, .long (-1), .ref (y + 17), .ref (y + 18), .ref (y + 19), .ref (y + 20), .ref (y + 21), .ref (y + 22), .int 0, .ref (y + 23), .ref (y + 24), .int 0, .ref (y + 25), .int 0, .int 0, .int 0, .int (-1), .int 0, .int 0, .int 0, .long 0])) (hna : G.2.2.2 ≤ y) : Ct G l yX12_unsent wsX12_unsent ({ frames := 0, cells := 0, slots := 0, locals := 0 }) 0 0 [.ref y] Φ sz (fun v Φ1 sz1 => v = some (.long 0) ∧ ∃ fs : List Value, Φ1 y = some (o_ 14 fs) ∧ fs[0]? = some (.int 0)) := by
  refine Ct.of (cc := cX12_unsent) (maxL := 1) (ret := (some .long)) (by decide) rfl (Nat.le_of_ble_eq_true rfl) ?_
  intro p9 e9 s9 m9 w9 t9 k9 B
  show Z p9 l e9 _ s9 m9 _ w9 t9 k9 _ G 1 0 [(0, .ref y)] [] Φ sz 0 0
  refine z_aload_n B dX12_unsent_0 rfl 0 rfl ?_
  refine z_iconst (v := 0) B dX12_unsent_1 rfl ?_
  refine z_put (ref := "FlowExporterModel") (C := RX12) (T := TX12) (N := 54) (ci := 14) (v := .int 0) B (by decide +kernel) tyX12 tyX12_ok nmX12 rfl 0 (by decide) (by decide +kernel) rfl (Or.inl rfl) hc0_ hna rfl rfl (Nat.le_of_ble_eq_true rfl) dX12_unsent_2 (fun Φ1 hΦ1 => ?_)
  have h_1 : Φ1 y = some (o_ 14 [.int 0, .ref (y + 1), .ref (y + 2), .int 0, .int 1, .int 1, .int 0, .int 0, .ref (y + 3), .ref (y + 4), .int 0, .long 0, .ref (y + 5), .int 0, .int 0, .long 0, .long 0, .long 0, .long 0, .ref (y + 6), .ref (y + 7), .int 0, .ref (y + 8), .int 0, .ref (y + 9), .ref (y + 10), .int 0, .ref (y + 11), .ref (y + 12), .ref (y + 13), .ref (y + 14), .ref (y + 15), .ref (y + 16), .int 0, .long (-1), .ref (y + 17), .ref (y + 18), .ref (y + 19), .ref (y + 20), .ref (y + 21), .ref (y + 22), .int 0, .ref (y + 23), .ref (y + 24), .int 0, .ref (y + 25), .int 0, .int 0, .int 0, .int (-1), .int 0, .int 0, .int 0, .long 0]) := fset_at hΦ1
  refine z_aload_n B dX12_unsent_5 rfl 0 rfl ?_
  refine z_get (ref := "FlowExporterModel") (C := RX12) (T := TX12) (N := 54) (ci := 14) (v := .long 0) B (by decide +kernel) rfl 18 (by decide) (by decide +kernel) rfl h_1 rfl dX12_unsent_6 ?_
  exact z_ret_l B dX12_unsent_9 ⟨rfl, _, h_1, rfl⟩

set_option maxHeartbeats 4000000 in
set_option maxRecDepth 100000 in
theorem m_X12_sent (G : EnvG) (l : Launch) (Φ : Hm) (sz : Nat) (y : Nat) (hc0_ : Φ y = some (o_ 14 [.int 0, .ref (y + 1), .ref (y + 2), .int 0, .int 1, .int 1, .int 0, .int 0, .ref (y + 3), .ref (y + 4), .int 0, .long 0, .ref (y + 5), .int 0, .int 0, .long 0, .long 0, .long 0, .long 0, .ref (y + 6), .ref (y + 7), .int 0, .ref (y + 8), .int 0, .ref (y + 9), .ref (y + 10), .int 0, .ref (y + 11), .ref (y + 12), .ref (y + 13), .ref (y + 14), .ref (y + 15), .ref (y + 16), .int 0, .long (-1), .ref (y + 17), .ref (y + 18), .ref (y + 19), .ref (y + 20), .ref (y + 21), .ref (y + 22), .int 0, .ref (y + 23), .ref (y + 24), .int 0, .ref (y + 25), .int 0, .int 0, .int 0, .int (-1), .int 0, .int 0, .int 0, .long 0])) (hna : G.2.2.2 ≤ y) : Ct G l yX12_sent wsX12_sent ({ frames := 0, cells := 0, slots := 0, locals := 0 }) 0 0 [.ref y] Φ sz (fun v Φ1 sz1 => v = some (.long 0) ∧ ∃ fs : List Value, Φ1 y = some (o_ 14 fs) ∧ fs[0]? = some (.int 0)) := by
  refine Ct.of (cc := cX12_sent) (maxL := 1) (ret := (some .long)) (by decide) rfl (Nat.le_of_ble_eq_true rfl) ?_
  intro p9 e9 s9 m9 w9 t9 k9 B
  show Z p9 l e9 _ s9 m9 _ w9 t9 k9 _ G 1 0 [(0, .ref y)] [] Φ sz 0 0
  refine z_aload_n B dX12_sent_0 rfl 0 rfl ?_
  refine z_iconst (v := 0) B dX12_sent_1 rfl ?_
  refine z_put (ref := "FlowExporterModel") (C := RX12) (T := TX12) (N := 54) (ci := 14) (v := .int 0) B (by decide +kernel) tyX12 tyX12_ok nmX12 rfl 0 (by decide) (by decide +kernel) rfl (Or.inl rfl) hc0_ hna rfl rfl (Nat.le_of_ble_eq_true rfl) dX12_sent_2 (fun Φ1 hΦ1 => ?_)
  have h_1 : Φ1 y = some (o_ 14 [.int 0, .ref (y + 1), .ref (y + 2), .int 0, .int 1, .int 1, .int 0, .int 0, .ref (y + 3), .ref (y + 4), .int 0, .long 0, .ref (y + 5), .int 0, .int 0, .long 0, .long 0, .long 0, .long 0, .ref (y + 6), .ref (y + 7), .int 0, .ref (y + 8), .int 0, .ref (y + 9), .ref (y + 10), .int 0, .ref (y + 11), .ref (y + 12), .ref (y + 13), .ref (y + 14), .ref (y + 15), .ref (y + 16), .int 0, .long (-1), .ref (y + 17), .ref (y + 18), .ref (y + 19), .ref (y + 20), .ref (y + 21), .ref (y + 22), .int 0, .ref (y + 23), .ref (y + 24), .int 0, .ref (y + 25), .int 0, .int 0, .int 0, .int (-1), .int 0, .int 0, .int 0, .long 0]) := fset_at hΦ1
  refine z_aload_n B dX12_sent_5 rfl 0 rfl ?_
  refine z_get (ref := "FlowExporterModel") (C := RX12) (T := TX12) (N := 54) (ci := 14) (v := .long 0) B (by decide +kernel) rfl 17 (by decide) (by decide +kernel) rfl h_1 rfl dX12_sent_6 ?_
  exact z_ret_l B dX12_sent_9 ⟨rfl, _, h_1, rfl⟩

set_option maxHeartbeats 4000000 in
set_option maxRecDepth 100000 in
theorem m_X12_dropped (G : EnvG) (l : Launch) (Φ : Hm) (sz : Nat) (y : Nat) (hc0_ : Φ y = some (o_ 14 [.int 0, .ref (y + 1), .ref (y + 2), .int 0, .int 1, .int 1, .int 0, .int 0, .ref (y + 3), .ref (y + 4), .int 0, .long 0, .ref (y + 5), .int 0, .int 0, .long 0, .long 0, .long 0, .long 0, .ref (y + 6), .ref (y + 7), .int 0, .ref (y + 8), .int 0, .ref (y + 9), .ref (y + 10), .int 0, .ref (y + 11), .ref (y + 12), .ref (y + 13), .ref (y + 14), .ref (y + 15), .ref (y + 16), .int 0, .long (-1), .ref (y + 17), .ref (y + 18), .ref (y + 19), .ref (y + 20), .ref (y + 21), .ref (y + 22), .int 0, .ref (y + 23), .ref (y + 24), .int 0, .ref (y + 25), .int 0, .int 0, .int 0, .int (-1), .int 0, .int 0, .int 0, .long 0])) (hna : G.2.2.2 ≤ y) : Ct G l yX12_dropped wsX12_dropped ({ frames := 0, cells := 0, slots := 0, locals := 0 }) 0 0 [.ref y] Φ sz (fun v Φ1 sz1 => v = some (.int 0) ∧ ∃ fs : List Value, Φ1 y = some (o_ 14 fs) ∧ fs[0]? = some (.int 0)) := by
  refine Ct.of (cc := cX12_dropped) (maxL := 1) (ret := (some .int)) (by decide) rfl (Nat.le_of_ble_eq_true rfl) ?_
  intro p9 e9 s9 m9 w9 t9 k9 B
  show Z p9 l e9 _ s9 m9 _ w9 t9 k9 _ G 1 0 [(0, .ref y)] [] Φ sz 0 0
  refine z_aload_n B dX12_dropped_0 rfl 0 rfl ?_
  refine z_iconst (v := 0) B dX12_dropped_1 rfl ?_
  refine z_put (ref := "FlowExporterModel") (C := RX12) (T := TX12) (N := 54) (ci := 14) (v := .int 0) B (by decide +kernel) tyX12 tyX12_ok nmX12 rfl 0 (by decide) (by decide +kernel) rfl (Or.inl rfl) hc0_ hna rfl rfl (Nat.le_of_ble_eq_true rfl) dX12_dropped_2 (fun Φ1 hΦ1 => ?_)
  have h_1 : Φ1 y = some (o_ 14 [.int 0, .ref (y + 1), .ref (y + 2), .int 0, .int 1, .int 1, .int 0, .int 0, .ref (y + 3), .ref (y + 4), .int 0, .long 0, .ref (y + 5), .int 0, .int 0, .long 0, .long 0, .long 0, .long 0, .ref (y + 6), .ref (y + 7), .int 0, .ref (y + 8), .int 0, .ref (y + 9), .ref (y + 10), .int 0, .ref (y + 11), .ref (y + 12), .ref (y + 13), .ref (y + 14), .ref (y + 15), .ref (y + 16), .int 0, .long (-1), .ref (y + 17), .ref (y + 18), .ref (y + 19), .ref (y + 20), .ref (y + 21), .ref (y + 22), .int 0, .ref (y + 23), .ref (y + 24), .int 0, .ref (y + 25), .int 0, .int 0, .int 0, .int (-1), .int 0, .int 0, .int 0, .long 0]) := fset_at hΦ1
  refine z_aload_n B dX12_dropped_5 rfl 0 rfl ?_
  refine z_get (ref := "FlowExporterModel") (C := RX12) (T := TX12) (N := 54) (ci := 14) (v := .int 0) B (by decide +kernel) rfl 14 (by decide) (by decide +kernel) rfl h_1 rfl dX12_dropped_6 ?_
  exact z_ret_i B dX12_dropped_9 ⟨rfl, _, h_1, rfl⟩

set_option maxHeartbeats 4000000 in
set_option maxRecDepth 100000 in
theorem m_X12_sequence (G : EnvG) (l : Launch) (Φ : Hm) (sz : Nat) (y : Nat) (hc0_ : Φ y = some (o_ 14 [.int 0, .ref (y + 1), .ref (y + 2), .int 0, .int 1, .int 1, .int 0, .int 0, .ref (y + 3), .ref (y + 4), .int 0, .long 0, .ref (y + 5), .int 0, .int 0, .long 0, .long 0, .long 0, .long 0, .ref (y + 6), .ref (y + 7), .int 0, .ref (y + 8), .int 0, .ref (y + 9), .ref (y + 10), .int 0, .ref (y + 11), .ref (y + 12), .ref (y + 13), .ref (y + 14), .ref (y + 15), .ref (y + 16), .int 0, .long (-1), .ref (y + 17), .ref (y + 18), .ref (y + 19), .ref (y + 20), .ref (y + 21), .ref (y + 22), .int 0, .ref (y + 23), .ref (y + 24), .int 0, .ref (y + 25), .int 0, .int 0, .int 0, .int (-1), .int 0, .int 0, .int 0, .long 0])) (hna : G.2.2.2 ≤ y) : Ct G l yX12_sequence wsX12_sequence ({ frames := 0, cells := 0, slots := 0, locals := 0 }) 0 0 [.ref y] Φ sz (fun v Φ1 sz1 => v = some (.long 0) ∧ ∃ fs : List Value, Φ1 y = some (o_ 14 fs) ∧ fs[0]? = some (.int 0)) := by
  refine Ct.of (cc := cX12_sequence) (maxL := 1) (ret := (some .long)) (by decide) rfl (Nat.le_of_ble_eq_true rfl) ?_
  intro p9 e9 s9 m9 w9 t9 k9 B
  show Z p9 l e9 _ s9 m9 _ w9 t9 k9 _ G 1 0 [(0, .ref y)] [] Φ sz 0 0
  refine z_aload_n B dX12_sequence_0 rfl 0 rfl ?_
  refine z_iconst (v := 0) B dX12_sequence_1 rfl ?_
  refine z_put (ref := "FlowExporterModel") (C := RX12) (T := TX12) (N := 54) (ci := 14) (v := .int 0) B (by decide +kernel) tyX12 tyX12_ok nmX12 rfl 0 (by decide) (by decide +kernel) rfl (Or.inl rfl) hc0_ hna rfl rfl (Nat.le_of_ble_eq_true rfl) dX12_sequence_2 (fun Φ1 hΦ1 => ?_)
  have h_1 : Φ1 y = some (o_ 14 [.int 0, .ref (y + 1), .ref (y + 2), .int 0, .int 1, .int 1, .int 0, .int 0, .ref (y + 3), .ref (y + 4), .int 0, .long 0, .ref (y + 5), .int 0, .int 0, .long 0, .long 0, .long 0, .long 0, .ref (y + 6), .ref (y + 7), .int 0, .ref (y + 8), .int 0, .ref (y + 9), .ref (y + 10), .int 0, .ref (y + 11), .ref (y + 12), .ref (y + 13), .ref (y + 14), .ref (y + 15), .ref (y + 16), .int 0, .long (-1), .ref (y + 17), .ref (y + 18), .ref (y + 19), .ref (y + 20), .ref (y + 21), .ref (y + 22), .int 0, .ref (y + 23), .ref (y + 24), .int 0, .ref (y + 25), .int 0, .int 0, .int 0, .int (-1), .int 0, .int 0, .int 0, .long 0]) := fset_at hΦ1
  refine z_aload_n B dX12_sequence_5 rfl 0 rfl ?_
  refine z_get (ref := "FlowExporterModel") (C := RX12) (T := TX12) (N := 54) (ci := 14) (v := .long 0) B (by decide +kernel) rfl 11 (by decide) (by decide +kernel) rfl h_1 rfl dX12_sequence_6 ?_
  exact z_ret_l B dX12_sequence_9 ⟨rfl, _, h_1, rfl⟩

set_option maxHeartbeats 4000000 in
set_option maxRecDepth 100000 in
theorem m_X12_queueLength (G : EnvG) (l : Launch) (Φ : Hm) (sz : Nat) (y : Nat) (hc0_ : Φ y = some (o_ 14 [.int 0, .ref (y + 1), .ref (y + 2), .int 0, .int 1, .int 1, .int 0, .int 0, .ref (y + 3), .ref (y + 4), .int 0, .long 0, .ref (y + 5), .int 0, .int 0, .long 0, .long 0, .long 0, .long 0, .ref (y + 6), .ref (y + 7), .int 0, .ref (y + 8), .int 0, .ref (y + 9), .ref (y + 10), .int 0, .ref (y + 11), .ref (y + 12), .ref (y + 13), .ref (y + 14), .ref (y + 15), .ref (y + 16), .int 0, .long (-1), .ref (y + 17), .ref (y + 18), .ref (y + 19), .ref (y + 20), .ref (y + 21), .ref (y + 22), .int 0, .ref (y + 23), .ref (y + 24), .int 0, .ref (y + 25), .int 0, .int 0, .int 0, .int (-1), .int 0, .int 0, .int 0, .long 0])) (hna : G.2.2.2 ≤ y) : Ct G l yX12_queueLength wsX12_queueLength ({ frames := 0, cells := 0, slots := 0, locals := 0 }) 0 0 [.ref y] Φ sz (fun v Φ1 sz1 => v = some (.int 0) ∧ ∃ fs : List Value, Φ1 y = some (o_ 14 fs) ∧ fs[0]? = some (.int 0)) := by
  refine Ct.of (cc := cX12_queueLength) (maxL := 1) (ret := (some .int)) (by decide) rfl (Nat.le_of_ble_eq_true rfl) ?_
  intro p9 e9 s9 m9 w9 t9 k9 B
  show Z p9 l e9 _ s9 m9 _ w9 t9 k9 _ G 1 0 [(0, .ref y)] [] Φ sz 0 0
  refine z_aload_n B dX12_queueLength_0 rfl 0 rfl ?_
  refine z_iconst (v := 0) B dX12_queueLength_1 rfl ?_
  refine z_put (ref := "FlowExporterModel") (C := RX12) (T := TX12) (N := 54) (ci := 14) (v := .int 0) B (by decide +kernel) tyX12 tyX12_ok nmX12 rfl 0 (by decide) (by decide +kernel) rfl (Or.inl rfl) hc0_ hna rfl rfl (Nat.le_of_ble_eq_true rfl) dX12_queueLength_2 (fun Φ1 hΦ1 => ?_)
  have h_1 : Φ1 y = some (o_ 14 [.int 0, .ref (y + 1), .ref (y + 2), .int 0, .int 1, .int 1, .int 0, .int 0, .ref (y + 3), .ref (y + 4), .int 0, .long 0, .ref (y + 5), .int 0, .int 0, .long 0, .long 0, .long 0, .long 0, .ref (y + 6), .ref (y + 7), .int 0, .ref (y + 8), .int 0, .ref (y + 9), .ref (y + 10), .int 0, .ref (y + 11), .ref (y + 12), .ref (y + 13), .ref (y + 14), .ref (y + 15), .ref (y + 16), .int 0, .long (-1), .ref (y + 17), .ref (y + 18), .ref (y + 19), .ref (y + 20), .ref (y + 21), .ref (y + 22), .int 0, .ref (y + 23), .ref (y + 24), .int 0, .ref (y + 25), .int 0, .int 0, .int 0, .int (-1), .int 0, .int 0, .int 0, .long 0]) := fset_at hΦ1
  refine z_aload_n B dX12_queueLength_5 rfl 0 rfl ?_
  refine z_get (ref := "FlowExporterModel") (C := RX12) (T := TX12) (N := 54) (ci := 14) (v := .int 0) B (by decide +kernel) rfl 26 (by decide) (by decide +kernel) rfl h_1 rfl dX12_queueLength_6 ?_
  exact z_ret_i B dX12_queueLength_9 ⟨rfl, _, h_1, rfl⟩

set_option maxHeartbeats 4000000 in
set_option maxRecDepth 100000 in
theorem m_X12_keyCount (G : EnvG) (l : Launch) (Φ : Hm) (sz : Nat) (y : Nat) (hc0_ : Φ y = some (o_ 14 [.int 0, .ref (y + 1), .ref (y + 2), .int 0, .int 1, .int 1, .int 0, .int 0, .ref (y + 3), .ref (y + 4), .int 0, .long 0, .ref (y + 5), .int 0, .int 0, .long 0, .long 0, .long 0, .long 0, .ref (y + 6), .ref (y + 7), .int 0, .ref (y + 8), .int 0, .ref (y + 9), .ref (y + 10), .int 0, .ref (y + 11), .ref (y + 12), .ref (y + 13), .ref (y + 14), .ref (y + 15), .ref (y + 16), .int 0, .long (-1), .ref (y + 17), .ref (y + 18), .ref (y + 19), .ref (y + 20), .ref (y + 21), .ref (y + 22), .int 0, .ref (y + 23), .ref (y + 24), .int 0, .ref (y + 25), .int 0, .int 0, .int 0, .int (-1), .int 0, .int 0, .int 0, .long 0])) (hna : G.2.2.2 ≤ y) : Ct G l yX12_keyCount wsX12_keyCount ({ frames := 0, cells := 0, slots := 0, locals := 0 }) 0 0 [.ref y] Φ sz (fun v Φ1 sz1 => v = some (.int 0) ∧ ∃ fs : List Value, Φ1 y = some (o_ 14 fs) ∧ fs[0]? = some (.int 0)) := by
  refine Ct.of (cc := cX12_keyCount) (maxL := 1) (ret := (some .int)) (by decide) rfl (Nat.le_of_ble_eq_true rfl) ?_
  intro p9 e9 s9 m9 w9 t9 k9 B
  show Z p9 l e9 _ s9 m9 _ w9 t9 k9 _ G 1 0 [(0, .ref y)] [] Φ sz 0 0
  refine z_aload_n B dX12_keyCount_0 rfl 0 rfl ?_
  refine z_iconst (v := 0) B dX12_keyCount_1 rfl ?_
  refine z_put (ref := "FlowExporterModel") (C := RX12) (T := TX12) (N := 54) (ci := 14) (v := .int 0) B (by decide +kernel) tyX12 tyX12_ok nmX12 rfl 0 (by decide) (by decide +kernel) rfl (Or.inl rfl) hc0_ hna rfl rfl (Nat.le_of_ble_eq_true rfl) dX12_keyCount_2 (fun Φ1 hΦ1 => ?_)
  have h_1 : Φ1 y = some (o_ 14 [.int 0, .ref (y + 1), .ref (y + 2), .int 0, .int 1, .int 1, .int 0, .int 0, .ref (y + 3), .ref (y + 4), .int 0, .long 0, .ref (y + 5), .int 0, .int 0, .long 0, .long 0, .long 0, .long 0, .ref (y + 6), .ref (y + 7), .int 0, .ref (y + 8), .int 0, .ref (y + 9), .ref (y + 10), .int 0, .ref (y + 11), .ref (y + 12), .ref (y + 13), .ref (y + 14), .ref (y + 15), .ref (y + 16), .int 0, .long (-1), .ref (y + 17), .ref (y + 18), .ref (y + 19), .ref (y + 20), .ref (y + 21), .ref (y + 22), .int 0, .ref (y + 23), .ref (y + 24), .int 0, .ref (y + 25), .int 0, .int 0, .int 0, .int (-1), .int 0, .int 0, .int 0, .long 0]) := fset_at hΦ1
  refine z_aload_n B dX12_keyCount_5 rfl 0 rfl ?_
  refine z_get (ref := "FlowExporterModel") (C := RX12) (T := TX12) (N := 54) (ci := 14) (v := .int 0) B (by decide +kernel) rfl 41 (by decide) (by decide +kernel) rfl h_1 rfl dX12_keyCount_6 ?_
  exact z_ret_i B dX12_keyCount_9 ⟨rfl, _, h_1, rfl⟩

set_option maxHeartbeats 4000000 in
set_option maxRecDepth 100000 in
theorem m_X12_deliverAll (G : EnvG) (l : Launch) (Φ : Hm) (sz : Nat) (y : Nat) (hc0_ : Φ y = some (o_ 14 [.int 0, .ref (y + 1), .ref (y + 2), .int 0, .int 1, .int 1, .int 0, .int 0, .ref (y + 3), .ref (y + 4), .int 0, .long 0, .ref (y + 5), .int 0, .int 0, .long 0, .long 0, .long 0, .long 0, .ref (y + 6), .ref (y + 7), .int 0, .ref (y + 8), .int 0, .ref (y + 9), .ref (y + 10), .int 0, .ref (y + 11), .ref (y + 12), .ref (y + 13), .ref (y + 14), .ref (y + 15), .ref (y + 16), .int 0, .long (-1), .ref (y + 17), .ref (y + 18), .ref (y + 19), .ref (y + 20), .ref (y + 21), .ref (y + 22), .int 0, .ref (y + 23), .ref (y + 24), .int 0, .ref (y + 25), .int 0, .int 0, .int 0, .int (-1), .int 0, .int 0, .int 0, .long 0])) (hna : G.2.2.2 ≤ y) : Ct G l yX12_deliverAll wsX12_deliverAll ({ frames := 0, cells := 0, slots := 0, locals := 0 }) 0 0 [.ref y] Φ sz (fun v Φ1 sz1 => v = some (.int 0) ∧ ∃ fs : List Value, Φ1 y = some (o_ 14 fs) ∧ fs[0]? = some (.int 0)) := by
  refine Ct.of (cc := cX12_deliverAll) (maxL := 2) (ret := (some .int)) (by decide) rfl (Nat.le_of_ble_eq_true rfl) ?_
  intro p9 e9 s9 m9 w9 t9 k9 B
  show Z p9 l e9 _ s9 m9 _ w9 t9 k9 _ G 2 0 [(0, .ref y)] [] Φ sz 0 0
  refine z_aload_n B dX12_deliverAll_0 rfl 0 rfl ?_
  refine z_iconst (v := 0) B dX12_deliverAll_1 rfl ?_
  refine z_put (ref := "FlowExporterModel") (C := RX12) (T := TX12) (N := 54) (ci := 14) (v := .int 0) B (by decide +kernel) tyX12 tyX12_ok nmX12 rfl 0 (by decide) (by decide +kernel) rfl (Or.inl rfl) hc0_ hna rfl rfl (Nat.le_of_ble_eq_true rfl) dX12_deliverAll_2 (fun Φ1 hΦ1 => ?_)
  have h_1 : Φ1 y = some (o_ 14 [.int 0, .ref (y + 1), .ref (y + 2), .int 0, .int 1, .int 1, .int 0, .int 0, .ref (y + 3), .ref (y + 4), .int 0, .long 0, .ref (y + 5), .int 0, .int 0, .long 0, .long 0, .long 0, .long 0, .ref (y + 6), .ref (y + 7), .int 0, .ref (y + 8), .int 0, .ref (y + 9), .ref (y + 10), .int 0, .ref (y + 11), .ref (y + 12), .ref (y + 13), .ref (y + 14), .ref (y + 15), .ref (y + 16), .int 0, .long (-1), .ref (y + 17), .ref (y + 18), .ref (y + 19), .ref (y + 20), .ref (y + 21), .ref (y + 22), .int 0, .ref (y + 23), .ref (y + 24), .int 0, .ref (y + 25), .int 0, .int 0, .int 0, .int (-1), .int 0, .int 0, .int 0, .long 0]) := fset_at hΦ1
  refine z_iconst (v := 0) B dX12_deliverAll_5 rfl ?_
  refine z_istore_n (lv' := [(1, .int 0), (0, .ref y)]) B dX12_deliverAll_6 rfl (Nat.le_of_ble_eq_true rfl) rfl ?_
  refine z_aload_n B dX12_deliverAll_7 rfl 1 rfl ?_
  refine z_get (ref := "FlowExporterModel") (C := RX12) (T := TX12) (N := 54) (ci := 14) (v := .int 0) B (by decide +kernel) rfl 26 (by decide) (by decide +kernel) rfl h_1 rfl dX12_deliverAll_8 ?_
  refine z_if_le (tgt := 25) B dX12_deliverAll_11 rfl (fun c_1 => ?_) (fun h9 => absurd (by decide) h9)
  refine z_iload_n B dX12_deliverAll_25 rfl 0 rfl ?_
  exact z_ret_i B dX12_deliverAll_26 ⟨rfl, _, h_1, rfl⟩

set_option maxHeartbeats 4000000 in
set_option maxRecDepth 100000 in
theorem m_X12_expected (G : EnvG) (l : Launch) (Φ : Hm) (sz : Nat) (y : Nat) (hc0_ : Φ y = some (o_ 14 [.int 0, .ref (y + 1), .ref (y + 2), .int 0, .int 1, .int 1, .int 0, .int 0, .ref (y + 3), .ref (y + 4), .int 0, .long 0, .ref (y + 5), .int 0, .int 0, .long 0, .long 0, .long 0, .long 0, .ref (y + 6), .ref (y + 7), .int 0, .ref (y + 8), .int 0, .ref (y + 9), .ref (y + 10), .int 0, .ref (y + 11), .ref (y + 12), .ref (y + 13), .ref (y + 14), .ref (y + 15), .ref (y + 16), .int 0, .long (-1), .ref (y + 17), .ref (y + 18), .ref (y + 19), .ref (y + 20), .ref (y + 21), .ref (y + 22), .int 0, .ref (y + 23), .ref (y + 24), .int 0, .ref (y + 25), .int 0, .int 0, .int 0, .int (-1), .int 0, .int 0, .int 0, .long 0])) (hna : G.2.2.2 ≤ y) : Ct G l yX12_expected wsX12_expected ({ frames := 0, cells := 0, slots := 0, locals := 0 }) 0 0 [.ref y] Φ sz (fun v Φ1 sz1 => v = some (.long (-1)) ∧ ∃ fs : List Value, Φ1 y = some (o_ 14 fs) ∧ fs[0]? = some (.int 0)) := by
  refine Ct.of (cc := cX12_expected) (maxL := 1) (ret := (some .long)) (by decide) rfl (Nat.le_of_ble_eq_true rfl) ?_
  intro p9 e9 s9 m9 w9 t9 k9 B
  show Z p9 l e9 _ s9 m9 _ w9 t9 k9 _ G 1 0 [(0, .ref y)] [] Φ sz 0 0
  refine z_aload_n B dX12_expected_0 rfl 0 rfl ?_
  refine z_iconst (v := 0) B dX12_expected_1 rfl ?_
  refine z_put (ref := "FlowExporterModel") (C := RX12) (T := TX12) (N := 54) (ci := 14) (v := .int 0) B (by decide +kernel) tyX12 tyX12_ok nmX12 rfl 0 (by decide) (by decide +kernel) rfl (Or.inl rfl) hc0_ hna rfl rfl (Nat.le_of_ble_eq_true rfl) dX12_expected_2 (fun Φ1 hΦ1 => ?_)
  have h_1 : Φ1 y = some (o_ 14 [.int 0, .ref (y + 1), .ref (y + 2), .int 0, .int 1, .int 1, .int 0, .int 0, .ref (y + 3), .ref (y + 4), .int 0, .long 0, .ref (y + 5), .int 0, .int 0, .long 0, .long 0, .long 0, .long 0, .ref (y + 6), .ref (y + 7), .int 0, .ref (y + 8), .int 0, .ref (y + 9), .ref (y + 10), .int 0, .ref (y + 11), .ref (y + 12), .ref (y + 13), .ref (y + 14), .ref (y + 15), .ref (y + 16), .int 0, .long (-1), .ref (y + 17), .ref (y + 18), .ref (y + 19), .ref (y + 20), .ref (y + 21), .ref (y + 22), .int 0, .ref (y + 23), .ref (y + 24), .int 0, .ref (y + 25), .int 0, .int 0, .int 0, .int (-1), .int 0, .int 0, .int 0, .long 0]) := fset_at hΦ1
  refine z_aload_n B dX12_expected_5 rfl 0 rfl ?_
  refine z_get (ref := "FlowExporterModel") (C := RX12) (T := TX12) (N := 54) (ci := 14) (v := .long (-1)) B (by decide +kernel) rfl 34 (by decide) (by decide +kernel) rfl h_1 rfl dX12_expected_6 ?_
  exact z_ret_l B dX12_expected_9 ⟨rfl, _, h_1, rfl⟩

set_option maxHeartbeats 4000000 in
set_option maxRecDepth 100000 in
theorem m_X12_restartExporter (G : EnvG) (l : Launch) (Φ : Hm) (sz : Nat) (y : Nat) (hc0_ : Φ y = some (o_ 14 [.int 0, .ref (y + 1), .ref (y + 2), .int 0, .int 1, .int 1, .int 0, .int 0, .ref (y + 3), .ref (y + 4), .int 0, .long 0, .ref (y + 5), .int 0, .int 0, .long 0, .long 0, .long 0, .long 0, .ref (y + 6), .ref (y + 7), .int 0, .ref (y + 8), .int 0, .ref (y + 9), .ref (y + 10), .int 0, .ref (y + 11), .ref (y + 12), .ref (y + 13), .ref (y + 14), .ref (y + 15), .ref (y + 16), .int 0, .long (-1), .ref (y + 17), .ref (y + 18), .ref (y + 19), .ref (y + 20), .ref (y + 21), .ref (y + 22), .int 0, .ref (y + 23), .ref (y + 24), .int 0, .ref (y + 25), .int 0, .int 0, .int 0, .int (-1), .int 0, .int 0, .int 0, .long 0])) (hc3_ : Φ (y + 3) = some (ai_ G 4 (upd (upd (upd (upd (fun _ => 0) (0 : Int32).toNatClampNeg (-1)) (1 : Int32).toNatClampNeg (-1)) (2 : Int32).toNatClampNeg (-1)) (3 : Int32).toNatClampNeg (-1)))) (hna : G.2.2.2 ≤ y) : Ct G l yX12_restartExporter wsX12_restartExporter ({ frames := 1, cells := 0, slots := 0, locals := 21 }) 0 0 [.ref y] Φ sz (fun v Φ1 sz1 => v = some (.int 0) ∧ ∃ fs : List Value, Φ1 y = some (o_ 14 fs) ∧ fs[0]? = some (.int 0)) := by
  refine Ct.of (cc := cX12_restartExporter) (maxL := 2) (ret := (some .int)) (by decide) rfl (Nat.le_of_ble_eq_true rfl) ?_
  intro p9 e9 s9 m9 w9 t9 k9 B
  show Z p9 l e9 _ s9 m9 _ w9 t9 k9 _ G 2 0 [(0, .ref y)] [] Φ sz 0 0
  refine z_aload_n B dX12_restartExporter_0 rfl 0 rfl ?_
  refine z_iconst (v := 0) B dX12_restartExporter_1 rfl ?_
  refine z_put (ref := "FlowExporterModel") (C := RX12) (T := TX12) (N := 54) (ci := 14) (v := .int 0) B (by decide +kernel) tyX12 tyX12_ok nmX12 rfl 0 (by decide) (by decide +kernel) rfl (Or.inl rfl) hc0_ hna rfl rfl (Nat.le_of_ble_eq_true rfl) dX12_restartExporter_2 (fun Φ1 hΦ1 => ?_)
  have h_1 : Φ1 y = some (o_ 14 [.int 0, .ref (y + 1), .ref (y + 2), .int 0, .int 1, .int 1, .int 0, .int 0, .ref (y + 3), .ref (y + 4), .int 0, .long 0, .ref (y + 5), .int 0, .int 0, .long 0, .long 0, .long 0, .long 0, .ref (y + 6), .ref (y + 7), .int 0, .ref (y + 8), .int 0, .ref (y + 9), .ref (y + 10), .int 0, .ref (y + 11), .ref (y + 12), .ref (y + 13), .ref (y + 14), .ref (y + 15), .ref (y + 16), .int 0, .long (-1), .ref (y + 17), .ref (y + 18), .ref (y + 19), .ref (y + 20), .ref (y + 21), .ref (y + 22), .int 0, .ref (y + 23), .ref (y + 24), .int 0, .ref (y + 25), .int 0, .int 0, .int 0, .int (-1), .int 0, .int 0, .int 0, .long 0]) := fset_at hΦ1
  refine z_aload_n B dX12_restartExporter_5 rfl 0 rfl ?_
  refine z_get (ref := "FlowExporterModel") (C := RX12) (T := TX12) (N := 54) (ci := 14) (v := .int 0) B (by decide +kernel) rfl 13 (by decide) (by decide +kernel) rfl h_1 rfl dX12_restartExporter_6 ?_
  refine z_istore_n (lv' := [(1, .int 0), (0, .ref y)]) B dX12_restartExporter_9 rfl (Nat.le_of_ble_eq_true rfl) rfl ?_
  refine z_aload_n B dX12_restartExporter_10 rfl 1 rfl ?_
  have h_2 : Φ1 (y + 3) = some (ai_ G 4 (upd (upd (upd (upd (fun _ => 0) (0 : Int32).toNatClampNeg (-1)) (1 : Int32).toNatClampNeg (-1)) (2 : Int32).toNatClampNeg (-1)) (3 : Int32).toNatClampNeg (-1))) := ((fset_fr hΦ1 (ne_off (x := y) (i := 3) (j := 0) rfl)).trans hc3_)
  refine z_callV (As := []) (rest := []) B (c_X12_startExporter G l Φ1 sz y 0 0 1 1 0 0 0 0 0 0 0 0 0 0 0 0 0 0 (-1) 0 0 0 0 0 (-1) 0 0 0 0 (upd (upd (upd (upd (fun _ => 0) (0 : Int32).toNatClampNeg (-1)) (1 : Int32).toNatClampNeg (-1)) (2 : Int32).toNatClampNeg (-1)) (3 : Int32).toNatClampNeg (-1)) h_1 h_2 hna) (cwV 0 B.1.2.2.2.2 gX12_restartExporter_X12_startExporter rfl rfl rfl (by decide +kernel) ⟨Nat.le_of_ble_eq_true rfl, Nat.le_of_ble_eq_true rfl⟩) h_1 rfl rfl rfl rfl (Nat.le_of_ble_eq_true rfl) dX12_restartExporter_11 ⟨Nat.le_of_ble_eq_true rfl, Nat.le_of_ble_eq_true rfl⟩ (fun v1 Φ2 sz1 st1 hp1 hs1 => ?_)
  obtain ⟨rfl, hq1, fr1, h_3, h_4⟩ := hp1
  replace hq1 : sz1 = sz := hq1
  subst sz1
  replace hs1 : st1 = [] := hs1
  subst st1
  have h_5 : Φ2 y = some (o_ 14 [.int 0, .ref (y + 1), .ref (y + 2), .int 0, .int 1, .int 1, .int 0, .int 0, .ref (y + 3), .ref (y + 4), .int 0, .long 0, .ref (y + 5), .int 0, .int 0, .long 0, .long 0, .long 0, .long 0, .ref (y + 6), .ref (y + 7), .int 0, .ref (y + 8), .int 0, .ref (y + 9), .ref (y + 10), .int 0, .ref (y + 11), .ref (y + 12), .ref (y + 13), .ref (y + 14), .ref (y + 15), .ref (y + 16), .int 0, .long (-1), .ref (y + 17), .ref (y + 18), .ref (y + 19), .ref (y + 20), .ref (y + 21), .ref (y + 22), .int 0, .ref (y + 23), .ref (y + 24), .int 0, .ref (y + 25), .int 0, .int 0, .int 0, .int (-1), .int 0, .int 0, .int 0, .long 0]) := h_3
  have h_6 : Φ2 (y + 3) = some (ai_ G 4 (upd (upd (upd (upd (upd (upd (upd (upd (fun _ => 0) (0 : Int32).toNatClampNeg (-1)) (1 : Int32).toNatClampNeg (-1)) (2 : Int32).toNatClampNeg (-1)) (3 : Int32).toNatClampNeg (-1)) (0 : Int32).toNatClampNeg (-1)) (1 : Int32).toNatClampNeg (-1)) (2 : Int32).toNatClampNeg (-1)) (3 : Int32).toNatClampNeg (-1))) := h_4
  refine z_iload_n B dX12_restartExporter_14 rfl 0 rfl ?_
  exact z_ret_i B dX12_restartExporter_15 ⟨rfl, _, h_5, rfl⟩

set_option maxHeartbeats 4000000 in
set_option maxRecDepth 100000 in
theorem m_X12_restartCollector (G : EnvG) (l : Launch) (Φ : Hm) (sz : Nat) (y : Nat) (hc0_ : Φ y = some (o_ 14 [.int 0, .ref (y + 1), .ref (y + 2), .int 0, .int 1, .int 1, .int 0, .int 0, .ref (y + 3), .ref (y + 4), .int 0, .long 0, .ref (y + 5), .int 0, .int 0, .long 0, .long 0, .long 0, .long 0, .ref (y + 6), .ref (y + 7), .int 0, .ref (y + 8), .int 0, .ref (y + 9), .ref (y + 10), .int 0, .ref (y + 11), .ref (y + 12), .ref (y + 13), .ref (y + 14), .ref (y + 15), .ref (y + 16), .int 0, .long (-1), .ref (y + 17), .ref (y + 18), .ref (y + 19), .ref (y + 20), .ref (y + 21), .ref (y + 22), .int 0, .ref (y + 23), .ref (y + 24), .int 0, .ref (y + 25), .int 0, .int 0, .int 0, .int (-1), .int 0, .int 0, .int 0, .long 0])) (hc12_ : Φ (y + 12) = some (ai_ G 4 (upd (upd (upd (upd (fun _ => 0) (0 : Int32).toNatClampNeg 0) (1 : Int32).toNatClampNeg 0) (2 : Int32).toNatClampNeg 0) (3 : Int32).toNatClampNeg 0))) (hna : G.2.2.2 ≤ y) : Ct G l yX12_restartCollector wsX12_restartCollector ({ frames := 1, cells := 0, slots := 0, locals := 21 }) 0 0 [.ref y] Φ sz (fun v Φ1 sz1 => v = some (.int 0) ∧ ∃ fs : List Value, Φ1 y = some (o_ 14 fs) ∧ fs[0]? = some (.int 0)) := by
  refine Ct.of (cc := cX12_restartCollector) (maxL := 3) (ret := (some .int)) (by decide) rfl (Nat.le_of_ble_eq_true rfl) ?_
  intro p9 e9 s9 m9 w9 t9 k9 B
  show Z p9 l e9 _ s9 m9 _ w9 t9 k9 _ G 3 0 [(0, .ref y)] [] Φ sz 0 0
  refine z_aload_n B dX12_restartCollector_0 rfl 0 rfl ?_
  refine z_iconst (v := 0) B dX12_restartCollector_1 rfl ?_
  refine z_put (ref := "FlowExporterModel") (C := RX12) (T := TX12) (N := 54) (ci := 14) (v := .int 0) B (by decide +kernel) tyX12 tyX12_ok nmX12 rfl 0 (by decide) (by decide +kernel) rfl (Or.inl rfl) hc0_ hna rfl rfl (Nat.le_of_ble_eq_true rfl) dX12_restartCollector_2 (fun Φ1 hΦ1 => ?_)
  have h_1 : Φ1 y = some (o_ 14 [.int 0, .ref (y + 1), .ref (y + 2), .int 0, .int 1, .int 1, .int 0, .int 0, .ref (y + 3), .ref (y + 4), .int 0, .long 0, .ref (y + 5), .int 0, .int 0, .long 0, .long 0, .long 0, .long 0, .ref (y + 6), .ref (y + 7), .int 0, .ref (y + 8), .int 0, .ref (y + 9), .ref (y + 10), .int 0, .ref (y + 11), .ref (y + 12), .ref (y + 13), .ref (y + 14), .ref (y + 15), .ref (y + 16), .int 0, .long (-1), .ref (y + 17), .ref (y + 18), .ref (y + 19), .ref (y + 20), .ref (y + 21), .ref (y + 22), .int 0, .ref (y + 23), .ref (y + 24), .int 0, .ref (y + 25), .int 0, .int 0, .int 0, .int (-1), .int 0, .int 0, .int 0, .long 0]) := fset_at hΦ1
  refine z_iconst (v := 0) B dX12_restartCollector_5 rfl ?_
  refine z_istore_n (lv' := [(1, .int 0), (0, .ref y)]) B dX12_restartCollector_6 rfl (Nat.le_of_ble_eq_true rfl) rfl ?_
  refine z_iconst (v := 0) B dX12_restartCollector_7 rfl ?_
  refine z_istore_n (lv' := [(2, .int 0), (1, .int 0), (0, .ref y)]) B dX12_restartCollector_8 rfl (Nat.le_of_ble_eq_true rfl) rfl ?_
  refine z_iload_n B dX12_restartCollector_9 rfl 0 rfl ?_
  refine z_iconst (v := 4) B dX12_restartCollector_10 rfl ?_
  refine z_icmp_ge (tgt := 37) B dX12_restartCollector_11 rfl (fun h9 => absurd h9 (by decide)) (fun c_1 => ?_)
  refine z_iload_n B dX12_restartCollector_14 rfl 1 rfl ?_
  refine z_aload_n B dX12_restartCollector_15 rfl 2 rfl ?_
  refine z_get (ref := "FlowExporterModel") (C := RX12) (T := TX12) (N := 54) (ci := 14) (v := .ref (y + 12)) B (by decide +kernel) rfl 28 (by decide) (by decide +kernel) rfl h_1 rfl dX12_restartCollector_16 ?_
  refine z_iload_n B dX12_restartCollector_19 rfl 0 rfl ?_
  have h_2 : Φ1 (y + 12) = some (ai_ G 4 (upd (upd (upd (upd (fun _ => 0) (0 : Int32).toNatClampNeg 0) (1 : Int32).toNatClampNeg 0) (2 : Int32).toNatClampNeg 0) (3 : Int32).toNatClampNeg 0)) := ((fset_fr hΦ1 (ne_off (x := y) (i := 12) (j := 0) rfl)).trans hc12_)
  refine z_iald B h_2 (vin rfl) dX12_restartCollector_20 ?_
  refine z_if_le (tgt := 28) B dX12_restartCollector_21 rfl (fun c_2 => ?_) (fun c_2 => ?_)
  · refine z_iconst (v := 0) B dX12_restartCollector_28 rfl ?_
    refine z_iadd B dX12_restartCollector_29 ?_
    refine z_top (st1 := [.int 0]) (congrArg (fun w9 : Int32 => ([.int w9] : List Value)) (show (0 + 0 : Int32) = 0 by decide +kernel)) ?_
    refine z_istore_n (lv' := [(1, .int 0), (2, .int 0), (0, .ref y)]) B dX12_restartCollector_30 rfl (Nat.le_of_ble_eq_true rfl) rfl ?_
    refine z_iinc (k := 1) (v := 1) (lv' := [(2, .int 1), (1, .int 0), (0, .ref y)]) B dX12_restartCollector_31 rfl rfl (Nat.le_of_ble_eq_true rfl) rfl ?_
    refine z_goto (tgt := 9) B dX12_restartCollector_34 rfl ?_
    refine z_iload_n B dX12_restartCollector_9 rfl 0 rfl ?_
    refine z_iconst (v := 4) B dX12_restartCollector_10 rfl ?_
    refine z_icmp_ge (tgt := 37) B dX12_restartCollector_11 rfl (fun h9 => absurd h9 (by decide)) (fun c_3 => ?_)
    refine z_iload_n B dX12_restartCollector_14 rfl 1 rfl ?_
    refine z_aload_n B dX12_restartCollector_15 rfl 2 rfl ?_
    refine z_get (ref := "FlowExporterModel") (C := RX12) (T := TX12) (N := 54) (ci := 14) (v := .ref (y + 12)) B (by decide +kernel) rfl 28 (by decide) (by decide +kernel) rfl h_1 rfl dX12_restartCollector_16 ?_
    refine z_iload_n B dX12_restartCollector_19 rfl 0 rfl ?_
    refine z_iald B h_2 (vin rfl) dX12_restartCollector_20 ?_
    refine z_if_le (tgt := 28) B dX12_restartCollector_21 rfl (fun c_4 => ?_) (fun c_4 => ?_)
    · refine z_iconst (v := 0) B dX12_restartCollector_28 rfl ?_
      refine z_iadd B dX12_restartCollector_29 ?_
      refine z_top (st1 := [.int 0]) (congrArg (fun w9 : Int32 => ([.int w9] : List Value)) (show (0 + 0 : Int32) = 0 by decide +kernel)) ?_
      refine z_istore_n (lv' := [(1, .int 0), (2, .int 1), (0, .ref y)]) B dX12_restartCollector_30 rfl (Nat.le_of_ble_eq_true rfl) rfl ?_
      refine z_iinc (k := 1) (v := 2) (lv' := [(2, .int 2), (1, .int 0), (0, .ref y)]) B dX12_restartCollector_31 rfl rfl (Nat.le_of_ble_eq_true rfl) rfl ?_
      refine z_goto (tgt := 9) B dX12_restartCollector_34 rfl ?_
      refine z_iload_n B dX12_restartCollector_9 rfl 0 rfl ?_
      refine z_iconst (v := 4) B dX12_restartCollector_10 rfl ?_
      refine z_icmp_ge (tgt := 37) B dX12_restartCollector_11 rfl (fun h9 => absurd h9 (by decide)) (fun c_5 => ?_)
      refine z_iload_n B dX12_restartCollector_14 rfl 1 rfl ?_
      refine z_aload_n B dX12_restartCollector_15 rfl 2 rfl ?_
      refine z_get (ref := "FlowExporterModel") (C := RX12) (T := TX12) (N := 54) (ci := 14) (v := .ref (y + 12)) B (by decide +kernel) rfl 28 (by decide) (by decide +kernel) rfl h_1 rfl dX12_restartCollector_16 ?_
      refine z_iload_n B dX12_restartCollector_19 rfl 0 rfl ?_
      refine z_iald B h_2 (vin rfl) dX12_restartCollector_20 ?_
      refine z_if_le (tgt := 28) B dX12_restartCollector_21 rfl (fun c_6 => ?_) (fun c_6 => ?_)
      · refine z_iconst (v := 0) B dX12_restartCollector_28 rfl ?_
        refine z_iadd B dX12_restartCollector_29 ?_
        refine z_top (st1 := [.int 0]) (congrArg (fun w9 : Int32 => ([.int w9] : List Value)) (show (0 + 0 : Int32) = 0 by decide +kernel)) ?_
        refine z_istore_n (lv' := [(1, .int 0), (2, .int 2), (0, .ref y)]) B dX12_restartCollector_30 rfl (Nat.le_of_ble_eq_true rfl) rfl ?_
        refine z_iinc (k := 1) (v := 3) (lv' := [(2, .int 3), (1, .int 0), (0, .ref y)]) B dX12_restartCollector_31 rfl rfl (Nat.le_of_ble_eq_true rfl) rfl ?_
        refine z_goto (tgt := 9) B dX12_restartCollector_34 rfl ?_
        refine z_iload_n B dX12_restartCollector_9 rfl 0 rfl ?_
        refine z_iconst (v := 4) B dX12_restartCollector_10 rfl ?_
        refine z_icmp_ge (tgt := 37) B dX12_restartCollector_11 rfl (fun h9 => absurd h9 (by decide)) (fun c_7 => ?_)
        refine z_iload_n B dX12_restartCollector_14 rfl 1 rfl ?_
        refine z_aload_n B dX12_restartCollector_15 rfl 2 rfl ?_
        refine z_get (ref := "FlowExporterModel") (C := RX12) (T := TX12) (N := 54) (ci := 14) (v := .ref (y + 12)) B (by decide +kernel) rfl 28 (by decide) (by decide +kernel) rfl h_1 rfl dX12_restartCollector_16 ?_
        refine z_iload_n B dX12_restartCollector_19 rfl 0 rfl ?_
        refine z_iald B h_2 (vin rfl) dX12_restartCollector_20 ?_
        refine z_if_le (tgt := 28) B dX12_restartCollector_21 rfl (fun c_8 => ?_) (fun c_8 => ?_)
        · refine z_iconst (v := 0) B dX12_restartCollector_28 rfl ?_
          refine z_iadd B dX12_restartCollector_29 ?_
          refine z_top (st1 := [.int 0]) (congrArg (fun w9 : Int32 => ([.int w9] : List Value)) (show (0 + 0 : Int32) = 0 by decide +kernel)) ?_
          refine z_istore_n (lv' := [(1, .int 0), (2, .int 3), (0, .ref y)]) B dX12_restartCollector_30 rfl (Nat.le_of_ble_eq_true rfl) rfl ?_
          refine z_iinc (k := 1) (v := 4) (lv' := [(2, .int 4), (1, .int 0), (0, .ref y)]) B dX12_restartCollector_31 rfl rfl (Nat.le_of_ble_eq_true rfl) rfl ?_
          refine z_goto (tgt := 9) B dX12_restartCollector_34 rfl ?_
          refine z_iload_n B dX12_restartCollector_9 rfl 0 rfl ?_
          refine z_iconst (v := 4) B dX12_restartCollector_10 rfl ?_
          refine z_icmp_ge (tgt := 37) B dX12_restartCollector_11 rfl (fun c_9 => ?_) (fun h9 => absurd (by decide) h9)
          refine z_aload_n B dX12_restartCollector_37 rfl 2 rfl ?_
          refine z_callV (As := []) (rest := []) B (c_X12_startCollector G l Φ1 sz y 0 0 1 1 0 0 0 0 0 0 0 0 0 0 0 0 0 0 (-1) 0 0 0 0 0 (-1) 0 0 0 0 (upd (upd (upd (upd (fun _ => 0) (0 : Int32).toNatClampNeg 0) (1 : Int32).toNatClampNeg 0) (2 : Int32).toNatClampNeg 0) (3 : Int32).toNatClampNeg 0) h_1 h_2 hna) (cwV 0 B.1.2.2.2.2 gX12_restartCollector_X12_startCollector rfl rfl rfl (by decide +kernel) ⟨Nat.le_of_ble_eq_true rfl, Nat.le_of_ble_eq_true rfl⟩) h_1 rfl rfl rfl rfl (Nat.le_of_ble_eq_true rfl) dX12_restartCollector_38 ⟨Nat.le_of_ble_eq_true rfl, Nat.le_of_ble_eq_true rfl⟩ (fun v1 Φ2 sz1 st1 hp1 hs1 => ?_)
          obtain ⟨rfl, hq1, fr1, h_3, h_4⟩ := hp1
          replace hq1 : sz1 = sz := hq1
          subst sz1
          replace hs1 : st1 = [] := hs1
          subst st1
          have h_5 : Φ2 y = some (o_ 14 [.int 0, .ref (y + 1), .ref (y + 2), .int 0, .int 1, .int 1, .int 0, .int 0, .ref (y + 3), .ref (y + 4), .int 0, .long 0, .ref (y + 5), .int 0, .int 0, .long 0, .long 0, .long 0, .long 0, .ref (y + 6), .ref (y + 7), .int 0, .ref (y + 8), .int 0, .ref (y + 9), .ref (y + 10), .int 0, .ref (y + 11), .ref (y + 12), .ref (y + 13), .ref (y + 14), .ref (y + 15), .ref (y + 16), .int 0, .long (-1), .ref (y + 17), .ref (y + 18), .ref (y + 19), .ref (y + 20), .ref (y + 21), .ref (y + 22), .int 0, .ref (y + 23), .ref (y + 24), .int 0, .ref (y + 25), .int 0, .int 0, .int 0, .int (-1), .int 0, .int 0, .int 0, .long 0]) := h_3
          have h_6 : Φ2 (y + 12) = some (ai_ G 4 (upd (upd (upd (upd (upd (upd (upd (upd (fun _ => 0) (0 : Int32).toNatClampNeg 0) (1 : Int32).toNatClampNeg 0) (2 : Int32).toNatClampNeg 0) (3 : Int32).toNatClampNeg 0) (0 : Int32).toNatClampNeg 0) (1 : Int32).toNatClampNeg 0) (2 : Int32).toNatClampNeg 0) (3 : Int32).toNatClampNeg 0)) := h_4
          refine z_iload_n B dX12_restartCollector_41 rfl 1 rfl ?_
          exact z_ret_i B dX12_restartCollector_42 ⟨rfl, _, h_5, rfl⟩
        · refine z_iconst (v := 1) B dX12_restartCollector_24 rfl ?_
          refine z_goto (tgt := 29) B dX12_restartCollector_25 rfl ?_
          refine z_iadd B dX12_restartCollector_29 ?_
          refine z_top (st1 := [.int 1]) (congrArg (fun w9 : Int32 => ([.int w9] : List Value)) (show (0 + 1 : Int32) = 1 by decide +kernel)) ?_
          refine z_istore_n (lv' := [(1, .int 1), (2, .int 3), (0, .ref y)]) B dX12_restartCollector_30 rfl (Nat.le_of_ble_eq_true rfl) rfl ?_
          refine z_iinc (k := 1) (v := 4) (lv' := [(2, .int 4), (1, .int 1), (0, .ref y)]) B dX12_restartCollector_31 rfl rfl (Nat.le_of_ble_eq_true rfl) rfl ?_
          refine z_goto (tgt := 9) B dX12_restartCollector_34 rfl ?_
          refine z_iload_n B dX12_restartCollector_9 rfl 0 rfl ?_
          refine z_iconst (v := 4) B dX12_restartCollector_10 rfl ?_
          refine z_icmp_ge (tgt := 37) B dX12_restartCollector_11 rfl (fun c_10 => ?_) (fun h9 => absurd (by decide) h9)
          refine z_aload_n B dX12_restartCollector_37 rfl 2 rfl ?_
          refine z_callV (As := []) (rest := []) B (c_X12_startCollector G l Φ1 sz y 0 0 1 1 0 0 0 0 0 0 0 0 0 0 0 0 0 0 (-1) 0 0 0 0 0 (-1) 0 0 0 0 (upd (upd (upd (upd (fun _ => 0) (0 : Int32).toNatClampNeg 0) (1 : Int32).toNatClampNeg 0) (2 : Int32).toNatClampNeg 0) (3 : Int32).toNatClampNeg 0) h_1 h_2 hna) (cwV 0 B.1.2.2.2.2 gX12_restartCollector_X12_startCollector rfl rfl rfl (by decide +kernel) ⟨Nat.le_of_ble_eq_true rfl, Nat.le_of_ble_eq_true rfl⟩) h_1 rfl rfl rfl rfl (Nat.le_of_ble_eq_true rfl) dX12_restartCollector_38 ⟨Nat.le_of_ble_eq_true rfl, Nat.le_of_ble_eq_true rfl⟩ (fun v2 Φ3 sz2 st2 hp2 hs2 => ?_)
          obtain ⟨rfl, hq2, fr2, h_7, h_8⟩ := hp2
          replace hq2 : sz2 = sz := hq2
          subst sz2
          replace hs2 : st2 = [] := hs2
          subst st2
          have h_9 : Φ3 y = some (o_ 14 [.int 0, .ref (y + 1), .ref (y + 2), .int 0, .int 1, .int 1, .int 0, .int 0, .ref (y + 3), .ref (y + 4), .int 0, .long 0, .ref (y + 5), .int 0, .int 0, .long 0, .long 0, .long 0, .long 0, .ref (y + 6), .ref (y + 7), .int 0, .ref (y + 8), .int 0, .ref (y + 9), .ref (y + 10), .int 0, .ref (y + 11), .ref (y + 12), .ref (y + 13), .ref (y + 14), .ref (y + 15), .ref (y + 16), .int 0, .long (-1), .ref (y + 17), .ref (y + 18), .ref (y + 19), .ref (y + 20), .ref (y + 21), .ref (y + 22), .int 0, .ref (y + 23), .ref (y + 24), .int 0, .ref (y + 25), .int 0, .int 0, .int 0, .int (-1), .int 0, .int 0, .int 0, .long 0]) := h_7
          have h_10 : Φ3 (y + 12) = some (ai_ G 4 (upd (upd (upd (upd (upd (upd (upd (upd (fun _ => 0) (0 : Int32).toNatClampNeg 0) (1 : Int32).toNatClampNeg 0) (2 : Int32).toNatClampNeg 0) (3 : Int32).toNatClampNeg 0) (0 : Int32).toNatClampNeg 0) (1 : Int32).toNatClampNeg 0) (2 : Int32).toNatClampNeg 0) (3 : Int32).toNatClampNeg 0)) := h_8
          refine z_iload_n B dX12_restartCollector_41 rfl 1 rfl ?_
          exact z_ret_i B dX12_restartCollector_42 ⟨(by first | rfl | simp [c_2, c_4, c_6, c_8]), _, h_9, rfl⟩
      · refine z_iconst (v := 1) B dX12_restartCollector_24 rfl ?_
        refine z_goto (tgt := 29) B dX12_restartCollector_25 rfl ?_
        refine z_iadd B dX12_restartCollector_29 ?_
        refine z_top (st1 := [.int 1]) (congrArg (fun w9 : Int32 => ([.int w9] : List Value)) (show (0 + 1 : Int32) = 1 by decide +kernel)) ?_
        refine z_istore_n (lv' := [(1, .int 1), (2, .int 2), (0, .ref y)]) B dX12_restartCollector_30 rfl (Nat.le_of_ble_eq_true rfl) rfl ?_
        refine z_iinc (k := 1) (v := 3) (lv' := [(2, .int 3), (1, .int 1), (0, .ref y)]) B dX12_restartCollector_31 rfl rfl (Nat.le_of_ble_eq_true rfl) rfl ?_
        refine z_goto (tgt := 9) B dX12_restartCollector_34 rfl ?_
        refine z_iload_n B dX12_restartCollector_9 rfl 0 rfl ?_
        refine z_iconst (v := 4) B dX12_restartCollector_10 rfl ?_
        refine z_icmp_ge (tgt := 37) B dX12_restartCollector_11 rfl (fun h9 => absurd h9 (by decide)) (fun c_11 => ?_)
        refine z_iload_n B dX12_restartCollector_14 rfl 1 rfl ?_
        refine z_aload_n B dX12_restartCollector_15 rfl 2 rfl ?_
        refine z_get (ref := "FlowExporterModel") (C := RX12) (T := TX12) (N := 54) (ci := 14) (v := .ref (y + 12)) B (by decide +kernel) rfl 28 (by decide) (by decide +kernel) rfl h_1 rfl dX12_restartCollector_16 ?_
        refine z_iload_n B dX12_restartCollector_19 rfl 0 rfl ?_
        refine z_iald B h_2 (vin rfl) dX12_restartCollector_20 ?_
        refine z_if_le (tgt := 28) B dX12_restartCollector_21 rfl (fun c_12 => ?_) (fun c_12 => ?_)
        · refine z_iconst (v := 0) B dX12_restartCollector_28 rfl ?_
          refine z_iadd B dX12_restartCollector_29 ?_
          refine z_top (st1 := [.int 1]) (congrArg (fun w9 : Int32 => ([.int w9] : List Value)) (show (1 + 0 : Int32) = 1 by decide +kernel)) ?_
          refine z_istore_n (lv' := [(1, .int 1), (2, .int 3), (0, .ref y)]) B dX12_restartCollector_30 rfl (Nat.le_of_ble_eq_true rfl) rfl ?_
          refine z_iinc (k := 1) (v := 4) (lv' := [(2, .int 4), (1, .int 1), (0, .ref y)]) B dX12_restartCollector_31 rfl rfl (Nat.le_of_ble_eq_true rfl) rfl ?_
          refine z_goto (tgt := 9) B dX12_restartCollector_34 rfl ?_
          refine z_iload_n B dX12_restartCollector_9 rfl 0 rfl ?_
          refine z_iconst (v := 4) B dX12_restartCollector_10 rfl ?_
          refine z_icmp_ge (tgt := 37) B dX12_restartCollector_11 rfl (fun c_13 => ?_) (fun h9 => absurd (by decide) h9)
          refine z_aload_n B dX12_restartCollector_37 rfl 2 rfl ?_
          refine z_callV (As := []) (rest := []) B (c_X12_startCollector G l Φ1 sz y 0 0 1 1 0 0 0 0 0 0 0 0 0 0 0 0 0 0 (-1) 0 0 0 0 0 (-1) 0 0 0 0 (upd (upd (upd (upd (fun _ => 0) (0 : Int32).toNatClampNeg 0) (1 : Int32).toNatClampNeg 0) (2 : Int32).toNatClampNeg 0) (3 : Int32).toNatClampNeg 0) h_1 h_2 hna) (cwV 0 B.1.2.2.2.2 gX12_restartCollector_X12_startCollector rfl rfl rfl (by decide +kernel) ⟨Nat.le_of_ble_eq_true rfl, Nat.le_of_ble_eq_true rfl⟩) h_1 rfl rfl rfl rfl (Nat.le_of_ble_eq_true rfl) dX12_restartCollector_38 ⟨Nat.le_of_ble_eq_true rfl, Nat.le_of_ble_eq_true rfl⟩ (fun v3 Φ4 sz3 st3 hp3 hs3 => ?_)
          obtain ⟨rfl, hq3, fr3, h_11, h_12⟩ := hp3
          replace hq3 : sz3 = sz := hq3
          subst sz3
          replace hs3 : st3 = [] := hs3
          subst st3
          have h_13 : Φ4 y = some (o_ 14 [.int 0, .ref (y + 1), .ref (y + 2), .int 0, .int 1, .int 1, .int 0, .int 0, .ref (y + 3), .ref (y + 4), .int 0, .long 0, .ref (y + 5), .int 0, .int 0, .long 0, .long 0, .long 0, .long 0, .ref (y + 6), .ref (y + 7), .int 0, .ref (y + 8), .int 0, .ref (y + 9), .ref (y + 10), .int 0, .ref (y + 11), .ref (y + 12), .ref (y + 13), .ref (y + 14), .ref (y + 15), .ref (y + 16), .int 0, .long (-1), .ref (y + 17), .ref (y + 18), .ref (y + 19), .ref (y + 20), .ref (y + 21), .ref (y + 22), .int 0, .ref (y + 23), .ref (y + 24), .int 0, .ref (y + 25), .int 0, .int 0, .int 0, .int (-1), .int 0, .int 0, .int 0, .long 0]) := h_11
          have h_14 : Φ4 (y + 12) = some (ai_ G 4 (upd (upd (upd (upd (upd (upd (upd (upd (fun _ => 0) (0 : Int32).toNatClampNeg 0) (1 : Int32).toNatClampNeg 0) (2 : Int32).toNatClampNeg 0) (3 : Int32).toNatClampNeg 0) (0 : Int32).toNatClampNeg 0) (1 : Int32).toNatClampNeg 0) (2 : Int32).toNatClampNeg 0) (3 : Int32).toNatClampNeg 0)) := h_12
          refine z_iload_n B dX12_restartCollector_41 rfl 1 rfl ?_
          exact z_ret_i B dX12_restartCollector_42 ⟨(by first | rfl | simp [c_2, c_4, c_6, c_12]), _, h_13, rfl⟩
        · refine z_iconst (v := 1) B dX12_restartCollector_24 rfl ?_
          refine z_goto (tgt := 29) B dX12_restartCollector_25 rfl ?_
          refine z_iadd B dX12_restartCollector_29 ?_
          refine z_top (st1 := [.int 2]) (congrArg (fun w9 : Int32 => ([.int w9] : List Value)) (show (1 + 1 : Int32) = 2 by decide +kernel)) ?_
          refine z_istore_n (lv' := [(1, .int 2), (2, .int 3), (0, .ref y)]) B dX12_restartCollector_30 rfl (Nat.le_of_ble_eq_true rfl) rfl ?_
          refine z_iinc (k := 1) (v := 4) (lv' := [(2, .int 4), (1, .int 2), (0, .ref y)]) B dX12_restartCollector_31 rfl rfl (Nat.le_of_ble_eq_true rfl) rfl ?_
          refine z_goto (tgt := 9) B dX12_restartCollector_34 rfl ?_
          refine z_iload_n B dX12_restartCollector_9 rfl 0 rfl ?_
          refine z_iconst (v := 4) B dX12_restartCollector_10 rfl ?_
          refine z_icmp_ge (tgt := 37) B dX12_restartCollector_11 rfl (fun c_14 => ?_) (fun h9 => absurd (by decide) h9)
          refine z_aload_n B dX12_restartCollector_37 rfl 2 rfl ?_
          refine z_callV (As := []) (rest := []) B (c_X12_startCollector G l Φ1 sz y 0 0 1 1 0 0 0 0 0 0 0 0 0 0 0 0 0 0 (-1) 0 0 0 0 0 (-1) 0 0 0 0 (upd (upd (upd (upd (fun _ => 0) (0 : Int32).toNatClampNeg 0) (1 : Int32).toNatClampNeg 0) (2 : Int32).toNatClampNeg 0) (3 : Int32).toNatClampNeg 0) h_1 h_2 hna) (cwV 0 B.1.2.2.2.2 gX12_restartCollector_X12_startCollector rfl rfl rfl (by decide +kernel) ⟨Nat.le_of_ble_eq_true rfl, Nat.le_of_ble_eq_true rfl⟩) h_1 rfl rfl rfl rfl (Nat.le_of_ble_eq_true rfl) dX12_restartCollector_38 ⟨Nat.le_of_ble_eq_true rfl, Nat.le_of_ble_eq_true rfl⟩ (fun v4 Φ5 sz4 st4 hp4 hs4 => ?_)
          obtain ⟨rfl, hq4, fr4, h_15, h_16⟩ := hp4
          replace hq4 : sz4 = sz := hq4
          subst sz4
          replace hs4 : st4 = [] := hs4
          subst st4
          have h_17 : Φ5 y = some (o_ 14 [.int 0, .ref (y + 1), .ref (y + 2), .int 0, .int 1, .int 1, .int 0, .int 0, .ref (y + 3), .ref (y + 4), .int 0, .long 0, .ref (y + 5), .int 0, .int 0, .long 0, .long 0, .long 0, .long 0, .ref (y + 6), .ref (y + 7), .int 0, .ref (y + 8), .int 0, .ref (y + 9), .ref (y + 10), .int 0, .ref (y + 11), .ref (y + 12), .ref (y + 13), .ref (y + 14), .ref (y + 15), .ref (y + 16), .int 0, .long (-1), .ref (y + 17), .ref (y + 18), .ref (y + 19), .ref (y + 20), .ref (y + 21), .ref (y + 22), .int 0, .ref (y + 23), .ref (y + 24), .int 0, .ref (y + 25), .int 0, .int 0, .int 0, .int (-1), .int 0, .int 0, .int 0, .long 0]) := h_15
          have h_18 : Φ5 (y + 12) = some (ai_ G 4 (upd (upd (upd (upd (upd (upd (upd (upd (fun _ => 0) (0 : Int32).toNatClampNeg 0) (1 : Int32).toNatClampNeg 0) (2 : Int32).toNatClampNeg 0) (3 : Int32).toNatClampNeg 0) (0 : Int32).toNatClampNeg 0) (1 : Int32).toNatClampNeg 0) (2 : Int32).toNatClampNeg 0) (3 : Int32).toNatClampNeg 0)) := h_16
          refine z_iload_n B dX12_restartCollector_41 rfl 1 rfl ?_
          exact z_ret_i B dX12_restartCollector_42 ⟨(by first | rfl | simp [c_2, c_4, c_6, c_12]), _, h_17, rfl⟩
    · refine z_iconst (v := 1) B dX12_restartCollector_24 rfl ?_
      refine z_goto (tgt := 29) B dX12_restartCollector_25 rfl ?_
      refine z_iadd B dX12_restartCollector_29 ?_
      refine z_top (st1 := [.int 1]) (congrArg (fun w9 : Int32 => ([.int w9] : List Value)) (show (0 + 1 : Int32) = 1 by decide +kernel)) ?_
      refine z_istore_n (lv' := [(1, .int 1), (2, .int 1), (0, .ref y)]) B dX12_restartCollector_30 rfl (Nat.le_of_ble_eq_true rfl) rfl ?_
      refine z_iinc (k := 1) (v := 2) (lv' := [(2, .int 2), (1, .int 1), (0, .ref y)]) B dX12_restartCollector_31 rfl rfl (Nat.le_of_ble_eq_true rfl) rfl ?_
      refine z_goto (tgt := 9) B dX12_restartCollector_34 rfl ?_
      refine z_iload_n B dX12_restartCollector_9 rfl 0 rfl ?_
      refine z_iconst (v := 4) B dX12_restartCollector_10 rfl ?_
      refine z_icmp_ge (tgt := 37) B dX12_restartCollector_11 rfl (fun h9 => absurd h9 (by decide)) (fun c_15 => ?_)
      refine z_iload_n B dX12_restartCollector_14 rfl 1 rfl ?_
      refine z_aload_n B dX12_restartCollector_15 rfl 2 rfl ?_
      refine z_get (ref := "FlowExporterModel") (C := RX12) (T := TX12) (N := 54) (ci := 14) (v := .ref (y + 12)) B (by decide +kernel) rfl 28 (by decide) (by decide +kernel) rfl h_1 rfl dX12_restartCollector_16 ?_
      refine z_iload_n B dX12_restartCollector_19 rfl 0 rfl ?_
      refine z_iald B h_2 (vin rfl) dX12_restartCollector_20 ?_
      refine z_if_le (tgt := 28) B dX12_restartCollector_21 rfl (fun c_16 => ?_) (fun c_16 => ?_)
      · refine z_iconst (v := 0) B dX12_restartCollector_28 rfl ?_
        refine z_iadd B dX12_restartCollector_29 ?_
        refine z_top (st1 := [.int 1]) (congrArg (fun w9 : Int32 => ([.int w9] : List Value)) (show (1 + 0 : Int32) = 1 by decide +kernel)) ?_
        refine z_istore_n (lv' := [(1, .int 1), (2, .int 2), (0, .ref y)]) B dX12_restartCollector_30 rfl (Nat.le_of_ble_eq_true rfl) rfl ?_
        refine z_iinc (k := 1) (v := 3) (lv' := [(2, .int 3), (1, .int 1), (0, .ref y)]) B dX12_restartCollector_31 rfl rfl (Nat.le_of_ble_eq_true rfl) rfl ?_
        refine z_goto (tgt := 9) B dX12_restartCollector_34 rfl ?_
        refine z_iload_n B dX12_restartCollector_9 rfl 0 rfl ?_
        refine z_iconst (v := 4) B dX12_restartCollector_10 rfl ?_
        refine z_icmp_ge (tgt := 37) B dX12_restartCollector_11 rfl (fun h9 => absurd h9 (by decide)) (fun c_17 => ?_)
        refine z_iload_n B dX12_restartCollector_14 rfl 1 rfl ?_
        refine z_aload_n B dX12_restartCollector_15 rfl 2 rfl ?_
        refine z_get (ref := "FlowExporterModel") (C := RX12) (T := TX12) (N := 54) (ci := 14) (v := .ref (y + 12)) B (by decide +kernel) rfl 28 (by decide) (by decide +kernel) rfl h_1 rfl dX12_restartCollector_16 ?_
        refine z_iload_n B dX12_restartCollector_19 rfl 0 rfl ?_
        refine z_iald B h_2 (vin rfl) dX12_restartCollector_20 ?_
        refine z_if_le (tgt := 28) B dX12_restartCollector_21 rfl (fun c_18 => ?_) (fun c_18 => ?_)
        · refine z_iconst (v := 0) B dX12_restartCollector_28 rfl ?_
          refine z_iadd B dX12_restartCollector_29 ?_
          refine z_top (st1 := [.int 1]) (congrArg (fun w9 : Int32 => ([.int w9] : List Value)) (show (1 + 0 : Int32) = 1 by decide +kernel)) ?_
          refine z_istore_n (lv' := [(1, .int 1), (2, .int 3), (0, .ref y)]) B dX12_restartCollector_30 rfl (Nat.le_of_ble_eq_true rfl) rfl ?_
          refine z_iinc (k := 1) (v := 4) (lv' := [(2, .int 4), (1, .int 1), (0, .ref y)]) B dX12_restartCollector_31 rfl rfl (Nat.le_of_ble_eq_true rfl) rfl ?_
          refine z_goto (tgt := 9) B dX12_restartCollector_34 rfl ?_
          refine z_iload_n B dX12_restartCollector_9 rfl 0 rfl ?_
          refine z_iconst (v := 4) B dX12_restartCollector_10 rfl ?_
          refine z_icmp_ge (tgt := 37) B dX12_restartCollector_11 rfl (fun c_19 => ?_) (fun h9 => absurd (by decide) h9)
          refine z_aload_n B dX12_restartCollector_37 rfl 2 rfl ?_
          refine z_callV (As := []) (rest := []) B (c_X12_startCollector G l Φ1 sz y 0 0 1 1 0 0 0 0 0 0 0 0 0 0 0 0 0 0 (-1) 0 0 0 0 0 (-1) 0 0 0 0 (upd (upd (upd (upd (fun _ => 0) (0 : Int32).toNatClampNeg 0) (1 : Int32).toNatClampNeg 0) (2 : Int32).toNatClampNeg 0) (3 : Int32).toNatClampNeg 0) h_1 h_2 hna) (cwV 0 B.1.2.2.2.2 gX12_restartCollector_X12_startCollector rfl rfl rfl (by decide +kernel) ⟨Nat.le_of_ble_eq_true rfl, Nat.le_of_ble_eq_true rfl⟩) h_1 rfl rfl rfl rfl (Nat.le_of_ble_eq_true rfl) dX12_restartCollector_38 ⟨Nat.le_of_ble_eq_true rfl, Nat.le_of_ble_eq_true rfl⟩ (fun v5 Φ6 sz5 st5 hp5 hs5 => ?_)
          obtain ⟨rfl, hq5, fr5, h_19, h_20⟩ := hp5
          replace hq5 : sz5 = sz := hq5
          subst sz5
          replace hs5 : st5 = [] := hs5
          subst st5
          have h_21 : Φ6 y = some (o_ 14 [.int 0, .ref (y + 1), .ref (y + 2), .int 0, .int 1, .int 1, .int 0, .int 0, .ref (y + 3), .ref (y + 4), .int 0, .long 0, .ref (y + 5), .int 0, .int 0, .long 0, .long 0, .long 0, .long 0, .ref (y + 6), .ref (y + 7), .int 0, .ref (y + 8), .int 0, .ref (y + 9), .ref (y + 10), .int 0, .ref (y + 11), .ref (y + 12), .ref (y + 13), .ref (y + 14), .ref (y + 15), .ref (y + 16), .int 0, .long (-1), .ref (y + 17), .ref (y + 18), .ref (y + 19), .ref (y + 20), .ref (y + 21), .ref (y + 22), .int 0, .ref (y + 23), .ref (y + 24), .int 0, .ref (y + 25), .int 0, .int 0, .int 0, .int (-1), .int 0, .int 0, .int 0, .long 0]) := h_19
          have h_22 : Φ6 (y + 12) = some (ai_ G 4 (upd (upd (upd (upd (upd (upd (upd (upd (fun _ => 0) (0 : Int32).toNatClampNeg 0) (1 : Int32).toNatClampNeg 0) (2 : Int32).toNatClampNeg 0) (3 : Int32).toNatClampNeg 0) (0 : Int32).toNatClampNeg 0) (1 : Int32).toNatClampNeg 0) (2 : Int32).toNatClampNeg 0) (3 : Int32).toNatClampNeg 0)) := h_20
          refine z_iload_n B dX12_restartCollector_41 rfl 1 rfl ?_
          exact z_ret_i B dX12_restartCollector_42 ⟨(by first | rfl | simp [c_2, c_4, c_16, c_18]), _, h_21, rfl⟩
        · refine z_iconst (v := 1) B dX12_restartCollector_24 rfl ?_
          refine z_goto (tgt := 29) B dX12_restartCollector_25 rfl ?_
          refine z_iadd B dX12_restartCollector_29 ?_
          refine z_top (st1 := [.int 2]) (congrArg (fun w9 : Int32 => ([.int w9] : List Value)) (show (1 + 1 : Int32) = 2 by decide +kernel)) ?_
          refine z_istore_n (lv' := [(1, .int 2), (2, .int 3), (0, .ref y)]) B dX12_restartCollector_30 rfl (Nat.le_of_ble_eq_true rfl) rfl ?_
          refine z_iinc (k := 1) (v := 4) (lv' := [(2, .int 4), (1, .int 2), (0, .ref y)]) B dX12_restartCollector_31 rfl rfl (Nat.le_of_ble_eq_true rfl) rfl ?_
          refine z_goto (tgt := 9) B dX12_restartCollector_34 rfl ?_
          refine z_iload_n B dX12_restartCollector_9 rfl 0 rfl ?_
          refine z_iconst (v := 4) B dX12_restartCollector_10 rfl ?_
          refine z_icmp_ge (tgt := 37) B dX12_restartCollector_11 rfl (fun c_20 => ?_) (fun h9 => absurd (by decide) h9)
          refine z_aload_n B dX12_restartCollector_37 rfl 2 rfl ?_
          refine z_callV (As := []) (rest := []) B (c_X12_startCollector G l Φ1 sz y 0 0 1 1 0 0 0 0 0 0 0 0 0 0 0 0 0 0 (-1) 0 0 0 0 0 (-1) 0 0 0 0 (upd (upd (upd (upd (fun _ => 0) (0 : Int32).toNatClampNeg 0) (1 : Int32).toNatClampNeg 0) (2 : Int32).toNatClampNeg 0) (3 : Int32).toNatClampNeg 0) h_1 h_2 hna) (cwV 0 B.1.2.2.2.2 gX12_restartCollector_X12_startCollector rfl rfl rfl (by decide +kernel) ⟨Nat.le_of_ble_eq_true rfl, Nat.le_of_ble_eq_true rfl⟩) h_1 rfl rfl rfl rfl (Nat.le_of_ble_eq_true rfl) dX12_restartCollector_38 ⟨Nat.le_of_ble_eq_true rfl, Nat.le_of_ble_eq_true rfl⟩ (fun v6 Φ7 sz6 st6 hp6 hs6 => ?_)
          obtain ⟨rfl, hq6, fr6, h_23, h_24⟩ := hp6
          replace hq6 : sz6 = sz := hq6
          subst sz6
          replace hs6 : st6 = [] := hs6
          subst st6
          have h_25 : Φ7 y = some (o_ 14 [.int 0, .ref (y + 1), .ref (y + 2), .int 0, .int 1, .int 1, .int 0, .int 0, .ref (y + 3), .ref (y + 4), .int 0, .long 0, .ref (y + 5), .int 0, .int 0, .long 0, .long 0, .long 0, .long 0, .ref (y + 6), .ref (y + 7), .int 0, .ref (y + 8), .int 0, .ref (y + 9), .ref (y + 10), .int 0, .ref (y + 11), .ref (y + 12), .ref (y + 13), .ref (y + 14), .ref (y + 15), .ref (y + 16), .int 0, .long (-1), .ref (y + 17), .ref (y + 18), .ref (y + 19), .ref (y + 20), .ref (y + 21), .ref (y + 22), .int 0, .ref (y + 23), .ref (y + 24), .int 0, .ref (y + 25), .int 0, .int 0, .int 0, .int (-1), .int 0, .int 0, .int 0, .long 0]) := h_23
          have h_26 : Φ7 (y + 12) = some (ai_ G 4 (upd (upd (upd (upd (upd (upd (upd (upd (fun _ => 0) (0 : Int32).toNatClampNeg 0) (1 : Int32).toNatClampNeg 0) (2 : Int32).toNatClampNeg 0) (3 : Int32).toNatClampNeg 0) (0 : Int32).toNatClampNeg 0) (1 : Int32).toNatClampNeg 0) (2 : Int32).toNatClampNeg 0) (3 : Int32).toNatClampNeg 0)) := h_24
          refine z_iload_n B dX12_restartCollector_41 rfl 1 rfl ?_
          exact z_ret_i B dX12_restartCollector_42 ⟨(by first | rfl | simp [c_2, c_4, c_16, c_18]), _, h_25, rfl⟩
      · refine z_iconst (v := 1) B dX12_restartCollector_24 rfl ?_
        refine z_goto (tgt := 29) B dX12_restartCollector_25 rfl ?_
        refine z_iadd B dX12_restartCollector_29 ?_
        refine z_top (st1 := [.int 2]) (congrArg (fun w9 : Int32 => ([.int w9] : List Value)) (show (1 + 1 : Int32) = 2 by decide +kernel)) ?_
        refine z_istore_n (lv' := [(1, .int 2), (2, .int 2), (0, .ref y)]) B dX12_restartCollector_30 rfl (Nat.le_of_ble_eq_true rfl) rfl ?_
        refine z_iinc (k := 1) (v := 3) (lv' := [(2, .int 3), (1, .int 2), (0, .ref y)]) B dX12_restartCollector_31 rfl rfl (Nat.le_of_ble_eq_true rfl) rfl ?_
        refine z_goto (tgt := 9) B dX12_restartCollector_34 rfl ?_
        refine z_iload_n B dX12_restartCollector_9 rfl 0 rfl ?_
        refine z_iconst (v := 4) B dX12_restartCollector_10 rfl ?_
        refine z_icmp_ge (tgt := 37) B dX12_restartCollector_11 rfl (fun h9 => absurd h9 (by decide)) (fun c_21 => ?_)
        refine z_iload_n B dX12_restartCollector_14 rfl 1 rfl ?_
        refine z_aload_n B dX12_restartCollector_15 rfl 2 rfl ?_
        refine z_get (ref := "FlowExporterModel") (C := RX12) (T := TX12) (N := 54) (ci := 14) (v := .ref (y + 12)) B (by decide +kernel) rfl 28 (by decide) (by decide +kernel) rfl h_1 rfl dX12_restartCollector_16 ?_
        refine z_iload_n B dX12_restartCollector_19 rfl 0 rfl ?_
        refine z_iald B h_2 (vin rfl) dX12_restartCollector_20 ?_
        refine z_if_le (tgt := 28) B dX12_restartCollector_21 rfl (fun c_22 => ?_) (fun c_22 => ?_)
        · refine z_iconst (v := 0) B dX12_restartCollector_28 rfl ?_
          refine z_iadd B dX12_restartCollector_29 ?_
          refine z_top (st1 := [.int 2]) (congrArg (fun w9 : Int32 => ([.int w9] : List Value)) (show (2 + 0 : Int32) = 2 by decide +kernel)) ?_
          refine z_istore_n (lv' := [(1, .int 2), (2, .int 3), (0, .ref y)]) B dX12_restartCollector_30 rfl (Nat.le_of_ble_eq_true rfl) rfl ?_
          refine z_iinc (k := 1) (v := 4) (lv' := [(2, .int 4), (1, .int 2), (0, .ref y)]) B dX12_restartCollector_31 rfl rfl (Nat.le_of_ble_eq_true rfl) rfl ?_
          refine z_goto (tgt := 9) B dX12_restartCollector_34 rfl ?_
          refine z_iload_n B dX12_restartCollector_9 rfl 0 rfl ?_
          refine z_iconst (v := 4) B dX12_restartCollector_10 rfl ?_
          refine z_icmp_ge (tgt := 37) B dX12_restartCollector_11 rfl (fun c_23 => ?_) (fun h9 => absurd (by decide) h9)
          refine z_aload_n B dX12_restartCollector_37 rfl 2 rfl ?_
          refine z_callV (As := []) (rest := []) B (c_X12_startCollector G l Φ1 sz y 0 0 1 1 0 0 0 0 0 0 0 0 0 0 0 0 0 0 (-1) 0 0 0 0 0 (-1) 0 0 0 0 (upd (upd (upd (upd (fun _ => 0) (0 : Int32).toNatClampNeg 0) (1 : Int32).toNatClampNeg 0) (2 : Int32).toNatClampNeg 0) (3 : Int32).toNatClampNeg 0) h_1 h_2 hna) (cwV 0 B.1.2.2.2.2 gX12_restartCollector_X12_startCollector rfl rfl rfl (by decide +kernel) ⟨Nat.le_of_ble_eq_true rfl, Nat.le_of_ble_eq_true rfl⟩) h_1 rfl rfl rfl rfl (Nat.le_of_ble_eq_true rfl) dX12_restartCollector_38 ⟨Nat.le_of_ble_eq_true rfl, Nat.le_of_ble_eq_true rfl⟩ (fun v7 Φ8 sz7 st7 hp7 hs7 => ?_)
          obtain ⟨rfl, hq7, fr7, h_27, h_28⟩ := hp7
          replace hq7 : sz7 = sz := hq7
          subst sz7
          replace hs7 : st7 = [] := hs7
          subst st7
          have h_29 : Φ8 y = some (o_ 14 [.int 0, .ref (y + 1), .ref (y + 2), .int 0, .int 1, .int 1, .int 0, .int 0, .ref (y + 3), .ref (y + 4), .int 0, .long 0, .ref (y + 5), .int 0, .int 0, .long 0, .long 0, .long 0, .long 0, .ref (y + 6), .ref (y + 7), .int 0, .ref (y + 8), .int 0, .ref (y + 9), .ref (y + 10), .int 0, .ref (y + 11), .ref (y + 12), .ref (y + 13), .ref (y + 14), .ref (y + 15), .ref (y + 16), .int 0, .long (-1), .ref (y + 17), .ref (y + 18), .ref (y + 19), .ref (y + 20), .ref (y + 21), .ref (y + 22), .int 0, .ref (y + 23), .ref (y + 24), .int 0, .ref (y + 25), .int 0, .int 0, .int 0, .int (-1), .int 0, .int 0, .int 0, .long 0]) := h_27
          have h_30 : Φ8 (y + 12) = some (ai_ G 4 (upd (upd (upd (upd (upd (upd (upd (upd (fun _ => 0) (0 : Int32).toNatClampNeg 0) (1 : Int32).toNatClampNeg 0) (2 : Int32).toNatClampNeg 0) (3 : Int32).toNatClampNeg 0) (0 : Int32).toNatClampNeg 0) (1 : Int32).toNatClampNeg 0) (2 : Int32).toNatClampNeg 0) (3 : Int32).toNatClampNeg 0)) := h_28
          refine z_iload_n B dX12_restartCollector_41 rfl 1 rfl ?_
          exact z_ret_i B dX12_restartCollector_42 ⟨(by first | rfl | simp [c_2, c_4, c_16, c_22]), _, h_29, rfl⟩
        · refine z_iconst (v := 1) B dX12_restartCollector_24 rfl ?_
          refine z_goto (tgt := 29) B dX12_restartCollector_25 rfl ?_
          refine z_iadd B dX12_restartCollector_29 ?_
          refine z_top (st1 := [.int 3]) (congrArg (fun w9 : Int32 => ([.int w9] : List Value)) (show (2 + 1 : Int32) = 3 by decide +kernel)) ?_
          refine z_istore_n (lv' := [(1, .int 3), (2, .int 3), (0, .ref y)]) B dX12_restartCollector_30 rfl (Nat.le_of_ble_eq_true rfl) rfl ?_
          refine z_iinc (k := 1) (v := 4) (lv' := [(2, .int 4), (1, .int 3), (0, .ref y)]) B dX12_restartCollector_31 rfl rfl (Nat.le_of_ble_eq_true rfl) rfl ?_
          refine z_goto (tgt := 9) B dX12_restartCollector_34 rfl ?_
          refine z_iload_n B dX12_restartCollector_9 rfl 0 rfl ?_
          refine z_iconst (v := 4) B dX12_restartCollector_10 rfl ?_
          refine z_icmp_ge (tgt := 37) B dX12_restartCollector_11 rfl (fun c_24 => ?_) (fun h9 => absurd (by decide) h9)
          refine z_aload_n B dX12_restartCollector_37 rfl 2 rfl ?_
          refine z_callV (As := []) (rest := []) B (c_X12_startCollector G l Φ1 sz y 0 0 1 1 0 0 0 0 0 0 0 0 0 0 0 0 0 0 (-1) 0 0 0 0 0 (-1) 0 0 0 0 (upd (upd (upd (upd (fun _ => 0) (0 : Int32).toNatClampNeg 0) (1 : Int32).toNatClampNeg 0) (2 : Int32).toNatClampNeg 0) (3 : Int32).toNatClampNeg 0) h_1 h_2 hna) (cwV 0 B.1.2.2.2.2 gX12_restartCollector_X12_startCollector rfl rfl rfl (by decide +kernel) ⟨Nat.le_of_ble_eq_true rfl, Nat.le_of_ble_eq_true rfl⟩) h_1 rfl rfl rfl rfl (Nat.le_of_ble_eq_true rfl) dX12_restartCollector_38 ⟨Nat.le_of_ble_eq_true rfl, Nat.le_of_ble_eq_true rfl⟩ (fun v8 Φ9 sz8 st8 hp8 hs8 => ?_)
          obtain ⟨rfl, hq8, fr8, h_31, h_32⟩ := hp8
          replace hq8 : sz8 = sz := hq8
          subst sz8
          replace hs8 : st8 = [] := hs8
          subst st8
          have h_33 : Φ9 y = some (o_ 14 [.int 0, .ref (y + 1), .ref (y + 2), .int 0, .int 1, .int 1, .int 0, .int 0, .ref (y + 3), .ref (y + 4), .int 0, .long 0, .ref (y + 5), .int 0, .int 0, .long 0, .long 0, .long 0, .long 0, .ref (y + 6), .ref (y + 7), .int 0, .ref (y + 8), .int 0, .ref (y + 9), .ref (y + 10), .int 0, .ref (y + 11), .ref (y + 12), .ref (y + 13), .ref (y + 14), .ref (y + 15), .ref (y + 16), .int 0, .long (-1), .ref (y + 17), .ref (y + 18), .ref (y + 19), .ref (y + 20), .ref (y + 21), .ref (y + 22), .int 0, .ref (y + 23), .ref (y + 24), .int 0, .ref (y + 25), .int 0, .int 0, .int 0, .int (-1), .int 0, .int 0, .int 0, .long 0]) := h_31
          have h_34 : Φ9 (y + 12) = some (ai_ G 4 (upd (upd (upd (upd (upd (upd (upd (upd (fun _ => 0) (0 : Int32).toNatClampNeg 0) (1 : Int32).toNatClampNeg 0) (2 : Int32).toNatClampNeg 0) (3 : Int32).toNatClampNeg 0) (0 : Int32).toNatClampNeg 0) (1 : Int32).toNatClampNeg 0) (2 : Int32).toNatClampNeg 0) (3 : Int32).toNatClampNeg 0)) := h_32
          refine z_iload_n B dX12_restartCollector_41 rfl 1 rfl ?_
          exact z_ret_i B dX12_restartCollector_42 ⟨(by first | rfl | simp [c_2, c_4, c_16, c_22]), _, h_33, rfl⟩
  · refine z_iconst (v := 1) B dX12_restartCollector_24 rfl ?_
    refine z_goto (tgt := 29) B dX12_restartCollector_25 rfl ?_
    refine z_iadd B dX12_restartCollector_29 ?_
    refine z_top (st1 := [.int 1]) (congrArg (fun w9 : Int32 => ([.int w9] : List Value)) (show (0 + 1 : Int32) = 1 by decide +kernel)) ?_
    refine z_istore_n (lv' := [(1, .int 1), (2, .int 0), (0, .ref y)]) B dX12_restartCollector_30 rfl (Nat.le_of_ble_eq_true rfl) rfl ?_
    refine z_iinc (k := 1) (v := 1) (lv' := [(2, .int 1), (1, .int 1), (0, .ref y)]) B dX12_restartCollector_31 rfl rfl (Nat.le_of_ble_eq_true rfl) rfl ?_
    refine z_goto (tgt := 9) B dX12_restartCollector_34 rfl ?_
    refine z_iload_n B dX12_restartCollector_9 rfl 0 rfl ?_
    refine z_iconst (v := 4) B dX12_restartCollector_10 rfl ?_
    refine z_icmp_ge (tgt := 37) B dX12_restartCollector_11 rfl (fun h9 => absurd h9 (by decide)) (fun c_25 => ?_)
    refine z_iload_n B dX12_restartCollector_14 rfl 1 rfl ?_
    refine z_aload_n B dX12_restartCollector_15 rfl 2 rfl ?_
    refine z_get (ref := "FlowExporterModel") (C := RX12) (T := TX12) (N := 54) (ci := 14) (v := .ref (y + 12)) B (by decide +kernel) rfl 28 (by decide) (by decide +kernel) rfl h_1 rfl dX12_restartCollector_16 ?_
    refine z_iload_n B dX12_restartCollector_19 rfl 0 rfl ?_
    refine z_iald B h_2 (vin rfl) dX12_restartCollector_20 ?_
    refine z_if_le (tgt := 28) B dX12_restartCollector_21 rfl (fun c_26 => ?_) (fun c_26 => ?_)
    · refine z_iconst (v := 0) B dX12_restartCollector_28 rfl ?_
      refine z_iadd B dX12_restartCollector_29 ?_
      refine z_top (st1 := [.int 1]) (congrArg (fun w9 : Int32 => ([.int w9] : List Value)) (show (1 + 0 : Int32) = 1 by decide +kernel)) ?_
      refine z_istore_n (lv' := [(1, .int 1), (2, .int 1), (0, .ref y)]) B dX12_restartCollector_30 rfl (Nat.le_of_ble_eq_true rfl) rfl ?_
      refine z_iinc (k := 1) (v := 2) (lv' := [(2, .int 2), (1, .int 1), (0, .ref y)]) B dX12_restartCollector_31 rfl rfl (Nat.le_of_ble_eq_true rfl) rfl ?_
      refine z_goto (tgt := 9) B dX12_restartCollector_34 rfl ?_
      refine z_iload_n B dX12_restartCollector_9 rfl 0 rfl ?_
      refine z_iconst (v := 4) B dX12_restartCollector_10 rfl ?_
      refine z_icmp_ge (tgt := 37) B dX12_restartCollector_11 rfl (fun h9 => absurd h9 (by decide)) (fun c_27 => ?_)
      refine z_iload_n B dX12_restartCollector_14 rfl 1 rfl ?_
      refine z_aload_n B dX12_restartCollector_15 rfl 2 rfl ?_
      refine z_get (ref := "FlowExporterModel") (C := RX12) (T := TX12) (N := 54) (ci := 14) (v := .ref (y + 12)) B (by decide +kernel) rfl 28 (by decide) (by decide +kernel) rfl h_1 rfl dX12_restartCollector_16 ?_
      refine z_iload_n B dX12_restartCollector_19 rfl 0 rfl ?_
      refine z_iald B h_2 (vin rfl) dX12_restartCollector_20 ?_
      refine z_if_le (tgt := 28) B dX12_restartCollector_21 rfl (fun c_28 => ?_) (fun c_28 => ?_)
      · refine z_iconst (v := 0) B dX12_restartCollector_28 rfl ?_
        refine z_iadd B dX12_restartCollector_29 ?_
        refine z_top (st1 := [.int 1]) (congrArg (fun w9 : Int32 => ([.int w9] : List Value)) (show (1 + 0 : Int32) = 1 by decide +kernel)) ?_
        refine z_istore_n (lv' := [(1, .int 1), (2, .int 2), (0, .ref y)]) B dX12_restartCollector_30 rfl (Nat.le_of_ble_eq_true rfl) rfl ?_
        refine z_iinc (k := 1) (v := 3) (lv' := [(2, .int 3), (1, .int 1), (0, .ref y)]) B dX12_restartCollector_31 rfl rfl (Nat.le_of_ble_eq_true rfl) rfl ?_
        refine z_goto (tgt := 9) B dX12_restartCollector_34 rfl ?_
        refine z_iload_n B dX12_restartCollector_9 rfl 0 rfl ?_
        refine z_iconst (v := 4) B dX12_restartCollector_10 rfl ?_
        refine z_icmp_ge (tgt := 37) B dX12_restartCollector_11 rfl (fun h9 => absurd h9 (by decide)) (fun c_29 => ?_)
        refine z_iload_n B dX12_restartCollector_14 rfl 1 rfl ?_
        refine z_aload_n B dX12_restartCollector_15 rfl 2 rfl ?_
        refine z_get (ref := "FlowExporterModel") (C := RX12) (T := TX12) (N := 54) (ci := 14) (v := .ref (y + 12)) B (by decide +kernel) rfl 28 (by decide) (by decide +kernel) rfl h_1 rfl dX12_restartCollector_16 ?_
        refine z_iload_n B dX12_restartCollector_19 rfl 0 rfl ?_
        refine z_iald B h_2 (vin rfl) dX12_restartCollector_20 ?_
        refine z_if_le (tgt := 28) B dX12_restartCollector_21 rfl (fun c_30 => ?_) (fun c_30 => ?_)
        · refine z_iconst (v := 0) B dX12_restartCollector_28 rfl ?_
          refine z_iadd B dX12_restartCollector_29 ?_
          refine z_top (st1 := [.int 1]) (congrArg (fun w9 : Int32 => ([.int w9] : List Value)) (show (1 + 0 : Int32) = 1 by decide +kernel)) ?_
          refine z_istore_n (lv' := [(1, .int 1), (2, .int 3), (0, .ref y)]) B dX12_restartCollector_30 rfl (Nat.le_of_ble_eq_true rfl) rfl ?_
          refine z_iinc (k := 1) (v := 4) (lv' := [(2, .int 4), (1, .int 1), (0, .ref y)]) B dX12_restartCollector_31 rfl rfl (Nat.le_of_ble_eq_true rfl) rfl ?_
          refine z_goto (tgt := 9) B dX12_restartCollector_34 rfl ?_
          refine z_iload_n B dX12_restartCollector_9 rfl 0 rfl ?_
          refine z_iconst (v := 4) B dX12_restartCollector_10 rfl ?_
          refine z_icmp_ge (tgt := 37) B dX12_restartCollector_11 rfl (fun c_31 => ?_) (fun h9 => absurd (by decide) h9)
          refine z_aload_n B dX12_restartCollector_37 rfl 2 rfl ?_
          refine z_callV (As := []) (rest := []) B (c_X12_startCollector G l Φ1 sz y 0 0 1 1 0 0 0 0 0 0 0 0 0 0 0 0 0 0 (-1) 0 0 0 0 0 (-1) 0 0 0 0 (upd (upd (upd (upd (fun _ => 0) (0 : Int32).toNatClampNeg 0) (1 : Int32).toNatClampNeg 0) (2 : Int32).toNatClampNeg 0) (3 : Int32).toNatClampNeg 0) h_1 h_2 hna) (cwV 0 B.1.2.2.2.2 gX12_restartCollector_X12_startCollector rfl rfl rfl (by decide +kernel) ⟨Nat.le_of_ble_eq_true rfl, Nat.le_of_ble_eq_true rfl⟩) h_1 rfl rfl rfl rfl (Nat.le_of_ble_eq_true rfl) dX12_restartCollector_38 ⟨Nat.le_of_ble_eq_true rfl, Nat.le_of_ble_eq_true rfl⟩ (fun v9 Φ10 sz9 st9 hp9 hs9 => ?_)
          obtain ⟨rfl, hq9, fr9, h_35, h_36⟩ := hp9
          replace hq9 : sz9 = sz := hq9
          subst sz9
          replace hs9 : st9 = [] := hs9
          subst st9
          have h_37 : Φ10 y = some (o_ 14 [.int 0, .ref (y + 1), .ref (y + 2), .int 0, .int 1, .int 1, .int 0, .int 0, .ref (y + 3), .ref (y + 4), .int 0, .long 0, .ref (y + 5), .int 0, .int 0, .long 0, .long 0, .long 0, .long 0, .ref (y + 6), .ref (y + 7), .int 0, .ref (y + 8), .int 0, .ref (y + 9), .ref (y + 10), .int 0, .ref (y + 11), .ref (y + 12), .ref (y + 13), .ref (y + 14), .ref (y + 15), .ref (y + 16), .int 0, .long (-1), .ref (y + 17), .ref (y + 18), .ref (y + 19), .ref (y + 20), .ref (y + 21), .ref (y + 22), .int 0, .ref (y + 23), .ref (y + 24), .int 0, .ref (y + 25), .int 0, .int 0, .int 0, .int (-1), .int 0, .int 0, .int 0, .long 0]) := h_35
          have h_38 : Φ10 (y + 12) = some (ai_ G 4 (upd (upd (upd (upd (upd (upd (upd (upd (fun _ => 0) (0 : Int32).toNatClampNeg 0) (1 : Int32).toNatClampNeg 0) (2 : Int32).toNatClampNeg 0) (3 : Int32).toNatClampNeg 0) (0 : Int32).toNatClampNeg 0) (1 : Int32).toNatClampNeg 0) (2 : Int32).toNatClampNeg 0) (3 : Int32).toNatClampNeg 0)) := h_36
          refine z_iload_n B dX12_restartCollector_41 rfl 1 rfl ?_
          exact z_ret_i B dX12_restartCollector_42 ⟨(by first | rfl | simp [c_2, c_26, c_28, c_30]), _, h_37, rfl⟩
        · refine z_iconst (v := 1) B dX12_restartCollector_24 rfl ?_
          refine z_goto (tgt := 29) B dX12_restartCollector_25 rfl ?_
          refine z_iadd B dX12_restartCollector_29 ?_
          refine z_top (st1 := [.int 2]) (congrArg (fun w9 : Int32 => ([.int w9] : List Value)) (show (1 + 1 : Int32) = 2 by decide +kernel)) ?_
          refine z_istore_n (lv' := [(1, .int 2), (2, .int 3), (0, .ref y)]) B dX12_restartCollector_30 rfl (Nat.le_of_ble_eq_true rfl) rfl ?_
          refine z_iinc (k := 1) (v := 4) (lv' := [(2, .int 4), (1, .int 2), (0, .ref y)]) B dX12_restartCollector_31 rfl rfl (Nat.le_of_ble_eq_true rfl) rfl ?_
          refine z_goto (tgt := 9) B dX12_restartCollector_34 rfl ?_
          refine z_iload_n B dX12_restartCollector_9 rfl 0 rfl ?_
          refine z_iconst (v := 4) B dX12_restartCollector_10 rfl ?_
          refine z_icmp_ge (tgt := 37) B dX12_restartCollector_11 rfl (fun c_32 => ?_) (fun h9 => absurd (by decide) h9)
          refine z_aload_n B dX12_restartCollector_37 rfl 2 rfl ?_
          refine z_callV (As := []) (rest := []) B (c_X12_startCollector G l Φ1 sz y 0 0 1 1 0 0 0 0 0 0 0 0 0 0 0 0 0 0 (-1) 0 0 0 0 0 (-1) 0 0 0 0 (upd (upd (upd (upd (fun _ => 0) (0 : Int32).toNatClampNeg 0) (1 : Int32).toNatClampNeg 0) (2 : Int32).toNatClampNeg 0) (3 : Int32).toNatClampNeg 0) h_1 h_2 hna) (cwV 0 B.1.2.2.2.2 gX12_restartCollector_X12_startCollector rfl rfl rfl (by decide +kernel) ⟨Nat.le_of_ble_eq_true rfl, Nat.le_of_ble_eq_true rfl⟩) h_1 rfl rfl rfl rfl (Nat.le_of_ble_eq_true rfl) dX12_restartCollector_38 ⟨Nat.le_of_ble_eq_true rfl, Nat.le_of_ble_eq_true rfl⟩ (fun v10 Φ11 sz10 st10 hp10 hs10 => ?_)
          obtain ⟨rfl, hq10, fr10, h_39, h_40⟩ := hp10
          replace hq10 : sz10 = sz := hq10
          subst sz10
          replace hs10 : st10 = [] := hs10
          subst st10
          have h_41 : Φ11 y = some (o_ 14 [.int 0, .ref (y + 1), .ref (y + 2), .int 0, .int 1, .int 1, .int 0, .int 0, .ref (y + 3), .ref (y + 4), .int 0, .long 0, .ref (y + 5), .int 0, .int 0, .long 0, .long 0, .long 0, .long 0, .ref (y + 6), .ref (y + 7), .int 0, .ref (y + 8), .int 0, .ref (y + 9), .ref (y + 10), .int 0, .ref (y + 11), .ref (y + 12), .ref (y + 13), .ref (y + 14), .ref (y + 15), .ref (y + 16), .int 0, .long (-1), .ref (y + 17), .ref (y + 18), .ref (y + 19), .ref (y + 20), .ref (y + 21), .ref (y + 22), .int 0, .ref (y + 23), .ref (y + 24), .int 0, .ref (y + 25), .int 0, .int 0, .int 0, .int (-1), .int 0, .int 0, .int 0, .long 0]) := h_39
          have h_42 : Φ11 (y + 12) = some (ai_ G 4 (upd (upd (upd (upd (upd (upd (upd (upd (fun _ => 0) (0 : Int32).toNatClampNeg 0) (1 : Int32).toNatClampNeg 0) (2 : Int32).toNatClampNeg 0) (3 : Int32).toNatClampNeg 0) (0 : Int32).toNatClampNeg 0) (1 : Int32).toNatClampNeg 0) (2 : Int32).toNatClampNeg 0) (3 : Int32).toNatClampNeg 0)) := h_40
          refine z_iload_n B dX12_restartCollector_41 rfl 1 rfl ?_
          exact z_ret_i B dX12_restartCollector_42 ⟨(by first | rfl | simp [c_2, c_26, c_28, c_30]), _, h_41, rfl⟩
      · refine z_iconst (v := 1) B dX12_restartCollector_24 rfl ?_
        refine z_goto (tgt := 29) B dX12_restartCollector_25 rfl ?_
        refine z_iadd B dX12_restartCollector_29 ?_
        refine z_top (st1 := [.int 2]) (congrArg (fun w9 : Int32 => ([.int w9] : List Value)) (show (1 + 1 : Int32) = 2 by decide +kernel)) ?_
        refine z_istore_n (lv' := [(1, .int 2), (2, .int 2), (0, .ref y)]) B dX12_restartCollector_30 rfl (Nat.le_of_ble_eq_true rfl) rfl ?_
        refine z_iinc (k := 1) (v := 3) (lv' := [(2, .int 3), (1, .int 2), (0, .ref y)]) B dX12_restartCollector_31 rfl rfl (Nat.le_of_ble_eq_true rfl) rfl ?_
        refine z_goto (tgt := 9) B dX12_restartCollector_34 rfl ?_
        refine z_iload_n B dX12_restartCollector_9 rfl 0 rfl ?_
        refine z_iconst (v := 4) B dX12_restartCollector_10 rfl ?_
        refine z_icmp_ge (tgt := 37) B dX12_restartCollector_11 rfl (fun h9 => absurd h9 (by decide)) (fun c_33 => ?_)
        refine z_iload_n B dX12_restartCollector_14 rfl 1 rfl ?_
        refine z_aload_n B dX12_restartCollector_15 rfl 2 rfl ?_
        refine z_get (ref := "FlowExporterModel") (C := RX12) (T := TX12) (N := 54) (ci := 14) (v := .ref (y + 12)) B (by decide +kernel) rfl 28 (by decide) (by decide +kernel) rfl h_1 rfl dX12_restartCollector_16 ?_
        refine z_iload_n B dX12_restartCollector_19 rfl 0 rfl ?_
        refine z_iald B h_2 (vin rfl) dX12_restartCollector_20 ?_
        refine z_if_le (tgt := 28) B dX12_restartCollector_21 rfl (fun c_34 => ?_) (fun c_34 => ?_)
        · refine z_iconst (v := 0) B dX12_restartCollector_28 rfl ?_
          refine z_iadd B dX12_restartCollector_29 ?_
          refine z_top (st1 := [.int 2]) (congrArg (fun w9 : Int32 => ([.int w9] : List Value)) (show (2 + 0 : Int32) = 2 by decide +kernel)) ?_
          refine z_istore_n (lv' := [(1, .int 2), (2, .int 3), (0, .ref y)]) B dX12_restartCollector_30 rfl (Nat.le_of_ble_eq_true rfl) rfl ?_
          refine z_iinc (k := 1) (v := 4) (lv' := [(2, .int 4), (1, .int 2), (0, .ref y)]) B dX12_restartCollector_31 rfl rfl (Nat.le_of_ble_eq_true rfl) rfl ?_
          refine z_goto (tgt := 9) B dX12_restartCollector_34 rfl ?_
          refine z_iload_n B dX12_restartCollector_9 rfl 0 rfl ?_
          refine z_iconst (v := 4) B dX12_restartCollector_10 rfl ?_
          refine z_icmp_ge (tgt := 37) B dX12_restartCollector_11 rfl (fun c_35 => ?_) (fun h9 => absurd (by decide) h9)
          refine z_aload_n B dX12_restartCollector_37 rfl 2 rfl ?_
          refine z_callV (As := []) (rest := []) B (c_X12_startCollector G l Φ1 sz y 0 0 1 1 0 0 0 0 0 0 0 0 0 0 0 0 0 0 (-1) 0 0 0 0 0 (-1) 0 0 0 0 (upd (upd (upd (upd (fun _ => 0) (0 : Int32).toNatClampNeg 0) (1 : Int32).toNatClampNeg 0) (2 : Int32).toNatClampNeg 0) (3 : Int32).toNatClampNeg 0) h_1 h_2 hna) (cwV 0 B.1.2.2.2.2 gX12_restartCollector_X12_startCollector rfl rfl rfl (by decide +kernel) ⟨Nat.le_of_ble_eq_true rfl, Nat.le_of_ble_eq_true rfl⟩) h_1 rfl rfl rfl rfl (Nat.le_of_ble_eq_true rfl) dX12_restartCollector_38 ⟨Nat.le_of_ble_eq_true rfl, Nat.le_of_ble_eq_true rfl⟩ (fun v11 Φ12 sz11 st11 hp11 hs11 => ?_)
          obtain ⟨rfl, hq11, fr11, h_43, h_44⟩ := hp11
          replace hq11 : sz11 = sz := hq11
          subst sz11
          replace hs11 : st11 = [] := hs11
          subst st11
          have h_45 : Φ12 y = some (o_ 14 [.int 0, .ref (y + 1), .ref (y + 2), .int 0, .int 1, .int 1, .int 0, .int 0, .ref (y + 3), .ref (y + 4), .int 0, .long 0, .ref (y + 5), .int 0, .int 0, .long 0, .long 0, .long 0, .long 0, .ref (y + 6), .ref (y + 7), .int 0, .ref (y + 8), .int 0, .ref (y + 9), .ref (y + 10), .int 0, .ref (y + 11), .ref (y + 12), .ref (y + 13), .ref (y + 14), .ref (y + 15), .ref (y + 16), .int 0, .long (-1), .ref (y + 17), .ref (y + 18), .ref (y + 19), .ref (y + 20), .ref (y + 21), .ref (y + 22), .int 0, .ref (y + 23), .ref (y + 24), .int 0, .ref (y + 25), .int 0, .int 0, .int 0, .int (-1), .int 0, .int 0, .int 0, .long 0]) := h_43
          have h_46 : Φ12 (y + 12) = some (ai_ G 4 (upd (upd (upd (upd (upd (upd (upd (upd (fun _ => 0) (0 : Int32).toNatClampNeg 0) (1 : Int32).toNatClampNeg 0) (2 : Int32).toNatClampNeg 0) (3 : Int32).toNatClampNeg 0) (0 : Int32).toNatClampNeg 0) (1 : Int32).toNatClampNeg 0) (2 : Int32).toNatClampNeg 0) (3 : Int32).toNatClampNeg 0)) := h_44
          refine z_iload_n B dX12_restartCollector_41 rfl 1 rfl ?_
          exact z_ret_i B dX12_restartCollector_42 ⟨(by first | rfl | simp [c_2, c_26, c_28, c_34]), _, h_45, rfl⟩
        · refine z_iconst (v := 1) B dX12_restartCollector_24 rfl ?_
          refine z_goto (tgt := 29) B dX12_restartCollector_25 rfl ?_
          refine z_iadd B dX12_restartCollector_29 ?_
          refine z_top (st1 := [.int 3]) (congrArg (fun w9 : Int32 => ([.int w9] : List Value)) (show (2 + 1 : Int32) = 3 by decide +kernel)) ?_
          refine z_istore_n (lv' := [(1, .int 3), (2, .int 3), (0, .ref y)]) B dX12_restartCollector_30 rfl (Nat.le_of_ble_eq_true rfl) rfl ?_
          refine z_iinc (k := 1) (v := 4) (lv' := [(2, .int 4), (1, .int 3), (0, .ref y)]) B dX12_restartCollector_31 rfl rfl (Nat.le_of_ble_eq_true rfl) rfl ?_
          refine z_goto (tgt := 9) B dX12_restartCollector_34 rfl ?_
          refine z_iload_n B dX12_restartCollector_9 rfl 0 rfl ?_
          refine z_iconst (v := 4) B dX12_restartCollector_10 rfl ?_
          refine z_icmp_ge (tgt := 37) B dX12_restartCollector_11 rfl (fun c_36 => ?_) (fun h9 => absurd (by decide) h9)
          refine z_aload_n B dX12_restartCollector_37 rfl 2 rfl ?_
          refine z_callV (As := []) (rest := []) B (c_X12_startCollector G l Φ1 sz y 0 0 1 1 0 0 0 0 0 0 0 0 0 0 0 0 0 0 (-1) 0 0 0 0 0 (-1) 0 0 0 0 (upd (upd (upd (upd (fun _ => 0) (0 : Int32).toNatClampNeg 0) (1 : Int32).toNatClampNeg 0) (2 : Int32).toNatClampNeg 0) (3 : Int32).toNatClampNeg 0) h_1 h_2 hna) (cwV 0 B.1.2.2.2.2 gX12_restartCollector_X12_startCollector rfl rfl rfl (by decide +kernel) ⟨Nat.le_of_ble_eq_true rfl, Nat.le_of_ble_eq_true rfl⟩) h_1 rfl rfl rfl rfl (Nat.le_of_ble_eq_true rfl) dX12_restartCollector_38 ⟨Nat.le_of_ble_eq_true rfl, Nat.le_of_ble_eq_true rfl⟩ (fun v12 Φ13 sz12 st12 hp12 hs12 => ?_)
          obtain ⟨rfl, hq12, fr12, h_47, h_48⟩ := hp12
          replace hq12 : sz12 = sz := hq12
          subst sz12
          replace hs12 : st12 = [] := hs12
          subst st12
          have h_49 : Φ13 y = some (o_ 14 [.int 0, .ref (y + 1), .ref (y + 2), .int 0, .int 1, .int 1, .int 0, .int 0, .ref (y + 3), .ref (y + 4), .int 0, .long 0, .ref (y + 5), .int 0, .int 0, .long 0, .long 0, .long 0, .long 0, .ref (y + 6), .ref (y + 7), .int 0, .ref (y + 8), .int 0, .ref (y + 9), .ref (y + 10), .int 0, .ref (y + 11), .ref (y + 12), .ref (y + 13), .ref (y + 14), .ref (y + 15), .ref (y + 16), .int 0, .long (-1), .ref (y + 17), .ref (y + 18), .ref (y + 19), .ref (y + 20), .ref (y + 21), .ref (y + 22), .int 0, .ref (y + 23), .ref (y + 24), .int 0, .ref (y + 25), .int 0, .int 0, .int 0, .int (-1), .int 0, .int 0, .int 0, .long 0]) := h_47
          have h_50 : Φ13 (y + 12) = some (ai_ G 4 (upd (upd (upd (upd (upd (upd (upd (upd (fun _ => 0) (0 : Int32).toNatClampNeg 0) (1 : Int32).toNatClampNeg 0) (2 : Int32).toNatClampNeg 0) (3 : Int32).toNatClampNeg 0) (0 : Int32).toNatClampNeg 0) (1 : Int32).toNatClampNeg 0) (2 : Int32).toNatClampNeg 0) (3 : Int32).toNatClampNeg 0)) := h_48
          refine z_iload_n B dX12_restartCollector_41 rfl 1 rfl ?_
          exact z_ret_i B dX12_restartCollector_42 ⟨(by first | rfl | simp [c_2, c_26, c_28, c_34]), _, h_49, rfl⟩
    · refine z_iconst (v := 1) B dX12_restartCollector_24 rfl ?_
      refine z_goto (tgt := 29) B dX12_restartCollector_25 rfl ?_
      refine z_iadd B dX12_restartCollector_29 ?_
      refine z_top (st1 := [.int 2]) (congrArg (fun w9 : Int32 => ([.int w9] : List Value)) (show (1 + 1 : Int32) = 2 by decide +kernel)) ?_
      refine z_istore_n (lv' := [(1, .int 2), (2, .int 1), (0, .ref y)]) B dX12_restartCollector_30 rfl (Nat.le_of_ble_eq_true rfl) rfl ?_
      refine z_iinc (k := 1) (v := 2) (lv' := [(2, .int 2), (1, .int 2), (0, .ref y)]) B dX12_restartCollector_31 rfl rfl (Nat.le_of_ble_eq_true rfl) rfl ?_
      refine z_goto (tgt := 9) B dX12_restartCollector_34 rfl ?_
      refine z_iload_n B dX12_restartCollector_9 rfl 0 rfl ?_
      refine z_iconst (v := 4) B dX12_restartCollector_10 rfl ?_
      refine z_icmp_ge (tgt := 37) B dX12_restartCollector_11 rfl (fun h9 => absurd h9 (by decide)) (fun c_37 => ?_)
      refine z_iload_n B dX12_restartCollector_14 rfl 1 rfl ?_
      refine z_aload_n B dX12_restartCollector_15 rfl 2 rfl ?_
      refine z_get (ref := "FlowExporterModel") (C := RX12) (T := TX12) (N := 54) (ci := 14) (v := .ref (y + 12)) B (by decide +kernel) rfl 28 (by decide) (by decide +kernel) rfl h_1 rfl dX12_restartCollector_16 ?_
      refine z_iload_n B dX12_restartCollector_19 rfl 0 rfl ?_
      refine z_iald B h_2 (vin rfl) dX12_restartCollector_20 ?_
      refine z_if_le (tgt := 28) B dX12_restartCollector_21 rfl (fun c_38 => ?_) (fun c_38 => ?_)
      · refine z_iconst (v := 0) B dX12_restartCollector_28 rfl ?_
        refine z_iadd B dX12_restartCollector_29 ?_
        refine z_top (st1 := [.int 2]) (congrArg (fun w9 : Int32 => ([.int w9] : List Value)) (show (2 + 0 : Int32) = 2 by decide +kernel)) ?_
        refine z_istore_n (lv' := [(1, .int 2), (2, .int 2), (0, .ref y)]) B dX12_restartCollector_30 rfl (Nat.le_of_ble_eq_true rfl) rfl ?_
        refine z_iinc (k := 1) (v := 3) (lv' := [(2, .int 3), (1, .int 2), (0, .ref y)]) B dX12_restartCollector_31 rfl rfl (Nat.le_of_ble_eq_true rfl) rfl ?_
        refine z_goto (tgt := 9) B dX12_restartCollector_34 rfl ?_
        refine z_iload_n B dX12_restartCollector_9 rfl 0 rfl ?_
        refine z_iconst (v := 4) B dX12_restartCollector_10 rfl ?_
        refine z_icmp_ge (tgt := 37) B dX12_restartCollector_11 rfl (fun h9 => absurd h9 (by decide)) (fun c_39 => ?_)
        refine z_iload_n B dX12_restartCollector_14 rfl 1 rfl ?_
        refine z_aload_n B dX12_restartCollector_15 rfl 2 rfl ?_
        refine z_get (ref := "FlowExporterModel") (C := RX12) (T := TX12) (N := 54) (ci := 14) (v := .ref (y + 12)) B (by decide +kernel) rfl 28 (by decide) (by decide +kernel) rfl h_1 rfl dX12_restartCollector_16 ?_
        refine z_iload_n B dX12_restartCollector_19 rfl 0 rfl ?_
        refine z_iald B h_2 (vin rfl) dX12_restartCollector_20 ?_
        refine z_if_le (tgt := 28) B dX12_restartCollector_21 rfl (fun c_40 => ?_) (fun c_40 => ?_)
        · refine z_iconst (v := 0) B dX12_restartCollector_28 rfl ?_
          refine z_iadd B dX12_restartCollector_29 ?_
          refine z_top (st1 := [.int 2]) (congrArg (fun w9 : Int32 => ([.int w9] : List Value)) (show (2 + 0 : Int32) = 2 by decide +kernel)) ?_
          refine z_istore_n (lv' := [(1, .int 2), (2, .int 3), (0, .ref y)]) B dX12_restartCollector_30 rfl (Nat.le_of_ble_eq_true rfl) rfl ?_
          refine z_iinc (k := 1) (v := 4) (lv' := [(2, .int 4), (1, .int 2), (0, .ref y)]) B dX12_restartCollector_31 rfl rfl (Nat.le_of_ble_eq_true rfl) rfl ?_
          refine z_goto (tgt := 9) B dX12_restartCollector_34 rfl ?_
          refine z_iload_n B dX12_restartCollector_9 rfl 0 rfl ?_
          refine z_iconst (v := 4) B dX12_restartCollector_10 rfl ?_
          refine z_icmp_ge (tgt := 37) B dX12_restartCollector_11 rfl (fun c_41 => ?_) (fun h9 => absurd (by decide) h9)
          refine z_aload_n B dX12_restartCollector_37 rfl 2 rfl ?_
          refine z_callV (As := []) (rest := []) B (c_X12_startCollector G l Φ1 sz y 0 0 1 1 0 0 0 0 0 0 0 0 0 0 0 0 0 0 (-1) 0 0 0 0 0 (-1) 0 0 0 0 (upd (upd (upd (upd (fun _ => 0) (0 : Int32).toNatClampNeg 0) (1 : Int32).toNatClampNeg 0) (2 : Int32).toNatClampNeg 0) (3 : Int32).toNatClampNeg 0) h_1 h_2 hna) (cwV 0 B.1.2.2.2.2 gX12_restartCollector_X12_startCollector rfl rfl rfl (by decide +kernel) ⟨Nat.le_of_ble_eq_true rfl, Nat.le_of_ble_eq_true rfl⟩) h_1 rfl rfl rfl rfl (Nat.le_of_ble_eq_true rfl) dX12_restartCollector_38 ⟨Nat.le_of_ble_eq_true rfl, Nat.le_of_ble_eq_true rfl⟩ (fun v13 Φ14 sz13 st13 hp13 hs13 => ?_)
          obtain ⟨rfl, hq13, fr13, h_51, h_52⟩ := hp13
          replace hq13 : sz13 = sz := hq13
          subst sz13
          replace hs13 : st13 = [] := hs13
          subst st13
          have h_53 : Φ14 y = some (o_ 14 [.int 0, .ref (y + 1), .ref (y + 2), .int 0, .int 1, .int 1, .int 0, .int 0, .ref (y + 3), .ref (y + 4), .int 0, .long 0, .ref (y + 5), .int 0, .int 0, .long 0, .long 0, .long 0, .long 0, .ref (y + 6), .ref (y + 7), .int 0, .ref (y + 8), .int 0, .ref (y + 9), .ref (y + 10), .int 0, .ref (y + 11), .ref (y + 12), .ref (y + 13), .ref (y + 14), .ref (y + 15), .ref (y + 16), .int 0, .long (-1), .ref (y + 17), .ref (y + 18), .ref (y + 19), .ref (y + 20), .ref (y + 21), .ref (y + 22), .int 0, .ref (y + 23), .ref (y + 24), .int 0, .ref (y + 25), .int 0, .int 0, .int 0, .int (-1), .int 0, .int 0, .int 0, .long 0]) := h_51
          have h_54 : Φ14 (y + 12) = some (ai_ G 4 (upd (upd (upd (upd (upd (upd (upd (upd (fun _ => 0) (0 : Int32).toNatClampNeg 0) (1 : Int32).toNatClampNeg 0) (2 : Int32).toNatClampNeg 0) (3 : Int32).toNatClampNeg 0) (0 : Int32).toNatClampNeg 0) (1 : Int32).toNatClampNeg 0) (2 : Int32).toNatClampNeg 0) (3 : Int32).toNatClampNeg 0)) := h_52
          refine z_iload_n B dX12_restartCollector_41 rfl 1 rfl ?_
          exact z_ret_i B dX12_restartCollector_42 ⟨(by first | rfl | simp [c_2, c_26, c_38, c_40]), _, h_53, rfl⟩
        · refine z_iconst (v := 1) B dX12_restartCollector_24 rfl ?_
          refine z_goto (tgt := 29) B dX12_restartCollector_25 rfl ?_
          refine z_iadd B dX12_restartCollector_29 ?_
          refine z_top (st1 := [.int 3]) (congrArg (fun w9 : Int32 => ([.int w9] : List Value)) (show (2 + 1 : Int32) = 3 by decide +kernel)) ?_
          refine z_istore_n (lv' := [(1, .int 3), (2, .int 3), (0, .ref y)]) B dX12_restartCollector_30 rfl (Nat.le_of_ble_eq_true rfl) rfl ?_
          refine z_iinc (k := 1) (v := 4) (lv' := [(2, .int 4), (1, .int 3), (0, .ref y)]) B dX12_restartCollector_31 rfl rfl (Nat.le_of_ble_eq_true rfl) rfl ?_
          refine z_goto (tgt := 9) B dX12_restartCollector_34 rfl ?_
          refine z_iload_n B dX12_restartCollector_9 rfl 0 rfl ?_
          refine z_iconst (v := 4) B dX12_restartCollector_10 rfl ?_
          refine z_icmp_ge (tgt := 37) B dX12_restartCollector_11 rfl (fun c_42 => ?_) (fun h9 => absurd (by decide) h9)
          refine z_aload_n B dX12_restartCollector_37 rfl 2 rfl ?_
          refine z_callV (As := []) (rest := []) B (c_X12_startCollector G l Φ1 sz y 0 0 1 1 0 0 0 0 0 0 0 0 0 0 0 0 0 0 (-1) 0 0 0 0 0 (-1) 0 0 0 0 (upd (upd (upd (upd (fun _ => 0) (0 : Int32).toNatClampNeg 0) (1 : Int32).toNatClampNeg 0) (2 : Int32).toNatClampNeg 0) (3 : Int32).toNatClampNeg 0) h_1 h_2 hna) (cwV 0 B.1.2.2.2.2 gX12_restartCollector_X12_startCollector rfl rfl rfl (by decide +kernel) ⟨Nat.le_of_ble_eq_true rfl, Nat.le_of_ble_eq_true rfl⟩) h_1 rfl rfl rfl rfl (Nat.le_of_ble_eq_true rfl) dX12_restartCollector_38 ⟨Nat.le_of_ble_eq_true rfl, Nat.le_of_ble_eq_true rfl⟩ (fun v14 Φ15 sz14 st14 hp14 hs14 => ?_)
          obtain ⟨rfl, hq14, fr14, h_55, h_56⟩ := hp14
          replace hq14 : sz14 = sz := hq14
          subst sz14
          replace hs14 : st14 = [] := hs14
          subst st14
          have h_57 : Φ15 y = some (o_ 14 [.int 0, .ref (y + 1), .ref (y + 2), .int 0, .int 1, .int 1, .int 0, .int 0, .ref (y + 3), .ref (y + 4), .int 0, .long 0, .ref (y + 5), .int 0, .int 0, .long 0, .long 0, .long 0, .long 0, .ref (y + 6), .ref (y + 7), .int 0, .ref (y + 8), .int 0, .ref (y + 9), .ref (y + 10), .int 0, .ref (y + 11), .ref (y + 12), .ref (y + 13), .ref (y + 14), .ref (y + 15), .ref (y + 16), .int 0, .long (-1), .ref (y + 17), .ref (y + 18), .ref (y + 19), .ref (y + 20), .ref (y + 21), .ref (y + 22), .int 0, .ref (y + 23), .ref (y + 24), .int 0, .ref (y + 25), .int 0, .int 0, .int 0, .int (-1), .int 0, .int 0, .int 0, .long 0]) := h_55
          have h_58 : Φ15 (y + 12) = some (ai_ G 4 (upd (upd (upd (upd (upd (upd (upd (upd (fun _ => 0) (0 : Int32).toNatClampNeg 0) (1 : Int32).toNatClampNeg 0) (2 : Int32).toNatClampNeg 0) (3 : Int32).toNatClampNeg 0) (0 : Int32).toNatClampNeg 0) (1 : Int32).toNatClampNeg 0) (2 : Int32).toNatClampNeg 0) (3 : Int32).toNatClampNeg 0)) := h_56
          refine z_iload_n B dX12_restartCollector_41 rfl 1 rfl ?_
          exact z_ret_i B dX12_restartCollector_42 ⟨(by first | rfl | simp [c_2, c_26, c_38, c_40]), _, h_57, rfl⟩
      · refine z_iconst (v := 1) B dX12_restartCollector_24 rfl ?_
        refine z_goto (tgt := 29) B dX12_restartCollector_25 rfl ?_
        refine z_iadd B dX12_restartCollector_29 ?_
        refine z_top (st1 := [.int 3]) (congrArg (fun w9 : Int32 => ([.int w9] : List Value)) (show (2 + 1 : Int32) = 3 by decide +kernel)) ?_
        refine z_istore_n (lv' := [(1, .int 3), (2, .int 2), (0, .ref y)]) B dX12_restartCollector_30 rfl (Nat.le_of_ble_eq_true rfl) rfl ?_
        refine z_iinc (k := 1) (v := 3) (lv' := [(2, .int 3), (1, .int 3), (0, .ref y)]) B dX12_restartCollector_31 rfl rfl (Nat.le_of_ble_eq_true rfl) rfl ?_
        refine z_goto (tgt := 9) B dX12_restartCollector_34 rfl ?_
        refine z_iload_n B dX12_restartCollector_9 rfl 0 rfl ?_
        refine z_iconst (v := 4) B dX12_restartCollector_10 rfl ?_
        refine z_icmp_ge (tgt := 37) B dX12_restartCollector_11 rfl (fun h9 => absurd h9 (by decide)) (fun c_43 => ?_)
        refine z_iload_n B dX12_restartCollector_14 rfl 1 rfl ?_
        refine z_aload_n B dX12_restartCollector_15 rfl 2 rfl ?_
        refine z_get (ref := "FlowExporterModel") (C := RX12) (T := TX12) (N := 54) (ci := 14) (v := .ref (y + 12)) B (by decide +kernel) rfl 28 (by decide) (by decide +kernel) rfl h_1 rfl dX12_restartCollector_16 ?_
        refine z_iload_n B dX12_restartCollector_19 rfl 0 rfl ?_
        refine z_iald B h_2 (vin rfl) dX12_restartCollector_20 ?_
        refine z_if_le (tgt := 28) B dX12_restartCollector_21 rfl (fun c_44 => ?_) (fun c_44 => ?_)
        · refine z_iconst (v := 0) B dX12_restartCollector_28 rfl ?_
          refine z_iadd B dX12_restartCollector_29 ?_
          refine z_top (st1 := [.int 3]) (congrArg (fun w9 : Int32 => ([.int w9] : List Value)) (show (3 + 0 : Int32) = 3 by decide +kernel)) ?_
          refine z_istore_n (lv' := [(1, .int 3), (2, .int 3), (0, .ref y)]) B dX12_restartCollector_30 rfl (Nat.le_of_ble_eq_true rfl) rfl ?_
          refine z_iinc (k := 1) (v := 4) (lv' := [(2, .int 4), (1, .int 3), (0, .ref y)]) B dX12_restartCollector_31 rfl rfl (Nat.le_of_ble_eq_true rfl) rfl ?_
          refine z_goto (tgt := 9) B dX12_restartCollector_34 rfl ?_
          refine z_iload_n B dX12_restartCollector_9 rfl 0 rfl ?_
          refine z_iconst (v := 4) B dX12_restartCollector_10 rfl ?_
          refine z_icmp_ge (tgt := 37) B dX12_restartCollector_11 rfl (fun c_45 => ?_) (fun h9 => absurd (by decide) h9)
          refine z_aload_n B dX12_restartCollector_37 rfl 2 rfl ?_
          refine z_callV (As := []) (rest := []) B (c_X12_startCollector G l Φ1 sz y 0 0 1 1 0 0 0 0 0 0 0 0 0 0 0 0 0 0 (-1) 0 0 0 0 0 (-1) 0 0 0 0 (upd (upd (upd (upd (fun _ => 0) (0 : Int32).toNatClampNeg 0) (1 : Int32).toNatClampNeg 0) (2 : Int32).toNatClampNeg 0) (3 : Int32).toNatClampNeg 0) h_1 h_2 hna) (cwV 0 B.1.2.2.2.2 gX12_restartCollector_X12_startCollector rfl rfl rfl (by decide +kernel) ⟨Nat.le_of_ble_eq_true rfl, Nat.le_of_ble_eq_true rfl⟩) h_1 rfl rfl rfl rfl (Nat.le_of_ble_eq_true rfl) dX12_restartCollector_38 ⟨Nat.le_of_ble_eq_true rfl, Nat.le_of_ble_eq_true rfl⟩ (fun v15 Φ16 sz15 st15 hp15 hs15 => ?_)
          obtain ⟨rfl, hq15, fr15, h_59, h_60⟩ := hp15
          replace hq15 : sz15 = sz := hq15
          subst sz15
          replace hs15 : st15 = [] := hs15
          subst st15
          have h_61 : Φ16 y = some (o_ 14 [.int 0, .ref (y + 1), .ref (y + 2), .int 0, .int 1, .int 1, .int 0, .int 0, .ref (y + 3), .ref (y + 4), .int 0, .long 0, .ref (y + 5), .int 0, .int 0, .long 0, .long 0, .long 0, .long 0, .ref (y + 6), .ref (y + 7), .int 0, .ref (y + 8), .int 0, .ref (y + 9), .ref (y + 10), .int 0, .ref (y + 11), .ref (y + 12), .ref (y + 13), .ref (y + 14), .ref (y + 15), .ref (y + 16), .int 0, .long (-1), .ref (y + 17), .ref (y + 18), .ref (y + 19), .ref (y + 20), .ref (y + 21), .ref (y + 22), .int 0, .ref (y + 23), .ref (y + 24), .int 0, .ref (y + 25), .int 0, .int 0, .int 0, .int (-1), .int 0, .int 0, .int 0, .long 0]) := h_59
          have h_62 : Φ16 (y + 12) = some (ai_ G 4 (upd (upd (upd (upd (upd (upd (upd (upd (fun _ => 0) (0 : Int32).toNatClampNeg 0) (1 : Int32).toNatClampNeg 0) (2 : Int32).toNatClampNeg 0) (3 : Int32).toNatClampNeg 0) (0 : Int32).toNatClampNeg 0) (1 : Int32).toNatClampNeg 0) (2 : Int32).toNatClampNeg 0) (3 : Int32).toNatClampNeg 0)) := h_60
          refine z_iload_n B dX12_restartCollector_41 rfl 1 rfl ?_
          exact z_ret_i B dX12_restartCollector_42 ⟨(by first | rfl | simp [c_2, c_26, c_38, c_44]), _, h_61, rfl⟩
        · refine z_iconst (v := 1) B dX12_restartCollector_24 rfl ?_
          refine z_goto (tgt := 29) B dX12_restartCollector_25 rfl ?_
          refine z_iadd B dX12_restartCollector_29 ?_
          refine z_top (st1 := [.int 4]) (congrArg (fun w9 : Int32 => ([.int w9] : List Value)) (show (3 + 1 : Int32) = 4 by decide +kernel)) ?_
          refine z_istore_n (lv' := [(1, .int 4), (2, .int 3), (0, .ref y)]) B dX12_restartCollector_30 rfl (Nat.le_of_ble_eq_true rfl) rfl ?_
          refine z_iinc (k := 1) (v := 4) (lv' := [(2, .int 4), (1, .int 4), (0, .ref y)]) B dX12_restartCollector_31 rfl rfl (Nat.le_of_ble_eq_true rfl) rfl ?_
          refine z_goto (tgt := 9) B dX12_restartCollector_34 rfl ?_
          refine z_iload_n B dX12_restartCollector_9 rfl 0 rfl ?_
          refine z_iconst (v := 4) B dX12_restartCollector_10 rfl ?_
          refine z_icmp_ge (tgt := 37) B dX12_restartCollector_11 rfl (fun c_46 => ?_) (fun h9 => absurd (by decide) h9)
          refine z_aload_n B dX12_restartCollector_37 rfl 2 rfl ?_
          refine z_callV (As := []) (rest := []) B (c_X12_startCollector G l Φ1 sz y 0 0 1 1 0 0 0 0 0 0 0 0 0 0 0 0 0 0 (-1) 0 0 0 0 0 (-1) 0 0 0 0 (upd (upd (upd (upd (fun _ => 0) (0 : Int32).toNatClampNeg 0) (1 : Int32).toNatClampNeg 0) (2 : Int32).toNatClampNeg 0) (3 : Int32).toNatClampNeg 0) h_1 h_2 hna) (cwV 0 B.1.2.2.2.2 gX12_restartCollector_X12_startCollector rfl rfl rfl (by decide +kernel) ⟨Nat.le_of_ble_eq_true rfl, Nat.le_of_ble_eq_true rfl⟩) h_1 rfl rfl rfl rfl (Nat.le_of_ble_eq_true rfl) dX12_restartCollector_38 ⟨Nat.le_of_ble_eq_true rfl, Nat.le_of_ble_eq_true rfl⟩ (fun v16 Φ17 sz16 st16 hp16 hs16 => ?_)
          obtain ⟨rfl, hq16, fr16, h_63, h_64⟩ := hp16
          replace hq16 : sz16 = sz := hq16
          subst sz16
          replace hs16 : st16 = [] := hs16
          subst st16
          have h_65 : Φ17 y = some (o_ 14 [.int 0, .ref (y + 1), .ref (y + 2), .int 0, .int 1, .int 1, .int 0, .int 0, .ref (y + 3), .ref (y + 4), .int 0, .long 0, .ref (y + 5), .int 0, .int 0, .long 0, .long 0, .long 0, .long 0, .ref (y + 6), .ref (y + 7), .int 0, .ref (y + 8), .int 0, .ref (y + 9), .ref (y + 10), .int 0, .ref (y + 11), .ref (y + 12), .ref (y + 13), .ref (y + 14), .ref (y + 15), .ref (y + 16), .int 0, .long (-1), .ref (y + 17), .ref (y + 18), .ref (y + 19), .ref (y + 20), .ref (y + 21), .ref (y + 22), .int 0, .ref (y + 23), .ref (y + 24), .int 0, .ref (y + 25), .int 0, .int 0, .int 0, .int (-1), .int 0, .int 0, .int 0, .long 0]) := h_63
          have h_66 : Φ17 (y + 12) = some (ai_ G 4 (upd (upd (upd (upd (upd (upd (upd (upd (fun _ => 0) (0 : Int32).toNatClampNeg 0) (1 : Int32).toNatClampNeg 0) (2 : Int32).toNatClampNeg 0) (3 : Int32).toNatClampNeg 0) (0 : Int32).toNatClampNeg 0) (1 : Int32).toNatClampNeg 0) (2 : Int32).toNatClampNeg 0) (3 : Int32).toNatClampNeg 0)) := h_64
          refine z_iload_n B dX12_restartCollector_41 rfl 1 rfl ?_
          exact z_ret_i B dX12_restartCollector_42 ⟨(by first | rfl | simp [c_2, c_26, c_38, c_44]), _, h_65, rfl⟩

set_option maxHeartbeats 4000000 in
set_option maxRecDepth 100000 in
theorem m_X12_requestTemplates (G : EnvG) (l : Launch) (Φ : Hm) (sz : Nat) (y : Nat) (hc0_ : Φ y = some (o_ 14 [.int 0, .ref (y + 1), .ref (y + 2), .int 0, .int 1, .int 1, .int 0, .int 0, .ref (y + 3), .ref (y + 4), .int 0, .long 0, .ref (y + 5), .int 0, .int 0, .long 0, .long 0, .long 0, .long 0, .ref (y + 6), .ref (y + 7), .int 0, .ref (y + 8), .int 0, .ref (y + 9), .ref (y + 10), .int 0, .ref (y + 11), .ref (y + 12), .ref (y + 13), .ref (y + 14), .ref (y + 15), .ref (y + 16), .int 0, .long (-1), .ref (y + 17), .ref (y + 18), .ref (y + 19), .ref (y + 20), .ref (y + 21), .ref (y + 22), .int 0, .ref (y + 23), .ref (y + 24), .int 0, .ref (y + 25), .int 0, .int 0, .int 0, .int (-1), .int 0, .int 0, .int 0, .long 0])) (hc3_ : Φ (y + 3) = some (ai_ G 4 (upd (upd (upd (upd (fun _ => 0) (0 : Int32).toNatClampNeg (-1)) (1 : Int32).toNatClampNeg (-1)) (2 : Int32).toNatClampNeg (-1)) (3 : Int32).toNatClampNeg (-1)))) (hna : G.2.2.2 ≤ y) : Ct G l yX12_requestTemplates wsX12_requestTemplates ({ frames := 0, cells := 0, slots := 0, locals := 0 }) 0 0 [.ref y] Φ sz (fun v Φ1 sz1 => v = none ∧ ∃ fs : List Value, Φ1 y = some (o_ 14 fs) ∧ fs[0]? = some (.int 0)) := by
  refine Ct.of (cc := cX12_requestTemplates) (maxL := 2) (ret := none) (by decide) rfl (Nat.le_of_ble_eq_true rfl) ?_
  intro p9 e9 s9 m9 w9 t9 k9 B
  show Z p9 l e9 _ s9 m9 _ w9 t9 k9 _ G 2 0 [(0, .ref y)] [] Φ sz 0 0
  refine z_aload_n B dX12_requestTemplates_0 rfl 0 rfl ?_
  refine z_iconst (v := 0) B dX12_requestTemplates_1 rfl ?_
  refine z_put (ref := "FlowExporterModel") (C := RX12) (T := TX12) (N := 54) (ci := 14) (v := .int 0) B (by decide +kernel) tyX12 tyX12_ok nmX12 rfl 0 (by decide) (by decide +kernel) rfl (Or.inl rfl) hc0_ hna rfl rfl (Nat.le_of_ble_eq_true rfl) dX12_requestTemplates_2 (fun Φ1 hΦ1 => ?_)
  have h_1 : Φ1 y = some (o_ 14 [.int 0, .ref (y + 1), .ref (y + 2), .int 0, .int 1, .int 1, .int 0, .int 0, .ref (y + 3), .ref (y + 4), .int 0, .long 0, .ref (y + 5), .int 0, .int 0, .long 0, .long 0, .long 0, .long 0, .ref (y + 6), .ref (y + 7), .int 0, .ref (y + 8), .int 0, .ref (y + 9), .ref (y + 10), .int 0, .ref (y + 11), .ref (y + 12), .ref (y + 13), .ref (y + 14), .ref (y + 15), .ref (y + 16), .int 0, .long (-1), .ref (y + 17), .ref (y + 18), .ref (y + 19), .ref (y + 20), .ref (y + 21), .ref (y + 22), .int 0, .ref (y + 23), .ref (y + 24), .int 0, .ref (y + 25), .int 0, .int 0, .int 0, .int (-1), .int 0, .int 0, .int 0, .long 0]) := fset_at hΦ1
  refine z_iconst (v := 0) B dX12_requestTemplates_5 rfl ?_
  refine z_istore_n (lv' := [(1, .int 0), (0, .ref y)]) B dX12_requestTemplates_6 rfl (Nat.le_of_ble_eq_true rfl) rfl ?_
  refine z_iload_n B dX12_requestTemplates_7 rfl 0 rfl ?_
  refine z_iconst (v := 4) B dX12_requestTemplates_8 rfl ?_
  refine z_icmp_ge (tgt := 25) B dX12_requestTemplates_9 rfl (fun h9 => absurd h9 (by decide)) (fun c_1 => ?_)
  refine z_aload_n B dX12_requestTemplates_12 rfl 1 rfl ?_
  refine z_get (ref := "FlowExporterModel") (C := RX12) (T := TX12) (N := 54) (ci := 14) (v := .ref (y + 3)) B (by decide +kernel) rfl 8 (by decide) (by decide +kernel) rfl h_1 rfl dX12_requestTemplates_13 ?_
  refine z_iload_n B dX12_requestTemplates_16 rfl 0 rfl ?_
  refine z_iconst (v := (-1)) B dX12_requestTemplates_17 rfl ?_
  have h_2 : Φ1 (y + 3) = some (ai_ G 4 (upd (upd (upd (upd (fun _ => 0) (0 : Int32).toNatClampNeg (-1)) (1 : Int32).toNatClampNeg (-1)) (2 : Int32).toNatClampNeg (-1)) (3 : Int32).toNatClampNeg (-1))) := ((fset_fr hΦ1 (ne_off (x := y) (i := 3) (j := 0) rfl)).trans hc3_)
  refine z_iast B h_2 (Nat.le_trans hna (Nat.le_add_right y 3)) (vin rfl) dX12_requestTemplates_18 (fun Φ2 hΦ2 => ?_)
  have h_3 : Φ2 (y + 3) = some (ai_ G 4 (upd (upd (upd (upd (upd (fun _ => 0) (0 : Int32).toNatClampNeg (-1)) (1 : Int32).toNatClampNeg (-1)) (2 : Int32).toNatClampNeg (-1)) (3 : Int32).toNatClampNeg (-1)) (0 : Int32).toNatClampNeg (-1))) := fset_at hΦ2
  refine z_iinc (k := 0) (v := 1) (lv' := [(1, .int 1), (0, .ref y)]) B dX12_requestTemplates_19 rfl rfl (Nat.le_of_ble_eq_true rfl) rfl ?_
  refine z_goto (tgt := 7) B dX12_requestTemplates_22 rfl ?_
  refine z_iload_n B dX12_requestTemplates_7 rfl 0 rfl ?_
  refine z_iconst (v := 4) B dX12_requestTemplates_8 rfl ?_
  refine z_icmp_ge (tgt := 25) B dX12_requestTemplates_9 rfl (fun h9 => absurd h9 (by decide)) (fun c_2 => ?_)
  refine z_aload_n B dX12_requestTemplates_12 rfl 1 rfl ?_
  have h_4 : Φ2 y = some (o_ 14 [.int 0, .ref (y + 1), .ref (y + 2), .int 0, .int 1, .int 1, .int 0, .int 0, .ref (y + 3), .ref (y + 4), .int 0, .long 0, .ref (y + 5), .int 0, .int 0, .long 0, .long 0, .long 0, .long 0, .ref (y + 6), .ref (y + 7), .int 0, .ref (y + 8), .int 0, .ref (y + 9), .ref (y + 10), .int 0, .ref (y + 11), .ref (y + 12), .ref (y + 13), .ref (y + 14), .ref (y + 15), .ref (y + 16), .int 0, .long (-1), .ref (y + 17), .ref (y + 18), .ref (y + 19), .ref (y + 20), .ref (y + 21), .ref (y + 22), .int 0, .ref (y + 23), .ref (y + 24), .int 0, .ref (y + 25), .int 0, .int 0, .int 0, .int (-1), .int 0, .int 0, .int 0, .long 0]) := ((fset_fr hΦ2 (ne_off (x := y) (i := 0) (j := 3) rfl)).trans h_1)
  refine z_get (ref := "FlowExporterModel") (C := RX12) (T := TX12) (N := 54) (ci := 14) (v := .ref (y + 3)) B (by decide +kernel) rfl 8 (by decide) (by decide +kernel) rfl h_4 rfl dX12_requestTemplates_13 ?_
  refine z_iload_n B dX12_requestTemplates_16 rfl 0 rfl ?_
  refine z_iconst (v := (-1)) B dX12_requestTemplates_17 rfl ?_
  refine z_iast B h_3 (Nat.le_trans hna (Nat.le_add_right y 3)) (vin rfl) dX12_requestTemplates_18 (fun Φ3 hΦ3 => ?_)
  have h_5 : Φ3 (y + 3) = some (ai_ G 4 (upd (upd (upd (upd (upd (upd (fun _ => 0) (0 : Int32).toNatClampNeg (-1)) (1 : Int32).toNatClampNeg (-1)) (2 : Int32).toNatClampNeg (-1)) (3 : Int32).toNatClampNeg (-1)) (0 : Int32).toNatClampNeg (-1)) (1 : Int32).toNatClampNeg (-1))) := fset_at hΦ3
  refine z_iinc (k := 0) (v := 2) (lv' := [(1, .int 2), (0, .ref y)]) B dX12_requestTemplates_19 rfl rfl (Nat.le_of_ble_eq_true rfl) rfl ?_
  refine z_goto (tgt := 7) B dX12_requestTemplates_22 rfl ?_
  refine z_iload_n B dX12_requestTemplates_7 rfl 0 rfl ?_
  refine z_iconst (v := 4) B dX12_requestTemplates_8 rfl ?_
  refine z_icmp_ge (tgt := 25) B dX12_requestTemplates_9 rfl (fun h9 => absurd h9 (by decide)) (fun c_3 => ?_)
  refine z_aload_n B dX12_requestTemplates_12 rfl 1 rfl ?_
  have h_6 : Φ3 y = some (o_ 14 [.int 0, .ref (y + 1), .ref (y + 2), .int 0, .int 1, .int 1, .int 0, .int 0, .ref (y + 3), .ref (y + 4), .int 0, .long 0, .ref (y + 5), .int 0, .int 0, .long 0, .long 0, .long 0, .long 0, .ref (y + 6), .ref (y + 7), .int 0, .ref (y + 8), .int 0, .ref (y + 9), .ref (y + 10), .int 0, .ref (y + 11), .ref (y + 12), .ref (y + 13), .ref (y + 14), .ref (y + 15), .ref (y + 16), .int 0, .long (-1), .ref (y + 17), .ref (y + 18), .ref (y + 19), .ref (y + 20), .ref (y + 21), .ref (y + 22), .int 0, .ref (y + 23), .ref (y + 24), .int 0, .ref (y + 25), .int 0, .int 0, .int 0, .int (-1), .int 0, .int 0, .int 0, .long 0]) := ((fset_fr hΦ3 (ne_off (x := y) (i := 0) (j := 3) rfl)).trans h_4)
  refine z_get (ref := "FlowExporterModel") (C := RX12) (T := TX12) (N := 54) (ci := 14) (v := .ref (y + 3)) B (by decide +kernel) rfl 8 (by decide) (by decide +kernel) rfl h_6 rfl dX12_requestTemplates_13 ?_
  refine z_iload_n B dX12_requestTemplates_16 rfl 0 rfl ?_
  refine z_iconst (v := (-1)) B dX12_requestTemplates_17 rfl ?_
  refine z_iast B h_5 (Nat.le_trans hna (Nat.le_add_right y 3)) (vin rfl) dX12_requestTemplates_18 (fun Φ4 hΦ4 => ?_)
  have h_7 : Φ4 (y + 3) = some (ai_ G 4 (upd (upd (upd (upd (upd (upd (upd (fun _ => 0) (0 : Int32).toNatClampNeg (-1)) (1 : Int32).toNatClampNeg (-1)) (2 : Int32).toNatClampNeg (-1)) (3 : Int32).toNatClampNeg (-1)) (0 : Int32).toNatClampNeg (-1)) (1 : Int32).toNatClampNeg (-1)) (2 : Int32).toNatClampNeg (-1))) := fset_at hΦ4
  refine z_iinc (k := 0) (v := 3) (lv' := [(1, .int 3), (0, .ref y)]) B dX12_requestTemplates_19 rfl rfl (Nat.le_of_ble_eq_true rfl) rfl ?_
  refine z_goto (tgt := 7) B dX12_requestTemplates_22 rfl ?_
  refine z_iload_n B dX12_requestTemplates_7 rfl 0 rfl ?_
  refine z_iconst (v := 4) B dX12_requestTemplates_8 rfl ?_
  refine z_icmp_ge (tgt := 25) B dX12_requestTemplates_9 rfl (fun h9 => absurd h9 (by decide)) (fun c_4 => ?_)
  refine z_aload_n B dX12_requestTemplates_12 rfl 1 rfl ?_
  have h_8 : Φ4 y = some (o_ 14 [.int 0, .ref (y + 1), .ref (y + 2), .int 0, .int 1, .int 1, .int 0, .int 0, .ref (y + 3), .ref (y + 4), .int 0, .long 0, .ref (y + 5), .int 0, .int 0, .long 0, .long 0, .long 0, .long 0, .ref (y + 6), .ref (y + 7), .int 0, .ref (y + 8), .int 0, .ref (y + 9), .ref (y + 10), .int 0, .ref (y + 11), .ref (y + 12), .ref (y + 13), .ref (y + 14), .ref (y + 15), .ref (y + 16), .int 0, .long (-1), .ref (y + 17), .ref (y + 18), .ref (y + 19), .ref (y + 20), .ref (y + 21), .ref (y + 22), .int 0, .ref (y + 23), .ref (y + 24), .int 0, .ref (y + 25), .int 0, .int 0, .int 0, .int (-1), .int 0, .int 0, .int 0, .long 0]) := ((fset_fr hΦ4 (ne_off (x := y) (i := 0) (j := 3) rfl)).trans h_6)
  refine z_get (ref := "FlowExporterModel") (C := RX12) (T := TX12) (N := 54) (ci := 14) (v := .ref (y + 3)) B (by decide +kernel) rfl 8 (by decide) (by decide +kernel) rfl h_8 rfl dX12_requestTemplates_13 ?_
  refine z_iload_n B dX12_requestTemplates_16 rfl 0 rfl ?_
  refine z_iconst (v := (-1)) B dX12_requestTemplates_17 rfl ?_
  refine z_iast B h_7 (Nat.le_trans hna (Nat.le_add_right y 3)) (vin rfl) dX12_requestTemplates_18 (fun Φ5 hΦ5 => ?_)
  have h_9 : Φ5 (y + 3) = some (ai_ G 4 (upd (upd (upd (upd (upd (upd (upd (upd (fun _ => 0) (0 : Int32).toNatClampNeg (-1)) (1 : Int32).toNatClampNeg (-1)) (2 : Int32).toNatClampNeg (-1)) (3 : Int32).toNatClampNeg (-1)) (0 : Int32).toNatClampNeg (-1)) (1 : Int32).toNatClampNeg (-1)) (2 : Int32).toNatClampNeg (-1)) (3 : Int32).toNatClampNeg (-1))) := fset_at hΦ5
  refine z_iinc (k := 0) (v := 4) (lv' := [(1, .int 4), (0, .ref y)]) B dX12_requestTemplates_19 rfl rfl (Nat.le_of_ble_eq_true rfl) rfl ?_
  refine z_goto (tgt := 7) B dX12_requestTemplates_22 rfl ?_
  refine z_iload_n B dX12_requestTemplates_7 rfl 0 rfl ?_
  refine z_iconst (v := 4) B dX12_requestTemplates_8 rfl ?_
  refine z_icmp_ge (tgt := 25) B dX12_requestTemplates_9 rfl (fun c_5 => ?_) (fun h9 => absurd (by decide) h9)
  have h_10 : Φ5 y = some (o_ 14 [.int 0, .ref (y + 1), .ref (y + 2), .int 0, .int 1, .int 1, .int 0, .int 0, .ref (y + 3), .ref (y + 4), .int 0, .long 0, .ref (y + 5), .int 0, .int 0, .long 0, .long 0, .long 0, .long 0, .ref (y + 6), .ref (y + 7), .int 0, .ref (y + 8), .int 0, .ref (y + 9), .ref (y + 10), .int 0, .ref (y + 11), .ref (y + 12), .ref (y + 13), .ref (y + 14), .ref (y + 15), .ref (y + 16), .int 0, .long (-1), .ref (y + 17), .ref (y + 18), .ref (y + 19), .ref (y + 20), .ref (y + 21), .ref (y + 22), .int 0, .ref (y + 23), .ref (y + 24), .int 0, .ref (y + 25), .int 0, .int 0, .int 0, .int (-1), .int 0, .int 0, .int 0, .long 0]) := ((fset_fr hΦ5 (ne_off (x := y) (i := 0) (j := 3) rfl)).trans h_8)
  exact z_ret_v B dX12_requestTemplates_25 ⟨rfl, _, h_10, rfl⟩

set_option maxHeartbeats 4000000 in
set_option maxRecDepth 100000 in
theorem m_X12_setSeed (G : EnvG) (l : Launch) (Φ : Hm) (sz : Nat) (y : Nat) (a : Int32) (hc0_ : Φ y = some (o_ 14 [.int 0, .ref (y + 1), .ref (y + 2), .int 0, .int 1, .int 1, .int 0, .int 0, .ref (y + 3), .ref (y + 4), .int 0, .long 0, .ref (y + 5), .int 0, .int 0, .long 0, .long 0, .long 0, .long 0, .ref (y + 6), .ref (y + 7), .int 0, .ref (y + 8), .int 0, .ref (y + 9), .ref (y + 10), .int 0, .ref (y + 11), .ref (y + 12), .ref (y + 13), .ref (y + 14), .ref (y + 15), .ref (y + 16), .int 0, .long (-1), .ref (y + 17), .ref (y + 18), .ref (y + 19), .ref (y + 20), .ref (y + 21), .ref (y + 22), .int 0, .ref (y + 23), .ref (y + 24), .int 0, .ref (y + 25), .int 0, .int 0, .int 0, .int (-1), .int 0, .int 0, .int 0, .long 0])) (hna : G.2.2.2 ≤ y) : Ct G l yX12_setSeed wsX12_setSeed ({ frames := 0, cells := 0, slots := 0, locals := 0 }) 0 0 [.ref y, .int a] Φ sz (fun v Φ1 sz1 => v = some (.int (if a < 0 then 0 else 1)) ∧ ∃ fs : List Value, Φ1 y = some (o_ 14 fs) ∧ fs[0]? = some (.int 0)) := by
  refine Ct.of (cc := cX12_setSeed) (maxL := 2) (ret := (some .boolean)) (by decide) rfl (Nat.le_of_ble_eq_true rfl) ?_
  intro p9 e9 s9 m9 w9 t9 k9 B
  show Z p9 l e9 _ s9 m9 _ w9 t9 k9 _ G 2 0 [(0, .ref y), (1, .int a)] [] Φ sz 0 0
  refine z_aload_n B dX12_setSeed_0 rfl 0 rfl ?_
  refine z_iconst (v := 0) B dX12_setSeed_1 rfl ?_
  refine z_put (ref := "FlowExporterModel") (C := RX12) (T := TX12) (N := 54) (ci := 14) (v := .int 0) B (by decide +kernel) tyX12 tyX12_ok nmX12 rfl 0 (by decide) (by decide +kernel) rfl (Or.inl rfl) hc0_ hna rfl rfl (Nat.le_of_ble_eq_true rfl) dX12_setSeed_2 (fun Φ1 hΦ1 => ?_)
  have h_1 : Φ1 y = some (o_ 14 [.int 0, .ref (y + 1), .ref (y + 2), .int 0, .int 1, .int 1, .int 0, .int 0, .ref (y + 3), .ref (y + 4), .int 0, .long 0, .ref (y + 5), .int 0, .int 0, .long 0, .long 0, .long 0, .long 0, .ref (y + 6), .ref (y + 7), .int 0, .ref (y + 8), .int 0, .ref (y + 9), .ref (y + 10), .int 0, .ref (y + 11), .ref (y + 12), .ref (y + 13), .ref (y + 14), .ref (y + 15), .ref (y + 16), .int 0, .long (-1), .ref (y + 17), .ref (y + 18), .ref (y + 19), .ref (y + 20), .ref (y + 21), .ref (y + 22), .int 0, .ref (y + 23), .ref (y + 24), .int 0, .ref (y + 25), .int 0, .int 0, .int 0, .int (-1), .int 0, .int 0, .int 0, .long 0]) := fset_at hΦ1
  refine z_iload_n B dX12_setSeed_5 rfl 1 rfl ?_
  refine z_if_ge (tgt := 11) B dX12_setSeed_6 rfl (fun c_1 => ?_) (fun c_1 => ?_)
  · refine z_aload_n B dX12_setSeed_11 rfl 0 rfl ?_
    refine z_iload_n B dX12_setSeed_12 rfl 1 rfl ?_
    refine z_put (ref := "FlowExporterModel") (C := RX12) (T := TX12) (N := 54) (ci := 14) (v := .int a) B (by decide +kernel) tyX12 tyX12_ok nmX12 rfl 4 (by decide) (by decide +kernel) rfl (Or.inl rfl) h_1 hna rfl rfl (Nat.le_of_ble_eq_true rfl) dX12_setSeed_13 (fun Φ2 hΦ2 => ?_)
    have h_2 : Φ2 y = some (o_ 14 [.int 0, .ref (y + 1), .ref (y + 2), .int 0, .int a, .int 1, .int 0, .int 0, .ref (y + 3), .ref (y + 4), .int 0, .long 0, .ref (y + 5), .int 0, .int 0, .long 0, .long 0, .long 0, .long 0, .ref (y + 6), .ref (y + 7), .int 0, .ref (y + 8), .int 0, .ref (y + 9), .ref (y + 10), .int 0, .ref (y + 11), .ref (y + 12), .ref (y + 13), .ref (y + 14), .ref (y + 15), .ref (y + 16), .int 0, .long (-1), .ref (y + 17), .ref (y + 18), .ref (y + 19), .ref (y + 20), .ref (y + 21), .ref (y + 22), .int 0, .ref (y + 23), .ref (y + 24), .int 0, .ref (y + 25), .int 0, .int 0, .int 0, .int (-1), .int 0, .int 0, .int 0, .long 0]) := fset_at hΦ2
    refine z_iconst (v := 1) B dX12_setSeed_16 rfl ?_
    exact z_ret_z B dX12_setSeed_17 (by decide) ⟨(by first | rfl | simp [c_1]), _, h_2, rfl⟩
  · refine z_iconst (v := 0) B dX12_setSeed_9 rfl ?_
    exact z_ret_z B dX12_setSeed_10 (by decide) ⟨(by first | rfl | simp [c_1]), _, h_1, rfl⟩

set_option maxHeartbeats 4000000 in
set_option maxRecDepth 100000 in
theorem m_X12_setAdaptive (G : EnvG) (l : Launch) (Φ : Hm) (sz : Nat) (y : Nat) (a : Int32) (hc0_ : Φ y = some (o_ 14 [.int 0, .ref (y + 1), .ref (y + 2), .int 0, .int 1, .int 1, .int 0, .int 0, .ref (y + 3), .ref (y + 4), .int 0, .long 0, .ref (y + 5), .int 0, .int 0, .long 0, .long 0, .long 0, .long 0, .ref (y + 6), .ref (y + 7), .int 0, .ref (y + 8), .int 0, .ref (y + 9), .ref (y + 10), .int 0, .ref (y + 11), .ref (y + 12), .ref (y + 13), .ref (y + 14), .ref (y + 15), .ref (y + 16), .int 0, .long (-1), .ref (y + 17), .ref (y + 18), .ref (y + 19), .ref (y + 20), .ref (y + 21), .ref (y + 22), .int 0, .ref (y + 23), .ref (y + 24), .int 0, .ref (y + 25), .int 0, .int 0, .int 0, .int (-1), .int 0, .int 0, .int 0, .long 0])) (hna : G.2.2.2 ≤ y) (ha : a = 0 ∨ a = 1) : Ct G l yX12_setAdaptive wsX12_setAdaptive ({ frames := 0, cells := 0, slots := 0, locals := 0 }) 0 0 [.ref y, .int a] Φ sz (fun v Φ1 sz1 => v = some (.int 0) ∧ ∃ fs : List Value, Φ1 y = some (o_ 14 fs) ∧ fs[0]? = some (.int 0)) := by
  refine Ct.of (cc := cX12_setAdaptive) (maxL := 3) (ret := (some .boolean)) (by decide) rfl (Nat.le_of_ble_eq_true rfl) ?_
  intro p9 e9 s9 m9 w9 t9 k9 B
  show Z p9 l e9 _ s9 m9 _ w9 t9 k9 _ G 3 0 [(0, .ref y), (1, .int a)] [] Φ sz 0 0
  refine z_aload_n B dX12_setAdaptive_0 rfl 0 rfl ?_
  refine z_iconst (v := 0) B dX12_setAdaptive_1 rfl ?_
  refine z_put (ref := "FlowExporterModel") (C := RX12) (T := TX12) (N := 54) (ci := 14) (v := .int 0) B (by decide +kernel) tyX12 tyX12_ok nmX12 rfl 0 (by decide) (by decide +kernel) rfl (Or.inl rfl) hc0_ hna rfl rfl (Nat.le_of_ble_eq_true rfl) dX12_setAdaptive_2 (fun Φ1 hΦ1 => ?_)
  have h_1 : Φ1 y = some (o_ 14 [.int 0, .ref (y + 1), .ref (y + 2), .int 0, .int 1, .int 1, .int 0, .int 0, .ref (y + 3), .ref (y + 4), .int 0, .long 0, .ref (y + 5), .int 0, .int 0, .long 0, .long 0, .long 0, .long 0, .ref (y + 6), .ref (y + 7), .int 0, .ref (y + 8), .int 0, .ref (y + 9), .ref (y + 10), .int 0, .ref (y + 11), .ref (y + 12), .ref (y + 13), .ref (y + 14), .ref (y + 15), .ref (y + 16), .int 0, .long (-1), .ref (y + 17), .ref (y + 18), .ref (y + 19), .ref (y + 20), .ref (y + 21), .ref (y + 22), .int 0, .ref (y + 23), .ref (y + 24), .int 0, .ref (y + 25), .int 0, .int 0, .int 0, .int (-1), .int 0, .int 0, .int 0, .long 0]) := fset_at hΦ1
  refine z_aload_n B dX12_setAdaptive_5 rfl 0 rfl ?_
  refine z_get (ref := "FlowExporterModel") (C := RX12) (T := TX12) (N := 54) (ci := 14) (v := .int 0) B (by decide +kernel) rfl 7 (by decide) (by decide +kernel) rfl h_1 rfl dX12_setAdaptive_6 ?_
  refine z_istore_n (lv' := [(2, .int 0), (0, .ref y), (1, .int a)]) B dX12_setAdaptive_9 rfl (Nat.le_of_ble_eq_true rfl) rfl ?_
  refine z_aload_n B dX12_setAdaptive_10 rfl 1 rfl ?_
  refine z_iload_n B dX12_setAdaptive_11 rfl 2 rfl ?_
  refine z_put (ref := "FlowExporterModel") (C := RX12) (T := TX12) (N := 54) (ci := 14) (v := .int a) B (by decide +kernel) tyX12 tyX12_ok nmX12 rfl 7 (by decide) (by decide +kernel) rfl (Or.inl rfl) h_1 hna (nar_z ha) (fit_z ha) (Nat.le_of_ble_eq_true rfl) dX12_setAdaptive_12 (fun Φ2 hΦ2 => ?_)
  have h_2 : Φ2 y = some (o_ 14 [.int 0, .ref (y + 1), .ref (y + 2), .int 0, .int 1, .int 1, .int 0, .int a, .ref (y + 3), .ref (y + 4), .int 0, .long 0, .ref (y + 5), .int 0, .int 0, .long 0, .long 0, .long 0, .long 0, .ref (y + 6), .ref (y + 7), .int 0, .ref (y + 8), .int 0, .ref (y + 9), .ref (y + 10), .int 0, .ref (y + 11), .ref (y + 12), .ref (y + 13), .ref (y + 14), .ref (y + 15), .ref (y + 16), .int 0, .long (-1), .ref (y + 17), .ref (y + 18), .ref (y + 19), .ref (y + 20), .ref (y + 21), .ref (y + 22), .int 0, .ref (y + 23), .ref (y + 24), .int 0, .ref (y + 25), .int 0, .int 0, .int 0, .int (-1), .int 0, .int 0, .int 0, .long 0]) := fset_at hΦ2
  refine z_iload_n B dX12_setAdaptive_15 rfl 0 rfl ?_
  exact z_ret_z B dX12_setAdaptive_16 (by decide) ⟨rfl, _, h_2, rfl⟩

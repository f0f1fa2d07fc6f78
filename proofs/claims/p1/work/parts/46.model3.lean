def inP (a b c : Int64) : Prop := ¬ lg_cmp a b < 0 ∧ ¬ 0 < lg_cmp a c

set_option maxHeartbeats 4000000 in
set_option maxRecDepth 100000 in
theorem c_X12_inRange_1 (G : EnvG) (l : Launch) (Φ : Hm) (sz : Nat) (a : Int64) (b : Int64) (d : Int64) (hp : inP a b d) : Ct G l yX12_inRange wsX12_inRange ({ frames := 0, cells := 0, slots := 0, locals := 0 }) 0 0 [.long a, .long b, .long d] Φ sz (fun v Φ1 sz1 => v = some (.int 1) ∧ sz1 = sz ∧ (∀ b9 : Nat, Φ1 b9 = Φ b9)) := by
  refine Ct.of (cc := cX12_inRange) (maxL := 6) (ret := (some .boolean)) (by decide) rfl (Nat.le_of_ble_eq_true rfl) ?_
  intro p9 e9 s9 m9 w9 t9 k9 B
  show Z p9 l e9 _ s9 m9 _ w9 t9 k9 _ G 6 0 [(0, .long a), (2, .long b), (4, .long d)] [] Φ (sz) 0 0
  refine z_lload_n B dX12_inRange_0 rfl 0 rfl ?_
  refine z_lload_n B dX12_inRange_1 rfl 1 rfl ?_
  refine z_lcmp B dX12_inRange_2 ?_
  refine z_if_lt (tgt := 17) B dX12_inRange_3 rfl (fun h9 => absurd h9 hp.1) (fun c_1 => ?_)
  refine z_lload_n B dX12_inRange_6 rfl 0 rfl ?_
  refine z_lload B dX12_inRange_7 2 rfl ?_
  refine z_lcmp B dX12_inRange_9 ?_
  refine z_if_gt (tgt := 17) B dX12_inRange_10 rfl (fun h9 => absurd h9 hp.2) (fun c_2 => ?_)
  refine z_iconst (v := 1) B dX12_inRange_13 rfl ?_
  refine z_goto (tgt := 18) B dX12_inRange_14 rfl ?_
  exact z_ret_z B dX12_inRange_18 (by decide) ⟨rfl, rfl, (fun b9 => rfl)⟩

set_option maxHeartbeats 4000000 in
set_option maxRecDepth 100000 in
theorem c_X12_inRange_0 (G : EnvG) (l : Launch) (Φ : Hm) (sz : Nat) (a : Int64) (b : Int64) (d : Int64) (hp : ¬ inP a b d) : Ct G l yX12_inRange wsX12_inRange ({ frames := 0, cells := 0, slots := 0, locals := 0 }) 0 0 [.long a, .long b, .long d] Φ sz (fun v Φ1 sz1 => v = some (.int 0) ∧ sz1 = sz ∧ (∀ b9 : Nat, Φ1 b9 = Φ b9)) := by
  refine Ct.of (cc := cX12_inRange) (maxL := 6) (ret := (some .boolean)) (by decide) rfl (Nat.le_of_ble_eq_true rfl) ?_
  intro p9 e9 s9 m9 w9 t9 k9 B
  show Z p9 l e9 _ s9 m9 _ w9 t9 k9 _ G 6 0 [(0, .long a), (2, .long b), (4, .long d)] [] Φ (sz) 0 0
  refine z_lload_n B dX12_inRange_0 rfl 0 rfl ?_
  refine z_lload_n B dX12_inRange_1 rfl 1 rfl ?_
  refine z_lcmp B dX12_inRange_2 ?_
  refine z_if_lt (tgt := 17) B dX12_inRange_3 rfl (fun c_1 => ?_) (fun c_1 => ?_)
  · refine z_iconst (v := 0) B dX12_inRange_17 rfl ?_
    exact z_ret_z B dX12_inRange_18 (by decide) ⟨rfl, rfl, fun _ => rfl⟩
  · refine z_lload_n B dX12_inRange_6 rfl 0 rfl ?_
    refine z_lload B dX12_inRange_7 2 rfl ?_
    refine z_lcmp B dX12_inRange_9 ?_
    refine z_if_gt (tgt := 17) B dX12_inRange_10 rfl (fun c_2 => ?_) (fun h9 => absurd (Decidable.byContradiction (fun h7 => hp ⟨c_1, h7⟩)) h9)
    refine z_iconst (v := 0) B dX12_inRange_17 rfl ?_
    exact z_ret_z B dX12_inRange_18 (by decide) ⟨rfl, rfl, fun _ => rfl⟩

set_option maxHeartbeats 4000000 in
set_option maxRecDepth 100000 in
theorem c_X12_throwsIf_1 (G : EnvG) (l : Launch) (Φ : Hm) (sz : Nat) (y : Nat) (z_thrown : Int32) (z_time : Int32) (z_random : Int32) (z_rate : Int32) (z_exportedHere : Int32) (z_adaptive : Int32) (z_messages : Int32) (z_sequence : Int64) (z_flows : Int32) (z_dropped : Int32) (z_observed : Int64) (z_sampled : Int64) (z_sent : Int64) (z_unsent : Int64) (z_pending : Int32) (z_length : Int32) (z_queue : Int32) (z_lastCount : Int32) (z_expected : Int64) (z_keys : Int32) (z_trueKeys : Int32) (z_inputLength : Int32) (z_next : Int32) (z_errorCode : Int32) (z_errorPosition : Int32) (z_kind : Int32) (z_start : Int32) (z_number : Int32) (z_value : Int64) (k : Int32) (hc0 : Φ y = some (o_ 14 [.int z_thrown, .ref (y + 1), .ref (y + 2), .int z_time, .int z_random, .int z_rate, .int z_exportedHere, .int z_adaptive, .ref (y + 3), .ref (y + 4), .int z_messages, .long z_sequence, .ref (y + 5), .int z_flows, .int z_dropped, .long z_observed, .long z_sampled, .long z_sent, .long z_unsent, .ref (y + 6), .ref (y + 7), .int z_pending, .ref (y + 8), .int z_length, .ref (y + 9), .ref (y + 10), .int z_queue, .ref (y + 11), .ref (y + 12), .ref (y + 13), .ref (y + 14), .ref (y + 15), .ref (y + 16), .int z_lastCount, .long z_expected, .ref (y + 17), .ref (y + 18), .ref (y + 19), .ref (y + 20), .ref (y + 21), .ref (y + 22), .int z_keys, .ref (y + 23), .ref (y + 24), .int z_trueKeys, .ref (y + 25), .int z_inputLength, .int z_next, .int z_errorCode, .int z_errorPosition, .int z_kind, .int z_start, .int z_number, .long z_value])) (hna_y : G.2.2.2 ≤ y) : Ct G l yX12_throwsIf wsX12_throwsIf ({ frames := 0, cells := 0, slots := 0, locals := 0 }) 0 0 [.ref y, .int 1, .int k] Φ sz (fun v Φ1 sz1 => v = some (.int 1) ∧ sz1 = sz ∧ (∀ b9 : Nat, b9 ≠ y → Φ1 b9 = Φ b9) ∧ Φ1 y = some (o_ 14 [.int k, .ref (y + 1), .ref (y + 2), .int z_time, .int z_random, .int z_rate, .int z_exportedHere, .int z_adaptive, .ref (y + 3), .ref (y + 4), .int z_messages, .long z_sequence, .ref (y + 5), .int z_flows, .int z_dropped, .long z_observed, .long z_sampled, .long z_sent, .long z_unsent, .ref (y + 6), .ref (y + 7), .int z_pending, .ref (y + 8), .int z_length, .ref (y + 9), .ref (y + 10), .int z_queue, .ref (y + 11), .ref (y + 12), .ref (y + 13), .ref (y + 14), .ref (y + 15), .ref (y + 16), .int z_lastCount, .long z_expected, .ref (y + 17), .ref (y + 18), .ref (y + 19), .ref (y + 20), .ref (y + 21), .ref (y + 22), .int z_keys, .ref (y + 23), .ref (y + 24), .int z_trueKeys, .ref (y + 25), .int z_inputLength, .int z_next, .int z_errorCode, .int z_errorPosition, .int z_kind, .int z_start, .int z_number, .long z_value])) := by
  refine Ct.of (cc := cX12_throwsIf) (maxL := 3) (ret := (some .boolean)) (by decide) rfl (Nat.le_of_ble_eq_true rfl) ?_
  intro p9 e9 s9 m9 w9 t9 k9 B
  show Z p9 l e9 _ s9 m9 _ w9 t9 k9 _ G 3 0 [(0, .ref y), (1, .int 1), (2, .int k)] [] Φ (sz) 0 0
  refine z_iload_n B dX12_throwsIf_0 rfl 1 rfl ?_
  refine z_if_eq (tgt := 9) B dX12_throwsIf_1 rfl (fun h9 => absurd h9 (by decide)) (fun c_1 => ?_)
  refine z_aload_n B dX12_throwsIf_4 rfl 0 rfl ?_
  refine z_iload_n B dX12_throwsIf_5 rfl 2 rfl ?_
  refine z_put (ref := "FlowExporterModel") (C := RX12) (T := TX12) (N := 54) (ci := 14) (v := .int k) B (by decide +kernel) tyX12 tyX12_ok nmX12 rfl 0 (by decide) (by decide +kernel) rfl (Or.inl rfl) hc0 hna_y rfl rfl (Nat.le_of_ble_eq_true rfl) dX12_throwsIf_6 (fun Φ1 hΦ1 => ?_)
  have h_1 : Φ1 y = some (o_ 14 [.int k, .ref (y + 1), .ref (y + 2), .int z_time, .int z_random, .int z_rate, .int z_exportedHere, .int z_adaptive, .ref (y + 3), .ref (y + 4), .int z_messages, .long z_sequence, .ref (y + 5), .int z_flows, .int z_dropped, .long z_observed, .long z_sampled, .long z_sent, .long z_unsent, .ref (y + 6), .ref (y + 7), .int z_pending, .ref (y + 8), .int z_length, .ref (y + 9), .ref (y + 10), .int z_queue, .ref (y + 11), .ref (y + 12), .ref (y + 13), .ref (y + 14), .ref (y + 15), .ref (y + 16), .int z_lastCount, .long z_expected, .ref (y + 17), .ref (y + 18), .ref (y + 19), .ref (y + 20), .ref (y + 21), .ref (y + 22), .int z_keys, .ref (y + 23), .ref (y + 24), .int z_trueKeys, .ref (y + 25), .int z_inputLength, .int z_next, .int z_errorCode, .int z_errorPosition, .int z_kind, .int z_start, .int z_number, .long z_value]) := fset_at hΦ1
  refine z_iload_n B dX12_throwsIf_9 rfl 1 rfl ?_
  exact z_ret_z B dX12_throwsIf_10 (by decide) ⟨rfl, rfl, (fun b9 h9a => ((fset_fr hΦ1 h9a).trans rfl)), h_1⟩

set_option maxHeartbeats 4000000 in
set_option maxRecDepth 100000 in
theorem c_X12_throwsIf_0 (G : EnvG) (l : Launch) (Φ : Hm) (sz : Nat) (y : Nat) (z_thrown : Int32) (z_time : Int32) (z_random : Int32) (z_rate : Int32) (z_exportedHere : Int32) (z_adaptive : Int32) (z_messages : Int32) (z_sequence : Int64) (z_flows : Int32) (z_dropped : Int32) (z_observed : Int64) (z_sampled : Int64) (z_sent : Int64) (z_unsent : Int64) (z_pending : Int32) (z_length : Int32) (z_queue : Int32) (z_lastCount : Int32) (z_expected : Int64) (z_keys : Int32) (z_trueKeys : Int32) (z_inputLength : Int32) (z_next : Int32) (z_errorCode : Int32) (z_errorPosition : Int32) (z_kind : Int32) (z_start : Int32) (z_number : Int32) (z_value : Int64) (k : Int32) (hc0 : Φ y = some (o_ 14 [.int z_thrown, .ref (y + 1), .ref (y + 2), .int z_time, .int z_random, .int z_rate, .int z_exportedHere, .int z_adaptive, .ref (y + 3), .ref (y + 4), .int z_messages, .long z_sequence, .ref (y + 5), .int z_flows, .int z_dropped, .long z_observed, .long z_sampled, .long z_sent, .long z_unsent, .ref (y + 6), .ref (y + 7), .int z_pending, .ref (y + 8), .int z_length, .ref (y + 9), .ref (y + 10), .int z_queue, .ref (y + 11), .ref (y + 12), .ref (y + 13), .ref (y + 14), .ref (y + 15), .ref (y + 16), .int z_lastCount, .long z_expected, .ref (y + 17), .ref (y + 18), .ref (y + 19), .ref (y + 20), .ref (y + 21), .ref (y + 22), .int z_keys, .ref (y + 23), .ref (y + 24), .int z_trueKeys, .ref (y + 25), .int z_inputLength, .int z_next, .int z_errorCode, .int z_errorPosition, .int z_kind, .int z_start, .int z_number, .long z_value])) (hna_y : G.2.2.2 ≤ y) : Ct G l yX12_throwsIf wsX12_throwsIf ({ frames := 0, cells := 0, slots := 0, locals := 0 }) 0 0 [.ref y, .int 0, .int k] Φ sz (fun v Φ1 sz1 => v = some (.int 0) ∧ sz1 = sz ∧ (∀ b9 : Nat, Φ1 b9 = Φ b9)) := by
  refine Ct.of (cc := cX12_throwsIf) (maxL := 3) (ret := (some .boolean)) (by decide) rfl (Nat.le_of_ble_eq_true rfl) ?_
  intro p9 e9 s9 m9 w9 t9 k9 B
  show Z p9 l e9 _ s9 m9 _ w9 t9 k9 _ G 3 0 [(0, .ref y), (1, .int 0), (2, .int k)] [] Φ (sz) 0 0
  refine z_iload_n B dX12_throwsIf_0 rfl 1 rfl ?_
  refine z_if_eq (tgt := 9) B dX12_throwsIf_1 rfl (fun c_1 => ?_) (fun h9 => absurd (by decide) h9)
  refine z_iload_n B dX12_throwsIf_9 rfl 1 rfl ?_
  exact z_ret_z B dX12_throwsIf_10 (by decide) ⟨rfl, rfl, (fun b9 => rfl)⟩

set_option maxHeartbeats 4000000 in
set_option maxRecDepth 100000 in
theorem m_X12_errorCode (G : EnvG) (l : Launch) (Φ : Hm) (sz : Nat) (y : Nat) (hc0_ : Φ y = some (o_ 14 [.int 0, .ref (y + 1), .ref (y + 2), .int 0, .int 1, .int 1, .int 0, .int 0, .ref (y + 3), .ref (y + 4), .int 0, .long 0, .ref (y + 5), .int 0, .int 0, .long 0, .long 0, .long 0, .long 0, .ref (y + 6), .ref (y + 7), .int 0, .ref (y + 8), .int 0, .ref (y + 9), .ref (y + 10), .int 0, .ref (y + 11), .ref (y + 12), .ref (y + 13), .ref (y + 14), .ref (y + 15), .ref (y + 16), .int 0, .long (-1), .ref (y + 17), .ref (y + 18), .ref (y + 19), .ref (y + 20), .ref (y + 21), .ref (y + 22), .int 0, .ref (y + 23), .ref (y + 24), .int 0, .ref (y + 25), .int 0, .int 0, .int 0, .int (-1), .int 0, .int 0, .int 0, .long 0])) (hna : G.2.2.2 ≤ y) : Ct G l yX12_errorCode wsX12_errorCode ({ frames := 0, cells := 0, slots := 0, locals := 0 }) 0 0 [.ref y] Φ sz (fun v Φ1 sz1 => v = some (.int 0) ∧ (∃ fs : List Value, Φ1 y = some (o_ 14 fs) ∧ fs[0]? = some (.int 0)) ∧ ∀ b9 : Nat, y + 26 ≤ b9 → Φ1 b9 = Φ b9) := by
  refine Ct.of (cc := cX12_errorCode) (maxL := 1) (ret := (some .int)) (by decide) rfl (Nat.le_of_ble_eq_true rfl) ?_
  intro p9 e9 s9 m9 w9 t9 k9 B
  show Z p9 l e9 _ s9 m9 _ w9 t9 k9 _ G 1 0 [(0, .ref y)] [] Φ sz 0 0
  refine z_aload_n B dX12_errorCode_0 rfl 0 rfl ?_
  refine z_iconst (v := 0) B dX12_errorCode_1 rfl ?_
  refine z_put (ref := "FlowExporterModel") (C := RX12) (T := TX12) (N := 54) (ci := 14) (v := .int 0) B (by decide +kernel) tyX12 tyX12_ok nmX12 rfl 0 (by decide) (by decide +kernel) rfl (Or.inl rfl) hc0_ hna rfl rfl (Nat.le_of_ble_eq_true rfl) dX12_errorCode_2 (fun Φ1 hΦ1 => ?_)
  have h_1 : Φ1 y = some (o_ 14 [.int 0, .ref (y + 1), .ref (y + 2), .int 0, .int 1, .int 1, .int 0, .int 0, .ref (y + 3), .ref (y + 4), .int 0, .long 0, .ref (y + 5), .int 0, .int 0, .long 0, .long 0, .long 0, .long 0, .ref (y + 6), .ref (y + 7), .int 0, .ref (y + 8), .int 0, .ref (y + 9), .ref (y + 10), .int 0, .ref (y + 11), .ref (y + 12), .ref (y + 13), .ref (y + 14), .ref (y + 15), .ref (y + 16), .int 0, .long (-1), .ref (y + 17), .ref (y + 18), .ref (y + 19), .ref (y + 20), .ref (y + 21), .ref (y + 22), .int 0, .ref (y + 23), .ref (y + 24), .int 0, .ref (y + 25), .int 0, .int 0, .int 0, .int (-1), .int 0, .int 0, .int 0, .long 0]) := fset_at hΦ1
  refine z_aload_n B dX12_errorCode_5 rfl 0 rfl ?_
  refine z_get (ref := "FlowExporterModel") (C := RX12) (T := TX12) (N := 54) (ci := 14) (v := .int 0) B (by decide +kernel) rfl 48 (by decide) (by decide +kernel) rfl h_1 rfl dX12_errorCode_6 ?_
  exact z_ret_i B dX12_errorCode_9 ⟨rfl, ⟨_, h_1, rfl⟩, fun b9 h9 => ((fset_fr hΦ1 (Nat.ne_of_gt (Nat.lt_of_lt_of_le (lt_off (x := y) (i := 0) (j := 26) rfl) h9))).trans rfl)⟩

set_option maxHeartbeats 4000000 in
set_option maxRecDepth 100000 in
theorem m_X12_errorPosition (G : EnvG) (l : Launch) (Φ : Hm) (sz : Nat) (y : Nat) (hc0_ : Φ y = some (o_ 14 [.int 0, .ref (y + 1), .ref (y + 2), .int 0, .int 1, .int 1, .int 0, .int 0, .ref (y + 3), .ref (y + 4), .int 0, .long 0, .ref (y + 5), .int 0, .int 0, .long 0, .long 0, .long 0, .long 0, .ref (y + 6), .ref (y + 7), .int 0, .ref (y + 8), .int 0, .ref (y + 9), .ref (y + 10), .int 0, .ref (y + 11), .ref (y + 12), .ref (y + 13), .ref (y + 14), .ref (y + 15), .ref (y + 16), .int 0, .long (-1), .ref (y + 17), .ref (y + 18), .ref (y + 19), .ref (y + 20), .ref (y + 21), .ref (y + 22), .int 0, .ref (y + 23), .ref (y + 24), .int 0, .ref (y + 25), .int 0, .int 0, .int 0, .int (-1), .int 0, .int 0, .int 0, .long 0])) (hna : G.2.2.2 ≤ y) : Ct G l yX12_errorPosition wsX12_errorPosition ({ frames := 0, cells := 0, slots := 0, locals := 0 }) 0 0 [.ref y] Φ sz (fun v Φ1 sz1 => v = some (.int (-1)) ∧ (∃ fs : List Value, Φ1 y = some (o_ 14 fs) ∧ fs[0]? = some (.int 0)) ∧ ∀ b9 : Nat, y + 26 ≤ b9 → Φ1 b9 = Φ b9) := by
  refine Ct.of (cc := cX12_errorPosition) (maxL := 1) (ret := (some .int)) (by decide) rfl (Nat.le_of_ble_eq_true rfl) ?_
  intro p9 e9 s9 m9 w9 t9 k9 B
  show Z p9 l e9 _ s9 m9 _ w9 t9 k9 _ G 1 0 [(0, .ref y)] [] Φ sz 0 0
  refine z_aload_n B dX12_errorPosition_0 rfl 0 rfl ?_
  refine z_iconst (v := 0) B dX12_errorPosition_1 rfl ?_
  refine z_put (ref := "FlowExporterModel") (C := RX12) (T := TX12) (N := 54) (ci := 14) (v := .int 0) B (by decide +kernel) tyX12 tyX12_ok nmX12 rfl 0 (by decide) (by decide +kernel) rfl (Or.inl rfl) hc0_ hna rfl rfl (Nat.le_of_ble_eq_true rfl) dX12_errorPosition_2 (fun Φ1 hΦ1 => ?_)
  have h_1 : Φ1 y = some (o_ 14 [.int 0, .ref (y + 1), .ref (y + 2), .int 0, .int 1, .int 1, .int 0, .int 0, .ref (y + 3), .ref (y + 4), .int 0, .long 0, .ref (y + 5), .int 0, .int 0, .long 0, .long 0, .long 0, .long 0, .ref (y + 6), .ref (y + 7), .int 0, .ref (y + 8), .int 0, .ref (y + 9), .ref (y + 10), .int 0, .ref (y + 11), .ref (y + 12), .ref (y + 13), .ref (y + 14), .ref (y + 15), .ref (y + 16), .int 0, .long (-1), .ref (y + 17), .ref (y + 18), .ref (y + 19), .ref (y + 20), .ref (y + 21), .ref (y + 22), .int 0, .ref (y + 23), .ref (y + 24), .int 0, .ref (y + 25), .int 0, .int 0, .int 0, .int (-1), .int 0, .int 0, .int 0, .long 0]) := fset_at hΦ1
  refine z_aload_n B dX12_errorPosition_5 rfl 0 rfl ?_
  refine z_get (ref := "FlowExporterModel") (C := RX12) (T := TX12) (N := 54) (ci := 14) (v := .int (-1)) B (by decide +kernel) rfl 49 (by decide) (by decide +kernel) rfl h_1 rfl dX12_errorPosition_6 ?_
  exact z_ret_i B dX12_errorPosition_9 ⟨rfl, ⟨_, h_1, rfl⟩, fun b9 h9 => ((fset_fr hΦ1 (Nat.ne_of_gt (Nat.lt_of_lt_of_le (lt_off (x := y) (i := 0) (j := 26) rfl) h9))).trans rfl)⟩

set_option maxHeartbeats 4000000 in
set_option maxRecDepth 100000 in
theorem m_X12_now (G : EnvG) (l : Launch) (Φ : Hm) (sz : Nat) (y : Nat) (hc0_ : Φ y = some (o_ 14 [.int 0, .ref (y + 1), .ref (y + 2), .int 0, .int 1, .int 1, .int 0, .int 0, .ref (y + 3), .ref (y + 4), .int 0, .long 0, .ref (y + 5), .int 0, .int 0, .long 0, .long 0, .long 0, .long 0, .ref (y + 6), .ref (y + 7), .int 0, .ref (y + 8), .int 0, .ref (y + 9), .ref (y + 10), .int 0, .ref (y + 11), .ref (y + 12), .ref (y + 13), .ref (y + 14), .ref (y + 15), .ref (y + 16), .int 0, .long (-1), .ref (y + 17), .ref (y + 18), .ref (y + 19), .ref (y + 20), .ref (y + 21), .ref (y + 22), .int 0, .ref (y + 23), .ref (y + 24), .int 0, .ref (y + 25), .int 0, .int 0, .int 0, .int (-1), .int 0, .int 0, .int 0, .long 0])) (hna : G.2.2.2 ≤ y) : Ct G l yX12_now wsX12_now ({ frames := 0, cells := 0, slots := 0, locals := 0 }) 0 0 [.ref y] Φ sz (fun v Φ1 sz1 => v = some (.int 0) ∧ (∃ fs : List Value, Φ1 y = some (o_ 14 fs) ∧ fs[0]? = some (.int 0)) ∧ ∀ b9 : Nat, y + 26 ≤ b9 → Φ1 b9 = Φ b9) := by
  refine Ct.of (cc := cX12_now) (maxL := 1) (ret := (some .int)) (by decide) rfl (Nat.le_of_ble_eq_true rfl) ?_
  intro p9 e9 s9 m9 w9 t9 k9 B
  show Z p9 l e9 _ s9 m9 _ w9 t9 k9 _ G 1 0 [(0, .ref y)] [] Φ sz 0 0
  refine z_aload_n B dX12_now_0 rfl 0 rfl ?_
  refine z_iconst (v := 0) B dX12_now_1 rfl ?_
  refine z_put (ref := "FlowExporterModel") (C := RX12) (T := TX12) (N := 54) (ci := 14) (v := .int 0) B (by decide +kernel) tyX12 tyX12_ok nmX12 rfl 0 (by decide) (by decide +kernel) rfl (Or.inl rfl) hc0_ hna rfl rfl (Nat.le_of_ble_eq_true rfl) dX12_now_2 (fun Φ1 hΦ1 => ?_)
  have h_1 : Φ1 y = some (o_ 14 [.int 0, .ref (y + 1), .ref (y + 2), .int 0, .int 1, .int 1, .int 0, .int 0, .ref (y + 3), .ref (y + 4), .int 0, .long 0, .ref (y + 5), .int 0, .int 0, .long 0, .long 0, .long 0, .long 0, .ref (y + 6), .ref (y + 7), .int 0, .ref (y + 8), .int 0, .ref (y + 9), .ref (y + 10), .int 0, .ref (y + 11), .ref (y + 12), .ref (y + 13), .ref (y + 14), .ref (y + 15), .ref (y + 16), .int 0, .long (-1), .ref (y + 17), .ref (y + 18), .ref (y + 19), .ref (y + 20), .ref (y + 21), .ref (y + 22), .int 0, .ref (y + 23), .ref (y + 24), .int 0, .ref (y + 25), .int 0, .int 0, .int 0, .int (-1), .int 0, .int 0, .int 0, .long 0]) := fset_at hΦ1
  refine z_aload_n B dX12_now_5 rfl 0 rfl ?_
  refine z_get (ref := "FlowExporterModel") (C := RX12) (T := TX12) (N := 54) (ci := 14) (v := .int 0) B (by decide +kernel) rfl 3 (by decide) (by decide +kernel) rfl h_1 rfl dX12_now_6 ?_
  exact z_ret_i B dX12_now_9 ⟨rfl, ⟨_, h_1, rfl⟩, fun b9 h9 => ((fset_fr hΦ1 (Nat.ne_of_gt (Nat.lt_of_lt_of_le (lt_off (x := y) (i := 0) (j := 26) rfl) h9))).trans rfl)⟩

set_option maxHeartbeats 4000000 in
set_option maxRecDepth 100000 in
theorem m_X12_cacheSize (G : EnvG) (l : Launch) (Φ : Hm) (sz : Nat) (y : Nat) (hc0_ : Φ y = some (o_ 14 [.int 0, .ref (y + 1), .ref (y + 2), .int 0, .int 1, .int 1, .int 0, .int 0, .ref (y + 3), .ref (y + 4), .int 0, .long 0, .ref (y + 5), .int 0, .int 0, .long 0, .long 0, .long 0, .long 0, .ref (y + 6), .ref (y + 7), .int 0, .ref (y + 8), .int 0, .ref (y + 9), .ref (y + 10), .int 0, .ref (y + 11), .ref (y + 12), .ref (y + 13), .ref (y + 14), .ref (y + 15), .ref (y + 16), .int 0, .long (-1), .ref (y + 17), .ref (y + 18), .ref (y + 19), .ref (y + 20), .ref (y + 21), .ref (y + 22), .int 0, .ref (y + 23), .ref (y + 24), .int 0, .ref (y + 25), .int 0, .int 0, .int 0, .int (-1), .int 0, .int 0, .int 0, .long 0])) (hna : G.2.2.2 ≤ y) : Ct G l yX12_cacheSize wsX12_cacheSize ({ frames := 0, cells := 0, slots := 0, locals := 0 }) 0 0 [.ref y] Φ sz (fun v Φ1 sz1 => v = some (.int 0) ∧ (∃ fs : List Value, Φ1 y = some (o_ 14 fs) ∧ fs[0]? = some (.int 0)) ∧ ∀ b9 : Nat, y + 26 ≤ b9 → Φ1 b9 = Φ b9) := by
  refine Ct.of (cc := cX12_cacheSize) (maxL := 1) (ret := (some .int)) (by decide) rfl (Nat.le_of_ble_eq_true rfl) ?_
  intro p9 e9 s9 m9 w9 t9 k9 B
  show Z p9 l e9 _ s9 m9 _ w9 t9 k9 _ G 1 0 [(0, .ref y)] [] Φ sz 0 0
  refine z_aload_n B dX12_cacheSize_0 rfl 0 rfl ?_
  refine z_iconst (v := 0) B dX12_cacheSize_1 rfl ?_
  refine z_put (ref := "FlowExporterModel") (C := RX12) (T := TX12) (N := 54) (ci := 14) (v := .int 0) B (by decide +kernel) tyX12 tyX12_ok nmX12 rfl 0 (by decide) (by decide +kernel) rfl (Or.inl rfl) hc0_ hna rfl rfl (Nat.le_of_ble_eq_true rfl) dX12_cacheSize_2 (fun Φ1 hΦ1 => ?_)
  have h_1 : Φ1 y = some (o_ 14 [.int 0, .ref (y + 1), .ref (y + 2), .int 0, .int 1, .int 1, .int 0, .int 0, .ref (y + 3), .ref (y + 4), .int 0, .long 0, .ref (y + 5), .int 0, .int 0, .long 0, .long 0, .long 0, .long 0, .ref (y + 6), .ref (y + 7), .int 0, .ref (y + 8), .int 0, .ref (y + 9), .ref (y + 10), .int 0, .ref (y + 11), .ref (y + 12), .ref (y + 13), .ref (y + 14), .ref (y + 15), .ref (y + 16), .int 0, .long (-1), .ref (y + 17), .ref (y + 18), .ref (y + 19), .ref (y + 20), .ref (y + 21), .ref (y + 22), .int 0, .ref (y + 23), .ref (y + 24), .int 0, .ref (y + 25), .int 0, .int 0, .int 0, .int (-1), .int 0, .int 0, .int 0, .long 0]) := fset_at hΦ1
  refine z_aload_n B dX12_cacheSize_5 rfl 0 rfl ?_
  refine z_get (ref := "FlowExporterModel") (C := RX12) (T := TX12) (N := 54) (ci := 14) (v := .int 0) B (by decide +kernel) rfl 13 (by decide) (by decide +kernel) rfl h_1 rfl dX12_cacheSize_6 ?_
  exact z_ret_i B dX12_cacheSize_9 ⟨rfl, ⟨_, h_1, rfl⟩, fun b9 h9 => ((fset_fr hΦ1 (Nat.ne_of_gt (Nat.lt_of_lt_of_le (lt_off (x := y) (i := 0) (j := 26) rfl) h9))).trans rfl)⟩

set_option maxHeartbeats 4000000 in
set_option maxRecDepth 100000 in
theorem m_X12_rate (G : EnvG) (l : Launch) (Φ : Hm) (sz : Nat) (y : Nat) (hc0_ : Φ y = some (o_ 14 [.int 0, .ref (y + 1), .ref (y + 2), .int 0, .int 1, .int 1, .int 0, .int 0, .ref (y + 3), .ref (y + 4), .int 0, .long 0, .ref (y + 5), .int 0, .int 0, .long 0, .long 0, .long 0, .long 0, .ref (y + 6), .ref (y + 7), .int 0, .ref (y + 8), .int 0, .ref (y + 9), .ref (y + 10), .int 0, .ref (y + 11), .ref (y + 12), .ref (y + 13), .ref (y + 14), .ref (y + 15), .ref (y + 16), .int 0, .long (-1), .ref (y + 17), .ref (y + 18), .ref (y + 19), .ref (y + 20), .ref (y + 21), .ref (y + 22), .int 0, .ref (y + 23), .ref (y + 24), .int 0, .ref (y + 25), .int 0, .int 0, .int 0, .int (-1), .int 0, .int 0, .int 0, .long 0])) (hna : G.2.2.2 ≤ y) : Ct G l yX12_rate wsX12_rate ({ frames := 0, cells := 0, slots := 0, locals := 0 }) 0 0 [.ref y] Φ sz (fun v Φ1 sz1 => v = some (.int 1) ∧ (∃ fs : List Value, Φ1 y = some (o_ 14 fs) ∧ fs[0]? = some (.int 0)) ∧ ∀ b9 : Nat, y + 26 ≤ b9 → Φ1 b9 = Φ b9) := by
  refine Ct.of (cc := cX12_rate) (maxL := 1) (ret := (some .int)) (by decide) rfl (Nat.le_of_ble_eq_true rfl) ?_
  intro p9 e9 s9 m9 w9 t9 k9 B
  show Z p9 l e9 _ s9 m9 _ w9 t9 k9 _ G 1 0 [(0, .ref y)] [] Φ sz 0 0
  refine z_aload_n B dX12_rate_0 rfl 0 rfl ?_
  refine z_iconst (v := 0) B dX12_rate_1 rfl ?_
  refine z_put (ref := "FlowExporterModel") (C := RX12) (T := TX12) (N := 54) (ci := 14) (v := .int 0) B (by decide +kernel) tyX12 tyX12_ok nmX12 rfl 0 (by decide) (by decide +kernel) rfl (Or.inl rfl) hc0_ hna rfl rfl (Nat.le_of_ble_eq_true rfl) dX12_rate_2 (fun Φ1 hΦ1 => ?_)
  have h_1 : Φ1 y = some (o_ 14 [.int 0, .ref (y + 1), .ref (y + 2), .int 0, .int 1, .int 1, .int 0, .int 0, .ref (y + 3), .ref (y + 4), .int 0, .long 0, .ref (y + 5), .int 0, .int 0, .long 0, .long 0, .long 0, .long 0, .ref (y + 6), .ref (y + 7), .int 0, .ref (y + 8), .int 0, .ref (y + 9), .ref (y + 10), .int 0, .ref (y + 11), .ref (y + 12), .ref (y + 13), .ref (y + 14), .ref (y + 15), .ref (y + 16), .int 0, .long (-1), .ref (y + 17), .ref (y + 18), .ref (y + 19), .ref (y + 20), .ref (y + 21), .ref (y + 22), .int 0, .ref (y + 23), .ref (y + 24), .int 0, .ref (y + 25), .int 0, .int 0, .int 0, .int (-1), .int 0, .int 0, .int 0, .long 0]) := fset_at hΦ1
  refine z_aload_n B dX12_rate_5 rfl 0 rfl ?_
  refine z_get (ref := "FlowExporterModel") (C := RX12) (T := TX12) (N := 54) (ci := 14) (v := .int 1) B (by decide +kernel) rfl 5 (by decide) (by decide +kernel) rfl h_1 rfl dX12_rate_6 ?_
  exact z_ret_i B dX12_rate_9 ⟨rfl, ⟨_, h_1, rfl⟩, fun b9 h9 => ((fset_fr hΦ1 (Nat.ne_of_gt (Nat.lt_of_lt_of_le (lt_off (x := y) (i := 0) (j := 26) rfl) h9))).trans rfl)⟩

set_option maxHeartbeats 4000000 in
set_option maxRecDepth 100000 in
theorem m_X12_templateCount (G : EnvG) (l : Launch) (Φ : Hm) (sz : Nat) (y : Nat) (hc0_ : Φ y = some (o_ 14 [.int 0, .ref (y + 1), .ref (y + 2), .int 0, .int 1, .int 1, .int 0, .int 0, .ref (y + 3), .ref (y + 4), .int 0, .long 0, .ref (y + 5), .int 0, .int 0, .long 0, .long 0, .long 0, .long 0, .ref (y + 6), .ref (y + 7), .int 0, .ref (y + 8), .int 0, .ref (y + 9), .ref (y + 10), .int 0, .ref (y + 11), .ref (y + 12), .ref (y + 13), .ref (y + 14), .ref (y + 15), .ref (y + 16), .int 0, .long (-1), .ref (y + 17), .ref (y + 18), .ref (y + 19), .ref (y + 20), .ref (y + 21), .ref (y + 22), .int 0, .ref (y + 23), .ref (y + 24), .int 0, .ref (y + 25), .int 0, .int 0, .int 0, .int (-1), .int 0, .int 0, .int 0, .long 0])) (hc2_ : Φ (y + 2) = some (ai_ G 307 (upd (upd (upd (upd (upd (upd (upd (upd (upd (upd (upd (upd (upd (upd (upd (upd (upd (upd (upd (upd (upd (fun _ => 0) (0 : Int32).toNatClampNeg 1) (1 : Int32).toNatClampNeg 100) (2 : Int32).toNatClampNeg 1000) (3 : Int32).toNatClampNeg 100) (4 : Int32).toNatClampNeg 20) (5 : Int32).toNatClampNeg 1000) (6 : Int32).toNatClampNeg 5000) (7 : Int32).toNatClampNeg 512) (8 : Int32).toNatClampNeg 1) (9 : Int32).toNatClampNeg 511) (10 : Int32).toNatClampNeg 1) (11 : Int32).toNatClampNeg 9) (15 : Int32).toNatClampNeg 0) (16 : Int32).toNatClampNeg 1) (17 : Int32).toNatClampNeg 2) (18 : Int32).toNatClampNeg 3) (19 : Int32).toNatClampNeg 4) (20 : Int32).toNatClampNeg 5) (21 : Int32).toNatClampNeg 6) (22 : Int32).toNatClampNeg 7) (23 : Int32).toNatClampNeg 8))) (hna : G.2.2.2 ≤ y) : Ct G l yX12_templateCount wsX12_templateCount ({ frames := 0, cells := 0, slots := 0, locals := 0 }) 0 0 [.ref y] Φ sz (fun v Φ1 sz1 => v = some (.int 1) ∧ (∃ fs : List Value, Φ1 y = some (o_ 14 fs) ∧ fs[0]? = some (.int 0)) ∧ ∀ b9 : Nat, y + 26 ≤ b9 → Φ1 b9 = Φ b9) := by
  refine Ct.of (cc := cX12_templateCount) (maxL := 1) (ret := (some .int)) (by decide) rfl (Nat.le_of_ble_eq_true rfl) ?_
  intro p9 e9 s9 m9 w9 t9 k9 B
  show Z p9 l e9 _ s9 m9 _ w9 t9 k9 _ G 1 0 [(0, .ref y)] [] Φ sz 0 0
  refine z_aload_n B dX12_templateCount_0 rfl 0 rfl ?_
  refine z_iconst (v := 0) B dX12_templateCount_1 rfl ?_
  refine z_put (ref := "FlowExporterModel") (C := RX12) (T := TX12) (N := 54) (ci := 14) (v := .int 0) B (by decide +kernel) tyX12 tyX12_ok nmX12 rfl 0 (by decide) (by decide +kernel) rfl (Or.inl rfl) hc0_ hna rfl rfl (Nat.le_of_ble_eq_true rfl) dX12_templateCount_2 (fun Φ1 hΦ1 => ?_)
  have h_1 : Φ1 y = some (o_ 14 [.int 0, .ref (y + 1), .ref (y + 2), .int 0, .int 1, .int 1, .int 0, .int 0, .ref (y + 3), .ref (y + 4), .int 0, .long 0, .ref (y + 5), .int 0, .int 0, .long 0, .long 0, .long 0, .long 0, .ref (y + 6), .ref (y + 7), .int 0, .ref (y + 8), .int 0, .ref (y + 9), .ref (y + 10), .int 0, .ref (y + 11), .ref (y + 12), .ref (y + 13), .ref (y + 14), .ref (y + 15), .ref (y + 16), .int 0, .long (-1), .ref (y + 17), .ref (y + 18), .ref (y + 19), .ref (y + 20), .ref (y + 21), .ref (y + 22), .int 0, .ref (y + 23), .ref (y + 24), .int 0, .ref (y + 25), .int 0, .int 0, .int 0, .int (-1), .int 0, .int 0, .int 0, .long 0]) := fset_at hΦ1
  refine z_aload_n B dX12_templateCount_5 rfl 0 rfl ?_
  refine z_get (ref := "FlowExporterModel") (C := RX12) (T := TX12) (N := 54) (ci := 14) (v := .ref (y + 2)) B (by decide +kernel) rfl 2 (by decide) (by decide +kernel) rfl h_1 rfl dX12_templateCount_6 ?_
  refine z_bipush (v := 10) B dX12_templateCount_9 rfl ?_
  have h_2 : Φ1 (y + 2) = some (ai_ G 307 (upd (upd (upd (upd (upd (upd (upd (upd (upd (upd (upd (upd (upd (upd (upd (upd (upd (upd (upd (upd (upd (fun _ => 0) (0 : Int32).toNatClampNeg 1) (1 : Int32).toNatClampNeg 100) (2 : Int32).toNatClampNeg 1000) (3 : Int32).toNatClampNeg 100) (4 : Int32).toNatClampNeg 20) (5 : Int32).toNatClampNeg 1000) (6 : Int32).toNatClampNeg 5000) (7 : Int32).toNatClampNeg 512) (8 : Int32).toNatClampNeg 1) (9 : Int32).toNatClampNeg 511) (10 : Int32).toNatClampNeg 1) (11 : Int32).toNatClampNeg 9) (15 : Int32).toNatClampNeg 0) (16 : Int32).toNatClampNeg 1) (17 : Int32).toNatClampNeg 2) (18 : Int32).toNatClampNeg 3) (19 : Int32).toNatClampNeg 4) (20 : Int32).toNatClampNeg 5) (21 : Int32).toNatClampNeg 6) (22 : Int32).toNatClampNeg 7) (23 : Int32).toNatClampNeg 8)) := ((fset_fr hΦ1 (ne_off (x := y) (i := 2) (j := 0) rfl)).trans hc2_)
  refine z_iald B h_2 (vin rfl) dX12_templateCount_11 ?_
  refine z_top (st1 := [.int 1]) (by rfl) ?_
  exact z_ret_i B dX12_templateCount_12 ⟨rfl, ⟨_, h_1, rfl⟩, fun b9 h9 => ((fset_fr hΦ1 (Nat.ne_of_gt (Nat.lt_of_lt_of_le (lt_off (x := y) (i := 0) (j := 26) rfl) h9))).trans rfl)⟩

set_option maxHeartbeats 4000000 in
set_option maxRecDepth 100000 in
theorem m_X12_observed (G : EnvG) (l : Launch) (Φ : Hm) (sz : Nat) (y : Nat) (hc0_ : Φ y = some (o_ 14 [.int 0, .ref (y + 1), .ref (y + 2), .int 0, .int 1, .int 1, .int 0, .int 0, .ref (y + 3), .ref (y + 4), .int 0, .long 0, .ref (y + 5), .int 0, .int 0, .long 0, .long 0, .long 0, .long 0, .ref (y + 6), .ref (y + 7), .int 0, .ref (y + 8), .int 0, .ref (y + 9), .ref (y + 10), .int 0, .ref (y + 11), .ref (y + 12), .ref (y + 13), .ref (y + 14), .ref (y + 15), .ref (y + 16), .int 0, .long (-1), .ref (y + 17), .ref (y + 18), .ref (y + 19), .ref (y + 20), .ref (y + 21), .ref (y + 22), .int 0, .ref (y + 23), .ref (y + 24), .int 0, .ref (y + 25), .int 0, .int 0, .int 0, .int (-1), .int 0, .int 0, .int 0, .long 0])) (hna : G.2.2.2 ≤ y) : Ct G l yX12_observed wsX12_observed ({ frames := 0, cells := 0, slots := 0, locals := 0 }) 0 0 [.ref y] Φ sz (fun v Φ1 sz1 => v = some (.long 0) ∧ (∃ fs : List Value, Φ1 y = some (o_ 14 fs) ∧ fs[0]? = some (.int 0)) ∧ ∀ b9 : Nat, y + 26 ≤ b9 → Φ1 b9 = Φ b9) := by
  refine Ct.of (cc := cX12_observed) (maxL := 1) (ret := (some .long)) (by decide) rfl (Nat.le_of_ble_eq_true rfl) ?_
  intro p9 e9 s9 m9 w9 t9 k9 B
  show Z p9 l e9 _ s9 m9 _ w9 t9 k9 _ G 1 0 [(0, .ref y)] [] Φ sz 0 0
  refine z_aload_n B dX12_observed_0 rfl 0 rfl ?_
  refine z_iconst (v := 0) B dX12_observed_1 rfl ?_
  refine z_put (ref := "FlowExporterModel") (C := RX12) (T := TX12) (N := 54) (ci := 14) (v := .int 0) B (by decide +kernel) tyX12 tyX12_ok nmX12 rfl 0 (by decide) (by decide +kernel) rfl (Or.inl rfl) hc0_ hna rfl rfl (Nat.le_of_ble_eq_true rfl) dX12_observed_2 (fun Φ1 hΦ1 => ?_)
  have h_1 : Φ1 y = some (o_ 14 [.int 0, .ref (y + 1), .ref (y + 2), .int 0, .int 1, .int 1, .int 0, .int 0, .ref (y + 3), .ref (y + 4), .int 0, .long 0, .ref (y + 5), .int 0, .int 0, .long 0, .long 0, .long 0, .long 0, .ref (y + 6), .ref (y + 7), .int 0, .ref (y + 8), .int 0, .ref (y + 9), .ref (y + 10), .int 0, .ref (y + 11), .ref (y + 12), .ref (y + 13), .ref (y + 14), .ref (y + 15), .ref (y + 16), .int 0, .long (-1), .ref (y + 17), .ref (y + 18), .ref (y + 19), .ref (y + 20), .ref (y + 21), .ref (y + 22), .int 0, .ref (y + 23), .ref (y + 24), .int 0, .ref (y + 25), .int 0, .int 0, .int 0, .int (-1), .int 0, .int 0, .int 0, .long 0]) := fset_at hΦ1
  refine z_aload_n B dX12_observed_5 rfl 0 rfl ?_
  refine z_get (ref := "FlowExporterModel") (C := RX12) (T := TX12) (N := 54) (ci := 14) (v := .long 0) B (by decide +kernel) rfl 15 (by decide) (by decide +kernel) rfl h_1 rfl dX12_observed_6 ?_
  exact z_ret_l B dX12_observed_9 ⟨rfl, ⟨_, h_1, rfl⟩, fun b9 h9 => ((fset_fr hΦ1 (Nat.ne_of_gt (Nat.lt_of_lt_of_le (lt_off (x := y) (i := 0) (j := 26) rfl) h9))).trans rfl)⟩

set_option maxHeartbeats 4000000 in
set_option maxRecDepth 100000 in
theorem m_X12_sampled (G : EnvG) (l : Launch) (Φ : Hm) (sz : Nat) (y : Nat) (hc0_ : Φ y = some (o_ 14 [.int 0, .ref (y + 1), .ref (y + 2), .int 0, .int 1, .int 1, .int 0, .int 0, .ref (y + 3), .ref (y + 4), .int 0, .long 0, .ref (y + 5), .int 0, .int 0, .long 0, .long 0, .long 0, .long 0, .ref (y + 6), .ref (y + 7), .int 0, .ref (y + 8), .int 0, .ref (y + 9), .ref (y + 10), .int 0, .ref (y + 11), .ref (y + 12), .ref (y + 13), .ref (y + 14), .ref (y + 15), .ref (y + 16), .int 0, .long (-1), .ref (y + 17), .ref (y + 18), .ref (y + 19), .ref (y + 20), .ref (y + 21), .ref (y + 22), .int 0, .ref (y + 23), .ref (y + 24), .int 0, .ref (y + 25), .int 0, .int 0, .int 0, .int (-1), .int 0, .int 0, .int 0, .long 0])) (hna : G.2.2.2 ≤ y) : Ct G l yX12_sampled wsX12_sampled ({ frames := 0, cells := 0, slots := 0, locals := 0 }) 0 0 [.ref y] Φ sz (fun v Φ1 sz1 => v = some (.long 0) ∧ (∃ fs : List Value, Φ1 y = some (o_ 14 fs) ∧ fs[0]? = some (.int 0)) ∧ ∀ b9 : Nat, y + 26 ≤ b9 → Φ1 b9 = Φ b9) := by
  refine Ct.of (cc := cX12_sampled) (maxL := 1) (ret := (some .long)) (by decide) rfl (Nat.le_of_ble_eq_true rfl) ?_
  intro p9 e9 s9 m9 w9 t9 k9 B
  show Z p9 l e9 _ s9 m9 _ w9 t9 k9 _ G 1 0 [(0, .ref y)] [] Φ sz 0 0
  refine z_aload_n B dX12_sampled_0 rfl 0 rfl ?_
  refine z_iconst (v := 0) B dX12_sampled_1 rfl ?_
  refine z_put (ref := "FlowExporterModel") (C := RX12) (T := TX12) (N := 54) (ci := 14) (v := .int 0) B (by decide +kernel) tyX12 tyX12_ok nmX12 rfl 0 (by decide) (by decide +kernel) rfl (Or.inl rfl) hc0_ hna rfl rfl (Nat.le_of_ble_eq_true rfl) dX12_sampled_2 (fun Φ1 hΦ1 => ?_)
  have h_1 : Φ1 y = some (o_ 14 [.int 0, .ref (y + 1), .ref (y + 2), .int 0, .int 1, .int 1, .int 0, .int 0, .ref (y + 3), .ref (y + 4), .int 0, .long 0, .ref (y + 5), .int 0, .int 0, .long 0, .long 0, .long 0, .long 0, .ref (y + 6), .ref (y + 7), .int 0, .ref (y + 8), .int 0, .ref (y + 9), .ref (y + 10), .int 0, .ref (y + 11), .ref (y + 12), .ref (y + 13), .ref (y + 14), .ref (y + 15), .ref (y + 16), .int 0, .long (-1), .ref (y + 17), .ref (y + 18), .ref (y + 19), .ref (y + 20), .ref (y + 21), .ref (y + 22), .int 0, .ref (y + 23), .ref (y + 24), .int 0, .ref (y + 25), .int 0, .int 0, .int 0, .int (-1), .int 0, .int 0, .int 0, .long 0]) := fset_at hΦ1
  refine z_aload_n B dX12_sampled_5 rfl 0 rfl ?_
  refine z_get (ref := "FlowExporterModel") (C := RX12) (T := TX12) (N := 54) (ci := 14) (v := .long 0) B (by decide +kernel) rfl 16 (by decide) (by decide +kernel) rfl h_1 rfl dX12_sampled_6 ?_
  exact z_ret_l B dX12_sampled_9 ⟨rfl, ⟨_, h_1, rfl⟩, fun b9 h9 => ((fset_fr hΦ1 (Nat.ne_of_gt (Nat.lt_of_lt_of_le (lt_off (x := y) (i := 0) (j := 26) rfl) h9))).trans rfl)⟩

set_option maxHeartbeats 4000000 in
set_option maxRecDepth 100000 in
theorem m_X12_unsent (G : EnvG) (l : Launch) (Φ : Hm) (sz : Nat) (y : Nat) (hc0_ : Φ y = some (o_ 14 [.int 0, .ref (y + 1), .ref (y + 2), .int 0, .int 1, .int 1, .int 0, .int 0, .ref (y + 3), .ref (y + 4), .int 0, .long 0, .ref (y + 5), .int 0, .int 0, .long 0, .long 0, .long 0, .long 0, .ref (y + 6), .ref (y + 7), .int 0, .ref (y + 8), .int 0, .ref (y + 9), .ref (y + 10), .int 0, .ref (y + 11), .ref (y + 12), .ref (y + 13), .ref (y + 14), .ref (y + 15), .ref (y + 16), .int 0, .long (-1), .ref (y + 17), .ref (y + 18), .ref (y + 19), .ref (y + 20), .ref (y + 21), .ref (y + 22), .int 0, .ref (y + 23), .ref (y + 24), .int 0, .ref (y + 25), .int 0, .int 0, .int 0, .int (-1), .int 0, .int 0, .int 0, .long 0])) (hna : G.2.2.2 ≤ y) : Ct G l yX12_unsent wsX12_unsent ({ frames := 0, cells := 0, slots := 0, locals := 0 }) 0 0 [.ref y] Φ sz (fun v Φ1 sz1 => v = some (.long 0) ∧ (∃ fs : List Value, Φ1 y = some (o_ 14 fs) ∧ fs[0]? = some (.int 0)) ∧ ∀ b9 : Nat, y + 26 ≤ b9 → Φ1 b9 = Φ b9) := by
  refine Ct.of (cc := cX12_unsent) (maxL := 1) (ret := (some .long)) (by decide) rfl (Nat.le_of_ble_eq_true rfl) ?_
  intro p9 e9 s9 m9 w9 t9 k9 B
  show Z p9 l e9 _ s9 m9 _ w9 t9 k9 _ G 1 0 [(0, .ref y)] [] Φ sz 0 0
  refine z_aload_n B dX12_unsent_0 rfl 0 rfl ?_
  refine z_iconst (v := 0) B dX12_unsent_1 rfl ?_
  refine z_put (ref := "FlowExporterModel") (C := RX12) (T := TX12) (N := 54) (ci := 14) (v := .int 0) B (by decide +kernel) tyX12 tyX12_ok nmX12 rfl 0 (by decide) (by decide +kernel) rfl (Or.inl rfl) hc0_ hna rfl rfl (Nat.le_of_ble_eq_true rfl) dX12_unsent_2 (fun Φ1 hΦ1 => ?_)
  have h_1 : Φ1 y = some (o_ 14 [.int 0, .ref (y + 1), .ref (y + 2), .int 0, .int 1, .int 1, .int 0, .int 0, .ref (y + 3), .ref (y + 4), .int 0, .long 0, .ref (y + 5), .int 0, .int 0, .long 0, .long 0, .long 0, .long 0, .ref (y + 6), .ref (y + 7), .int 0, .ref (y + 8), .int 0, .ref (y + 9), .ref (y + 10), .int 0, .ref (y + 11), .ref (y + 12), .ref (y + 13), .ref (y + 14), .ref (y + 15), .ref (y + 16), .int 0, .long (-1), .ref (y + 17), .ref (y + 18), .ref (y + 19), .ref (y + 20), .ref (y + 21), .ref (y + 22), .int 0, .ref (y + 23), .ref (y + 24), .int 0, .ref (y + 25), .int 0, .int 0, .int 0, .int (-1), .int 0, .int 0, .int 0, .long 0]) := fset_at hΦ1
  refine z_aload_n B dX12_unsent_5 rfl 0 rfl ?_
  refine z_get (ref := "FlowExporterModel") (C := RX12) (T := TX12) (N := 54) (ci := 14) (v := .long 0) B (by decide +kernel) rfl 18 (by decide) (by decide +kernel) rfl h_1 rfl dX12_unsent_6 ?_
  exact z_ret_l B dX12_unsent_9 ⟨rfl, ⟨_, h_1, rfl⟩, fun b9 h9 => ((fset_fr hΦ1 (Nat.ne_of_gt (Nat.lt_of_lt_of_le (lt_off (x := y) (i := 0) (j := 26) rfl) h9))).trans rfl)⟩

set_option maxHeartbeats 4000000 in
set_option maxRecDepth 100000 in
theorem m_X12_sent (G : EnvG) (l : Launch) (Φ : Hm) (sz : Nat) (y : Nat) (hc0_ : Φ y = some (o_ 14 [.int 0, .ref (y + 1), .ref (y + 2), .int 0, .int 1, .int 1, .int 0, .int 0, .ref (y + 3), .ref (y + 4), .int 0, .long 0, .ref (y + 5), .int 0, .int 0, .long 0, .long 0, .long 0, .long 0, .ref (y + 6), .ref (y + 7), .int 0, .ref (y + 8), .int 0, .ref (y + 9), .ref (y + 10), .int 0, .ref (y + 11), .ref (y + 12), .ref (y + 13), .ref (y + 14), .ref (y + 15), .ref (y + 16), .int 0, .long (-1), .ref (y + 17), .ref (y + 18), .ref (y + 19), .ref (y + 20), .ref (y + 21), .ref (y + 22), .int 0, .ref (y + 23), .ref (y + 24), .int 0, .ref (y + 25), .int 0, .int 0, .int 0, .int (-1), .int 0, .int 0, .int 0, .long 0])) (hna : G.2.2.2 ≤ y) : Ct G l yX12_sent wsX12_sent ({ frames := 0, cells := 0, slots := 0, locals := 0 }) 0 0 [.ref y] Φ sz (fun v Φ1 sz1 => v = some (.long 0) ∧ (∃ fs : List Value, Φ1 y = some (o_ 14 fs) ∧ fs[0]? = some (.int 0)) ∧ ∀ b9 : Nat, y + 26 ≤ b9 → Φ1 b9 = Φ b9) := by
  refine Ct.of (cc := cX12_sent) (maxL := 1) (ret := (some .long)) (by decide) rfl (Nat.le_of_ble_eq_true rfl) ?_
  intro p9 e9 s9 m9 w9 t9 k9 B
  show Z p9 l e9 _ s9 m9 _ w9 t9 k9 _ G 1 0 [(0, .ref y)] [] Φ sz 0 0
  refine z_aload_n B dX12_sent_0 rfl 0 rfl ?_
  refine z_iconst (v := 0) B dX12_sent_1 rfl ?_
  refine z_put (ref := "FlowExporterModel") (C := RX12) (T := TX12) (N := 54) (ci := 14) (v := .int 0) B (by decide +kernel) tyX12 tyX12_ok nmX12 rfl 0 (by decide) (by decide +kernel) rfl (Or.inl rfl) hc0_ hna rfl rfl (Nat.le_of_ble_eq_true rfl) dX12_sent_2 (fun Φ1 hΦ1 => ?_)
  have h_1 : Φ1 y = some (o_ 14 [.int 0, .ref (y + 1), .ref (y + 2), .int 0, .int 1, .int 1, .int 0, .int 0, .ref (y + 3), .ref (y + 4), .int 0, .long 0, .ref (y + 5), .int 0, .int 0, .long 0, .long 0, .long 0, .long 0, .ref (y + 6), .ref (y + 7), .int 0, .ref (y + 8), .int 0, .ref (y + 9), .ref (y + 10), .int 0, .ref (y + 11), .ref (y + 12), .ref (y + 13), .ref (y + 14), .ref (y + 15), .ref (y + 16), .int 0, .long (-1), .ref (y + 17), .ref (y + 18), .ref (y + 19), .ref (y + 20), .ref (y + 21), .ref (y + 22), .int 0, .ref (y + 23), .ref (y + 24), .int 0, .ref (y + 25), .int 0, .int 0, .int 0, .int (-1), .int 0, .int 0, .int 0, .long 0]) := fset_at hΦ1
  refine z_aload_n B dX12_sent_5 rfl 0 rfl ?_
  refine z_get (ref := "FlowExporterModel") (C := RX12) (T := TX12) (N := 54) (ci := 14) (v := .long 0) B (by decide +kernel) rfl 17 (by decide) (by decide +kernel) rfl h_1 rfl dX12_sent_6 ?_
  exact z_ret_l B dX12_sent_9 ⟨rfl, ⟨_, h_1, rfl⟩, fun b9 h9 => ((fset_fr hΦ1 (Nat.ne_of_gt (Nat.lt_of_lt_of_le (lt_off (x := y) (i := 0) (j := 26) rfl) h9))).trans rfl)⟩

set_option maxHeartbeats 4000000 in
set_option maxRecDepth 100000 in
theorem m_X12_dropped (G : EnvG) (l : Launch) (Φ : Hm) (sz : Nat) (y : Nat) (hc0_ : Φ y = some (o_ 14 [.int 0, .ref (y + 1), .ref (y + 2), .int 0, .int 1, .int 1, .int 0, .int 0, .ref (y + 3), .ref (y + 4), .int 0, .long 0, .ref (y + 5), .int 0, .int 0, .long 0, .long 0, .long 0, .long 0, .ref (y + 6), .ref (y + 7), .int 0, .ref (y + 8), .int 0, .ref (y + 9), .ref (y + 10), .int 0, .ref (y + 11), .ref (y + 12), .ref (y + 13), .ref (y + 14), .ref (y + 15), .ref (y + 16), .int 0, .long (-1), .ref (y + 17), .ref (y + 18), .ref (y + 19), .ref (y + 20), .ref (y + 21), .ref (y + 22), .int 0, .ref (y + 23), .ref (y + 24), .int 0, .ref (y + 25), .int 0, .int 0, .int 0, .int (-1), .int 0, .int 0, .int 0, .long 0])) (hna : G.2.2.2 ≤ y) : Ct G l yX12_dropped wsX12_dropped ({ frames := 0, cells := 0, slots := 0, locals := 0 }) 0 0 [.ref y] Φ sz (fun v Φ1 sz1 => v = some (.int 0) ∧ (∃ fs : List Value, Φ1 y = some (o_ 14 fs) ∧ fs[0]? = some (.int 0)) ∧ ∀ b9 : Nat, y + 26 ≤ b9 → Φ1 b9 = Φ b9) := by
  refine Ct.of (cc := cX12_dropped) (maxL := 1) (ret := (some .int)) (by decide) rfl (Nat.le_of_ble_eq_true rfl) ?_
  intro p9 e9 s9 m9 w9 t9 k9 B
  show Z p9 l e9 _ s9 m9 _ w9 t9 k9 _ G 1 0 [(0, .ref y)] [] Φ sz 0 0
  refine z_aload_n B dX12_dropped_0 rfl 0 rfl ?_
  refine z_iconst (v := 0) B dX12_dropped_1 rfl ?_
  refine z_put (ref := "FlowExporterModel") (C := RX12) (T := TX12) (N := 54) (ci := 14) (v := .int 0) B (by decide +kernel) tyX12 tyX12_ok nmX12 rfl 0 (by decide) (by decide +kernel) rfl (Or.inl rfl) hc0_ hna rfl rfl (Nat.le_of_ble_eq_true rfl) dX12_dropped_2 (fun Φ1 hΦ1 => ?_)
  have h_1 : Φ1 y = some (o_ 14 [.int 0, .ref (y + 1), .ref (y + 2), .int 0, .int 1, .int 1, .int 0, .int 0, .ref (y + 3), .ref (y + 4), .int 0, .long 0, .ref (y + 5), .int 0, .int 0, .long 0, .long 0, .long 0, .long 0, .ref (y + 6), .ref (y + 7), .int 0, .ref (y + 8), .int 0, .ref (y + 9), .ref (y + 10), .int 0, .ref (y + 11), .ref (y + 12), .ref (y + 13), .ref (y + 14), .ref (y + 15), .ref (y + 16), .int 0, .long (-1), .ref (y + 17), .ref (y + 18), .ref (y + 19), .ref (y + 20), .ref (y + 21), .ref (y + 22), .int 0, .ref (y + 23), .ref (y + 24), .int 0, .ref (y + 25), .int 0, .int 0, .int 0, .int (-1), .int 0, .int 0, .int 0, .long 0]) := fset_at hΦ1
  refine z_aload_n B dX12_dropped_5 rfl 0 rfl ?_
  refine z_get (ref := "FlowExporterModel") (C := RX12) (T := TX12) (N := 54) (ci := 14) (v := .int 0) B (by decide +kernel) rfl 14 (by decide) (by decide +kernel) rfl h_1 rfl dX12_dropped_6 ?_
  exact z_ret_i B dX12_dropped_9 ⟨rfl, ⟨_, h_1, rfl⟩, fun b9 h9 => ((fset_fr hΦ1 (Nat.ne_of_gt (Nat.lt_of_lt_of_le (lt_off (x := y) (i := 0) (j := 26) rfl) h9))).trans rfl)⟩

set_option maxHeartbeats 4000000 in
set_option maxRecDepth 100000 in
theorem m_X12_sequence (G : EnvG) (l : Launch) (Φ : Hm) (sz : Nat) (y : Nat) (hc0_ : Φ y = some (o_ 14 [.int 0, .ref (y + 1), .ref (y + 2), .int 0, .int 1, .int 1, .int 0, .int 0, .ref (y + 3), .ref (y + 4), .int 0, .long 0, .ref (y + 5), .int 0, .int 0, .long 0, .long 0, .long 0, .long 0, .ref (y + 6), .ref (y + 7), .int 0, .ref (y + 8), .int 0, .ref (y + 9), .ref (y + 10), .int 0, .ref (y + 11), .ref (y + 12), .ref (y + 13), .ref (y + 14), .ref (y + 15), .ref (y + 16), .int 0, .long (-1), .ref (y + 17), .ref (y + 18), .ref (y + 19), .ref (y + 20), .ref (y + 21), .ref (y + 22), .int 0, .ref (y + 23), .ref (y + 24), .int 0, .ref (y + 25), .int 0, .int 0, .int 0, .int (-1), .int 0, .int 0, .int 0, .long 0])) (hna : G.2.2.2 ≤ y) : Ct G l yX12_sequence wsX12_sequence ({ frames := 0, cells := 0, slots := 0, locals := 0 }) 0 0 [.ref y] Φ sz (fun v Φ1 sz1 => v = some (.long 0) ∧ (∃ fs : List Value, Φ1 y = some (o_ 14 fs) ∧ fs[0]? = some (.int 0)) ∧ ∀ b9 : Nat, y + 26 ≤ b9 → Φ1 b9 = Φ b9) := by
  refine Ct.of (cc := cX12_sequence) (maxL := 1) (ret := (some .long)) (by decide) rfl (Nat.le_of_ble_eq_true rfl) ?_
  intro p9 e9 s9 m9 w9 t9 k9 B
  show Z p9 l e9 _ s9 m9 _ w9 t9 k9 _ G 1 0 [(0, .ref y)] [] Φ sz 0 0
  refine z_aload_n B dX12_sequence_0 rfl 0 rfl ?_
  refine z_iconst (v := 0) B dX12_sequence_1 rfl ?_
  refine z_put (ref := "FlowExporterModel") (C := RX12) (T := TX12) (N := 54) (ci := 14) (v := .int 0) B (by decide +kernel) tyX12 tyX12_ok nmX12 rfl 0 (by decide) (by decide +kernel) rfl (Or.inl rfl) hc0_ hna rfl rfl (Nat.le_of_ble_eq_true rfl) dX12_sequence_2 (fun Φ1 hΦ1 => ?_)
  have h_1 : Φ1 y = some (o_ 14 [.int 0, .ref (y + 1), .ref (y + 2), .int 0, .int 1, .int 1, .int 0, .int 0, .ref (y + 3), .ref (y + 4), .int 0, .long 0, .ref (y + 5), .int 0, .int 0, .long 0, .long 0, .long 0, .long 0, .ref (y + 6), .ref (y + 7), .int 0, .ref (y + 8), .int 0, .ref (y + 9), .ref (y + 10), .int 0, .ref (y + 11), .ref (y + 12), .ref (y + 13), .ref (y + 14), .ref (y + 15), .ref (y + 16), .int 0, .long (-1), .ref (y + 17), .ref (y + 18), .ref (y + 19), .ref (y + 20), .ref (y + 21), .ref (y + 22), .int 0, .ref (y + 23), .ref (y + 24), .int 0, .ref (y + 25), .int 0, .int 0, .int 0, .int (-1), .int 0, .int 0, .int 0, .long 0]) := fset_at hΦ1
  refine z_aload_n B dX12_sequence_5 rfl 0 rfl ?_
  refine z_get (ref := "FlowExporterModel") (C := RX12) (T := TX12) (N := 54) (ci := 14) (v := .long 0) B (by decide +kernel) rfl 11 (by decide) (by decide +kernel) rfl h_1 rfl dX12_sequence_6 ?_
  exact z_ret_l B dX12_sequence_9 ⟨rfl, ⟨_, h_1, rfl⟩, fun b9 h9 => ((fset_fr hΦ1 (Nat.ne_of_gt (Nat.lt_of_lt_of_le (lt_off (x := y) (i := 0) (j := 26) rfl) h9))).trans rfl)⟩

set_option maxHeartbeats 4000000 in
set_option maxRecDepth 100000 in
theorem m_X12_queueLength (G : EnvG) (l : Launch) (Φ : Hm) (sz : Nat) (y : Nat) (hc0_ : Φ y = some (o_ 14 [.int 0, .ref (y + 1), .ref (y + 2), .int 0, .int 1, .int 1, .int 0, .int 0, .ref (y + 3), .ref (y + 4), .int 0, .long 0, .ref (y + 5), .int 0, .int 0, .long 0, .long 0, .long 0, .long 0, .ref (y + 6), .ref (y + 7), .int 0, .ref (y + 8), .int 0, .ref (y + 9), .ref (y + 10), .int 0, .ref (y + 11), .ref (y + 12), .ref (y + 13), .ref (y + 14), .ref (y + 15), .ref (y + 16), .int 0, .long (-1), .ref (y + 17), .ref (y + 18), .ref (y + 19), .ref (y + 20), .ref (y + 21), .ref (y + 22), .int 0, .ref (y + 23), .ref (y + 24), .int 0, .ref (y + 25), .int 0, .int 0, .int 0, .int (-1), .int 0, .int 0, .int 0, .long 0])) (hna : G.2.2.2 ≤ y) : Ct G l yX12_queueLength wsX12_queueLength ({ frames := 0, cells := 0, slots := 0, locals := 0 }) 0 0 [.ref y] Φ sz (fun v Φ1 sz1 => v = some (.int 0) ∧ (∃ fs : List Value, Φ1 y = some (o_ 14 fs) ∧ fs[0]? = some (.int 0)) ∧ ∀ b9 : Nat, y + 26 ≤ b9 → Φ1 b9 = Φ b9) := by
  refine Ct.of (cc := cX12_queueLength) (maxL := 1) (ret := (some .int)) (by decide) rfl (Nat.le_of_ble_eq_true rfl) ?_
  intro p9 e9 s9 m9 w9 t9 k9 B
  show Z p9 l e9 _ s9 m9 _ w9 t9 k9 _ G 1 0 [(0, .ref y)] [] Φ sz 0 0
  refine z_aload_n B dX12_queueLength_0 rfl 0 rfl ?_
  refine z_iconst (v := 0) B dX12_queueLength_1 rfl ?_
  refine z_put (ref := "FlowExporterModel") (C := RX12) (T := TX12) (N := 54) (ci := 14) (v := .int 0) B (by decide +kernel) tyX12 tyX12_ok nmX12 rfl 0 (by decide) (by decide +kernel) rfl (Or.inl rfl) hc0_ hna rfl rfl (Nat.le_of_ble_eq_true rfl) dX12_queueLength_2 (fun Φ1 hΦ1 => ?_)
  have h_1 : Φ1 y = some (o_ 14 [.int 0, .ref (y + 1), .ref (y + 2), .int 0, .int 1, .int 1, .int 0, .int 0, .ref (y + 3), .ref (y + 4), .int 0, .long 0, .ref (y + 5), .int 0, .int 0, .long 0, .long 0, .long 0, .long 0, .ref (y + 6), .ref (y + 7), .int 0, .ref (y + 8), .int 0, .ref (y + 9), .ref (y + 10), .int 0, .ref (y + 11), .ref (y + 12), .ref (y + 13), .ref (y + 14), .ref (y + 15), .ref (y + 16), .int 0, .long (-1), .ref (y + 17), .ref (y + 18), .ref (y + 19), .ref (y + 20), .ref (y + 21), .ref (y + 22), .int 0, .ref (y + 23), .ref (y + 24), .int 0, .ref (y + 25), .int 0, .int 0, .int 0, .int (-1), .int 0, .int 0, .int 0, .long 0]) := fset_at hΦ1
  refine z_aload_n B dX12_queueLength_5 rfl 0 rfl ?_
  refine z_get (ref := "FlowExporterModel") (C := RX12) (T := TX12) (N := 54) (ci := 14) (v := .int 0) B (by decide +kernel) rfl 26 (by decide) (by decide +kernel) rfl h_1 rfl dX12_queueLength_6 ?_
  exact z_ret_i B dX12_queueLength_9 ⟨rfl, ⟨_, h_1, rfl⟩, fun b9 h9 => ((fset_fr hΦ1 (Nat.ne_of_gt (Nat.lt_of_lt_of_le (lt_off (x := y) (i := 0) (j := 26) rfl) h9))).trans rfl)⟩

set_option maxHeartbeats 4000000 in
set_option maxRecDepth 100000 in
theorem m_X12_keyCount (G : EnvG) (l : Launch) (Φ : Hm) (sz : Nat) (y : Nat) (hc0_ : Φ y = some (o_ 14 [.int 0, .ref (y + 1), .ref (y + 2), .int 0, .int 1, .int 1, .int 0, .int 0, .ref (y + 3), .ref (y + 4), .int 0, .long 0, .ref (y + 5), .int 0, .int 0, .long 0, .long 0, .long 0, .long 0, .ref (y + 6), .ref (y + 7), .int 0, .ref (y + 8), .int 0, .ref (y + 9), .ref (y + 10), .int 0, .ref (y + 11), .ref (y + 12), .ref (y + 13), .ref (y + 14), .ref (y + 15), .ref (y + 16), .int 0, .long (-1), .ref (y + 17), .ref (y + 18), .ref (y + 19), .ref (y + 20), .ref (y + 21), .ref (y + 22), .int 0, .ref (y + 23), .ref (y + 24), .int 0, .ref (y + 25), .int 0, .int 0, .int 0, .int (-1), .int 0, .int 0, .int 0, .long 0])) (hna : G.2.2.2 ≤ y) : Ct G l yX12_keyCount wsX12_keyCount ({ frames := 0, cells := 0, slots := 0, locals := 0 }) 0 0 [.ref y] Φ sz (fun v Φ1 sz1 => v = some (.int 0) ∧ (∃ fs : List Value, Φ1 y = some (o_ 14 fs) ∧ fs[0]? = some (.int 0)) ∧ ∀ b9 : Nat, y + 26 ≤ b9 → Φ1 b9 = Φ b9) := by
  refine Ct.of (cc := cX12_keyCount) (maxL := 1) (ret := (some .int)) (by decide) rfl (Nat.le_of_ble_eq_true rfl) ?_
  intro p9 e9 s9 m9 w9 t9 k9 B
  show Z p9 l e9 _ s9 m9 _ w9 t9 k9 _ G 1 0 [(0, .ref y)] [] Φ sz 0 0
  refine z_aload_n B dX12_keyCount_0 rfl 0 rfl ?_
  refine z_iconst (v := 0) B dX12_keyCount_1 rfl ?_
  refine z_put (ref := "FlowExporterModel") (C := RX12) (T := TX12) (N := 54) (ci := 14) (v := .int 0) B (by decide +kernel) tyX12 tyX12_ok nmX12 rfl 0 (by decide) (by decide +kernel) rfl (Or.inl rfl) hc0_ hna rfl rfl (Nat.le_of_ble_eq_true rfl) dX12_keyCount_2 (fun Φ1 hΦ1 => ?_)
  have h_1 : Φ1 y = some (o_ 14 [.int 0, .ref (y + 1), .ref (y + 2), .int 0, .int 1, .int 1, .int 0, .int 0, .ref (y + 3), .ref (y + 4), .int 0, .long 0, .ref (y + 5), .int 0, .int 0, .long 0, .long 0, .long 0, .long 0, .ref (y + 6), .ref (y + 7), .int 0, .ref (y + 8), .int 0, .ref (y + 9), .ref (y + 10), .int 0, .ref (y + 11), .ref (y + 12), .ref (y + 13), .ref (y + 14), .ref (y + 15), .ref (y + 16), .int 0, .long (-1), .ref (y + 17), .ref (y + 18), .ref (y + 19), .ref (y + 20), .ref (y + 21), .ref (y + 22), .int 0, .ref (y + 23), .ref (y + 24), .int 0, .ref (y + 25), .int 0, .int 0, .int 0, .int (-1), .int 0, .int 0, .int 0, .long 0]) := fset_at hΦ1
  refine z_aload_n B dX12_keyCount_5 rfl 0 rfl ?_
  refine z_get (ref := "FlowExporterModel") (C := RX12) (T := TX12) (N := 54) (ci := 14) (v := .int 0) B (by decide +kernel) rfl 41 (by decide) (by decide +kernel) rfl h_1 rfl dX12_keyCount_6 ?_
  exact z_ret_i B dX12_keyCount_9 ⟨rfl, ⟨_, h_1, rfl⟩, fun b9 h9 => ((fset_fr hΦ1 (Nat.ne_of_gt (Nat.lt_of_lt_of_le (lt_off (x := y) (i := 0) (j := 26) rfl) h9))).trans rfl)⟩

set_option maxHeartbeats 4000000 in
set_option maxRecDepth 100000 in
theorem m_X12_deliverAll (G : EnvG) (l : Launch) (Φ : Hm) (sz : Nat) (y : Nat) (hc0_ : Φ y = some (o_ 14 [.int 0, .ref (y + 1), .ref (y + 2), .int 0, .int 1, .int 1, .int 0, .int 0, .ref (y + 3), .ref (y + 4), .int 0, .long 0, .ref (y + 5), .int 0, .int 0, .long 0, .long 0, .long 0, .long 0, .ref (y + 6), .ref (y + 7), .int 0, .ref (y + 8), .int 0, .ref (y + 9), .ref (y + 10), .int 0, .ref (y + 11), .ref (y + 12), .ref (y + 13), .ref (y + 14), .ref (y + 15), .ref (y + 16), .int 0, .long (-1), .ref (y + 17), .ref (y + 18), .ref (y + 19), .ref (y + 20), .ref (y + 21), .ref (y + 22), .int 0, .ref (y + 23), .ref (y + 24), .int 0, .ref (y + 25), .int 0, .int 0, .int 0, .int (-1), .int 0, .int 0, .int 0, .long 0])) (hna : G.2.2.2 ≤ y) : Ct G l yX12_deliverAll wsX12_deliverAll ({ frames := 0, cells := 0, slots := 0, locals := 0 }) 0 0 [.ref y] Φ sz (fun v Φ1 sz1 => v = some (.int 0) ∧ (∃ fs : List Value, Φ1 y = some (o_ 14 fs) ∧ fs[0]? = some (.int 0)) ∧ ∀ b9 : Nat, y + 26 ≤ b9 → Φ1 b9 = Φ b9) := by
  refine Ct.of (cc := cX12_deliverAll) (maxL := 2) (ret := (some .int)) (by decide) rfl (Nat.le_of_ble_eq_true rfl) ?_
  intro p9 e9 s9 m9 w9 t9 k9 B
  show Z p9 l e9 _ s9 m9 _ w9 t9 k9 _ G 2 0 [(0, .ref y)] [] Φ sz 0 0
  refine z_aload_n B dX12_deliverAll_0 rfl 0 rfl ?_
  refine z_iconst (v := 0) B dX12_deliverAll_1 rfl ?_
  refine z_put (ref := "FlowExporterModel") (C := RX12) (T := TX12) (N := 54) (ci := 14) (v := .int 0) B (by decide +kernel) tyX12 tyX12_ok nmX12 rfl 0 (by decide) (by decide +kernel) rfl (Or.inl rfl) hc0_ hna rfl rfl (Nat.le_of_ble_eq_true rfl) dX12_deliverAll_2 (fun Φ1 hΦ1 => ?_)
  have h_1 : Φ1 y = some (o_ 14 [.int 0, .ref (y + 1), .ref (y + 2), .int 0, .int 1, .int 1, .int 0, .int 0, .ref (y + 3), .ref (y + 4), .int 0, .long 0, .ref (y + 5), .int 0, .int 0, .long 0, .long 0, .long 0, .long 0, .ref (y + 6), .ref (y + 7), .int 0, .ref (y + 8), .int 0, .ref (y + 9), .ref (y + 10), .int 0, .ref (y + 11), .ref (y + 12), .ref (y + 13), .ref (y + 14), .ref (y + 15), .ref (y + 16), .int 0, .long (-1), .ref (y + 17), .ref (y + 18), .ref (y + 19), .ref (y + 20), .ref (y + 21), .ref (y + 22), .int 0, .ref (y + 23), .ref (y + 24), .int 0, .ref (y + 25), .int 0, .int 0, .int 0, .int (-1), .int 0, .int 0, .int 0, .long 0]) := fset_at hΦ1
  refine z_iconst (v := 0) B dX12_deliverAll_5 rfl ?_
  refine z_istore_n (lv' := [(1, .int 0), (0, .ref y)]) B dX12_deliverAll_6 rfl (Nat.le_of_ble_eq_true rfl) rfl ?_
  refine z_aload_n B dX12_deliverAll_7 rfl 1 rfl ?_
  refine z_get (ref := "FlowExporterModel") (C := RX12) (T := TX12) (N := 54) (ci := 14) (v := .int 0) B (by decide +kernel) rfl 26 (by decide) (by decide +kernel) rfl h_1 rfl dX12_deliverAll_8 ?_
  refine z_if_le (tgt := 25) B dX12_deliverAll_11 rfl (fun c_1 => ?_) (fun h9 => absurd (by decide) h9)
  refine z_iload_n B dX12_deliverAll_25 rfl 0 rfl ?_
  exact z_ret_i B dX12_deliverAll_26 ⟨rfl, ⟨_, h_1, rfl⟩, fun b9 h9 => ((fset_fr hΦ1 (Nat.ne_of_gt (Nat.lt_of_lt_of_le (lt_off (x := y) (i := 0) (j := 26) rfl) h9))).trans rfl)⟩

set_option maxHeartbeats 4000000 in
set_option maxRecDepth 100000 in
theorem m_X12_expected (G : EnvG) (l : Launch) (Φ : Hm) (sz : Nat) (y : Nat) (hc0_ : Φ y = some (o_ 14 [.int 0, .ref (y + 1), .ref (y + 2), .int 0, .int 1, .int 1, .int 0, .int 0, .ref (y + 3), .ref (y + 4), .int 0, .long 0, .ref (y + 5), .int 0, .int 0, .long 0, .long 0, .long 0, .long 0, .ref (y + 6), .ref (y + 7), .int 0, .ref (y + 8), .int 0, .ref (y + 9), .ref (y + 10), .int 0, .ref (y + 11), .ref (y + 12), .ref (y + 13), .ref (y + 14), .ref (y + 15), .ref (y + 16), .int 0, .long (-1), .ref (y + 17), .ref (y + 18), .ref (y + 19), .ref (y + 20), .ref (y + 21), .ref (y + 22), .int 0, .ref (y + 23), .ref (y + 24), .int 0, .ref (y + 25), .int 0, .int 0, .int 0, .int (-1), .int 0, .int 0, .int 0, .long 0])) (hna : G.2.2.2 ≤ y) : Ct G l yX12_expected wsX12_expected ({ frames := 0, cells := 0, slots := 0, locals := 0 }) 0 0 [.ref y] Φ sz (fun v Φ1 sz1 => v = some (.long (-1)) ∧ (∃ fs : List Value, Φ1 y = some (o_ 14 fs) ∧ fs[0]? = some (.int 0)) ∧ ∀ b9 : Nat, y + 26 ≤ b9 → Φ1 b9 = Φ b9) := by
  refine Ct.of (cc := cX12_expected) (maxL := 1) (ret := (some .long)) (by decide) rfl (Nat.le_of_ble_eq_true rfl) ?_
  intro p9 e9 s9 m9 w9 t9 k9 B
  show Z p9 l e9 _ s9 m9 _ w9 t9 k9 _ G 1 0 [(0, .ref y)] [] Φ sz 0 0
  refine z_aload_n B dX12_expected_0 rfl 0 rfl ?_
  refine z_iconst (v := 0) B dX12_expected_1 rfl ?_
  refine z_put (ref := "FlowExporterModel") (C := RX12) (T := TX12) (N := 54) (ci := 14) (v := .int 0) B (by decide +kernel) tyX12 tyX12_ok nmX12 rfl 0 (by decide) (by decide +kernel) rfl (Or.inl rfl) hc0_ hna rfl rfl (Nat.le_of_ble_eq_true rfl) dX12_expected_2 (fun Φ1 hΦ1 => ?_)
  have h_1 : Φ1 y = some (o_ 14 [.int 0, .ref (y + 1), .ref (y + 2), .int 0, .int 1, .int 1, .int 0, .int 0, .ref (y + 3), .ref (y + 4), .int 0, .long 0, .ref (y + 5), .int 0, .int 0, .long 0, .long 0, .long 0, .long 0, .ref (y + 6), .ref (y + 7), .int 0, .ref (y + 8), .int 0, .ref (y + 9), .ref (y + 10), .int 0, .ref (y + 11), .ref (y + 12), .ref (y + 13), .ref (y + 14), .ref (y + 15), .ref (y + 16), .int 0, .long (-1), .ref (y + 17), .ref (y + 18), .ref (y + 19), .ref (y + 20), .ref (y + 21), .ref (y + 22), .int 0, .ref (y + 23), .ref (y + 24), .int 0, .ref (y + 25), .int 0, .int 0, .int 0, .int (-1), .int 0, .int 0, .int 0, .long 0]) := fset_at hΦ1
  refine z_aload_n B dX12_expected_5 rfl 0 rfl ?_
  refine z_get (ref := "FlowExporterModel") (C := RX12) (T := TX12) (N := 54) (ci := 14) (v := .long (-1)) B (by decide +kernel) rfl 34 (by decide) (by decide +kernel) rfl h_1 rfl dX12_expected_6 ?_
  exact z_ret_l B dX12_expected_9 ⟨rfl, ⟨_, h_1, rfl⟩, fun b9 h9 => ((fset_fr hΦ1 (Nat.ne_of_gt (Nat.lt_of_lt_of_le (lt_off (x := y) (i := 0) (j := 26) rfl) h9))).trans rfl)⟩

set_option maxHeartbeats 4000000 in
set_option maxRecDepth 100000 in
theorem m_X12_restartExporter (G : EnvG) (l : Launch) (Φ : Hm) (sz : Nat) (y : Nat) (hc0_ : Φ y = some (o_ 14 [.int 0, .ref (y + 1), .ref (y + 2), .int 0, .int 1, .int 1, .int 0, .int 0, .ref (y + 3), .ref (y + 4), .int 0, .long 0, .ref (y + 5), .int 0, .int 0, .long 0, .long 0, .long 0, .long 0, .ref (y + 6), .ref (y + 7), .int 0, .ref (y + 8), .int 0, .ref (y + 9), .ref (y + 10), .int 0, .ref (y + 11), .ref (y + 12), .ref (y + 13), .ref (y + 14), .ref (y + 15), .ref (y + 16), .int 0, .long (-1), .ref (y + 17), .ref (y + 18), .ref (y + 19), .ref (y + 20), .ref (y + 21), .ref (y + 22), .int 0, .ref (y + 23), .ref (y + 24), .int 0, .ref (y + 25), .int 0, .int 0, .int 0, .int (-1), .int 0, .int 0, .int 0, .long 0])) (hc3_ : Φ (y + 3) = some (ai_ G 4 (upd (upd (upd (upd (fun _ => 0) (0 : Int32).toNatClampNeg (-1)) (1 : Int32).toNatClampNeg (-1)) (2 : Int32).toNatClampNeg (-1)) (3 : Int32).toNatClampNeg (-1)))) (hna : G.2.2.2 ≤ y) : Ct G l yX12_restartExporter wsX12_restartExporter ({ frames := 1, cells := 0, slots := 0, locals := 21 }) 0 0 [.ref y] Φ sz (fun v Φ1 sz1 => v = some (.int 0) ∧ (∃ fs : List Value, Φ1 y = some (o_ 14 fs) ∧ fs[0]? = some (.int 0)) ∧ ∀ b9 : Nat, y + 26 ≤ b9 → Φ1 b9 = Φ b9) := by
  refine Ct.of (cc := cX12_restartExporter) (maxL := 2) (ret := (some .int)) (by decide) rfl (Nat.le_of_ble_eq_true rfl) ?_
  intro p9 e9 s9 m9 w9 t9 k9 B
  show Z p9 l e9 _ s9 m9 _ w9 t9 k9 _ G 2 0 [(0, .ref y)] [] Φ sz 0 0
  refine z_aload_n B dX12_restartExporter_0 rfl 0 rfl ?_
  refine z_iconst (v := 0) B dX12_restartExporter_1 rfl ?_
  refine z_put (ref := "FlowExporterModel") (C := RX12) (T := TX12) (N := 54) (ci := 14) (v := .int 0) B (by decide +kernel) tyX12 tyX12_ok nmX12 rfl 0 (by decide) (by decide +kernel) rfl (Or.inl rfl) hc0_ hna rfl rfl (Nat.le_of_ble_eq_true rfl) dX12_restartExporter_2 (fun Φ1 hΦ1 => ?_)
  have h_1 : Φ1 y = some (o_ 14 [.int 0, .ref (y + 1), .ref (y + 2), .int 0, .int 1, .int 1, .int 0, .int 0, .ref (y + 3), .ref (y + 4), .int 0, .long 0, .ref (y + 5), .int 0, .int 0, .long 0, .long 0, .long 0, .long 0, .ref (y + 6), .ref (y + 7), .int 0, .ref (y + 8), .int 0, .ref (y + 9), .ref (y + 10), .int 0, .ref (y + 11), .ref (y + 12), .ref (y + 13), .ref (y + 14), .ref (y + 15), .ref (y + 16), .int 0, .long (-1), .ref (y + 17), .ref (y + 18), .ref (y + 19), .ref (y + 20), .ref (y + 21), .ref (y + 22), .int 0, .ref (y + 23), .ref (y + 24), .int 0, .ref (y + 25), .int 0, .int 0, .int 0, .int (-1), .int 0, .int 0, .int 0, .long 0]) := fset_at hΦ1
  refine z_aload_n B dX12_restartExporter_5 rfl 0 rfl ?_
  refine z_get (ref := "FlowExporterModel") (C := RX12) (T := TX12) (N := 54) (ci := 14) (v := .int 0) B (by decide +kernel) rfl 13 (by decide) (by decide +kernel) rfl h_1 rfl dX12_restartExporter_6 ?_
  refine z_istore_n (lv' := [(1, .int 0), (0, .ref y)]) B dX12_restartExporter_9 rfl (Nat.le_of_ble_eq_true rfl) rfl ?_
  refine z_aload_n B dX12_restartExporter_10 rfl 1 rfl ?_
  have h_2 : Φ1 (y + 3) = some (ai_ G 4 (upd (upd (upd (upd (fun _ => 0) (0 : Int32).toNatClampNeg (-1)) (1 : Int32).toNatClampNeg (-1)) (2 : Int32).toNatClampNeg (-1)) (3 : Int32).toNatClampNeg (-1))) := ((fset_fr hΦ1 (ne_off (x := y) (i := 3) (j := 0) rfl)).trans hc3_)
  refine z_callV (As := []) (rest := []) B (c_X12_startExporter G l Φ1 sz y 0 0 1 1 0 0 0 0 0 0 0 0 0 0 0 0 0 0 (-1) 0 0 0 0 0 (-1) 0 0 0 0 (upd (upd (upd (upd (fun _ => 0) (0 : Int32).toNatClampNeg (-1)) (1 : Int32).toNatClampNeg (-1)) (2 : Int32).toNatClampNeg (-1)) (3 : Int32).toNatClampNeg (-1)) h_1 h_2 hna) (cwV 0 B.1.2.2.2.2 gX12_restartExporter_X12_startExporter rfl rfl rfl (by decide +kernel) ⟨Nat.le_of_ble_eq_true rfl, Nat.le_of_ble_eq_true rfl⟩) h_1 rfl rfl rfl rfl (Nat.le_of_ble_eq_true rfl) dX12_restartExporter_11 ⟨Nat.le_of_ble_eq_true rfl, Nat.le_of_ble_eq_true rfl⟩ (fun v1 Φ2 sz1 st1 hp1 hs1 => ?_)
  obtain ⟨rfl, hq1, fr1, h_3, h_4⟩ := hp1
  replace hq1 : sz1 = sz := hq1
  subst sz1
  replace hs1 : st1 = [] := hs1
  subst st1
  have h_5 : Φ2 y = some (o_ 14 [.int 0, .ref (y + 1), .ref (y + 2), .int 0, .int 1, .int 1, .int 0, .int 0, .ref (y + 3), .ref (y + 4), .int 0, .long 0, .ref (y + 5), .int 0, .int 0, .long 0, .long 0, .long 0, .long 0, .ref (y + 6), .ref (y + 7), .int 0, .ref (y + 8), .int 0, .ref (y + 9), .ref (y + 10), .int 0, .ref (y + 11), .ref (y + 12), .ref (y + 13), .ref (y + 14), .ref (y + 15), .ref (y + 16), .int 0, .long (-1), .ref (y + 17), .ref (y + 18), .ref (y + 19), .ref (y + 20), .ref (y + 21), .ref (y + 22), .int 0, .ref (y + 23), .ref (y + 24), .int 0, .ref (y + 25), .int 0, .int 0, .int 0, .int (-1), .int 0, .int 0, .int 0, .long 0]) := h_3
  have h_6 : Φ2 (y + 3) = some (ai_ G 4 (upd (upd (upd (upd (upd (upd (upd (upd (fun _ => 0) (0 : Int32).toNatClampNeg (-1)) (1 : Int32).toNatClampNeg (-1)) (2 : Int32).toNatClampNeg (-1)) (3 : Int32).toNatClampNeg (-1)) (0 : Int32).toNatClampNeg (-1)) (1 : Int32).toNatClampNeg (-1)) (2 : Int32).toNatClampNeg (-1)) (3 : Int32).toNatClampNeg (-1))) := h_4
  refine z_iload_n B dX12_restartExporter_14 rfl 0 rfl ?_
  exact z_ret_i B dX12_restartExporter_15 ⟨rfl, ⟨_, h_5, rfl⟩, fun b9 h9 => ((fr1 b9 (Nat.ne_of_gt (Nat.lt_of_lt_of_le (lt_off (x := y) (i := 0) (j := 26) rfl) h9)) (Nat.ne_of_gt (Nat.lt_of_lt_of_le (lt_off (x := y) (i := 3) (j := 26) rfl) h9))).trans ((fset_fr hΦ1 (Nat.ne_of_gt (Nat.lt_of_lt_of_le (lt_off (x := y) (i := 0) (j := 26) rfl) h9))).trans rfl))⟩

set_option maxHeartbeats 4000000 in
set_option maxRecDepth 100000 in
theorem m_X12_restartCollector (G : EnvG) (l : Launch) (Φ : Hm) (sz : Nat) (y : Nat) (hc0_ : Φ y = some (o_ 14 [.int 0, .ref (y + 1), .ref (y + 2), .int 0, .int 1, .int 1, .int 0, .int 0, .ref (y + 3), .ref (y + 4), .int 0, .long 0, .ref (y + 5), .int 0, .int 0, .long 0, .long 0, .long 0, .long 0, .ref (y + 6), .ref (y + 7), .int 0, .ref (y + 8), .int 0, .ref (y + 9), .ref (y + 10), .int 0, .ref (y + 11), .ref (y + 12), .ref (y + 13), .ref (y + 14), .ref (y + 15), .ref (y + 16), .int 0, .long (-1), .ref (y + 17), .ref (y + 18), .ref (y + 19), .ref (y + 20), .ref (y + 21), .ref (y + 22), .int 0, .ref (y + 23), .ref (y + 24), .int 0, .ref (y + 25), .int 0, .int 0, .int 0, .int (-1), .int 0, .int 0, .int 0, .long 0])) (hc12_ : Φ (y + 12) = some (ai_ G 4 (upd (upd (upd (upd (fun _ => 0) (0 : Int32).toNatClampNeg 0) (1 : Int32).toNatClampNeg 0) (2 : Int32).toNatClampNeg 0) (3 : Int32).toNatClampNeg 0))) (hna : G.2.2.2 ≤ y) : Ct G l yX12_restartCollector wsX12_restartCollector ({ frames := 1, cells := 0, slots := 0, locals := 21 }) 0 0 [.ref y] Φ sz (fun v Φ1 sz1 => v = some (.int 0) ∧ (∃ fs : List Value, Φ1 y = some (o_ 14 fs) ∧ fs[0]? = some (.int 0)) ∧ ∀ b9 : Nat, y + 26 ≤ b9 → Φ1 b9 = Φ b9) := by
  refine Ct.of (cc := cX12_restartCollector) (maxL := 3) (ret := (some .int)) (by decide) rfl (Nat.le_of_ble_eq_true rfl) ?_
  intro p9 e9 s9 m9 w9 t9 k9 B
  show Z p9 l e9 _ s9 m9 _ w9 t9 k9 _ G 3 0 [(0, .ref y)] [] Φ sz 0 0
  refine z_aload_n B dX12_restartCollector_0 rfl 0 rfl ?_
  refine z_iconst (v := 0) B dX12_restartCollector_1 rfl ?_
  refine z_put (ref := "FlowExporterModel") (C := RX12) (T := TX12) (N := 54) (ci := 14) (v := .int 0) B (by decide +kernel) tyX12 tyX12_ok nmX12 rfl 0 (by decide) (by decide +kernel) rfl (Or.inl rfl) hc0_ hna rfl rfl (Nat.le_of_ble_eq_true rfl) dX12_restartCollector_2 (fun Φ1 hΦ1 => ?_)
  have h_1 : Φ1 y = some (o_ 14 [.int 0, .ref (y + 1), .ref (y + 2), .int 0, .int 1, .int 1, .int 0, .int 0, .ref (y + 3), .ref (y + 4), .int 0, .long 0, .ref (y + 5), .int 0, .int 0, .long 0, .long 0, .long 0, .long 0, .ref (y + 6), .ref (y + 7), .int 0, .ref (y + 8), .int 0, .ref (y + 9), .ref (y + 10), .int 0, .ref (y + 11), .ref (y + 12), .ref (y + 13), .ref (y + 14), .ref (y + 15), .ref (y + 16), .int 0, .long (-1), .ref (y + 17), .ref (y + 18), .ref (y + 19), .ref (y + 20), .ref (y + 21), .ref (y + 22), .int 0, .ref (y + 23), .ref (y + 24), .int 0, .ref (y + 25), .int 0, .int 0, .int 0, .int (-1), .int 0, .int 0, .int 0, .long 0]) := fset_at hΦ1
  refine z_iconst (v := 0) B dX12_restartCollector_5 rfl ?_
  refine z_istore_n (lv' := [(1, .int 0), (0, .ref y)]) B dX12_restartCollector_6 rfl (Nat.le_of_ble_eq_true rfl) rfl ?_
  refine z_iconst (v := 0) B dX12_restartCollector_7 rfl ?_
  refine z_istore_n (lv' := [(2, .int 0), (1, .int 0), (0, .ref y)]) B dX12_restartCollector_8 rfl (Nat.le_of_ble_eq_true rfl) rfl ?_
  refine z_iload_n B dX12_restartCollector_9 rfl 0 rfl ?_
  refine z_iconst (v := 4) B dX12_restartCollector_10 rfl ?_
  refine z_icmp_ge (tgt := 37) B dX12_restartCollector_11 rfl (fun h9 => absurd h9 (by decide)) (fun c_1 => ?_)
  refine z_iload_n B dX12_restartCollector_14 rfl 1 rfl ?_
  refine z_aload_n B dX12_restartCollector_15 rfl 2 rfl ?_
  refine z_get (ref := "FlowExporterModel") (C := RX12) (T := TX12) (N := 54) (ci := 14) (v := .ref (y + 12)) B (by decide +kernel) rfl 28 (by decide) (by decide +kernel) rfl h_1 rfl dX12_restartCollector_16 ?_
  refine z_iload_n B dX12_restartCollector_19 rfl 0 rfl ?_
  have h_2 : Φ1 (y + 12) = some (ai_ G 4 (upd (upd (upd (upd (fun _ => 0) (0 : Int32).toNatClampNeg 0) (1 : Int32).toNatClampNeg 0) (2 : Int32).toNatClampNeg 0) (3 : Int32).toNatClampNeg 0)) := ((fset_fr hΦ1 (ne_off (x := y) (i := 12) (j := 0) rfl)).trans hc12_)
  refine z_iald B h_2 (vin rfl) dX12_restartCollector_20 ?_
  refine z_top (st1 := [.int 0, .int 0]) (by rfl) ?_
  refine z_if_le (tgt := 28) B dX12_restartCollector_21 rfl (fun c_2 => ?_) (fun h9 => absurd (by decide) h9)
  refine z_iconst (v := 0) B dX12_restartCollector_28 rfl ?_
  refine z_iadd B dX12_restartCollector_29 ?_
  refine z_top (st1 := [.int 0]) (congrArg (fun w9 : Int32 => ([.int w9] : List Value)) (show (0 + 0 : Int32) = 0 by decide +kernel)) ?_
  refine z_istore_n (lv' := [(1, .int 0), (2, .int 0), (0, .ref y)]) B dX12_restartCollector_30 rfl (Nat.le_of_ble_eq_true rfl) rfl ?_
  refine z_iinc (k := 1) (v := 1) (lv' := [(2, .int 1), (1, .int 0), (0, .ref y)]) B dX12_restartCollector_31 rfl rfl (Nat.le_of_ble_eq_true rfl) rfl ?_
  refine z_goto (tgt := 9) B dX12_restartCollector_34 rfl ?_
  refine z_iload_n B dX12_restartCollector_9 rfl 0 rfl ?_
  refine z_iconst (v := 4) B dX12_restartCollector_10 rfl ?_
  refine z_icmp_ge (tgt := 37) B dX12_restartCollector_11 rfl (fun h9 => absurd h9 (by decide)) (fun c_3 => ?_)
  refine z_iload_n B dX12_restartCollector_14 rfl 1 rfl ?_
  refine z_aload_n B dX12_restartCollector_15 rfl 2 rfl ?_
  refine z_get (ref := "FlowExporterModel") (C := RX12) (T := TX12) (N := 54) (ci := 14) (v := .ref (y + 12)) B (by decide +kernel) rfl 28 (by decide) (by decide +kernel) rfl h_1 rfl dX12_restartCollector_16 ?_
  refine z_iload_n B dX12_restartCollector_19 rfl 0 rfl ?_
  refine z_iald B h_2 (vin rfl) dX12_restartCollector_20 ?_
  refine z_top (st1 := [.int 0, .int 0]) (by rfl) ?_
  refine z_if_le (tgt := 28) B dX12_restartCollector_21 rfl (fun c_4 => ?_) (fun h9 => absurd (by decide) h9)
  refine z_iconst (v := 0) B dX12_restartCollector_28 rfl ?_
  refine z_iadd B dX12_restartCollector_29 ?_
  refine z_top (st1 := [.int 0]) (congrArg (fun w9 : Int32 => ([.int w9] : List Value)) (show (0 + 0 : Int32) = 0 by decide +kernel)) ?_
  refine z_istore_n (lv' := [(1, .int 0), (2, .int 1), (0, .ref y)]) B dX12_restartCollector_30 rfl (Nat.le_of_ble_eq_true rfl) rfl ?_
  refine z_iinc (k := 1) (v := 2) (lv' := [(2, .int 2), (1, .int 0), (0, .ref y)]) B dX12_restartCollector_31 rfl rfl (Nat.le_of_ble_eq_true rfl) rfl ?_
  refine z_goto (tgt := 9) B dX12_restartCollector_34 rfl ?_
  refine z_iload_n B dX12_restartCollector_9 rfl 0 rfl ?_
  refine z_iconst (v := 4) B dX12_restartCollector_10 rfl ?_
  refine z_icmp_ge (tgt := 37) B dX12_restartCollector_11 rfl (fun h9 => absurd h9 (by decide)) (fun c_5 => ?_)
  refine z_iload_n B dX12_restartCollector_14 rfl 1 rfl ?_
  refine z_aload_n B dX12_restartCollector_15 rfl 2 rfl ?_
  refine z_get (ref := "FlowExporterModel") (C := RX12) (T := TX12) (N := 54) (ci := 14) (v := .ref (y + 12)) B (by decide +kernel) rfl 28 (by decide) (by decide +kernel) rfl h_1 rfl dX12_restartCollector_16 ?_
  refine z_iload_n B dX12_restartCollector_19 rfl 0 rfl ?_
  refine z_iald B h_2 (vin rfl) dX12_restartCollector_20 ?_
  refine z_top (st1 := [.int 0, .int 0]) (by rfl) ?_
  refine z_if_le (tgt := 28) B dX12_restartCollector_21 rfl (fun c_6 => ?_) (fun h9 => absurd (by decide) h9)
  refine z_iconst (v := 0) B dX12_restartCollector_28 rfl ?_
  refine z_iadd B dX12_restartCollector_29 ?_
  refine z_top (st1 := [.int 0]) (congrArg (fun w9 : Int32 => ([.int w9] : List Value)) (show (0 + 0 : Int32) = 0 by decide +kernel)) ?_
  refine z_istore_n (lv' := [(1, .int 0), (2, .int 2), (0, .ref y)]) B dX12_restartCollector_30 rfl (Nat.le_of_ble_eq_true rfl) rfl ?_
  refine z_iinc (k := 1) (v := 3) (lv' := [(2, .int 3), (1, .int 0), (0, .ref y)]) B dX12_restartCollector_31 rfl rfl (Nat.le_of_ble_eq_true rfl) rfl ?_
  refine z_goto (tgt := 9) B dX12_restartCollector_34 rfl ?_
  refine z_iload_n B dX12_restartCollector_9 rfl 0 rfl ?_
  refine z_iconst (v := 4) B dX12_restartCollector_10 rfl ?_
  refine z_icmp_ge (tgt := 37) B dX12_restartCollector_11 rfl (fun h9 => absurd h9 (by decide)) (fun c_7 => ?_)
  refine z_iload_n B dX12_restartCollector_14 rfl 1 rfl ?_
  refine z_aload_n B dX12_restartCollector_15 rfl 2 rfl ?_
  refine z_get (ref := "FlowExporterModel") (C := RX12) (T := TX12) (N := 54) (ci := 14) (v := .ref (y + 12)) B (by decide +kernel) rfl 28 (by decide) (by decide +kernel) rfl h_1 rfl dX12_restartCollector_16 ?_
  refine z_iload_n B dX12_restartCollector_19 rfl 0 rfl ?_
  refine z_iald B h_2 (vin rfl) dX12_restartCollector_20 ?_
  refine z_top (st1 := [.int 0, .int 0]) (by rfl) ?_
  refine z_if_le (tgt := 28) B dX12_restartCollector_21 rfl (fun c_8 => ?_) (fun h9 => absurd (by decide) h9)
  refine z_iconst (v := 0) B dX12_restartCollector_28 rfl ?_
  refine z_iadd B dX12_restartCollector_29 ?_
  refine z_top (st1 := [.int 0]) (congrArg (fun w9 : Int32 => ([.int w9] : List Value)) (show (0 + 0 : Int32) = 0 by decide +kernel)) ?_
  refine z_istore_n (lv' := [(1, .int 0), (2, .int 3), (0, .ref y)]) B dX12_restartCollector_30 rfl (Nat.le_of_ble_eq_true rfl) rfl ?_
  refine z_iinc (k := 1) (v := 4) (lv' := [(2, .int 4), (1, .int 0), (0, .ref y)]) B dX12_restartCollector_31 rfl rfl (Nat.le_of_ble_eq_true rfl) rfl ?_
  refine z_goto (tgt := 9) B dX12_restartCollector_34 rfl ?_
  refine z_iload_n B dX12_restartCollector_9 rfl 0 rfl ?_
  refine z_iconst (v := 4) B dX12_restartCollector_10 rfl ?_
  refine z_icmp_ge (tgt := 37) B dX12_restartCollector_11 rfl (fun c_9 => ?_) (fun h9 => absurd (by decide) h9)
  refine z_aload_n B dX12_restartCollector_37 rfl 2 rfl ?_
  refine z_callV (As := []) (rest := []) B (c_X12_startCollector G l Φ1 sz y 0 0 1 1 0 0 0 0 0 0 0 0 0 0 0 0 0 0 (-1) 0 0 0 0 0 (-1) 0 0 0 0 (upd (upd (upd (upd (fun _ => 0) (0 : Int32).toNatClampNeg 0) (1 : Int32).toNatClampNeg 0) (2 : Int32).toNatClampNeg 0) (3 : Int32).toNatClampNeg 0) h_1 h_2 hna) (cwV 0 B.1.2.2.2.2 gX12_restartCollector_X12_startCollector rfl rfl rfl (by decide +kernel) ⟨Nat.le_of_ble_eq_true rfl, Nat.le_of_ble_eq_true rfl⟩) h_1 rfl rfl rfl rfl (Nat.le_of_ble_eq_true rfl) dX12_restartCollector_38 ⟨Nat.le_of_ble_eq_true rfl, Nat.le_of_ble_eq_true rfl⟩ (fun v1 Φ2 sz1 st1 hp1 hs1 => ?_)
  obtain ⟨rfl, hq1, fr1, h_3, h_4⟩ := hp1
  replace hq1 : sz1 = sz := hq1
  subst sz1
  replace hs1 : st1 = [] := hs1
  subst st1
  have h_5 : Φ2 y = some (o_ 14 [.int 0, .ref (y + 1), .ref (y + 2), .int 0, .int 1, .int 1, .int 0, .int 0, .ref (y + 3), .ref (y + 4), .int 0, .long 0, .ref (y + 5), .int 0, .int 0, .long 0, .long 0, .long 0, .long 0, .ref (y + 6), .ref (y + 7), .int 0, .ref (y + 8), .int 0, .ref (y + 9), .ref (y + 10), .int 0, .ref (y + 11), .ref (y + 12), .ref (y + 13), .ref (y + 14), .ref (y + 15), .ref (y + 16), .int 0, .long (-1), .ref (y + 17), .ref (y + 18), .ref (y + 19), .ref (y + 20), .ref (y + 21), .ref (y + 22), .int 0, .ref (y + 23), .ref (y + 24), .int 0, .ref (y + 25), .int 0, .int 0, .int 0, .int (-1), .int 0, .int 0, .int 0, .long 0]) := h_3
  have h_6 : Φ2 (y + 12) = some (ai_ G 4 (upd (upd (upd (upd (upd (upd (upd (upd (fun _ => 0) (0 : Int32).toNatClampNeg 0) (1 : Int32).toNatClampNeg 0) (2 : Int32).toNatClampNeg 0) (3 : Int32).toNatClampNeg 0) (0 : Int32).toNatClampNeg 0) (1 : Int32).toNatClampNeg 0) (2 : Int32).toNatClampNeg 0) (3 : Int32).toNatClampNeg 0)) := h_4
  refine z_iload_n B dX12_restartCollector_41 rfl 1 rfl ?_
  exact z_ret_i B dX12_restartCollector_42 ⟨rfl, ⟨_, h_5, rfl⟩, fun b9 h9 => ((fr1 b9 (Nat.ne_of_gt (Nat.lt_of_lt_of_le (lt_off (x := y) (i := 0) (j := 26) rfl) h9)) (Nat.ne_of_gt (Nat.lt_of_lt_of_le (lt_off (x := y) (i := 12) (j := 26) rfl) h9))).trans ((fset_fr hΦ1 (Nat.ne_of_gt (Nat.lt_of_lt_of_le (lt_off (x := y) (i := 0) (j := 26) rfl) h9))).trans rfl))⟩

set_option maxHeartbeats 4000000 in
set_option maxRecDepth 100000 in
theorem m_X12_requestTemplates (G : EnvG) (l : Launch) (Φ : Hm) (sz : Nat) (y : Nat) (hc0_ : Φ y = some (o_ 14 [.int 0, .ref (y + 1), .ref (y + 2), .int 0, .int 1, .int 1, .int 0, .int 0, .ref (y + 3), .ref (y + 4), .int 0, .long 0, .ref (y + 5), .int 0, .int 0, .long 0, .long 0, .long 0, .long 0, .ref (y + 6), .ref (y + 7), .int 0, .ref (y + 8), .int 0, .ref (y + 9), .ref (y + 10), .int 0, .ref (y + 11), .ref (y + 12), .ref (y + 13), .ref (y + 14), .ref (y + 15), .ref (y + 16), .int 0, .long (-1), .ref (y + 17), .ref (y + 18), .ref (y + 19), .ref (y + 20), .ref (y + 21), .ref (y + 22), .int 0, .ref (y + 23), .ref (y + 24), .int 0, .ref (y + 25), .int 0, .int 0, .int 0, .int (-1), .int 0, .int 0, .int 0, .long 0])) (hc3_ : Φ (y + 3) = some (ai_ G 4 (upd (upd (upd (upd (fun _ => 0) (0 : Int32).toNatClampNeg (-1)) (1 : Int32).toNatClampNeg (-1)) (2 : Int32).toNatClampNeg (-1)) (3 : Int32).toNatClampNeg (-1)))) (hna : G.2.2.2 ≤ y) : Ct G l yX12_requestTemplates wsX12_requestTemplates ({ frames := 0, cells := 0, slots := 0, locals := 0 }) 0 0 [.ref y] Φ sz (fun v Φ1 sz1 => v = none ∧ (∃ fs : List Value, Φ1 y = some (o_ 14 fs) ∧ fs[0]? = some (.int 0)) ∧ ∀ b9 : Nat, y + 26 ≤ b9 → Φ1 b9 = Φ b9) := by
  refine Ct.of (cc := cX12_requestTemplates) (maxL := 2) (ret := none) (by decide) rfl (Nat.le_of_ble_eq_true rfl) ?_
  intro p9 e9 s9 m9 w9 t9 k9 B
  show Z p9 l e9 _ s9 m9 _ w9 t9 k9 _ G 2 0 [(0, .ref y)] [] Φ sz 0 0
  refine z_aload_n B dX12_requestTemplates_0 rfl 0 rfl ?_
  refine z_iconst (v := 0) B dX12_requestTemplates_1 rfl ?_
  refine z_put (ref := "FlowExporterModel") (C := RX12) (T := TX12) (N := 54) (ci := 14) (v := .int 0) B (by decide +kernel) tyX12 tyX12_ok nmX12 rfl 0 (by decide) (by decide +kernel) rfl (Or.inl rfl) hc0_ hna rfl rfl (Nat.le_of_ble_eq_true rfl) dX12_requestTemplates_2 (fun Φ1 hΦ1 => ?_)
  have h_1 : Φ1 y = some (o_ 14 [.int 0, .ref (y + 1), .ref (y + 2), .int 0, .int 1, .int 1, .int 0, .int 0, .ref (y + 3), .ref (y + 4), .int 0, .long 0, .ref (y + 5), .int 0, .int 0, .long 0, .long 0, .long 0, .long 0, .ref (y + 6), .ref (y + 7), .int 0, .ref (y + 8), .int 0, .ref (y + 9), .ref (y + 10), .int 0, .ref (y + 11), .ref (y + 12), .ref (y + 13), .ref (y + 14), .ref (y + 15), .ref (y + 16), .int 0, .long (-1), .ref (y + 17), .ref (y + 18), .ref (y + 19), .ref (y + 20), .ref (y + 21), .ref (y + 22), .int 0, .ref (y + 23), .ref (y + 24), .int 0, .ref (y + 25), .int 0, .int 0, .int 0, .int (-1), .int 0, .int 0, .int 0, .long 0]) := fset_at hΦ1
  refine z_iconst (v := 0) B dX12_requestTemplates_5 rfl ?_
  refine z_istore_n (lv' := [(1, .int 0), (0, .ref y)]) B dX12_requestTemplates_6 rfl (Nat.le_of_ble_eq_true rfl) rfl ?_
  refine z_iload_n B dX12_requestTemplates_7 rfl 0 rfl ?_
  refine z_iconst (v := 4) B dX12_requestTemplates_8 rfl ?_
  refine z_icmp_ge (tgt := 25) B dX12_requestTemplates_9 rfl (fun h9 => absurd h9 (by decide)) (fun c_1 => ?_)
  refine z_aload_n B dX12_requestTemplates_12 rfl 1 rfl ?_
  refine z_get (ref := "FlowExporterModel") (C := RX12) (T := TX12) (N := 54) (ci := 14) (v := .ref (y + 3)) B (by decide +kernel) rfl 8 (by decide) (by decide +kernel) rfl h_1 rfl dX12_requestTemplates_13 ?_
  refine z_iload_n B dX12_requestTemplates_16 rfl 0 rfl ?_
  refine z_iconst (v := (-1)) B dX12_requestTemplates_17 rfl ?_
  have h_2 : Φ1 (y + 3) = some (ai_ G 4 (upd (upd (upd (upd (fun _ => 0) (0 : Int32).toNatClampNeg (-1)) (1 : Int32).toNatClampNeg (-1)) (2 : Int32).toNatClampNeg (-1)) (3 : Int32).toNatClampNeg (-1))) := ((fset_fr hΦ1 (ne_off (x := y) (i := 3) (j := 0) rfl)).trans hc3_)
  refine z_iast B h_2 (Nat.le_trans hna (Nat.le_add_right y 3)) (vin rfl) dX12_requestTemplates_18 (fun Φ2 hΦ2 => ?_)
  have h_3 : Φ2 (y + 3) = some (ai_ G 4 (upd (upd (upd (upd (upd (fun _ => 0) (0 : Int32).toNatClampNeg (-1)) (1 : Int32).toNatClampNeg (-1)) (2 : Int32).toNatClampNeg (-1)) (3 : Int32).toNatClampNeg (-1)) (0 : Int32).toNatClampNeg (-1))) := fset_at hΦ2
  refine z_iinc (k := 0) (v := 1) (lv' := [(1, .int 1), (0, .ref y)]) B dX12_requestTemplates_19 rfl rfl (Nat.le_of_ble_eq_true rfl) rfl ?_
  refine z_goto (tgt := 7) B dX12_requestTemplates_22 rfl ?_
  refine z_iload_n B dX12_requestTemplates_7 rfl 0 rfl ?_
  refine z_iconst (v := 4) B dX12_requestTemplates_8 rfl ?_
  refine z_icmp_ge (tgt := 25) B dX12_requestTemplates_9 rfl (fun h9 => absurd h9 (by decide)) (fun c_2 => ?_)
  refine z_aload_n B dX12_requestTemplates_12 rfl 1 rfl ?_
  have h_4 : Φ2 y = some (o_ 14 [.int 0, .ref (y + 1), .ref (y + 2), .int 0, .int 1, .int 1, .int 0, .int 0, .ref (y + 3), .ref (y + 4), .int 0, .long 0, .ref (y + 5), .int 0, .int 0, .long 0, .long 0, .long 0, .long 0, .ref (y + 6), .ref (y + 7), .int 0, .ref (y + 8), .int 0, .ref (y + 9), .ref (y + 10), .int 0, .ref (y + 11), .ref (y + 12), .ref (y + 13), .ref (y + 14), .ref (y + 15), .ref (y + 16), .int 0, .long (-1), .ref (y + 17), .ref (y + 18), .ref (y + 19), .ref (y + 20), .ref (y + 21), .ref (y + 22), .int 0, .ref (y + 23), .ref (y + 24), .int 0, .ref (y + 25), .int 0, .int 0, .int 0, .int (-1), .int 0, .int 0, .int 0, .long 0]) := ((fset_fr hΦ2 (ne_off (x := y) (i := 0) (j := 3) rfl)).trans h_1)
  refine z_get (ref := "FlowExporterModel") (C := RX12) (T := TX12) (N := 54) (ci := 14) (v := .ref (y + 3)) B (by decide +kernel) rfl 8 (by decide) (by decide +kernel) rfl h_4 rfl dX12_requestTemplates_13 ?_
  refine z_iload_n B dX12_requestTemplates_16 rfl 0 rfl ?_
  refine z_iconst (v := (-1)) B dX12_requestTemplates_17 rfl ?_
  refine z_iast B h_3 (Nat.le_trans hna (Nat.le_add_right y 3)) (vin rfl) dX12_requestTemplates_18 (fun Φ3 hΦ3 => ?_)
  have h_5 : Φ3 (y + 3) = some (ai_ G 4 (upd (upd (upd (upd (upd (upd (fun _ => 0) (0 : Int32).toNatClampNeg (-1)) (1 : Int32).toNatClampNeg (-1)) (2 : Int32).toNatClampNeg (-1)) (3 : Int32).toNatClampNeg (-1)) (0 : Int32).toNatClampNeg (-1)) (1 : Int32).toNatClampNeg (-1))) := fset_at hΦ3
  refine z_iinc (k := 0) (v := 2) (lv' := [(1, .int 2), (0, .ref y)]) B dX12_requestTemplates_19 rfl rfl (Nat.le_of_ble_eq_true rfl) rfl ?_
  refine z_goto (tgt := 7) B dX12_requestTemplates_22 rfl ?_
  refine z_iload_n B dX12_requestTemplates_7 rfl 0 rfl ?_
  refine z_iconst (v := 4) B dX12_requestTemplates_8 rfl ?_
  refine z_icmp_ge (tgt := 25) B dX12_requestTemplates_9 rfl (fun h9 => absurd h9 (by decide)) (fun c_3 => ?_)
  refine z_aload_n B dX12_requestTemplates_12 rfl 1 rfl ?_
  have h_6 : Φ3 y = some (o_ 14 [.int 0, .ref (y + 1), .ref (y + 2), .int 0, .int 1, .int 1, .int 0, .int 0, .ref (y + 3), .ref (y + 4), .int 0, .long 0, .ref (y + 5), .int 0, .int 0, .long 0, .long 0, .long 0, .long 0, .ref (y + 6), .ref (y + 7), .int 0, .ref (y + 8), .int 0, .ref (y + 9), .ref (y + 10), .int 0, .ref (y + 11), .ref (y + 12), .ref (y + 13), .ref (y + 14), .ref (y + 15), .ref (y + 16), .int 0, .long (-1), .ref (y + 17), .ref (y + 18), .ref (y + 19), .ref (y + 20), .ref (y + 21), .ref (y + 22), .int 0, .ref (y + 23), .ref (y + 24), .int 0, .ref (y + 25), .int 0, .int 0, .int 0, .int (-1), .int 0, .int 0, .int 0, .long 0]) := ((fset_fr hΦ3 (ne_off (x := y) (i := 0) (j := 3) rfl)).trans h_4)
  refine z_get (ref := "FlowExporterModel") (C := RX12) (T := TX12) (N := 54) (ci := 14) (v := .ref (y + 3)) B (by decide +kernel) rfl 8 (by decide) (by decide +kernel) rfl h_6 rfl dX12_requestTemplates_13 ?_
  refine z_iload_n B dX12_requestTemplates_16 rfl 0 rfl ?_
  refine z_iconst (v := (-1)) B dX12_requestTemplates_17 rfl ?_
  refine z_iast B h_5 (Nat.le_trans hna (Nat.le_add_right y 3)) (vin rfl) dX12_requestTemplates_18 (fun Φ4 hΦ4 => ?_)
  have h_7 : Φ4 (y + 3) = some (ai_ G 4 (upd (upd (upd (upd (upd (upd (upd (fun _ => 0) (0 : Int32).toNatClampNeg (-1)) (1 : Int32).toNatClampNeg (-1)) (2 : Int32).toNatClampNeg (-1)) (3 : Int32).toNatClampNeg (-1)) (0 : Int32).toNatClampNeg (-1)) (1 : Int32).toNatClampNeg (-1)) (2 : Int32).toNatClampNeg (-1))) := fset_at hΦ4
  refine z_iinc (k := 0) (v := 3) (lv' := [(1, .int 3), (0, .ref y)]) B dX12_requestTemplates_19 rfl rfl (Nat.le_of_ble_eq_true rfl) rfl ?_
  refine z_goto (tgt := 7) B dX12_requestTemplates_22 rfl ?_
  refine z_iload_n B dX12_requestTemplates_7 rfl 0 rfl ?_
  refine z_iconst (v := 4) B dX12_requestTemplates_8 rfl ?_
  refine z_icmp_ge (tgt := 25) B dX12_requestTemplates_9 rfl (fun h9 => absurd h9 (by decide)) (fun c_4 => ?_)
  refine z_aload_n B dX12_requestTemplates_12 rfl 1 rfl ?_
  have h_8 : Φ4 y = some (o_ 14 [.int 0, .ref (y + 1), .ref (y + 2), .int 0, .int 1, .int 1, .int 0, .int 0, .ref (y + 3), .ref (y + 4), .int 0, .long 0, .ref (y + 5), .int 0, .int 0, .long 0, .long 0, .long 0, .long 0, .ref (y + 6), .ref (y + 7), .int 0, .ref (y + 8), .int 0, .ref (y + 9), .ref (y + 10), .int 0, .ref (y + 11), .ref (y + 12), .ref (y + 13), .ref (y + 14), .ref (y + 15), .ref (y + 16), .int 0, .long (-1), .ref (y + 17), .ref (y + 18), .ref (y + 19), .ref (y + 20), .ref (y + 21), .ref (y + 22), .int 0, .ref (y + 23), .ref (y + 24), .int 0, .ref (y + 25), .int 0, .int 0, .int 0, .int (-1), .int 0, .int 0, .int 0, .long 0]) := ((fset_fr hΦ4 (ne_off (x := y) (i := 0) (j := 3) rfl)).trans h_6)
  refine z_get (ref := "FlowExporterModel") (C := RX12) (T := TX12) (N := 54) (ci := 14) (v := .ref (y + 3)) B (by decide +kernel) rfl 8 (by decide) (by decide +kernel) rfl h_8 rfl dX12_requestTemplates_13 ?_
  refine z_iload_n B dX12_requestTemplates_16 rfl 0 rfl ?_
  refine z_iconst (v := (-1)) B dX12_requestTemplates_17 rfl ?_
  refine z_iast B h_7 (Nat.le_trans hna (Nat.le_add_right y 3)) (vin rfl) dX12_requestTemplates_18 (fun Φ5 hΦ5 => ?_)
  have h_9 : Φ5 (y + 3) = some (ai_ G 4 (upd (upd (upd (upd (upd (upd (upd (upd (fun _ => 0) (0 : Int32).toNatClampNeg (-1)) (1 : Int32).toNatClampNeg (-1)) (2 : Int32).toNatClampNeg (-1)) (3 : Int32).toNatClampNeg (-1)) (0 : Int32).toNatClampNeg (-1)) (1 : Int32).toNatClampNeg (-1)) (2 : Int32).toNatClampNeg (-1)) (3 : Int32).toNatClampNeg (-1))) := fset_at hΦ5
  refine z_iinc (k := 0) (v := 4) (lv' := [(1, .int 4), (0, .ref y)]) B dX12_requestTemplates_19 rfl rfl (Nat.le_of_ble_eq_true rfl) rfl ?_
  refine z_goto (tgt := 7) B dX12_requestTemplates_22 rfl ?_
  refine z_iload_n B dX12_requestTemplates_7 rfl 0 rfl ?_
  refine z_iconst (v := 4) B dX12_requestTemplates_8 rfl ?_
  refine z_icmp_ge (tgt := 25) B dX12_requestTemplates_9 rfl (fun c_5 => ?_) (fun h9 => absurd (by decide) h9)
  have h_10 : Φ5 y = some (o_ 14 [.int 0, .ref (y + 1), .ref (y + 2), .int 0, .int 1, .int 1, .int 0, .int 0, .ref (y + 3), .ref (y + 4), .int 0, .long 0, .ref (y + 5), .int 0, .int 0, .long 0, .long 0, .long 0, .long 0, .ref (y + 6), .ref (y + 7), .int 0, .ref (y + 8), .int 0, .ref (y + 9), .ref (y + 10), .int 0, .ref (y + 11), .ref (y + 12), .ref (y + 13), .ref (y + 14), .ref (y + 15), .ref (y + 16), .int 0, .long (-1), .ref (y + 17), .ref (y + 18), .ref (y + 19), .ref (y + 20), .ref (y + 21), .ref (y + 22), .int 0, .ref (y + 23), .ref (y + 24), .int 0, .ref (y + 25), .int 0, .int 0, .int 0, .int (-1), .int 0, .int 0, .int 0, .long 0]) := ((fset_fr hΦ5 (ne_off (x := y) (i := 0) (j := 3) rfl)).trans h_8)
  exact z_ret_v B dX12_requestTemplates_25 ⟨rfl, ⟨_, h_10, rfl⟩, fun b9 h9 => ((fset_fr hΦ5 (Nat.ne_of_gt (Nat.lt_of_lt_of_le (lt_off (x := y) (i := 3) (j := 26) rfl) h9))).trans ((fset_fr hΦ4 (Nat.ne_of_gt (Nat.lt_of_lt_of_le (lt_off (x := y) (i := 3) (j := 26) rfl) h9))).trans ((fset_fr hΦ3 (Nat.ne_of_gt (Nat.lt_of_lt_of_le (lt_off (x := y) (i := 3) (j := 26) rfl) h9))).trans ((fset_fr hΦ2 (Nat.ne_of_gt (Nat.lt_of_lt_of_le (lt_off (x := y) (i := 3) (j := 26) rfl) h9))).trans ((fset_fr hΦ1 (Nat.ne_of_gt (Nat.lt_of_lt_of_le (lt_off (x := y) (i := 0) (j := 26) rfl) h9))).trans rfl)))))⟩

set_option maxHeartbeats 4000000 in
set_option maxRecDepth 100000 in
theorem m_X12_setSeed (G : EnvG) (l : Launch) (Φ : Hm) (sz : Nat) (y : Nat) (a : Int32) (hc0_ : Φ y = some (o_ 14 [.int 0, .ref (y + 1), .ref (y + 2), .int 0, .int 1, .int 1, .int 0, .int 0, .ref (y + 3), .ref (y + 4), .int 0, .long 0, .ref (y + 5), .int 0, .int 0, .long 0, .long 0, .long 0, .long 0, .ref (y + 6), .ref (y + 7), .int 0, .ref (y + 8), .int 0, .ref (y + 9), .ref (y + 10), .int 0, .ref (y + 11), .ref (y + 12), .ref (y + 13), .ref (y + 14), .ref (y + 15), .ref (y + 16), .int 0, .long (-1), .ref (y + 17), .ref (y + 18), .ref (y + 19), .ref (y + 20), .ref (y + 21), .ref (y + 22), .int 0, .ref (y + 23), .ref (y + 24), .int 0, .ref (y + 25), .int 0, .int 0, .int 0, .int (-1), .int 0, .int 0, .int 0, .long 0])) (hna : G.2.2.2 ≤ y) : Ct G l yX12_setSeed wsX12_setSeed ({ frames := 0, cells := 0, slots := 0, locals := 0 }) 0 0 [.ref y, .int a] Φ sz (fun v Φ1 sz1 => v = some (.int (if a < 0 then 0 else 1)) ∧ (∃ fs : List Value, Φ1 y = some (o_ 14 fs) ∧ fs[0]? = some (.int 0)) ∧ ∀ b9 : Nat, y + 26 ≤ b9 → Φ1 b9 = Φ b9) := by
  refine Ct.of (cc := cX12_setSeed) (maxL := 2) (ret := (some .boolean)) (by decide) rfl (Nat.le_of_ble_eq_true rfl) ?_
  intro p9 e9 s9 m9 w9 t9 k9 B
  show Z p9 l e9 _ s9 m9 _ w9 t9 k9 _ G 2 0 [(0, .ref y), (1, .int a)] [] Φ sz 0 0
  refine z_aload_n B dX12_setSeed_0 rfl 0 rfl ?_
  refine z_iconst (v := 0) B dX12_setSeed_1 rfl ?_
  refine z_put (ref := "FlowExporterModel") (C := RX12) (T := TX12) (N := 54) (ci := 14) (v := .int 0) B (by decide +kernel) tyX12 tyX12_ok nmX12 rfl 0 (by decide) (by decide +kernel) rfl (Or.inl rfl) hc0_ hna rfl rfl (Nat.le_of_ble_eq_true rfl) dX12_setSeed_2 (fun Φ1 hΦ1 => ?_)
  have h_1 : Φ1 y = some (o_ 14 [.int 0, .ref (y + 1), .ref (y + 2), .int 0, .int 1, .int 1, .int 0, .int 0, .ref (y + 3), .ref (y + 4), .int 0, .long 0, .ref (y + 5), .int 0, .int 0, .long 0, .long 0, .long 0, .long 0, .ref (y + 6), .ref (y + 7), .int 0, .ref (y + 8), .int 0, .ref (y + 9), .ref (y + 10), .int 0, .ref (y + 11), .ref (y + 12), .ref (y + 13), .ref (y + 14), .ref (y + 15), .ref (y + 16), .int 0, .long (-1), .ref (y + 17), .ref (y + 18), .ref (y + 19), .ref (y + 20), .ref (y + 21), .ref (y + 22), .int 0, .ref (y + 23), .ref (y + 24), .int 0, .ref (y + 25), .int 0, .int 0, .int 0, .int (-1), .int 0, .int 0, .int 0, .long 0]) := fset_at hΦ1
  refine z_iload_n B dX12_setSeed_5 rfl 1 rfl ?_
  refine z_if_ge (tgt := 11) B dX12_setSeed_6 rfl (fun c_1 => ?_) (fun c_1 => ?_)
  · refine z_aload_n B dX12_setSeed_11 rfl 0 rfl ?_
    refine z_iload_n B dX12_setSeed_12 rfl 1 rfl ?_
    refine z_put (ref := "FlowExporterModel") (C := RX12) (T := TX12) (N := 54) (ci := 14) (v := .int a) B (by decide +kernel) tyX12 tyX12_ok nmX12 rfl 4 (by decide) (by decide +kernel) rfl (Or.inl rfl) h_1 hna rfl rfl (Nat.le_of_ble_eq_true rfl) dX12_setSeed_13 (fun Φ2 hΦ2 => ?_)
    have h_2 : Φ2 y = some (o_ 14 [.int 0, .ref (y + 1), .ref (y + 2), .int 0, .int a, .int 1, .int 0, .int 0, .ref (y + 3), .ref (y + 4), .int 0, .long 0, .ref (y + 5), .int 0, .int 0, .long 0, .long 0, .long 0, .long 0, .ref (y + 6), .ref (y + 7), .int 0, .ref (y + 8), .int 0, .ref (y + 9), .ref (y + 10), .int 0, .ref (y + 11), .ref (y + 12), .ref (y + 13), .ref (y + 14), .ref (y + 15), .ref (y + 16), .int 0, .long (-1), .ref (y + 17), .ref (y + 18), .ref (y + 19), .ref (y + 20), .ref (y + 21), .ref (y + 22), .int 0, .ref (y + 23), .ref (y + 24), .int 0, .ref (y + 25), .int 0, .int 0, .int 0, .int (-1), .int 0, .int 0, .int 0, .long 0]) := fset_at hΦ2
    refine z_iconst (v := 1) B dX12_setSeed_16 rfl ?_
    exact z_ret_z B dX12_setSeed_17 (by decide) ⟨(by first | rfl | simp [c_1]), ⟨_, h_2, rfl⟩, fun b9 h9 => ((fset_fr hΦ2 (Nat.ne_of_gt (Nat.lt_of_lt_of_le (lt_off (x := y) (i := 0) (j := 26) rfl) h9))).trans ((fset_fr hΦ1 (Nat.ne_of_gt (Nat.lt_of_lt_of_le (lt_off (x := y) (i := 0) (j := 26) rfl) h9))).trans rfl))⟩
  · refine z_iconst (v := 0) B dX12_setSeed_9 rfl ?_
    exact z_ret_z B dX12_setSeed_10 (by decide) ⟨(by first | rfl | simp [c_1]), ⟨_, h_1, rfl⟩, fun b9 h9 => ((fset_fr hΦ1 (Nat.ne_of_gt (Nat.lt_of_lt_of_le (lt_off (x := y) (i := 0) (j := 26) rfl) h9))).trans rfl)⟩

set_option maxHeartbeats 4000000 in
set_option maxRecDepth 100000 in
theorem m_X12_setAdaptive (G : EnvG) (l : Launch) (Φ : Hm) (sz : Nat) (y : Nat) (a : Int32) (hc0_ : Φ y = some (o_ 14 [.int 0, .ref (y + 1), .ref (y + 2), .int 0, .int 1, .int 1, .int 0, .int 0, .ref (y + 3), .ref (y + 4), .int 0, .long 0, .ref (y + 5), .int 0, .int 0, .long 0, .long 0, .long 0, .long 0, .ref (y + 6), .ref (y + 7), .int 0, .ref (y + 8), .int 0, .ref (y + 9), .ref (y + 10), .int 0, .ref (y + 11), .ref (y + 12), .ref (y + 13), .ref (y + 14), .ref (y + 15), .ref (y + 16), .int 0, .long (-1), .ref (y + 17), .ref (y + 18), .ref (y + 19), .ref (y + 20), .ref (y + 21), .ref (y + 22), .int 0, .ref (y + 23), .ref (y + 24), .int 0, .ref (y + 25), .int 0, .int 0, .int 0, .int (-1), .int 0, .int 0, .int 0, .long 0])) (hna : G.2.2.2 ≤ y) (ha : a = 0 ∨ a = 1) : Ct G l yX12_setAdaptive wsX12_setAdaptive ({ frames := 0, cells := 0, slots := 0, locals := 0 }) 0 0 [.ref y, .int a] Φ sz (fun v Φ1 sz1 => v = some (.int 0) ∧ (∃ fs : List Value, Φ1 y = some (o_ 14 fs) ∧ fs[0]? = some (.int 0)) ∧ ∀ b9 : Nat, y + 26 ≤ b9 → Φ1 b9 = Φ b9) := by
  refine Ct.of (cc := cX12_setAdaptive) (maxL := 3) (ret := (some .boolean)) (by decide) rfl (Nat.le_of_ble_eq_true rfl) ?_
  intro p9 e9 s9 m9 w9 t9 k9 B
  show Z p9 l e9 _ s9 m9 _ w9 t9 k9 _ G 3 0 [(0, .ref y), (1, .int a)] [] Φ sz 0 0
  refine z_aload_n B dX12_setAdaptive_0 rfl 0 rfl ?_
  refine z_iconst (v := 0) B dX12_setAdaptive_1 rfl ?_
  refine z_put (ref := "FlowExporterModel") (C := RX12) (T := TX12) (N := 54) (ci := 14) (v := .int 0) B (by decide +kernel) tyX12 tyX12_ok nmX12 rfl 0 (by decide) (by decide +kernel) rfl (Or.inl rfl) hc0_ hna rfl rfl (Nat.le_of_ble_eq_true rfl) dX12_setAdaptive_2 (fun Φ1 hΦ1 => ?_)
  have h_1 : Φ1 y = some (o_ 14 [.int 0, .ref (y + 1), .ref (y + 2), .int 0, .int 1, .int 1, .int 0, .int 0, .ref (y + 3), .ref (y + 4), .int 0, .long 0, .ref (y + 5), .int 0, .int 0, .long 0, .long 0, .long 0, .long 0, .ref (y + 6), .ref (y + 7), .int 0, .ref (y + 8), .int 0, .ref (y + 9), .ref (y + 10), .int 0, .ref (y + 11), .ref (y + 12), .ref (y + 13), .ref (y + 14), .ref (y + 15), .ref (y + 16), .int 0, .long (-1), .ref (y + 17), .ref (y + 18), .ref (y + 19), .ref (y + 20), .ref (y + 21), .ref (y + 22), .int 0, .ref (y + 23), .ref (y + 24), .int 0, .ref (y + 25), .int 0, .int 0, .int 0, .int (-1), .int 0, .int 0, .int 0, .long 0]) := fset_at hΦ1
  refine z_aload_n B dX12_setAdaptive_5 rfl 0 rfl ?_
  refine z_get (ref := "FlowExporterModel") (C := RX12) (T := TX12) (N := 54) (ci := 14) (v := .int 0) B (by decide +kernel) rfl 7 (by decide) (by decide +kernel) rfl h_1 rfl dX12_setAdaptive_6 ?_
  refine z_istore_n (lv' := [(2, .int 0), (0, .ref y), (1, .int a)]) B dX12_setAdaptive_9 rfl (Nat.le_of_ble_eq_true rfl) rfl ?_
  refine z_aload_n B dX12_setAdaptive_10 rfl 1 rfl ?_
  refine z_iload_n B dX12_setAdaptive_11 rfl 2 rfl ?_
  refine z_put (ref := "FlowExporterModel") (C := RX12) (T := TX12) (N := 54) (ci := 14) (v := .int a) B (by decide +kernel) tyX12 tyX12_ok nmX12 rfl 7 (by decide) (by decide +kernel) rfl (Or.inl rfl) h_1 hna (nar_z ha) (fit_z ha) (Nat.le_of_ble_eq_true rfl) dX12_setAdaptive_12 (fun Φ2 hΦ2 => ?_)
  have h_2 : Φ2 y = some (o_ 14 [.int 0, .ref (y + 1), .ref (y + 2), .int 0, .int 1, .int 1, .int 0, .int a, .ref (y + 3), .ref (y + 4), .int 0, .long 0, .ref (y + 5), .int 0, .int 0, .long 0, .long 0, .long 0, .long 0, .ref (y + 6), .ref (y + 7), .int 0, .ref (y + 8), .int 0, .ref (y + 9), .ref (y + 10), .int 0, .ref (y + 11), .ref (y + 12), .ref (y + 13), .ref (y + 14), .ref (y + 15), .ref (y + 16), .int 0, .long (-1), .ref (y + 17), .ref (y + 18), .ref (y + 19), .ref (y + 20), .ref (y + 21), .ref (y + 22), .int 0, .ref (y + 23), .ref (y + 24), .int 0, .ref (y + 25), .int 0, .int 0, .int 0, .int (-1), .int 0, .int 0, .int 0, .long 0]) := fset_at hΦ2
  refine z_iload_n B dX12_setAdaptive_15 rfl 0 rfl ?_
  exact z_ret_z B dX12_setAdaptive_16 (by decide) ⟨rfl, ⟨_, h_2, rfl⟩, fun b9 h9 => ((fset_fr hΦ2 (Nat.ne_of_gt (Nat.lt_of_lt_of_le (lt_off (x := y) (i := 0) (j := 26) rfl) h9))).trans ((fset_fr hΦ1 (Nat.ne_of_gt (Nat.lt_of_lt_of_le (lt_off (x := y) (i := 0) (j := 26) rfl) h9))).trans rfl))⟩

set_option maxHeartbeats 4000000 in
set_option maxRecDepth 100000 in
theorem m_thrown (G : EnvG) (l : Launch) (Φ : Hm) (sz : Nat) (y : Nat) (fs : List Value) (k : Int32) (hy : Φ y = some (o_ 14 fs)) (hf : fs[0]? = some (.int k)) : Ct G l yX12_thrown wsX12_thrown ({ frames := 0, cells := 0, slots := 0, locals := 0 }) 0 0 [.ref y] Φ sz (fun v Φ1 sz1 => v = some (.int k) ∧ Φ1 = Φ) := by
  refine Ct.of (cc := cX12_thrown) (maxL := 1) (ret := (some .int)) (by decide) rfl (Nat.le_of_ble_eq_true rfl) ?_
  intro p9 e9 s9 m9 w9 t9 k9 B
  show Z p9 l e9 _ s9 m9 _ w9 t9 k9 _ G 1 0 [(0, .ref y)] [] Φ sz 0 0
  refine z_aload_n B dX12_thrown_0 rfl 0 rfl ?_
  refine z_get (ref := "FlowExporterModel") (C := RX12) (T := TX12) (N := 54) (ci := 14) (v := .int k) B (by decide +kernel) rfl 0 (by decide) (by decide +kernel) rfl hy hf dX12_thrown_1 ?_
  exact z_ret_i B dX12_thrown_4 ⟨rfl, rfl⟩

set_option maxHeartbeats 4000000 in
set_option maxRecDepth 100000 in
theorem w_lossRate (G : EnvG) (l : Launch) (hl9 : l.stackTraces = false) (Φ : Hm) (sz : Nat) (x : Nat) (o : Nat) (hc0_ : Φ x = some (o_ 13 [.ref (x + 1), .ref (x + 3), .ref (x + 24), .ref (x + 46), .ref (x + 74), .ref (x + 80), .ref (x + 132), .ref (x + 121)])) (hc132_ : Φ (x + 132) = some (o_ 2 [.ref (x + 3), .ref (x + 121), .ref (x + 133), .ref (x + 134), .ref (x + 135), .ref (x + 137), .ref (x + 138), .ref (x + 139), .ref (x + 140), .int 0, .int 0, .int 0])) (hc139_ : Φ (x + 139) = some (al_ G 9 (fun _ => 0))) : Ct G l yL_lossRate wsL_lossRate ({ frames := 7, cells := 1, slots := 6, locals := 105 }) 1 6 [.ref x, .ref o] Φ sz (fun v Φ1 sz1 => v = some (.int 1) ∧ Φ1 = Φ) := by
  refine Ct.ofH (cc := cL_lossRate) (maxL := 3) (ret := (some .int)) (by decide) rfl (Nat.le_of_ble_eq_true rfl) ?_
  intro p9 e9 s9 m9 w9 t9 k9 B htab9
  show Z p9 l e9 _ s9 m9 _ w9 t9 k9 _ G 3 0 [(0, .ref x), (1, .ref o)] [] Φ sz 0 0
  refine z_aload_n B dL_lossRate_0 rfl 1 rfl ?_
  refine z_iconst (v := 0) B dL_lossRate_1 rfl ?_
  refine z_aload_n B dL_lossRate_2 rfl 0 rfl ?_
  refine z_callVC (As := []) (rest := [.int 0, .ref o]) B (f_X11_lossRate G l hl9 Φ sz x hc0_ hc132_ hc139_) (cwV 0 B.1.2.2.2.2 gL_lossRate_X11_lossRate rfl rfl rfl (by decide +kernel) ⟨Nat.le_of_ble_eq_true rfl, Nat.le_of_ble_eq_true rfl⟩) hc0_ rfl rfl rfl rfl (Nat.le_of_ble_eq_true rfl) dL_lossRate_3 ⟨Nat.le_of_ble_eq_true rfl, Nat.le_of_ble_eq_true rfl⟩ [] ⟨0, 7, 10, 82⟩ [] (htab9.trans rfl) (fun z9 hz9 => absurd hz9 (List.not_mem_nil)) (by decide) (by decide) (by decide +kernel) (by decide) (fun q9 sz9 => ?_)
  refine z_astore_n (lv' := [(2, .ref q9), (0, .ref x), (1, .ref o)]) B dL_lossRate_10 rfl (Nat.le_of_ble_eq_true rfl) rfl ?_
  refine z_iconst (v := 1) B dL_lossRate_11 rfl ?_
  exact z_ret_i B dL_lossRate_12 ⟨rfl, rfl⟩

set_option maxHeartbeats 4000000 in
set_option maxRecDepth 100000 in
theorem w_cached (G : EnvG) (l : Launch) (hl9 : l.stackTraces = false) (Φ : Hm) (sz : Nat) (x : Nat) (o : Nat) (a : Int32) (b : Int32) (hc0_ : Φ x = some (o_ 13 [.ref (x + 1), .ref (x + 3), .ref (x + 24), .ref (x + 46), .ref (x + 74), .ref (x + 80), .ref (x + 132), .ref (x + 121)])) (hc80_ : Φ (x + 80) = some (o_ 4 [.ref (x + 3), .ref (x + 74), .ref (x + 81), .ref (x + 95), .int 0, .int 1, .int 1, .int 0, .int 0, .int 0, .long 0, .long 0, .long 0])) (hc81_ : Φ (x + 81) = some (o_ 6 [.ref (x + 82), .int 0])) : Ct G l yL_cached wsL_cached ({ frames := 7, cells := 1, slots := 6, locals := 103 }) 1 6 [.ref x, .int a, .int b, .ref o] Φ sz (fun v Φ1 sz1 => v = some (.int 1) ∧ Φ1 = Φ) := by
  refine Ct.ofH (cc := cL_cached) (maxL := 5) (ret := (some .int)) (by decide) rfl (Nat.le_of_ble_eq_true rfl) ?_
  intro p9 e9 s9 m9 w9 t9 k9 B htab9
  show Z p9 l e9 _ s9 m9 _ w9 t9 k9 _ G 5 0 [(0, .ref x), (1, .int a), (2, .int b), (3, .ref o)] [] Φ sz 0 0
  refine z_aload_n B dL_cached_0 rfl 3 rfl ?_
  refine z_iconst (v := 0) B dL_cached_1 rfl ?_
  refine z_aload_n B dL_cached_2 rfl 0 rfl ?_
  refine z_iload_n B dL_cached_3 rfl 1 rfl ?_
  refine z_iload_n B dL_cached_4 rfl 2 rfl ?_
  refine z_callVC (As := [.int a, .int b]) (rest := [.int 0, .ref o]) B (f_X11_cached G l hl9 Φ sz x a b hc0_ hc80_ hc81_) (cwV 2 B.1.2.2.2.2 gL_cached_X11_cached rfl rfl rfl (by decide +kernel) ⟨Nat.le_of_ble_eq_true rfl, Nat.le_of_ble_eq_true rfl⟩) hc0_ rfl rfl rfl rfl (Nat.le_of_ble_eq_true rfl) dL_cached_5 ⟨Nat.le_of_ble_eq_true rfl, Nat.le_of_ble_eq_true rfl⟩ [] ⟨0, 9, 12, 29⟩ [⟨0, 9, 16, 13⟩] (htab9.trans rfl) (fun z9 hz9 => absurd hz9 (List.not_mem_nil)) (by decide) (by decide) (by decide +kernel) (by decide) (fun q9 sz9 => ?_)
  refine z_astore (lv' := [(4, .ref q9), (0, .ref x), (1, .int a), (2, .int b), (3, .ref o)]) B dL_cached_12 (Nat.le_of_ble_eq_true rfl) rfl ?_
  refine z_iconst (v := 1) B dL_cached_14 rfl ?_
  exact z_ret_i B dL_cached_15 ⟨rfl, rfl⟩

set_option maxHeartbeats 4000000 in
set_option maxRecDepth 100000 in
theorem w_templateFields_x (G : EnvG) (l : Launch) (hl9 : l.stackTraces = false) (Φ : Hm) (sz : Nat) (x : Nat) (o : Nat) (a : Int32) (hc0_ : Φ x = some (o_ 13 [.ref (x + 1), .ref (x + 3), .ref (x + 24), .ref (x + 46), .ref (x + 74), .ref (x + 80), .ref (x + 132), .ref (x + 121)])) (hc3_ : Φ (x + 3) = some (o_ 3 [.ref (x + 4), .ref (x + 5), .ref (x + 6), .ref (x + 7), .int 1, .int 511])) (ha : a ≠ 0) : Ct G l yL_templateFields wsL_templateFields ({ frames := 8, cells := 1, slots := 6, locals := 123 }) 1 6 [.ref x, .int a, .ref o] Φ sz (fun v Φ1 sz1 => v = some (.int 1) ∧ Φ1 = Φ) := by
  refine Ct.ofH (cc := cL_templateFields) (maxL := 4) (ret := (some .int)) (by decide) rfl (Nat.le_of_ble_eq_true rfl) ?_
  intro p9 e9 s9 m9 w9 t9 k9 B htab9
  show Z p9 l e9 _ s9 m9 _ w9 t9 k9 _ G 4 0 [(0, .ref x), (1, .int a), (2, .ref o)] [] Φ sz 0 0
  refine z_aload_n B dL_templateFields_0 rfl 2 rfl ?_
  refine z_iconst (v := 0) B dL_templateFields_1 rfl ?_
  refine z_aload_n B dL_templateFields_2 rfl 0 rfl ?_
  refine z_iload_n B dL_templateFields_3 rfl 1 rfl ?_
  refine z_callVC (As := [.int a]) (rest := [.int 0, .ref o]) B (f_X11_templateFields_x G l hl9 Φ sz x a hc0_ hc3_ ha) (cwV 1 B.1.2.2.2.2 gL_templateFields_X11_templateFields rfl rfl rfl (by decide +kernel) ⟨Nat.le_of_ble_eq_true rfl, Nat.le_of_ble_eq_true rfl⟩) hc0_ rfl rfl rfl rfl (Nat.le_of_ble_eq_true rfl) dL_templateFields_4 ⟨Nat.le_of_ble_eq_true rfl, Nat.le_of_ble_eq_true rfl⟩ [] ⟨0, 9, 12, 29⟩ [] (htab9.trans rfl) (fun z9 hz9 => absurd hz9 (List.not_mem_nil)) (by decide) (by decide) (by decide +kernel) (by decide) (fun q9 sz9 => ?_)
  refine z_astore_n (lv' := [(3, .ref q9), (0, .ref x), (1, .int a), (2, .ref o)]) B dL_templateFields_12 rfl (Nat.le_of_ble_eq_true rfl) rfl ?_
  refine z_iconst (v := 1) B dL_templateFields_13 rfl ?_
  exact z_ret_i B dL_templateFields_14 ⟨rfl, rfl⟩

set_option maxHeartbeats 4000000 in
set_option maxRecDepth 100000 in
theorem w_effectiveFields_x (G : EnvG) (l : Launch) (hl9 : l.stackTraces = false) (Φ : Hm) (sz : Nat) (x : Nat) (o : Nat) (a : Int32) (hc0_ : Φ x = some (o_ 13 [.ref (x + 1), .ref (x + 3), .ref (x + 24), .ref (x + 46), .ref (x + 74), .ref (x + 80), .ref (x + 132), .ref (x + 121)])) (hc3_ : Φ (x + 3) = some (o_ 3 [.ref (x + 4), .ref (x + 5), .ref (x + 6), .ref (x + 7), .int 1, .int 511])) (ha : a ≠ 0) : Ct G l yL_effectiveFields wsL_effectiveFields ({ frames := 8, cells := 1, slots := 6, locals := 123 }) 1 6 [.ref x, .int a, .ref o] Φ sz (fun v Φ1 sz1 => v = some (.int 1) ∧ Φ1 = Φ) := by
  refine Ct.ofH (cc := cL_effectiveFields) (maxL := 4) (ret := (some .int)) (by decide) rfl (Nat.le_of_ble_eq_true rfl) ?_
  intro p9 e9 s9 m9 w9 t9 k9 B htab9
  show Z p9 l e9 _ s9 m9 _ w9 t9 k9 _ G 4 0 [(0, .ref x), (1, .int a), (2, .ref o)] [] Φ sz 0 0
  refine z_aload_n B dL_effectiveFields_0 rfl 2 rfl ?_
  refine z_iconst (v := 0) B dL_effectiveFields_1 rfl ?_
  refine z_aload_n B dL_effectiveFields_2 rfl 0 rfl ?_
  refine z_iload_n B dL_effectiveFields_3 rfl 1 rfl ?_
  refine z_callVC (As := [.int a]) (rest := [.int 0, .ref o]) B (f_X11_effectiveFields_x G l hl9 Φ sz x a hc0_ hc3_ ha) (cwV 1 B.1.2.2.2.2 gL_effectiveFields_X11_effectiveFields rfl rfl rfl (by decide +kernel) ⟨Nat.le_of_ble_eq_true rfl, Nat.le_of_ble_eq_true rfl⟩) hc0_ rfl rfl rfl rfl (Nat.le_of_ble_eq_true rfl) dL_effectiveFields_4 ⟨Nat.le_of_ble_eq_true rfl, Nat.le_of_ble_eq_true rfl⟩ [] ⟨0, 9, 12, 29⟩ [] (htab9.trans rfl) (fun z9 hz9 => absurd hz9 (List.not_mem_nil)) (by decide) (by decide) (by decide +kernel) (by decide) (fun q9 sz9 => ?_)
  refine z_astore_n (lv' := [(3, .ref q9), (0, .ref x), (1, .int a), (2, .ref o)]) B dL_effectiveFields_12 rfl (Nat.le_of_ble_eq_true rfl) rfl ?_
  refine z_iconst (v := 1) B dL_effectiveFields_13 rfl ?_
  exact z_ret_i B dL_effectiveFields_14 ⟨rfl, rfl⟩

set_option maxHeartbeats 4000000 in
set_option maxRecDepth 100000 in
theorem w_recordLength_x (G : EnvG) (l : Launch) (hl9 : l.stackTraces = false) (Φ : Hm) (sz : Nat) (x : Nat) (o : Nat) (a : Int32) (hc0_ : Φ x = some (o_ 13 [.ref (x + 1), .ref (x + 3), .ref (x + 24), .ref (x + 46), .ref (x + 74), .ref (x + 80), .ref (x + 132), .ref (x + 121)])) (hc3_ : Φ (x + 3) = some (o_ 3 [.ref (x + 4), .ref (x + 5), .ref (x + 6), .ref (x + 7), .int 1, .int 511])) (ha : a ≠ 0) : Ct G l yL_recordLength wsL_recordLength ({ frames := 8, cells := 1, slots := 6, locals := 123 }) 1 6 [.ref x, .int a, .ref o] Φ sz (fun v Φ1 sz1 => v = some (.int 1) ∧ Φ1 = Φ) := by
  refine Ct.ofH (cc := cL_recordLength) (maxL := 4) (ret := (some .int)) (by decide) rfl (Nat.le_of_ble_eq_true rfl) ?_
  intro p9 e9 s9 m9 w9 t9 k9 B htab9
  show Z p9 l e9 _ s9 m9 _ w9 t9 k9 _ G 4 0 [(0, .ref x), (1, .int a), (2, .ref o)] [] Φ sz 0 0
  refine z_aload_n B dL_recordLength_0 rfl 2 rfl ?_
  refine z_iconst (v := 0) B dL_recordLength_1 rfl ?_
  refine z_aload_n B dL_recordLength_2 rfl 0 rfl ?_
  refine z_iload_n B dL_recordLength_3 rfl 1 rfl ?_
  refine z_callVC (As := [.int a]) (rest := [.int 0, .ref o]) B (f_X11_recordLength_x G l hl9 Φ sz x a hc0_ hc3_ ha) (cwV 1 B.1.2.2.2.2 gL_recordLength_X11_recordLength rfl rfl rfl (by decide +kernel) ⟨Nat.le_of_ble_eq_true rfl, Nat.le_of_ble_eq_true rfl⟩) hc0_ rfl rfl rfl rfl (Nat.le_of_ble_eq_true rfl) dL_recordLength_4 ⟨Nat.le_of_ble_eq_true rfl, Nat.le_of_ble_eq_true rfl⟩ [] ⟨0, 9, 12, 29⟩ [] (htab9.trans rfl) (fun z9 hz9 => absurd hz9 (List.not_mem_nil)) (by decide) (by decide) (by decide +kernel) (by decide) (fun q9 sz9 => ?_)
  refine z_astore_n (lv' := [(3, .ref q9), (0, .ref x), (1, .int a), (2, .ref o)]) B dL_recordLength_12 rfl (Nat.le_of_ble_eq_true rfl) rfl ?_
  refine z_iconst (v := 1) B dL_recordLength_13 rfl ?_
  exact z_ret_i B dL_recordLength_14 ⟨rfl, rfl⟩

set_option maxHeartbeats 4000000 in
set_option maxRecDepth 100000 in
theorem w_isDue_x (G : EnvG) (l : Launch) (hl9 : l.stackTraces = false) (Φ : Hm) (sz : Nat) (x : Nat) (o : Nat) (a : Int32) (hc0_ : Φ x = some (o_ 13 [.ref (x + 1), .ref (x + 3), .ref (x + 24), .ref (x + 46), .ref (x + 74), .ref (x + 80), .ref (x + 132), .ref (x + 121)])) (hc3_ : Φ (x + 3) = some (o_ 3 [.ref (x + 4), .ref (x + 5), .ref (x + 6), .ref (x + 7), .int 1, .int 511])) (ha : a ≠ 0) : Ct G l yL_isDue wsL_isDue ({ frames := 8, cells := 1, slots := 6, locals := 123 }) 1 6 [.ref x, .int a, .ref o] Φ sz (fun v Φ1 sz1 => v = some (.int 1) ∧ Φ1 = Φ) := by
  refine Ct.ofH (cc := cL_isDue) (maxL := 4) (ret := (some .int)) (by decide) rfl (Nat.le_of_ble_eq_true rfl) ?_
  intro p9 e9 s9 m9 w9 t9 k9 B htab9
  show Z p9 l e9 _ s9 m9 _ w9 t9 k9 _ G 4 0 [(0, .ref x), (1, .int a), (2, .ref o)] [] Φ sz 0 0
  refine z_aload_n B dL_isDue_0 rfl 2 rfl ?_
  refine z_iconst (v := 0) B dL_isDue_1 rfl ?_
  refine z_aload_n B dL_isDue_2 rfl 0 rfl ?_
  refine z_iload_n B dL_isDue_3 rfl 1 rfl ?_
  refine z_callVC (As := [.int a]) (rest := [.int 0, .ref o]) B (f_X11_isDue_x G l hl9 Φ sz x a hc0_ hc3_ ha) (cwV 1 B.1.2.2.2.2 gL_isDue_X11_isDue rfl rfl rfl (by decide +kernel) ⟨Nat.le_of_ble_eq_true rfl, Nat.le_of_ble_eq_true rfl⟩) hc0_ rfl rfl rfl rfl (Nat.le_of_ble_eq_true rfl) dL_isDue_4 ⟨Nat.le_of_ble_eq_true rfl, Nat.le_of_ble_eq_true rfl⟩ [] ⟨0, 16, 19, 29⟩ [] (htab9.trans rfl) (fun z9 hz9 => absurd hz9 (List.not_mem_nil)) (by decide) (by decide) (by decide +kernel) (by decide) (fun q9 sz9 => ?_)
  refine z_astore_n (lv' := [(3, .ref q9), (0, .ref x), (1, .int a), (2, .ref o)]) B dL_isDue_19 rfl (Nat.le_of_ble_eq_true rfl) rfl ?_
  refine z_iconst (v := 1) B dL_isDue_20 rfl ?_
  exact z_ret_i B dL_isDue_21 ⟨rfl, rfl⟩

set_option maxHeartbeats 4000000 in
set_option maxRecDepth 100000 in
theorem w_fieldAt_x (G : EnvG) (l : Launch) (hl9 : l.stackTraces = false) (Φ : Hm) (sz : Nat) (x : Nat) (o : Nat) (a : Int32) (b : Int32) (hc0_ : Φ x = some (o_ 13 [.ref (x + 1), .ref (x + 3), .ref (x + 24), .ref (x + 46), .ref (x + 74), .ref (x + 80), .ref (x + 132), .ref (x + 121)])) (hc3_ : Φ (x + 3) = some (o_ 3 [.ref (x + 4), .ref (x + 5), .ref (x + 6), .ref (x + 7), .int 1, .int 511])) (ha : a ≠ 0) : Ct G l yL_fieldAt wsL_fieldAt ({ frames := 8, cells := 1, slots := 6, locals := 124 }) 1 6 [.ref x, .int a, .int b, .ref o] Φ sz (fun v Φ1 sz1 => v = some (.int 1) ∧ Φ1 = Φ) := by
  refine Ct.ofH (cc := cL_fieldAt) (maxL := 5) (ret := (some .int)) (by decide) rfl (Nat.le_of_ble_eq_true rfl) ?_
  intro p9 e9 s9 m9 w9 t9 k9 B htab9
  show Z p9 l e9 _ s9 m9 _ w9 t9 k9 _ G 5 0 [(0, .ref x), (1, .int a), (2, .int b), (3, .ref o)] [] Φ sz 0 0
  refine z_aload_n B dL_fieldAt_0 rfl 3 rfl ?_
  refine z_iconst (v := 0) B dL_fieldAt_1 rfl ?_
  refine z_aload_n B dL_fieldAt_2 rfl 0 rfl ?_
  refine z_iload_n B dL_fieldAt_3 rfl 1 rfl ?_
  refine z_iload_n B dL_fieldAt_4 rfl 2 rfl ?_
  refine z_callVC (As := [.int a, .int b]) (rest := [.int 0, .ref o]) B (f_X11_fieldAt_x G l hl9 Φ sz x a b hc0_ hc3_ ha) (cwV 2 B.1.2.2.2.2 gL_fieldAt_X11_fieldAt rfl rfl rfl (by decide +kernel) ⟨Nat.le_of_ble_eq_true rfl, Nat.le_of_ble_eq_true rfl⟩) hc0_ rfl rfl rfl rfl (Nat.le_of_ble_eq_true rfl) dL_fieldAt_5 ⟨Nat.le_of_ble_eq_true rfl, Nat.le_of_ble_eq_true rfl⟩ [] ⟨0, 10, 13, 29⟩ [] (htab9.trans rfl) (fun z9 hz9 => absurd hz9 (List.not_mem_nil)) (by decide) (by decide) (by decide +kernel) (by decide) (fun q9 sz9 => ?_)
  refine z_astore (lv' := [(4, .ref q9), (0, .ref x), (1, .int a), (2, .int b), (3, .ref o)]) B dL_fieldAt_13 (Nat.le_of_ble_eq_true rfl) rfl ?_
  refine z_iconst (v := 1) B dL_fieldAt_15 rfl ?_
  exact z_ret_i B dL_fieldAt_16 ⟨rfl, rfl⟩

set_option maxHeartbeats 4000000 in
set_option maxRecDepth 100000 in
theorem w_messageLength_x (G : EnvG) (l : Launch) (hl9 : l.stackTraces = false) (Φ : Hm) (sz : Nat) (x : Nat) (o : Nat) (a : Int32) (hc0_ : Φ x = some (o_ 13 [.ref (x + 1), .ref (x + 3), .ref (x + 24), .ref (x + 46), .ref (x + 74), .ref (x + 80), .ref (x + 132), .ref (x + 121)])) (hc46_ : Φ (x + 46) = some (o_ 9 [.ref (x + 47), .int 0, .int 0])) : Ct G l yL_messageLength wsL_messageLength ({ frames := 8, cells := 1, slots := 6, locals := 123 }) 1 6 [.ref x, .int a, .ref o] Φ sz (fun v Φ1 sz1 => v = some (.int 1) ∧ Φ1 = Φ) := by
  refine Ct.ofH (cc := cL_messageLength) (maxL := 4) (ret := (some .int)) (by decide) rfl (Nat.le_of_ble_eq_true rfl) ?_
  intro p9 e9 s9 m9 w9 t9 k9 B htab9
  show Z p9 l e9 _ s9 m9 _ w9 t9 k9 _ G 4 0 [(0, .ref x), (1, .int a), (2, .ref o)] [] Φ sz 0 0
  refine z_aload_n B dL_messageLength_0 rfl 2 rfl ?_
  refine z_iconst (v := 0) B dL_messageLength_1 rfl ?_
  refine z_aload_n B dL_messageLength_2 rfl 0 rfl ?_
  refine z_iload_n B dL_messageLength_3 rfl 1 rfl ?_
  refine z_callVC (As := [.int a]) (rest := [.int 0, .ref o]) B (f_X11_messageLength_x G l hl9 Φ sz x a hc0_ hc46_) (cwV 1 B.1.2.2.2.2 gL_messageLength_X11_messageLength rfl rfl rfl (by decide +kernel) ⟨Nat.le_of_ble_eq_true rfl, Nat.le_of_ble_eq_true rfl⟩) hc0_ rfl rfl rfl rfl (Nat.le_of_ble_eq_true rfl) dL_messageLength_4 ⟨Nat.le_of_ble_eq_true rfl, Nat.le_of_ble_eq_true rfl⟩ [] ⟨0, 9, 12, 29⟩ [] (htab9.trans rfl) (fun z9 hz9 => absurd hz9 (List.not_mem_nil)) (by decide) (by decide) (by decide +kernel) (by decide) (fun q9 sz9 => ?_)
  refine z_astore_n (lv' := [(3, .ref q9), (0, .ref x), (1, .int a), (2, .ref o)]) B dL_messageLength_12 rfl (Nat.le_of_ble_eq_true rfl) rfl ?_
  refine z_iconst (v := 1) B dL_messageLength_13 rfl ?_
  exact z_ret_i B dL_messageLength_14 ⟨rfl, rfl⟩

set_option maxHeartbeats 4000000 in
set_option maxRecDepth 100000 in
theorem w_messageByte_x (G : EnvG) (l : Launch) (hl9 : l.stackTraces = false) (Φ : Hm) (sz : Nat) (x : Nat) (o : Nat) (a : Int32) (b : Int32) (hc0_ : Φ x = some (o_ 13 [.ref (x + 1), .ref (x + 3), .ref (x + 24), .ref (x + 46), .ref (x + 74), .ref (x + 80), .ref (x + 132), .ref (x + 121)])) (hc46_ : Φ (x + 46) = some (o_ 9 [.ref (x + 47), .int 0, .int 0])) : Ct G l yL_messageByte wsL_messageByte ({ frames := 8, cells := 1, slots := 6, locals := 124 }) 1 6 [.ref x, .int a, .int b, .ref o] Φ sz (fun v Φ1 sz1 => v = some (.int 1) ∧ Φ1 = Φ) := by
  refine Ct.ofH (cc := cL_messageByte) (maxL := 5) (ret := (some .int)) (by decide) rfl (Nat.le_of_ble_eq_true rfl) ?_
  intro p9 e9 s9 m9 w9 t9 k9 B htab9
  show Z p9 l e9 _ s9 m9 _ w9 t9 k9 _ G 5 0 [(0, .ref x), (1, .int a), (2, .int b), (3, .ref o)] [] Φ sz 0 0
  refine z_aload_n B dL_messageByte_0 rfl 3 rfl ?_
  refine z_iconst (v := 0) B dL_messageByte_1 rfl ?_
  refine z_aload_n B dL_messageByte_2 rfl 0 rfl ?_
  refine z_iload_n B dL_messageByte_3 rfl 1 rfl ?_
  refine z_iload_n B dL_messageByte_4 rfl 2 rfl ?_
  refine z_callVC (As := [.int a, .int b]) (rest := [.int 0, .ref o]) B (f_X11_messageByte_x G l hl9 Φ sz x a b hc0_ hc46_) (cwV 2 B.1.2.2.2.2 gL_messageByte_X11_messageByte rfl rfl rfl (by decide +kernel) ⟨Nat.le_of_ble_eq_true rfl, Nat.le_of_ble_eq_true rfl⟩) hc0_ rfl rfl rfl rfl (Nat.le_of_ble_eq_true rfl) dL_messageByte_5 ⟨Nat.le_of_ble_eq_true rfl, Nat.le_of_ble_eq_true rfl⟩ [] ⟨0, 10, 13, 29⟩ [] (htab9.trans rfl) (fun z9 hz9 => absurd hz9 (List.not_mem_nil)) (by decide) (by decide) (by decide +kernel) (by decide) (fun q9 sz9 => ?_)
  refine z_astore (lv' := [(4, .ref q9), (0, .ref x), (1, .int a), (2, .int b), (3, .ref o)]) B dL_messageByte_13 (Nat.le_of_ble_eq_true rfl) rfl ?_
  refine z_iconst (v := 1) B dL_messageByte_15 rfl ?_
  exact z_ret_i B dL_messageByte_16 ⟨rfl, rfl⟩

set_option maxHeartbeats 4000000 in
set_option maxRecDepth 100000 in
theorem w_deliver_x (G : EnvG) (l : Launch) (hl9 : l.stackTraces = false) (Φ : Hm) (sz : Nat) (x : Nat) (o : Nat) (a : Int32) (hc0_ : Φ x = some (o_ 13 [.ref (x + 1), .ref (x + 3), .ref (x + 24), .ref (x + 46), .ref (x + 74), .ref (x + 80), .ref (x + 132), .ref (x + 121)])) (hc46_ : Φ (x + 46) = some (o_ 9 [.ref (x + 47), .int 0, .int 0])) : Ct G l yL_deliver wsL_deliver ({ frames := 8, cells := 1, slots := 6, locals := 123 }) 1 6 [.ref x, .int a, .ref o] Φ sz (fun v Φ1 sz1 => v = some (.int 1) ∧ Φ1 = Φ) := by
  refine Ct.ofH (cc := cL_deliver) (maxL := 4) (ret := (some .int)) (by decide) rfl (Nat.le_of_ble_eq_true rfl) ?_
  intro p9 e9 s9 m9 w9 t9 k9 B htab9
  show Z p9 l e9 _ s9 m9 _ w9 t9 k9 _ G 4 0 [(0, .ref x), (1, .int a), (2, .ref o)] [] Φ sz 0 0
  refine z_aload_n B dL_deliver_0 rfl 2 rfl ?_
  refine z_iconst (v := 0) B dL_deliver_1 rfl ?_
  refine z_aload_n B dL_deliver_2 rfl 0 rfl ?_
  refine z_iload_n B dL_deliver_3 rfl 1 rfl ?_
  refine z_callVC (As := [.int a]) (rest := [.int 0, .ref o]) B (f_X11_deliver_x G l hl9 Φ sz x a hc0_ hc46_) (cwV 1 B.1.2.2.2.2 gL_deliver_X11_deliver rfl rfl rfl (by decide +kernel) ⟨Nat.le_of_ble_eq_true rfl, Nat.le_of_ble_eq_true rfl⟩) hc0_ rfl rfl rfl rfl (Nat.le_of_ble_eq_true rfl) dL_deliver_4 ⟨Nat.le_of_ble_eq_true rfl, Nat.le_of_ble_eq_true rfl⟩ [] ⟨0, 9, 12, 29⟩ [] (htab9.trans rfl) (fun z9 hz9 => absurd hz9 (List.not_mem_nil)) (by decide) (by decide) (by decide +kernel) (by decide) (fun q9 sz9 => ?_)
  refine z_astore_n (lv' := [(3, .ref q9), (0, .ref x), (1, .int a), (2, .ref o)]) B dL_deliver_12 rfl (Nat.le_of_ble_eq_true rfl) rfl ?_
  refine z_iconst (v := 1) B dL_deliver_13 rfl ?_
  exact z_ret_i B dL_deliver_14 ⟨rfl, rfl⟩

set_option maxHeartbeats 4000000 in
set_option maxRecDepth 100000 in
theorem w_lose_x (G : EnvG) (l : Launch) (hl9 : l.stackTraces = false) (Φ : Hm) (sz : Nat) (x : Nat) (o : Nat) (a : Int32) (hc0_ : Φ x = some (o_ 13 [.ref (x + 1), .ref (x + 3), .ref (x + 24), .ref (x + 46), .ref (x + 74), .ref (x + 80), .ref (x + 132), .ref (x + 121)])) (hc46_ : Φ (x + 46) = some (o_ 9 [.ref (x + 47), .int 0, .int 0])) : Ct G l yL_lose wsL_lose ({ frames := 8, cells := 1, slots := 6, locals := 123 }) 1 6 [.ref x, .int a, .ref o] Φ sz (fun v Φ1 sz1 => v = some (.int 1) ∧ Φ1 = Φ) := by
  refine Ct.ofH (cc := cL_lose) (maxL := 4) (ret := (some .int)) (by decide) rfl (Nat.le_of_ble_eq_true rfl) ?_
  intro p9 e9 s9 m9 w9 t9 k9 B htab9
  show Z p9 l e9 _ s9 m9 _ w9 t9 k9 _ G 4 0 [(0, .ref x), (1, .int a), (2, .ref o)] [] Φ sz 0 0
  refine z_aload_n B dL_lose_0 rfl 2 rfl ?_
  refine z_iconst (v := 0) B dL_lose_1 rfl ?_
  refine z_aload_n B dL_lose_2 rfl 0 rfl ?_
  refine z_iload_n B dL_lose_3 rfl 1 rfl ?_
  refine z_callVC (As := [.int a]) (rest := [.int 0, .ref o]) B (f_X11_lose_x G l hl9 Φ sz x a hc0_ hc46_) (cwV 1 B.1.2.2.2.2 gL_lose_X11_lose rfl rfl rfl (by decide +kernel) ⟨Nat.le_of_ble_eq_true rfl, Nat.le_of_ble_eq_true rfl⟩) hc0_ rfl rfl rfl rfl (Nat.le_of_ble_eq_true rfl) dL_lose_4 ⟨Nat.le_of_ble_eq_true rfl, Nat.le_of_ble_eq_true rfl⟩ [] ⟨0, 9, 12, 29⟩ [] (htab9.trans rfl) (fun z9 hz9 => absurd hz9 (List.not_mem_nil)) (by decide) (by decide) (by decide +kernel) (by decide) (fun q9 sz9 => ?_)
  refine z_astore_n (lv' := [(3, .ref q9), (0, .ref x), (1, .int a), (2, .ref o)]) B dL_lose_12 rfl (Nat.le_of_ble_eq_true rfl) rfl ?_
  refine z_iconst (v := 1) B dL_lose_13 rfl ?_
  exact z_ret_i B dL_lose_14 ⟨rfl, rfl⟩

set_option maxHeartbeats 4000000 in
set_option maxRecDepth 100000 in
theorem w_duplicate_x (G : EnvG) (l : Launch) (hl9 : l.stackTraces = false) (Φ : Hm) (sz : Nat) (x : Nat) (o : Nat) (a : Int32) (hc0_ : Φ x = some (o_ 13 [.ref (x + 1), .ref (x + 3), .ref (x + 24), .ref (x + 46), .ref (x + 74), .ref (x + 80), .ref (x + 132), .ref (x + 121)])) (hc46_ : Φ (x + 46) = some (o_ 9 [.ref (x + 47), .int 0, .int 0])) : Ct G l yL_duplicate wsL_duplicate ({ frames := 8, cells := 1, slots := 6, locals := 124 }) 1 6 [.ref x, .int a, .ref o] Φ sz (fun v Φ1 sz1 => v = some (.int 1) ∧ Φ1 = Φ) := by
  refine Ct.ofH (cc := cL_duplicate) (maxL := 4) (ret := (some .int)) (by decide) rfl (Nat.le_of_ble_eq_true rfl) ?_
  intro p9 e9 s9 m9 w9 t9 k9 B htab9
  show Z p9 l e9 _ s9 m9 _ w9 t9 k9 _ G 4 0 [(0, .ref x), (1, .int a), (2, .ref o)] [] Φ sz 0 0
  refine z_aload_n B dL_duplicate_0 rfl 2 rfl ?_
  refine z_iconst (v := 0) B dL_duplicate_1 rfl ?_
  refine z_aload_n B dL_duplicate_2 rfl 0 rfl ?_
  refine z_iload_n B dL_duplicate_3 rfl 1 rfl ?_
  refine z_callVC (As := [.int a]) (rest := [.int 0, .ref o]) B (f_X11_duplicate_x G l hl9 Φ sz x a hc0_ hc46_) (cwV 1 B.1.2.2.2.2 gL_duplicate_X11_duplicate rfl rfl rfl (by decide +kernel) ⟨Nat.le_of_ble_eq_true rfl, Nat.le_of_ble_eq_true rfl⟩) hc0_ rfl rfl rfl rfl (Nat.le_of_ble_eq_true rfl) dL_duplicate_4 ⟨Nat.le_of_ble_eq_true rfl, Nat.le_of_ble_eq_true rfl⟩ [] ⟨0, 16, 19, 29⟩ [] (htab9.trans rfl) (fun z9 hz9 => absurd hz9 (List.not_mem_nil)) (by decide) (by decide) (by decide +kernel) (by decide) (fun q9 sz9 => ?_)
  refine z_astore_n (lv' := [(3, .ref q9), (0, .ref x), (1, .int a), (2, .ref o)]) B dL_duplicate_19 rfl (Nat.le_of_ble_eq_true rfl) rfl ?_
  refine z_iconst (v := 1) B dL_duplicate_20 rfl ?_
  exact z_ret_i B dL_duplicate_21 ⟨rfl, rfl⟩

set_option maxHeartbeats 4000000 in
set_option maxRecDepth 100000 in
theorem w_exchange_x (G : EnvG) (l : Launch) (hl9 : l.stackTraces = false) (Φ : Hm) (sz : Nat) (x : Nat) (o : Nat) (a : Int32) (b : Int32) (hc0_ : Φ x = some (o_ 13 [.ref (x + 1), .ref (x + 3), .ref (x + 24), .ref (x + 46), .ref (x + 74), .ref (x + 80), .ref (x + 132), .ref (x + 121)])) (hc46_ : Φ (x + 46) = some (o_ 9 [.ref (x + 47), .int 0, .int 0])) : Ct G l yL_exchange wsL_exchange ({ frames := 8, cells := 1, slots := 6, locals := 124 }) 1 6 [.ref x, .int a, .int b, .ref o] Φ sz (fun v Φ1 sz1 => v = some (.int 1) ∧ Φ1 = Φ) := by
  refine Ct.ofH (cc := cL_exchange) (maxL := 5) (ret := (some .int)) (by decide) rfl (Nat.le_of_ble_eq_true rfl) ?_
  intro p9 e9 s9 m9 w9 t9 k9 B htab9
  show Z p9 l e9 _ s9 m9 _ w9 t9 k9 _ G 5 0 [(0, .ref x), (1, .int a), (2, .int b), (3, .ref o)] [] Φ sz 0 0
  refine z_aload_n B dL_exchange_0 rfl 3 rfl ?_
  refine z_iconst (v := 0) B dL_exchange_1 rfl ?_
  refine z_aload_n B dL_exchange_2 rfl 0 rfl ?_
  refine z_iload_n B dL_exchange_3 rfl 1 rfl ?_
  refine z_iload_n B dL_exchange_4 rfl 2 rfl ?_
  refine z_callVC (As := [.int a, .int b]) (rest := [.int 0, .ref o]) B (f_X11_exchange_x G l hl9 Φ sz x a b hc0_ hc46_) (cwV 2 B.1.2.2.2.2 gL_exchange_X11_exchange rfl rfl rfl (by decide +kernel) ⟨Nat.le_of_ble_eq_true rfl, Nat.le_of_ble_eq_true rfl⟩) hc0_ rfl rfl rfl rfl (Nat.le_of_ble_eq_true rfl) dL_exchange_5 ⟨Nat.le_of_ble_eq_true rfl, Nat.le_of_ble_eq_true rfl⟩ [] ⟨0, 17, 20, 29⟩ [] (htab9.trans rfl) (fun z9 hz9 => absurd hz9 (List.not_mem_nil)) (by decide) (by decide) (by decide +kernel) (by decide) (fun q9 sz9 => ?_)
  refine z_astore (lv' := [(4, .ref q9), (0, .ref x), (1, .int a), (2, .int b), (3, .ref o)]) B dL_exchange_20 (Nat.le_of_ble_eq_true rfl) rfl ?_
  refine z_iconst (v := 1) B dL_exchange_22 rfl ?_
  exact z_ret_i B dL_exchange_23 ⟨rfl, rfl⟩

set_option maxHeartbeats 4000000 in
set_option maxRecDepth 100000 in
theorem w_key_x (G : EnvG) (l : Launch) (hl9 : l.stackTraces = false) (Φ : Hm) (sz : Nat) (x : Nat) (o : Nat) (a : Int32) (b : Int32) (hc0_ : Φ x = some (o_ 13 [.ref (x + 1), .ref (x + 3), .ref (x + 24), .ref (x + 46), .ref (x + 74), .ref (x + 80), .ref (x + 132), .ref (x + 121)])) (hc121_ : Φ (x + 121) = some (o_ 11 [.ref (x + 122), .ref (x + 123), .ref (x + 126), .ref (x + 129), .int 0])) : Ct G l yL_key wsL_key ({ frames := 8, cells := 1, slots := 6, locals := 124 }) 1 6 [.ref x, .int a, .int b, .ref o] Φ sz (fun v Φ1 sz1 => v = some (.int 1) ∧ Φ1 = Φ) := by
  refine Ct.ofH (cc := cL_key) (maxL := 5) (ret := (some .int)) (by decide) rfl (Nat.le_of_ble_eq_true rfl) ?_
  intro p9 e9 s9 m9 w9 t9 k9 B htab9
  show Z p9 l e9 _ s9 m9 _ w9 t9 k9 _ G 5 0 [(0, .ref x), (1, .int a), (2, .int b), (3, .ref o)] [] Φ sz 0 0
  refine z_aload_n B dL_key_0 rfl 3 rfl ?_
  refine z_iconst (v := 0) B dL_key_1 rfl ?_
  refine z_aload_n B dL_key_2 rfl 0 rfl ?_
  refine z_iload_n B dL_key_3 rfl 1 rfl ?_
  refine z_iload_n B dL_key_4 rfl 2 rfl ?_
  refine z_callVC (As := [.int a, .int b]) (rest := [.int 0, .ref o]) B (f_X11_key_x G l hl9 Φ sz x a b hc0_ hc121_) (cwV 2 B.1.2.2.2.2 gL_key_X11_key rfl rfl rfl (by decide +kernel) ⟨Nat.le_of_ble_eq_true rfl, Nat.le_of_ble_eq_true rfl⟩) hc0_ rfl rfl rfl rfl (Nat.le_of_ble_eq_true rfl) dL_key_5 ⟨Nat.le_of_ble_eq_true rfl, Nat.le_of_ble_eq_true rfl⟩ [] ⟨0, 10, 13, 29⟩ [⟨0, 10, 17, 13⟩] (htab9.trans rfl) (fun z9 hz9 => absurd hz9 (List.not_mem_nil)) (by decide) (by decide) (by decide +kernel) (by decide) (fun q9 sz9 => ?_)
  refine z_astore (lv' := [(4, .ref q9), (0, .ref x), (1, .int a), (2, .int b), (3, .ref o)]) B dL_key_13 (Nat.le_of_ble_eq_true rfl) rfl ?_
  refine z_iconst (v := 1) B dL_key_15 rfl ?_
  exact z_ret_i B dL_key_16 ⟨rfl, rfl⟩

set_option maxHeartbeats 4000000 in
set_option maxRecDepth 100000 in
theorem w_raw_x (G : EnvG) (l : Launch) (hl9 : l.stackTraces = false) (Φ : Hm) (sz : Nat) (x : Nat) (o : Nat) (a : Int32) (b : Int32) (hc0_ : Φ x = some (o_ 13 [.ref (x + 1), .ref (x + 3), .ref (x + 24), .ref (x + 46), .ref (x + 74), .ref (x + 80), .ref (x + 132), .ref (x + 121)])) (hc121_ : Φ (x + 121) = some (o_ 11 [.ref (x + 122), .ref (x + 123), .ref (x + 126), .ref (x + 129), .int 0])) : Ct G l yL_raw wsL_raw ({ frames := 8, cells := 1, slots := 6, locals := 124 }) 1 6 [.ref x, .int a, .int b, .ref o] Φ sz (fun v Φ1 sz1 => v = some (.int 1) ∧ Φ1 = Φ) := by
  refine Ct.ofH (cc := cL_raw) (maxL := 5) (ret := (some .int)) (by decide) rfl (Nat.le_of_ble_eq_true rfl) ?_
  intro p9 e9 s9 m9 w9 t9 k9 B htab9
  show Z p9 l e9 _ s9 m9 _ w9 t9 k9 _ G 5 0 [(0, .ref x), (1, .int a), (2, .int b), (3, .ref o)] [] Φ sz 0 0
  refine z_aload_n B dL_raw_0 rfl 3 rfl ?_
  refine z_iconst (v := 0) B dL_raw_1 rfl ?_
  refine z_aload_n B dL_raw_2 rfl 0 rfl ?_
  refine z_iload_n B dL_raw_3 rfl 1 rfl ?_
  refine z_iload_n B dL_raw_4 rfl 2 rfl ?_
  refine z_callVC (As := [.int a, .int b]) (rest := [.int 0, .ref o]) B (f_X11_raw_x G l hl9 Φ sz x a b hc0_ hc121_) (cwV 2 B.1.2.2.2.2 gL_raw_X11_raw rfl rfl rfl (by decide +kernel) ⟨Nat.le_of_ble_eq_true rfl, Nat.le_of_ble_eq_true rfl⟩) hc0_ rfl rfl rfl rfl (Nat.le_of_ble_eq_true rfl) dL_raw_5 ⟨Nat.le_of_ble_eq_true rfl, Nat.le_of_ble_eq_true rfl⟩ [] ⟨0, 9, 12, 29⟩ [⟨0, 9, 16, 13⟩] (htab9.trans rfl) (fun z9 hz9 => absurd hz9 (List.not_mem_nil)) (by decide) (by decide) (by decide +kernel) (by decide) (fun q9 sz9 => ?_)
  refine z_astore (lv' := [(4, .ref q9), (0, .ref x), (1, .int a), (2, .int b), (3, .ref o)]) B dL_raw_12 (Nat.le_of_ble_eq_true rfl) rfl ?_
  refine z_iconst (v := 1) B dL_raw_14 rfl ?_
  exact z_ret_i B dL_raw_15 ⟨rfl, rfl⟩

set_option maxHeartbeats 4000000 in
set_option maxRecDepth 100000 in
theorem w_estimate_x (G : EnvG) (l : Launch) (hl9 : l.stackTraces = false) (Φ : Hm) (sz : Nat) (x : Nat) (o : Nat) (a : Int32) (b : Int32) (hc0_ : Φ x = some (o_ 13 [.ref (x + 1), .ref (x + 3), .ref (x + 24), .ref (x + 46), .ref (x + 74), .ref (x + 80), .ref (x + 132), .ref (x + 121)])) (hc121_ : Φ (x + 121) = some (o_ 11 [.ref (x + 122), .ref (x + 123), .ref (x + 126), .ref (x + 129), .int 0])) : Ct G l yL_estimate wsL_estimate ({ frames := 8, cells := 1, slots := 6, locals := 124 }) 1 6 [.ref x, .int a, .int b, .ref o] Φ sz (fun v Φ1 sz1 => v = some (.int 1) ∧ Φ1 = Φ) := by
  refine Ct.ofH (cc := cL_estimate) (maxL := 5) (ret := (some .int)) (by decide) rfl (Nat.le_of_ble_eq_true rfl) ?_
  intro p9 e9 s9 m9 w9 t9 k9 B htab9
  show Z p9 l e9 _ s9 m9 _ w9 t9 k9 _ G 5 0 [(0, .ref x), (1, .int a), (2, .int b), (3, .ref o)] [] Φ sz 0 0
  refine z_aload_n B dL_estimate_0 rfl 3 rfl ?_
  refine z_iconst (v := 0) B dL_estimate_1 rfl ?_
  refine z_aload_n B dL_estimate_2 rfl 0 rfl ?_
  refine z_iload_n B dL_estimate_3 rfl 1 rfl ?_
  refine z_iload_n B dL_estimate_4 rfl 2 rfl ?_
  refine z_callVC (As := [.int a, .int b]) (rest := [.int 0, .ref o]) B (f_X11_estimate_x G l hl9 Φ sz x a b hc0_ hc121_) (cwV 2 B.1.2.2.2.2 gL_estimate_X11_estimate rfl rfl rfl (by decide +kernel) ⟨Nat.le_of_ble_eq_true rfl, Nat.le_of_ble_eq_true rfl⟩) hc0_ rfl rfl rfl rfl (Nat.le_of_ble_eq_true rfl) dL_estimate_5 ⟨Nat.le_of_ble_eq_true rfl, Nat.le_of_ble_eq_true rfl⟩ [] ⟨0, 9, 12, 29⟩ [⟨0, 9, 16, 13⟩] (htab9.trans rfl) (fun z9 hz9 => absurd hz9 (List.not_mem_nil)) (by decide) (by decide) (by decide +kernel) (by decide) (fun q9 sz9 => ?_)
  refine z_astore (lv' := [(4, .ref q9), (0, .ref x), (1, .int a), (2, .int b), (3, .ref o)]) B dL_estimate_12 (Nat.le_of_ble_eq_true rfl) rfl ?_
  refine z_iconst (v := 1) B dL_estimate_14 rfl ?_
  exact z_ret_i B dL_estimate_15 ⟨rfl, rfl⟩

set_option maxHeartbeats 4000000 in
set_option maxRecDepth 100000 in
theorem w_lower_x (G : EnvG) (l : Launch) (hl9 : l.stackTraces = false) (Φ : Hm) (sz : Nat) (x : Nat) (o : Nat) (a : Int32) (b : Int32) (hc0_ : Φ x = some (o_ 13 [.ref (x + 1), .ref (x + 3), .ref (x + 24), .ref (x + 46), .ref (x + 74), .ref (x + 80), .ref (x + 132), .ref (x + 121)])) (hc121_ : Φ (x + 121) = some (o_ 11 [.ref (x + 122), .ref (x + 123), .ref (x + 126), .ref (x + 129), .int 0])) : Ct G l yL_lower wsL_lower ({ frames := 8, cells := 1, slots := 6, locals := 124 }) 1 6 [.ref x, .int a, .int b, .ref o] Φ sz (fun v Φ1 sz1 => v = some (.int 1) ∧ Φ1 = Φ) := by
  refine Ct.ofH (cc := cL_lower) (maxL := 5) (ret := (some .int)) (by decide) rfl (Nat.le_of_ble_eq_true rfl) ?_
  intro p9 e9 s9 m9 w9 t9 k9 B htab9
  show Z p9 l e9 _ s9 m9 _ w9 t9 k9 _ G 5 0 [(0, .ref x), (1, .int a), (2, .int b), (3, .ref o)] [] Φ sz 0 0
  refine z_aload_n B dL_lower_0 rfl 3 rfl ?_
  refine z_iconst (v := 0) B dL_lower_1 rfl ?_
  refine z_aload_n B dL_lower_2 rfl 0 rfl ?_
  refine z_iload_n B dL_lower_3 rfl 1 rfl ?_
  refine z_iload_n B dL_lower_4 rfl 2 rfl ?_
  refine z_callVC (As := [.int a, .int b]) (rest := [.int 0, .ref o]) B (f_X11_lower_x G l hl9 Φ sz x a b hc0_ hc121_) (cwV 2 B.1.2.2.2.2 gL_lower_X11_lower rfl rfl rfl (by decide +kernel) ⟨Nat.le_of_ble_eq_true rfl, Nat.le_of_ble_eq_true rfl⟩) hc0_ rfl rfl rfl rfl (Nat.le_of_ble_eq_true rfl) dL_lower_5 ⟨Nat.le_of_ble_eq_true rfl, Nat.le_of_ble_eq_true rfl⟩ [] ⟨0, 9, 12, 29⟩ [⟨0, 9, 16, 13⟩] (htab9.trans rfl) (fun z9 hz9 => absurd hz9 (List.not_mem_nil)) (by decide) (by decide) (by decide +kernel) (by decide) (fun q9 sz9 => ?_)
  refine z_astore (lv' := [(4, .ref q9), (0, .ref x), (1, .int a), (2, .int b), (3, .ref o)]) B dL_lower_12 (Nat.le_of_ble_eq_true rfl) rfl ?_
  refine z_iconst (v := 1) B dL_lower_14 rfl ?_
  exact z_ret_i B dL_lower_15 ⟨rfl, rfl⟩

set_option maxHeartbeats 4000000 in
set_option maxRecDepth 100000 in
theorem w_upper_x (G : EnvG) (l : Launch) (hl9 : l.stackTraces = false) (Φ : Hm) (sz : Nat) (x : Nat) (o : Nat) (a : Int32) (b : Int32) (hc0_ : Φ x = some (o_ 13 [.ref (x + 1), .ref (x + 3), .ref (x + 24), .ref (x + 46), .ref (x + 74), .ref (x + 80), .ref (x + 132), .ref (x + 121)])) (hc121_ : Φ (x + 121) = some (o_ 11 [.ref (x + 122), .ref (x + 123), .ref (x + 126), .ref (x + 129), .int 0])) : Ct G l yL_upper wsL_upper ({ frames := 8, cells := 1, slots := 6, locals := 124 }) 1 6 [.ref x, .int a, .int b, .ref o] Φ sz (fun v Φ1 sz1 => v = some (.int 1) ∧ Φ1 = Φ) := by
  refine Ct.ofH (cc := cL_upper) (maxL := 5) (ret := (some .int)) (by decide) rfl (Nat.le_of_ble_eq_true rfl) ?_
  intro p9 e9 s9 m9 w9 t9 k9 B htab9
  show Z p9 l e9 _ s9 m9 _ w9 t9 k9 _ G 5 0 [(0, .ref x), (1, .int a), (2, .int b), (3, .ref o)] [] Φ sz 0 0
  refine z_aload_n B dL_upper_0 rfl 3 rfl ?_
  refine z_iconst (v := 0) B dL_upper_1 rfl ?_
  refine z_aload_n B dL_upper_2 rfl 0 rfl ?_
  refine z_iload_n B dL_upper_3 rfl 1 rfl ?_
  refine z_iload_n B dL_upper_4 rfl 2 rfl ?_
  refine z_callVC (As := [.int a, .int b]) (rest := [.int 0, .ref o]) B (f_X11_upper_x G l hl9 Φ sz x a b hc0_ hc121_) (cwV 2 B.1.2.2.2.2 gL_upper_X11_upper rfl rfl rfl (by decide +kernel) ⟨Nat.le_of_ble_eq_true rfl, Nat.le_of_ble_eq_true rfl⟩) hc0_ rfl rfl rfl rfl (Nat.le_of_ble_eq_true rfl) dL_upper_5 ⟨Nat.le_of_ble_eq_true rfl, Nat.le_of_ble_eq_true rfl⟩ [] ⟨0, 9, 12, 29⟩ [⟨0, 9, 16, 13⟩] (htab9.trans rfl) (fun z9 hz9 => absurd hz9 (List.not_mem_nil)) (by decide) (by decide) (by decide +kernel) (by decide) (fun q9 sz9 => ?_)
  refine z_astore (lv' := [(4, .ref q9), (0, .ref x), (1, .int a), (2, .int b), (3, .ref o)]) B dL_upper_12 (Nat.le_of_ble_eq_true rfl) rfl ?_
  refine z_iconst (v := 1) B dL_upper_14 rfl ?_
  exact z_ret_i B dL_upper_15 ⟨rfl, rfl⟩

set_option maxHeartbeats 4000000 in
set_option maxRecDepth 100000 in
theorem w_templateFields (G : EnvG) (l : Launch) (Φ : Hm) (sz : Nat) (x : Nat) (o : Nat) (gg : Nat → Int64) (hc0_ : Φ x = some (o_ 13 [.ref (x + 1), .ref (x + 3), .ref (x + 24), .ref (x + 46), .ref (x + 74), .ref (x + 80), .ref (x + 132), .ref (x + 121)])) (hc3_ : Φ (x + 3) = some (o_ 3 [.ref (x + 4), .ref (x + 5), .ref (x + 6), .ref (x + 7), .int 1, .int 511])) (hc6_ : Φ (x + 6) = some (aq_ G 4 4 (va_up (va_up (va_up (va_up (fun _ => none) (0 : Int32).toNatClampNeg (some (x + 8))) (1 : Int32).toNatClampNeg (some (x + 12))) (2 : Int32).toNatClampNeg (some (x + 16))) (3 : Int32).toNatClampNeg (some (x + 20))))) (hc8_ : Φ (x + 8) = some (o_ 12 [.ref (x + 9), .int 9, .int 511, .int 29])) (hco : Φ o = some (al_ G 1 gg)) (hna : G.2.2.2 ≤ x) (ho : x + 149 ≤ o) : Ct G l yL_templateFields wsL_templateFields ({ frames := 2, cells := 0, slots := 0, locals := 42 }) 0 0 [.ref x, .int 0, .ref o] Φ sz (fun v Φ1 sz1 => v = some (.int 0) ∧ (∀ b9 : Nat, x + 149 ≤ b9 → b9 ≠ o → Φ1 b9 = Φ b9) ∧ ∃ g1 : Nat → Int64, Φ1 o = some (al_ G 1 g1) ∧ g1 0 = 511) := by
  refine Ct.ofH (cc := cL_templateFields) (maxL := 4) (ret := (some .int)) (by decide) rfl (Nat.le_of_ble_eq_true rfl) ?_
  intro p9 e9 s9 m9 w9 t9 k9 B htab9
  show Z p9 l e9 _ s9 m9 _ w9 t9 k9 _ G 4 0 [(0, .ref x), (1, .int 0), (2, .ref o)] [] Φ sz 0 0
  refine z_aload_n B dL_templateFields_0 rfl 2 rfl ?_
  refine z_iconst (v := 0) B dL_templateFields_1 rfl ?_
  refine z_aload_n B dL_templateFields_2 rfl 0 rfl ?_
  refine z_iload_n B dL_templateFields_3 rfl 1 rfl ?_
  refine z_callV (As := [.int 0]) (rest := [.int 0, .ref o]) B (f_X11_templateFields G l Φ sz x hc0_ hc3_ hc6_ hc8_) (cwV 1 B.1.2.2.2.2 gL_templateFields_X11_templateFields rfl rfl rfl (by decide +kernel) ⟨Nat.le_of_ble_eq_true rfl, Nat.le_of_ble_eq_true rfl⟩) hc0_ rfl rfl rfl rfl (Nat.le_of_ble_eq_true rfl) dL_templateFields_4 ⟨Nat.le_of_ble_eq_true rfl, Nat.le_of_ble_eq_true rfl⟩ (fun v1 Φ1 sz1 st1 hp1 hs1 => ?_)
  obtain ⟨rfl, fr1⟩ := hp1
  replace hs1 : st1 = [.int 511, .int 0, .ref o] := hs1
  subst st1
  refine z_i2l (v := 511) B dL_templateFields_7 (by decide +kernel) ?_
  have h_1 : Φ1 o = some (al_ G 1 gg) := ((fr1 o ho).trans hco)
  refine z_last B h_1 (Nat.le_trans hna (Nat.le_trans (Nat.le_add_right x 149) ho)) (vin rfl) dL_templateFields_8 (fun Φ2 hΦ1 => ?_)
  have h_2 : Φ2 o = some (al_ G 1 (vp_updL gg (0 : Int32).toNatClampNeg 511)) := fset_at hΦ1
  refine z_goto (tgt := 15) B dL_templateFields_9 rfl ?_
  refine z_iconst (v := 0) B dL_templateFields_15 rfl ?_
  exact z_ret_i B dL_templateFields_16 ⟨rfl, (fun b9 h9 h8 => ((fset_fr hΦ1 h8).trans ((fr1 b9 h9).trans rfl))), _, h_2, rfl⟩

set_option maxHeartbeats 4000000 in
set_option maxRecDepth 100000 in
theorem w_effectiveFields (G : EnvG) (l : Launch) (Φ : Hm) (sz : Nat) (x : Nat) (o : Nat) (gg : Nat → Int64) (hc0_ : Φ x = some (o_ 13 [.ref (x + 1), .ref (x + 3), .ref (x + 24), .ref (x + 46), .ref (x + 74), .ref (x + 80), .ref (x + 132), .ref (x + 121)])) (hc3_ : Φ (x + 3) = some (o_ 3 [.ref (x + 4), .ref (x + 5), .ref (x + 6), .ref (x + 7), .int 1, .int 511])) (hc7_ : Φ (x + 7) = some (aq_ G 4 4 (va_up (va_up (va_up (va_up (fun _ => none) (0 : Int32).toNatClampNeg (some (x + 10))) (1 : Int32).toNatClampNeg (some (x + 14))) (2 : Int32).toNatClampNeg (some (x + 18))) (3 : Int32).toNatClampNeg (some (x + 22))))) (hc10_ : Φ (x + 10) = some (o_ 12 [.ref (x + 11), .int 9, .int 511, .int 29])) (hco : Φ o = some (al_ G 1 gg)) (hna : G.2.2.2 ≤ x) (ho : x + 149 ≤ o) : Ct G l yL_effectiveFields wsL_effectiveFields ({ frames := 2, cells := 0, slots := 0, locals := 42 }) 0 0 [.ref x, .int 0, .ref o] Φ sz (fun v Φ1 sz1 => v = some (.int 0) ∧ (∀ b9 : Nat, x + 149 ≤ b9 → b9 ≠ o → Φ1 b9 = Φ b9) ∧ ∃ g1 : Nat → Int64, Φ1 o = some (al_ G 1 g1) ∧ g1 0 = 511) := by
  refine Ct.ofH (cc := cL_effectiveFields) (maxL := 4) (ret := (some .int)) (by decide) rfl (Nat.le_of_ble_eq_true rfl) ?_
  intro p9 e9 s9 m9 w9 t9 k9 B htab9
  show Z p9 l e9 _ s9 m9 _ w9 t9 k9 _ G 4 0 [(0, .ref x), (1, .int 0), (2, .ref o)] [] Φ sz 0 0
  refine z_aload_n B dL_effectiveFields_0 rfl 2 rfl ?_
  refine z_iconst (v := 0) B dL_effectiveFields_1 rfl ?_
  refine z_aload_n B dL_effectiveFields_2 rfl 0 rfl ?_
  refine z_iload_n B dL_effectiveFields_3 rfl 1 rfl ?_
  refine z_callV (As := [.int 0]) (rest := [.int 0, .ref o]) B (f_X11_effectiveFields G l Φ sz x hc0_ hc3_ hc7_ hc10_) (cwV 1 B.1.2.2.2.2 gL_effectiveFields_X11_effectiveFields rfl rfl rfl (by decide +kernel) ⟨Nat.le_of_ble_eq_true rfl, Nat.le_of_ble_eq_true rfl⟩) hc0_ rfl rfl rfl rfl (Nat.le_of_ble_eq_true rfl) dL_effectiveFields_4 ⟨Nat.le_of_ble_eq_true rfl, Nat.le_of_ble_eq_true rfl⟩ (fun v1 Φ1 sz1 st1 hp1 hs1 => ?_)
  obtain ⟨rfl, fr1⟩ := hp1
  replace hs1 : st1 = [.int 511, .int 0, .ref o] := hs1
  subst st1
  refine z_i2l (v := 511) B dL_effectiveFields_7 (by decide +kernel) ?_
  have h_1 : Φ1 o = some (al_ G 1 gg) := ((fr1 o ho).trans hco)
  refine z_last B h_1 (Nat.le_trans hna (Nat.le_trans (Nat.le_add_right x 149) ho)) (vin rfl) dL_effectiveFields_8 (fun Φ2 hΦ1 => ?_)
  have h_2 : Φ2 o = some (al_ G 1 (vp_updL gg (0 : Int32).toNatClampNeg 511)) := fset_at hΦ1
  refine z_goto (tgt := 15) B dL_effectiveFields_9 rfl ?_
  refine z_iconst (v := 0) B dL_effectiveFields_15 rfl ?_
  exact z_ret_i B dL_effectiveFields_16 ⟨rfl, (fun b9 h9 h8 => ((fset_fr hΦ1 h8).trans ((fr1 b9 h9).trans rfl))), _, h_2, rfl⟩

set_option maxHeartbeats 4000000 in
set_option maxRecDepth 100000 in
theorem w_recordLength (G : EnvG) (l : Launch) (Φ : Hm) (sz : Nat) (x : Nat) (o : Nat) (gg : Nat → Int64) (hc0_ : Φ x = some (o_ 13 [.ref (x + 1), .ref (x + 3), .ref (x + 24), .ref (x + 46), .ref (x + 74), .ref (x + 80), .ref (x + 132), .ref (x + 121)])) (hc3_ : Φ (x + 3) = some (o_ 3 [.ref (x + 4), .ref (x + 5), .ref (x + 6), .ref (x + 7), .int 1, .int 511])) (hc7_ : Φ (x + 7) = some (aq_ G 4 4 (va_up (va_up (va_up (va_up (fun _ => none) (0 : Int32).toNatClampNeg (some (x + 10))) (1 : Int32).toNatClampNeg (some (x + 14))) (2 : Int32).toNatClampNeg (some (x + 18))) (3 : Int32).toNatClampNeg (some (x + 22))))) (hc10_ : Φ (x + 10) = some (o_ 12 [.ref (x + 11), .int 9, .int 511, .int 29])) (hco : Φ o = some (al_ G 1 gg)) (hna : G.2.2.2 ≤ x) (ho : x + 149 ≤ o) : Ct G l yL_recordLength wsL_recordLength ({ frames := 2, cells := 0, slots := 0, locals := 42 }) 0 0 [.ref x, .int 0, .ref o] Φ sz (fun v Φ1 sz1 => v = some (.int 0) ∧ (∀ b9 : Nat, x + 149 ≤ b9 → b9 ≠ o → Φ1 b9 = Φ b9) ∧ ∃ g1 : Nat → Int64, Φ1 o = some (al_ G 1 g1) ∧ g1 0 = 29) := by
  refine Ct.ofH (cc := cL_recordLength) (maxL := 4) (ret := (some .int)) (by decide) rfl (Nat.le_of_ble_eq_true rfl) ?_
  intro p9 e9 s9 m9 w9 t9 k9 B htab9
  show Z p9 l e9 _ s9 m9 _ w9 t9 k9 _ G 4 0 [(0, .ref x), (1, .int 0), (2, .ref o)] [] Φ sz 0 0
  refine z_aload_n B dL_recordLength_0 rfl 2 rfl ?_
  refine z_iconst (v := 0) B dL_recordLength_1 rfl ?_
  refine z_aload_n B dL_recordLength_2 rfl 0 rfl ?_
  refine z_iload_n B dL_recordLength_3 rfl 1 rfl ?_
  refine z_callV (As := [.int 0]) (rest := [.int 0, .ref o]) B (f_X11_recordLength G l Φ sz x hc0_ hc3_ hc7_ hc10_) (cwV 1 B.1.2.2.2.2 gL_recordLength_X11_recordLength rfl rfl rfl (by decide +kernel) ⟨Nat.le_of_ble_eq_true rfl, Nat.le_of_ble_eq_true rfl⟩) hc0_ rfl rfl rfl rfl (Nat.le_of_ble_eq_true rfl) dL_recordLength_4 ⟨Nat.le_of_ble_eq_true rfl, Nat.le_of_ble_eq_true rfl⟩ (fun v1 Φ1 sz1 st1 hp1 hs1 => ?_)
  obtain ⟨rfl, fr1⟩ := hp1
  replace hs1 : st1 = [.int 29, .int 0, .ref o] := hs1
  subst st1
  refine z_i2l (v := 29) B dL_recordLength_7 (by decide +kernel) ?_
  have h_1 : Φ1 o = some (al_ G 1 gg) := ((fr1 o ho).trans hco)
  refine z_last B h_1 (Nat.le_trans hna (Nat.le_trans (Nat.le_add_right x 149) ho)) (vin rfl) dL_recordLength_8 (fun Φ2 hΦ1 => ?_)
  have h_2 : Φ2 o = some (al_ G 1 (vp_updL gg (0 : Int32).toNatClampNeg 29)) := fset_at hΦ1
  refine z_goto (tgt := 15) B dL_recordLength_9 rfl ?_
  refine z_iconst (v := 0) B dL_recordLength_15 rfl ?_
  exact z_ret_i B dL_recordLength_16 ⟨rfl, (fun b9 h9 h8 => ((fset_fr hΦ1 h8).trans ((fr1 b9 h9).trans rfl))), _, h_2, rfl⟩

set_option maxHeartbeats 4000000 in
set_option maxRecDepth 100000 in
theorem w_isDue (G : EnvG) (l : Launch) (Φ : Hm) (sz : Nat) (x : Nat) (o : Nat) (gg : Nat → Int64) (hc0_ : Φ x = some (o_ 13 [.ref (x + 1), .ref (x + 3), .ref (x + 24), .ref (x + 46), .ref (x + 74), .ref (x + 80), .ref (x + 132), .ref (x + 121)])) (hc3_ : Φ (x + 3) = some (o_ 3 [.ref (x + 4), .ref (x + 5), .ref (x + 6), .ref (x + 7), .int 1, .int 511])) (hc7_ : Φ (x + 7) = some (aq_ G 4 4 (va_up (va_up (va_up (va_up (fun _ => none) (0 : Int32).toNatClampNeg (some (x + 10))) (1 : Int32).toNatClampNeg (some (x + 14))) (2 : Int32).toNatClampNeg (some (x + 18))) (3 : Int32).toNatClampNeg (some (x + 22))))) (hc10_ : Φ (x + 10) = some (o_ 12 [.ref (x + 11), .int 9, .int 511, .int 29])) (hc74_ : Φ (x + 74) = some (o_ 10 [.ref (x + 3), .ref (x + 46), .ref (x + 75), .ref (x + 77), .int 0, .ref (x + 78), .ref (x + 79), .int 0, .long 0, .int 0])) (hc78_ : Φ (x + 78) = some (ai_ G 4 (fun _ => 0))) (hc80_ : Φ (x + 80) = some (o_ 4 [.ref (x + 3), .ref (x + 74), .ref (x + 81), .ref (x + 95), .int 0, .int 1, .int 1, .int 0, .int 0, .int 0, .long 0, .long 0, .long 0])) (hco : Φ o = some (al_ G 1 gg)) (hna : G.2.2.2 ≤ x) (ho : x + 149 ≤ o) : Ct G l yL_isDue wsL_isDue ({ frames := 3, cells := 0, slots := 0, locals := 64 }) 0 0 [.ref x, .int 0, .ref o] Φ sz (fun v Φ1 sz1 => v = some (.int 0) ∧ (∀ b9 : Nat, x + 149 ≤ b9 → b9 ≠ o → Φ1 b9 = Φ b9) ∧ ∃ g1 : Nat → Int64, Φ1 o = some (al_ G 1 g1) ∧ g1 0 = 1) := by
  refine Ct.ofH (cc := cL_isDue) (maxL := 4) (ret := (some .int)) (by decide) rfl (Nat.le_of_ble_eq_true rfl) ?_
  intro p9 e9 s9 m9 w9 t9 k9 B htab9
  show Z p9 l e9 _ s9 m9 _ w9 t9 k9 _ G 4 0 [(0, .ref x), (1, .int 0), (2, .ref o)] [] Φ sz 0 0
  refine z_aload_n B dL_isDue_0 rfl 2 rfl ?_
  refine z_iconst (v := 0) B dL_isDue_1 rfl ?_
  refine z_aload_n B dL_isDue_2 rfl 0 rfl ?_
  refine z_iload_n B dL_isDue_3 rfl 1 rfl ?_
  refine z_callV (As := [.int 0]) (rest := [.int 0, .ref o]) B (f_X11_isDue G l Φ sz x hc0_ hc3_ hc7_ hc10_ hc74_ hc78_ hc80_) (cwV 1 B.1.2.2.2.2 gL_isDue_X11_isDue rfl rfl rfl (by decide +kernel) ⟨Nat.le_of_ble_eq_true rfl, Nat.le_of_ble_eq_true rfl⟩) hc0_ rfl rfl rfl rfl (Nat.le_of_ble_eq_true rfl) dL_isDue_4 ⟨Nat.le_of_ble_eq_true rfl, Nat.le_of_ble_eq_true rfl⟩ (fun v1 Φ1 sz1 st1 hp1 hs1 => ?_)
  obtain ⟨rfl, fr1⟩ := hp1
  replace hs1 : st1 = [.int 1, .int 0, .ref o] := hs1
  subst st1
  refine z_if_eq (tgt := 14) B dL_isDue_7 rfl (fun h9 => absurd h9 (by decide)) (fun c_1 => ?_)
  refine z_lconst (v := 1) B dL_isDue_10 rfl ?_
  refine z_goto (tgt := 15) B dL_isDue_11 rfl ?_
  have h_1 : Φ1 o = some (al_ G 1 gg) := ((fr1 o ho).trans hco)
  refine z_last B h_1 (Nat.le_trans hna (Nat.le_trans (Nat.le_add_right x 149) ho)) (vin rfl) dL_isDue_15 (fun Φ2 hΦ1 => ?_)
  have h_2 : Φ2 o = some (al_ G 1 (vp_updL gg (0 : Int32).toNatClampNeg 1)) := fset_at hΦ1
  refine z_goto (tgt := 22) B dL_isDue_16 rfl ?_
  refine z_iconst (v := 0) B dL_isDue_22 rfl ?_
  exact z_ret_i B dL_isDue_23 ⟨rfl, (fun b9 h9 h8 => ((fset_fr hΦ1 h8).trans ((fr1 b9 h9).trans rfl))), _, h_2, rfl⟩

set_option maxHeartbeats 4000000 in
set_option maxRecDepth 100000 in
theorem w_templateAge_0 (G : EnvG) (l : Launch) (Φ : Hm) (sz : Nat) (x : Nat) (o : Nat) (gg : Nat → Int64) (hc0_ : Φ x = some (o_ 13 [.ref (x + 1), .ref (x + 3), .ref (x + 24), .ref (x + 46), .ref (x + 74), .ref (x + 80), .ref (x + 132), .ref (x + 121)])) (hc80_ : Φ (x + 80) = some (o_ 4 [.ref (x + 3), .ref (x + 74), .ref (x + 81), .ref (x + 95), .int 0, .int 1, .int 1, .int 0, .int 0, .int 0, .long 0, .long 0, .long 0])) (hc132_ : Φ (x + 132) = some (o_ 2 [.ref (x + 3), .ref (x + 121), .ref (x + 133), .ref (x + 134), .ref (x + 135), .ref (x + 137), .ref (x + 138), .ref (x + 139), .ref (x + 140), .int 0, .int 0, .int 0])) (hc133_ : Φ (x + 133) = some (aq_ G 4 4 (va_up (va_up (va_up (va_up (fun _ => none) (0 : Int32).toNatClampNeg (some (x + 141))) (1 : Int32).toNatClampNeg (some (x + 143))) (2 : Int32).toNatClampNeg (some (x + 145))) (3 : Int32).toNatClampNeg (some (x + 147))))) (hc141_ : Φ (x + 141) = some (o_ 12 [.ref (x + 142), .int 0, .int 0, .int 0])) (hco : Φ o = some (al_ G 1 gg)) (hna : G.2.2.2 ≤ x) (ho : x + 149 ≤ o) : Ct G l yL_templateAge wsL_templateAge ({ frames := 2, cells := 0, slots := 0, locals := 43 }) 0 0 [.ref x, .int 0, .ref o] Φ sz (fun v Φ1 sz1 => v = some (.int 0) ∧ (∀ b9 : Nat, x + 149 ≤ b9 → b9 ≠ o → Φ1 b9 = Φ b9) ∧ ∃ g1 : Nat → Int64, Φ1 o = some (al_ G 1 g1) ∧ g1 0 = (-1)) := by
  refine Ct.ofH (cc := cL_templateAge) (maxL := 4) (ret := (some .int)) (by decide) rfl (Nat.le_of_ble_eq_true rfl) ?_
  intro p9 e9 s9 m9 w9 t9 k9 B htab9
  show Z p9 l e9 _ s9 m9 _ w9 t9 k9 _ G 4 0 [(0, .ref x), (1, .int 0), (2, .ref o)] [] Φ sz 0 0
  refine z_aload_n B dL_templateAge_0 rfl 2 rfl ?_
  refine z_iconst (v := 0) B dL_templateAge_1 rfl ?_
  refine z_aload_n B dL_templateAge_2 rfl 0 rfl ?_
  refine z_iload_n B dL_templateAge_3 rfl 1 rfl ?_
  refine z_callV (As := [.int 0]) (rest := [.int 0, .ref o]) B (f_X11_templateAge_0 G l Φ sz x hc0_ hc80_ hc132_ hc133_ hc141_) (cwV 1 B.1.2.2.2.2 gL_templateAge_X11_templateAge rfl rfl rfl (by decide +kernel) ⟨Nat.le_of_ble_eq_true rfl, Nat.le_of_ble_eq_true rfl⟩) hc0_ rfl rfl rfl rfl (Nat.le_of_ble_eq_true rfl) dL_templateAge_4 ⟨Nat.le_of_ble_eq_true rfl, Nat.le_of_ble_eq_true rfl⟩ (fun v1 Φ1 sz1 st1 hp1 hs1 => ?_)
  obtain ⟨rfl, fr1⟩ := hp1
  replace hs1 : st1 = [.int (-1), .int 0, .ref o] := hs1
  subst st1
  refine z_i2l (v := (-1)) B dL_templateAge_7 (by decide +kernel) ?_
  have h_1 : Φ1 o = some (al_ G 1 gg) := ((fr1 o ho).trans hco)
  refine z_last B h_1 (Nat.le_trans hna (Nat.le_trans (Nat.le_add_right x 149) ho)) (vin rfl) dL_templateAge_8 (fun Φ2 hΦ1 => ?_)
  have h_2 : Φ2 o = some (al_ G 1 (vp_updL gg (0 : Int32).toNatClampNeg (-1))) := fset_at hΦ1
  refine z_goto (tgt := 15) B dL_templateAge_9 rfl ?_
  refine z_iconst (v := 0) B dL_templateAge_15 rfl ?_
  exact z_ret_i B dL_templateAge_16 ⟨rfl, (fun b9 h9 h8 => ((fset_fr hΦ1 h8).trans ((fr1 b9 h9).trans rfl))), _, h_2, rfl⟩

set_option maxHeartbeats 4000000 in
set_option maxRecDepth 100000 in
theorem w_templateAge_1 (G : EnvG) (l : Launch) (Φ : Hm) (sz : Nat) (x : Nat) (o : Nat) (gg : Nat → Int64) (hc0_ : Φ x = some (o_ 13 [.ref (x + 1), .ref (x + 3), .ref (x + 24), .ref (x + 46), .ref (x + 74), .ref (x + 80), .ref (x + 132), .ref (x + 121)])) (hc80_ : Φ (x + 80) = some (o_ 4 [.ref (x + 3), .ref (x + 74), .ref (x + 81), .ref (x + 95), .int 0, .int 1, .int 1, .int 0, .int 0, .int 0, .long 0, .long 0, .long 0])) (hc132_ : Φ (x + 132) = some (o_ 2 [.ref (x + 3), .ref (x + 121), .ref (x + 133), .ref (x + 134), .ref (x + 135), .ref (x + 137), .ref (x + 138), .ref (x + 139), .ref (x + 140), .int 0, .int 0, .int 0])) (hc133_ : Φ (x + 133) = some (aq_ G 4 4 (va_up (va_up (va_up (va_up (fun _ => none) (0 : Int32).toNatClampNeg (some (x + 141))) (1 : Int32).toNatClampNeg (some (x + 143))) (2 : Int32).toNatClampNeg (some (x + 145))) (3 : Int32).toNatClampNeg (some (x + 147))))) (hc143_ : Φ (x + 143) = some (o_ 12 [.ref (x + 144), .int 0, .int 0, .int 0])) (hco : Φ o = some (al_ G 1 gg)) (hna : G.2.2.2 ≤ x) (ho : x + 149 ≤ o) : Ct G l yL_templateAge wsL_templateAge ({ frames := 2, cells := 0, slots := 0, locals := 43 }) 0 0 [.ref x, .int 1, .ref o] Φ sz (fun v Φ1 sz1 => v = some (.int 0) ∧ (∀ b9 : Nat, x + 149 ≤ b9 → b9 ≠ o → Φ1 b9 = Φ b9) ∧ ∃ g1 : Nat → Int64, Φ1 o = some (al_ G 1 g1) ∧ g1 0 = (-1)) := by
  refine Ct.ofH (cc := cL_templateAge) (maxL := 4) (ret := (some .int)) (by decide) rfl (Nat.le_of_ble_eq_true rfl) ?_
  intro p9 e9 s9 m9 w9 t9 k9 B htab9
  show Z p9 l e9 _ s9 m9 _ w9 t9 k9 _ G 4 0 [(0, .ref x), (1, .int 1), (2, .ref o)] [] Φ sz 0 0
  refine z_aload_n B dL_templateAge_0 rfl 2 rfl ?_
  refine z_iconst (v := 0) B dL_templateAge_1 rfl ?_
  refine z_aload_n B dL_templateAge_2 rfl 0 rfl ?_
  refine z_iload_n B dL_templateAge_3 rfl 1 rfl ?_
  refine z_callV (As := [.int 1]) (rest := [.int 0, .ref o]) B (f_X11_templateAge_1 G l Φ sz x hc0_ hc80_ hc132_ hc133_ hc143_) (cwV 1 B.1.2.2.2.2 gL_templateAge_X11_templateAge rfl rfl rfl (by decide +kernel) ⟨Nat.le_of_ble_eq_true rfl, Nat.le_of_ble_eq_true rfl⟩) hc0_ rfl rfl rfl rfl (Nat.le_of_ble_eq_true rfl) dL_templateAge_4 ⟨Nat.le_of_ble_eq_true rfl, Nat.le_of_ble_eq_true rfl⟩ (fun v1 Φ1 sz1 st1 hp1 hs1 => ?_)
  obtain ⟨rfl, fr1⟩ := hp1
  replace hs1 : st1 = [.int (-1), .int 0, .ref o] := hs1
  subst st1
  refine z_i2l (v := (-1)) B dL_templateAge_7 (by decide +kernel) ?_
  have h_1 : Φ1 o = some (al_ G 1 gg) := ((fr1 o ho).trans hco)
  refine z_last B h_1 (Nat.le_trans hna (Nat.le_trans (Nat.le_add_right x 149) ho)) (vin rfl) dL_templateAge_8 (fun Φ2 hΦ1 => ?_)
  have h_2 : Φ2 o = some (al_ G 1 (vp_updL gg (0 : Int32).toNatClampNeg (-1))) := fset_at hΦ1
  refine z_goto (tgt := 15) B dL_templateAge_9 rfl ?_
  refine z_iconst (v := 0) B dL_templateAge_15 rfl ?_
  exact z_ret_i B dL_templateAge_16 ⟨rfl, (fun b9 h9 h8 => ((fset_fr hΦ1 h8).trans ((fr1 b9 h9).trans rfl))), _, h_2, rfl⟩

set_option maxHeartbeats 4000000 in
set_option maxRecDepth 100000 in
theorem w_templateAge_2 (G : EnvG) (l : Launch) (Φ : Hm) (sz : Nat) (x : Nat) (o : Nat) (gg : Nat → Int64) (hc0_ : Φ x = some (o_ 13 [.ref (x + 1), .ref (x + 3), .ref (x + 24), .ref (x + 46), .ref (x + 74), .ref (x + 80), .ref (x + 132), .ref (x + 121)])) (hc80_ : Φ (x + 80) = some (o_ 4 [.ref (x + 3), .ref (x + 74), .ref (x + 81), .ref (x + 95), .int 0, .int 1, .int 1, .int 0, .int 0, .int 0, .long 0, .long 0, .long 0])) (hc132_ : Φ (x + 132) = some (o_ 2 [.ref (x + 3), .ref (x + 121), .ref (x + 133), .ref (x + 134), .ref (x + 135), .ref (x + 137), .ref (x + 138), .ref (x + 139), .ref (x + 140), .int 0, .int 0, .int 0])) (hc133_ : Φ (x + 133) = some (aq_ G 4 4 (va_up (va_up (va_up (va_up (fun _ => none) (0 : Int32).toNatClampNeg (some (x + 141))) (1 : Int32).toNatClampNeg (some (x + 143))) (2 : Int32).toNatClampNeg (some (x + 145))) (3 : Int32).toNatClampNeg (some (x + 147))))) (hc145_ : Φ (x + 145) = some (o_ 12 [.ref (x + 146), .int 0, .int 0, .int 0])) (hco : Φ o = some (al_ G 1 gg)) (hna : G.2.2.2 ≤ x) (ho : x + 149 ≤ o) : Ct G l yL_templateAge wsL_templateAge ({ frames := 2, cells := 0, slots := 0, locals := 43 }) 0 0 [.ref x, .int 2, .ref o] Φ sz (fun v Φ1 sz1 => v = some (.int 0) ∧ (∀ b9 : Nat, x + 149 ≤ b9 → b9 ≠ o → Φ1 b9 = Φ b9) ∧ ∃ g1 : Nat → Int64, Φ1 o = some (al_ G 1 g1) ∧ g1 0 = (-1)) := by
  refine Ct.ofH (cc := cL_templateAge) (maxL := 4) (ret := (some .int)) (by decide) rfl (Nat.le_of_ble_eq_true rfl) ?_
  intro p9 e9 s9 m9 w9 t9 k9 B htab9
  show Z p9 l e9 _ s9 m9 _ w9 t9 k9 _ G 4 0 [(0, .ref x), (1, .int 2), (2, .ref o)] [] Φ sz 0 0
  refine z_aload_n B dL_templateAge_0 rfl 2 rfl ?_
  refine z_iconst (v := 0) B dL_templateAge_1 rfl ?_
  refine z_aload_n B dL_templateAge_2 rfl 0 rfl ?_
  refine z_iload_n B dL_templateAge_3 rfl 1 rfl ?_
  refine z_callV (As := [.int 2]) (rest := [.int 0, .ref o]) B (f_X11_templateAge_2 G l Φ sz x hc0_ hc80_ hc132_ hc133_ hc145_) (cwV 1 B.1.2.2.2.2 gL_templateAge_X11_templateAge rfl rfl rfl (by decide +kernel) ⟨Nat.le_of_ble_eq_true rfl, Nat.le_of_ble_eq_true rfl⟩) hc0_ rfl rfl rfl rfl (Nat.le_of_ble_eq_true rfl) dL_templateAge_4 ⟨Nat.le_of_ble_eq_true rfl, Nat.le_of_ble_eq_true rfl⟩ (fun v1 Φ1 sz1 st1 hp1 hs1 => ?_)
  obtain ⟨rfl, fr1⟩ := hp1
  replace hs1 : st1 = [.int (-1), .int 0, .ref o] := hs1
  subst st1
  refine z_i2l (v := (-1)) B dL_templateAge_7 (by decide +kernel) ?_
  have h_1 : Φ1 o = some (al_ G 1 gg) := ((fr1 o ho).trans hco)
  refine z_last B h_1 (Nat.le_trans hna (Nat.le_trans (Nat.le_add_right x 149) ho)) (vin rfl) dL_templateAge_8 (fun Φ2 hΦ1 => ?_)
  have h_2 : Φ2 o = some (al_ G 1 (vp_updL gg (0 : Int32).toNatClampNeg (-1))) := fset_at hΦ1
  refine z_goto (tgt := 15) B dL_templateAge_9 rfl ?_
  refine z_iconst (v := 0) B dL_templateAge_15 rfl ?_
  exact z_ret_i B dL_templateAge_16 ⟨rfl, (fun b9 h9 h8 => ((fset_fr hΦ1 h8).trans ((fr1 b9 h9).trans rfl))), _, h_2, rfl⟩

set_option maxHeartbeats 4000000 in
set_option maxRecDepth 100000 in
theorem w_templateAge_3 (G : EnvG) (l : Launch) (Φ : Hm) (sz : Nat) (x : Nat) (o : Nat) (gg : Nat → Int64) (hc0_ : Φ x = some (o_ 13 [.ref (x + 1), .ref (x + 3), .ref (x + 24), .ref (x + 46), .ref (x + 74), .ref (x + 80), .ref (x + 132), .ref (x + 121)])) (hc80_ : Φ (x + 80) = some (o_ 4 [.ref (x + 3), .ref (x + 74), .ref (x + 81), .ref (x + 95), .int 0, .int 1, .int 1, .int 0, .int 0, .int 0, .long 0, .long 0, .long 0])) (hc132_ : Φ (x + 132) = some (o_ 2 [.ref (x + 3), .ref (x + 121), .ref (x + 133), .ref (x + 134), .ref (x + 135), .ref (x + 137), .ref (x + 138), .ref (x + 139), .ref (x + 140), .int 0, .int 0, .int 0])) (hc133_ : Φ (x + 133) = some (aq_ G 4 4 (va_up (va_up (va_up (va_up (fun _ => none) (0 : Int32).toNatClampNeg (some (x + 141))) (1 : Int32).toNatClampNeg (some (x + 143))) (2 : Int32).toNatClampNeg (some (x + 145))) (3 : Int32).toNatClampNeg (some (x + 147))))) (hc147_ : Φ (x + 147) = some (o_ 12 [.ref (x + 148), .int 0, .int 0, .int 0])) (hco : Φ o = some (al_ G 1 gg)) (hna : G.2.2.2 ≤ x) (ho : x + 149 ≤ o) : Ct G l yL_templateAge wsL_templateAge ({ frames := 2, cells := 0, slots := 0, locals := 43 }) 0 0 [.ref x, .int 3, .ref o] Φ sz (fun v Φ1 sz1 => v = some (.int 0) ∧ (∀ b9 : Nat, x + 149 ≤ b9 → b9 ≠ o → Φ1 b9 = Φ b9) ∧ ∃ g1 : Nat → Int64, Φ1 o = some (al_ G 1 g1) ∧ g1 0 = (-1)) := by
  refine Ct.ofH (cc := cL_templateAge) (maxL := 4) (ret := (some .int)) (by decide) rfl (Nat.le_of_ble_eq_true rfl) ?_
  intro p9 e9 s9 m9 w9 t9 k9 B htab9
  show Z p9 l e9 _ s9 m9 _ w9 t9 k9 _ G 4 0 [(0, .ref x), (1, .int 3), (2, .ref o)] [] Φ sz 0 0
  refine z_aload_n B dL_templateAge_0 rfl 2 rfl ?_
  refine z_iconst (v := 0) B dL_templateAge_1 rfl ?_
  refine z_aload_n B dL_templateAge_2 rfl 0 rfl ?_
  refine z_iload_n B dL_templateAge_3 rfl 1 rfl ?_
  refine z_callV (As := [.int 3]) (rest := [.int 0, .ref o]) B (f_X11_templateAge_3 G l Φ sz x hc0_ hc80_ hc132_ hc133_ hc147_) (cwV 1 B.1.2.2.2.2 gL_templateAge_X11_templateAge rfl rfl rfl (by decide +kernel) ⟨Nat.le_of_ble_eq_true rfl, Nat.le_of_ble_eq_true rfl⟩) hc0_ rfl rfl rfl rfl (Nat.le_of_ble_eq_true rfl) dL_templateAge_4 ⟨Nat.le_of_ble_eq_true rfl, Nat.le_of_ble_eq_true rfl⟩ (fun v1 Φ1 sz1 st1 hp1 hs1 => ?_)
  obtain ⟨rfl, fr1⟩ := hp1
  replace hs1 : st1 = [.int (-1), .int 0, .ref o] := hs1
  subst st1
  refine z_i2l (v := (-1)) B dL_templateAge_7 (by decide +kernel) ?_
  have h_1 : Φ1 o = some (al_ G 1 gg) := ((fr1 o ho).trans hco)
  refine z_last B h_1 (Nat.le_trans hna (Nat.le_trans (Nat.le_add_right x 149) ho)) (vin rfl) dL_templateAge_8 (fun Φ2 hΦ1 => ?_)
  have h_2 : Φ2 o = some (al_ G 1 (vp_updL gg (0 : Int32).toNatClampNeg (-1))) := fset_at hΦ1
  refine z_goto (tgt := 15) B dL_templateAge_9 rfl ?_
  refine z_iconst (v := 0) B dL_templateAge_15 rfl ?_
  exact z_ret_i B dL_templateAge_16 ⟨rfl, (fun b9 h9 h8 => ((fset_fr hΦ1 h8).trans ((fr1 b9 h9).trans rfl))), _, h_2, rfl⟩

set_option maxHeartbeats 4000000 in
set_option maxRecDepth 100000 in
theorem w_counter (G : EnvG) (l : Launch) (Φ : Hm) (sz : Nat) (x : Nat) (o : Nat) (a : Int32) (gg : Nat → Int64) (hc0_ : Φ x = some (o_ 13 [.ref (x + 1), .ref (x + 3), .ref (x + 24), .ref (x + 46), .ref (x + 74), .ref (x + 80), .ref (x + 132), .ref (x + 121)])) (hc132_ : Φ (x + 132) = some (o_ 2 [.ref (x + 3), .ref (x + 121), .ref (x + 133), .ref (x + 134), .ref (x + 135), .ref (x + 137), .ref (x + 138), .ref (x + 139), .ref (x + 140), .int 0, .int 0, .int 0])) (hc139_ : Φ (x + 139) = some (al_ G 9 (fun _ => 0))) (hco : Φ o = some (al_ G 1 gg)) (hna : G.2.2.2 ≤ x) (ho : x + 149 ≤ o) (h1 : ¬ a < 0) (h2 : a < 9) : Ct G l yL_counter wsL_counter ({ frames := 1, cells := 0, slots := 0, locals := 21 }) 0 0 [.ref x, .int a, .ref o] Φ sz (fun v Φ1 sz1 => v = some (.int 0) ∧ (∀ b9 : Nat, x + 149 ≤ b9 → b9 ≠ o → Φ1 b9 = Φ b9) ∧ ∃ g1 : Nat → Int64, Φ1 o = some (al_ G 1 g1) ∧ g1 0 = 0) := by
  refine Ct.ofH (cc := cL_counter) (maxL := 4) (ret := (some .int)) (by decide) rfl (Nat.le_of_ble_eq_true rfl) ?_
  intro p9 e9 s9 m9 w9 t9 k9 B htab9
  show Z p9 l e9 _ s9 m9 _ w9 t9 k9 _ G 4 0 [(0, .ref x), (1, .int a), (2, .ref o)] [] Φ sz 0 0
  refine z_aload_n B dL_counter_0 rfl 2 rfl ?_
  refine z_iconst (v := 0) B dL_counter_1 rfl ?_
  refine z_aload_n B dL_counter_2 rfl 0 rfl ?_
  refine z_iload_n B dL_counter_3 rfl 1 rfl ?_
  refine z_callV (As := [.int a]) (rest := [.int 0, .ref o]) B (f_X11_counter G l Φ sz x a hc0_ hc132_ hc139_ h1 h2) (cwV 1 B.1.2.2.2.2 gL_counter_X11_counter rfl rfl rfl (by decide +kernel) ⟨Nat.le_of_ble_eq_true rfl, Nat.le_of_ble_eq_true rfl⟩) hc0_ rfl rfl rfl rfl (Nat.le_of_ble_eq_true rfl) dL_counter_4 ⟨Nat.le_of_ble_eq_true rfl, Nat.le_of_ble_eq_true rfl⟩ (fun v1 Φ1 sz1 st1 hp1 hs1 => ?_)
  obtain ⟨rfl, fr1⟩ := hp1
  replace hs1 : st1 = [.long 0, .int 0, .ref o] := hs1
  subst st1
  have h_1 : Φ1 o = some (al_ G 1 gg) := ((fr1 o ho).trans hco)
  refine z_last B h_1 (Nat.le_trans hna (Nat.le_trans (Nat.le_add_right x 149) ho)) (vin rfl) dL_counter_7 (fun Φ2 hΦ1 => ?_)
  have h_2 : Φ2 o = some (al_ G 1 (vp_updL gg (0 : Int32).toNatClampNeg 0)) := fset_at hΦ1
  refine z_goto (tgt := 14) B dL_counter_8 rfl ?_
  refine z_iconst (v := 0) B dL_counter_14 rfl ?_
  exact z_ret_i B dL_counter_15 ⟨rfl, (fun b9 h9 h8 => ((fset_fr hΦ1 h8).trans ((fr1 b9 h9).trans rfl))), _, h_2, rfl⟩

set_option maxHeartbeats 4000000 in
set_option maxRecDepth 100000 in
theorem w_counter_x (G : EnvG) (l : Launch) (hl9 : l.stackTraces = false) (Φ : Hm) (sz : Nat) (x : Nat) (o : Nat) (a : Int32) (hc0_ : Φ x = some (o_ 13 [.ref (x + 1), .ref (x + 3), .ref (x + 24), .ref (x + 46), .ref (x + 74), .ref (x + 80), .ref (x + 132), .ref (x + 121)])) (ha : ¬ (¬ a < 0 ∧ a < 9)) : Ct G l yL_counter wsL_counter ({ frames := 7, cells := 1, slots := 6, locals := 102 }) 1 6 [.ref x, .int a, .ref o] Φ sz (fun v Φ1 sz1 => v = some (.int 1) ∧ Φ1 = Φ) := by
  refine Ct.ofH (cc := cL_counter) (maxL := 4) (ret := (some .int)) (by decide) rfl (Nat.le_of_ble_eq_true rfl) ?_
  intro p9 e9 s9 m9 w9 t9 k9 B htab9
  show Z p9 l e9 _ s9 m9 _ w9 t9 k9 _ G 4 0 [(0, .ref x), (1, .int a), (2, .ref o)] [] Φ sz 0 0
  refine z_aload_n B dL_counter_0 rfl 2 rfl ?_
  refine z_iconst (v := 0) B dL_counter_1 rfl ?_
  refine z_aload_n B dL_counter_2 rfl 0 rfl ?_
  refine z_iload_n B dL_counter_3 rfl 1 rfl ?_
  refine z_callVC (As := [.int a]) (rest := [.int 0, .ref o]) B (f_X11_counter_x G l hl9 Φ sz x a ha) (cwV 1 B.1.2.2.2.2 gL_counter_X11_counter rfl rfl rfl (by decide +kernel) ⟨Nat.le_of_ble_eq_true rfl, Nat.le_of_ble_eq_true rfl⟩) hc0_ rfl rfl rfl rfl (Nat.le_of_ble_eq_true rfl) dL_counter_4 ⟨Nat.le_of_ble_eq_true rfl, Nat.le_of_ble_eq_true rfl⟩ [] ⟨0, 8, 11, 13⟩ [] (htab9.trans rfl) (fun z9 hz9 => absurd hz9 (List.not_mem_nil)) (by decide) (by decide) (by decide +kernel) (by decide) (fun q9 sz9 => ?_)
  refine z_astore_n (lv' := [(3, .ref q9), (0, .ref x), (1, .int a), (2, .ref o)]) B dL_counter_11 rfl (Nat.le_of_ble_eq_true rfl) rfl ?_
  refine z_iconst (v := 1) B dL_counter_12 rfl ?_
  exact z_ret_i B dL_counter_13 ⟨rfl, rfl⟩

set_option maxHeartbeats 4000000 in
set_option maxRecDepth 100000 in
theorem w_templateAge_x (G : EnvG) (l : Launch) (hl9 : l.stackTraces = false) (Φ : Hm) (sz : Nat) (x : Nat) (o : Nat) (a : Int32) (hc0_ : Φ x = some (o_ 13 [.ref (x + 1), .ref (x + 3), .ref (x + 24), .ref (x + 46), .ref (x + 74), .ref (x + 80), .ref (x + 132), .ref (x + 121)])) (ha : ¬ (¬ a < 0 ∧ a < 4)) : Ct G l yL_templateAge wsL_templateAge ({ frames := 7, cells := 1, slots := 6, locals := 102 }) 1 6 [.ref x, .int a, .ref o] Φ sz (fun v Φ1 sz1 => v = some (.int 1) ∧ Φ1 = Φ) := by
  refine Ct.ofH (cc := cL_templateAge) (maxL := 4) (ret := (some .int)) (by decide) rfl (Nat.le_of_ble_eq_true rfl) ?_
  intro p9 e9 s9 m9 w9 t9 k9 B htab9
  show Z p9 l e9 _ s9 m9 _ w9 t9 k9 _ G 4 0 [(0, .ref x), (1, .int a), (2, .ref o)] [] Φ sz 0 0
  refine z_aload_n B dL_templateAge_0 rfl 2 rfl ?_
  refine z_iconst (v := 0) B dL_templateAge_1 rfl ?_
  refine z_aload_n B dL_templateAge_2 rfl 0 rfl ?_
  refine z_iload_n B dL_templateAge_3 rfl 1 rfl ?_
  refine z_callVC (As := [.int a]) (rest := [.int 0, .ref o]) B (f_X11_templateAge_x G l hl9 Φ sz x a ha) (cwV 1 B.1.2.2.2.2 gL_templateAge_X11_templateAge rfl rfl rfl (by decide +kernel) ⟨Nat.le_of_ble_eq_true rfl, Nat.le_of_ble_eq_true rfl⟩) hc0_ rfl rfl rfl rfl (Nat.le_of_ble_eq_true rfl) dL_templateAge_4 ⟨Nat.le_of_ble_eq_true rfl, Nat.le_of_ble_eq_true rfl⟩ [] ⟨0, 9, 12, 13⟩ [] (htab9.trans rfl) (fun z9 hz9 => absurd hz9 (List.not_mem_nil)) (by decide) (by decide) (by decide +kernel) (by decide) (fun q9 sz9 => ?_)
  refine z_astore_n (lv' := [(3, .ref q9), (0, .ref x), (1, .int a), (2, .ref o)]) B dL_templateAge_12 rfl (Nat.le_of_ble_eq_true rfl) rfl ?_
  refine z_iconst (v := 1) B dL_templateAge_13 rfl ?_
  exact z_ret_i B dL_templateAge_14 ⟨rfl, rfl⟩

set_option maxHeartbeats 4000000 in
set_option maxRecDepth 100000 in
theorem w_truth_0 (G : EnvG) (l : Launch) (Φ : Hm) (sz : Nat) (x : Nat) (o : Nat) (a : Int32) (b : Int32) (c : Int32) (d : Int32) (gg : Nat → Int64) (hc0_ : Φ x = some (o_ 13 [.ref (x + 1), .ref (x + 3), .ref (x + 24), .ref (x + 46), .ref (x + 74), .ref (x + 80), .ref (x + 132), .ref (x + 121)])) (hc80_ : Φ (x + 80) = some (o_ 4 [.ref (x + 3), .ref (x + 74), .ref (x + 81), .ref (x + 95), .int 0, .int 1, .int 1, .int 0, .int 0, .int 0, .long 0, .long 0, .long 0])) (hc95_ : Φ (x + 95) = some (o_ 6 [.ref (x + 96), .int 0])) (hco : Φ o = some (al_ G 1 gg)) (hna : G.2.2.2 ≤ x) (ho : x + 149 ≤ o) : Ct G l yL_truth wsL_truth ({ frames := 3, cells := 0, slots := 0, locals := 72 }) 0 0 [.ref x, .int a, .int b, .int c, .int d, .int 0, .ref o] Φ sz (fun v Φ1 sz1 => v = some (.int 0) ∧ (∀ b9 : Nat, x + 149 ≤ b9 → b9 ≠ o → Φ1 b9 = Φ b9) ∧ ∃ g1 : Nat → Int64, Φ1 o = some (al_ G 1 g1) ∧ g1 0 = 0) := by
  refine Ct.ofH (cc := cL_truth) (maxL := 8) (ret := (some .int)) (by decide) rfl (Nat.le_of_ble_eq_true rfl) ?_
  intro p9 e9 s9 m9 w9 t9 k9 B htab9
  show Z p9 l e9 _ s9 m9 _ w9 t9 k9 _ G 8 0 [(0, .ref x), (1, .int a), (2, .int b), (3, .int c), (4, .int d), (5, .int 0), (6, .ref o)] [] Φ sz 0 0
  refine z_aload B dL_truth_0 6 rfl ?_
  refine z_iconst (v := 0) B dL_truth_2 rfl ?_
  refine z_aload_n B dL_truth_3 rfl 0 rfl ?_
  refine z_iload_n B dL_truth_4 rfl 1 rfl ?_
  refine z_iload_n B dL_truth_5 rfl 2 rfl ?_
  refine z_iload_n B dL_truth_6 rfl 3 rfl ?_
  refine z_iload B dL_truth_7 4 rfl ?_
  refine z_iload B dL_truth_9 5 rfl ?_
  refine z_callV (As := [.int a, .int b, .int c, .int d, .int 0]) (rest := [.int 0, .ref o]) B (f_X11_truth_0 G l Φ sz x a b c d hc0_ hc80_ hc95_) (cwV 5 B.1.2.2.2.2 gL_truth_X11_truth rfl rfl rfl (by decide +kernel) ⟨Nat.le_of_ble_eq_true rfl, Nat.le_of_ble_eq_true rfl⟩) hc0_ rfl rfl rfl rfl (Nat.le_of_ble_eq_true rfl) dL_truth_11 ⟨Nat.le_of_ble_eq_true rfl, Nat.le_of_ble_eq_true rfl⟩ (fun v1 Φ1 sz1 st1 hp1 hs1 => ?_)
  obtain ⟨rfl, fr1⟩ := hp1
  replace hs1 : st1 = [.long 0, .int 0, .ref o] := hs1
  subst st1
  have h_1 : Φ1 o = some (al_ G 1 gg) := ((fr1 o ho).trans hco)
  refine z_last B h_1 (Nat.le_trans hna (Nat.le_trans (Nat.le_add_right x 149) ho)) (vin rfl) dL_truth_14 (fun Φ2 hΦ1 => ?_)
  have h_2 : Φ2 o = some (al_ G 1 (vp_updL gg (0 : Int32).toNatClampNeg 0)) := fset_at hΦ1
  refine z_goto (tgt := 22) B dL_truth_15 rfl ?_
  refine z_iconst (v := 0) B dL_truth_22 rfl ?_
  exact z_ret_i B dL_truth_23 ⟨rfl, (fun b9 h9 h8 => ((fset_fr hΦ1 h8).trans ((fr1 b9 h9).trans rfl))), _, h_2, rfl⟩

set_option maxHeartbeats 4000000 in
set_option maxRecDepth 100000 in
theorem w_truth_1 (G : EnvG) (l : Launch) (Φ : Hm) (sz : Nat) (x : Nat) (o : Nat) (a : Int32) (b : Int32) (c : Int32) (d : Int32) (gg : Nat → Int64) (hc0_ : Φ x = some (o_ 13 [.ref (x + 1), .ref (x + 3), .ref (x + 24), .ref (x + 46), .ref (x + 74), .ref (x + 80), .ref (x + 132), .ref (x + 121)])) (hc80_ : Φ (x + 80) = some (o_ 4 [.ref (x + 3), .ref (x + 74), .ref (x + 81), .ref (x + 95), .int 0, .int 1, .int 1, .int 0, .int 0, .int 0, .long 0, .long 0, .long 0])) (hc95_ : Φ (x + 95) = some (o_ 6 [.ref (x + 96), .int 0])) (hco : Φ o = some (al_ G 1 gg)) (hna : G.2.2.2 ≤ x) (ho : x + 149 ≤ o) : Ct G l yL_truth wsL_truth ({ frames := 3, cells := 0, slots := 0, locals := 72 }) 0 0 [.ref x, .int a, .int b, .int c, .int d, .int 1, .ref o] Φ sz (fun v Φ1 sz1 => v = some (.int 0) ∧ (∀ b9 : Nat, x + 149 ≤ b9 → b9 ≠ o → Φ1 b9 = Φ b9) ∧ ∃ g1 : Nat → Int64, Φ1 o = some (al_ G 1 g1) ∧ g1 0 = 0) := by
  refine Ct.ofH (cc := cL_truth) (maxL := 8) (ret := (some .int)) (by decide) rfl (Nat.le_of_ble_eq_true rfl) ?_
  intro p9 e9 s9 m9 w9 t9 k9 B htab9
  show Z p9 l e9 _ s9 m9 _ w9 t9 k9 _ G 8 0 [(0, .ref x), (1, .int a), (2, .int b), (3, .int c), (4, .int d), (5, .int 1), (6, .ref o)] [] Φ sz 0 0
  refine z_aload B dL_truth_0 6 rfl ?_
  refine z_iconst (v := 0) B dL_truth_2 rfl ?_
  refine z_aload_n B dL_truth_3 rfl 0 rfl ?_
  refine z_iload_n B dL_truth_4 rfl 1 rfl ?_
  refine z_iload_n B dL_truth_5 rfl 2 rfl ?_
  refine z_iload_n B dL_truth_6 rfl 3 rfl ?_
  refine z_iload B dL_truth_7 4 rfl ?_
  refine z_iload B dL_truth_9 5 rfl ?_
  refine z_callV (As := [.int a, .int b, .int c, .int d, .int 1]) (rest := [.int 0, .ref o]) B (f_X11_truth_1 G l Φ sz x a b c d hc0_ hc80_ hc95_) (cwV 5 B.1.2.2.2.2 gL_truth_X11_truth rfl rfl rfl (by decide +kernel) ⟨Nat.le_of_ble_eq_true rfl, Nat.le_of_ble_eq_true rfl⟩) hc0_ rfl rfl rfl rfl (Nat.le_of_ble_eq_true rfl) dL_truth_11 ⟨Nat.le_of_ble_eq_true rfl, Nat.le_of_ble_eq_true rfl⟩ (fun v1 Φ1 sz1 st1 hp1 hs1 => ?_)
  obtain ⟨rfl, fr1⟩ := hp1
  replace hs1 : st1 = [.long 0, .int 0, .ref o] := hs1
  subst st1
  have h_1 : Φ1 o = some (al_ G 1 gg) := ((fr1 o ho).trans hco)
  refine z_last B h_1 (Nat.le_trans hna (Nat.le_trans (Nat.le_add_right x 149) ho)) (vin rfl) dL_truth_14 (fun Φ2 hΦ1 => ?_)
  have h_2 : Φ2 o = some (al_ G 1 (vp_updL gg (0 : Int32).toNatClampNeg 0)) := fset_at hΦ1
  refine z_goto (tgt := 22) B dL_truth_15 rfl ?_
  refine z_iconst (v := 0) B dL_truth_22 rfl ?_
  exact z_ret_i B dL_truth_23 ⟨rfl, (fun b9 h9 h8 => ((fset_fr hΦ1 h8).trans ((fr1 b9 h9).trans rfl))), _, h_2, rfl⟩

set_option maxHeartbeats 4000000 in
set_option maxRecDepth 100000 in
theorem w_truth_x (G : EnvG) (l : Launch) (hl9 : l.stackTraces = false) (Φ : Hm) (sz : Nat) (x : Nat) (o : Nat) (a : Int32) (b : Int32) (c : Int32) (d : Int32) (w : Int32) (hc0_ : Φ x = some (o_ 13 [.ref (x + 1), .ref (x + 3), .ref (x + 24), .ref (x + 46), .ref (x + 74), .ref (x + 80), .ref (x + 132), .ref (x + 121)])) (hw : ¬ (w = 0 ∨ w = 1)) : Ct G l yL_truth wsL_truth ({ frames := 8, cells := 1, slots := 6, locals := 126 }) 1 6 [.ref x, .int a, .int b, .int c, .int d, .int w, .ref o] Φ sz (fun v Φ1 sz1 => v = some (.int 1) ∧ Φ1 = Φ) := by
  refine Ct.ofH (cc := cL_truth) (maxL := 8) (ret := (some .int)) (by decide) rfl (Nat.le_of_ble_eq_true rfl) ?_
  intro p9 e9 s9 m9 w9 t9 k9 B htab9
  show Z p9 l e9 _ s9 m9 _ w9 t9 k9 _ G 8 0 [(0, .ref x), (1, .int a), (2, .int b), (3, .int c), (4, .int d), (5, .int w), (6, .ref o)] [] Φ sz 0 0
  refine z_aload B dL_truth_0 6 rfl ?_
  refine z_iconst (v := 0) B dL_truth_2 rfl ?_
  refine z_aload_n B dL_truth_3 rfl 0 rfl ?_
  refine z_iload_n B dL_truth_4 rfl 1 rfl ?_
  refine z_iload_n B dL_truth_5 rfl 2 rfl ?_
  refine z_iload_n B dL_truth_6 rfl 3 rfl ?_
  refine z_iload B dL_truth_7 4 rfl ?_
  refine z_iload B dL_truth_9 5 rfl ?_
  refine z_callVC (As := [.int a, .int b, .int c, .int d, .int w]) (rest := [.int 0, .ref o]) B (f_X11_truth_x G l hl9 Φ sz x a b c d w hw) (cwV 5 B.1.2.2.2.2 gL_truth_X11_truth rfl rfl rfl (by decide +kernel) ⟨Nat.le_of_ble_eq_true rfl, Nat.le_of_ble_eq_true rfl⟩) hc0_ rfl rfl rfl rfl (Nat.le_of_ble_eq_true rfl) dL_truth_11 ⟨Nat.le_of_ble_eq_true rfl, Nat.le_of_ble_eq_true rfl⟩ [] ⟨0, 15, 18, 13⟩ [] (htab9.trans rfl) (fun z9 hz9 => absurd hz9 (List.not_mem_nil)) (by decide) (by decide) (by decide +kernel) (by decide) (fun q9 sz9 => ?_)
  refine z_astore (lv' := [(7, .ref q9), (0, .ref x), (1, .int a), (2, .int b), (3, .int c), (4, .int d), (5, .int w), (6, .ref o)]) B dL_truth_18 (Nat.le_of_ble_eq_true rfl) rfl ?_
  refine z_iconst (v := 1) B dL_truth_20 rfl ?_
  exact z_ret_i B dL_truth_21 ⟨rfl, rfl⟩

set_option maxHeartbeats 4000000 in
set_option maxRecDepth 100000 in
theorem w_covered_0 (G : EnvG) (l : Launch) (Φ : Hm) (sz : Nat) (x : Nat) (o : Nat) (gg : Nat → Int64) (hc0_ : Φ x = some (o_ 13 [.ref (x + 1), .ref (x + 3), .ref (x + 24), .ref (x + 46), .ref (x + 74), .ref (x + 80), .ref (x + 132), .ref (x + 121)])) (hc121_ : Φ (x + 121) = some (o_ 11 [.ref (x + 122), .ref (x + 123), .ref (x + 126), .ref (x + 129), .int 0])) (hco : Φ o = some (al_ G 1 gg)) (hna : G.2.2.2 ≤ x) (ho : x + 149 ≤ o) : Ct G l yL_covered wsL_covered ({ frames := 2, cells := 0, slots := 0, locals := 45 }) 0 0 [.ref x, .int 0, .ref o] Φ sz (fun v Φ1 sz1 => v = some (.int 0) ∧ (∀ b9 : Nat, x + 149 ≤ b9 → b9 ≠ o → Φ1 b9 = Φ b9) ∧ ∃ g1 : Nat → Int64, Φ1 o = some (al_ G 1 g1) ∧ g1 0 = 0) := by
  refine Ct.ofH (cc := cL_covered) (maxL := 4) (ret := (some .int)) (by decide) rfl (Nat.le_of_ble_eq_true rfl) ?_
  intro p9 e9 s9 m9 w9 t9 k9 B htab9
  show Z p9 l e9 _ s9 m9 _ w9 t9 k9 _ G 4 0 [(0, .ref x), (1, .int 0), (2, .ref o)] [] Φ sz 0 0
  refine z_aload_n B dL_covered_0 rfl 2 rfl ?_
  refine z_iconst (v := 0) B dL_covered_1 rfl ?_
  refine z_aload_n B dL_covered_2 rfl 0 rfl ?_
  refine z_iload_n B dL_covered_3 rfl 1 rfl ?_
  refine z_callV (As := [.int 0]) (rest := [.int 0, .ref o]) B (f_X11_covered_0 G l Φ sz x hc0_ hc121_) (cwV 1 B.1.2.2.2.2 gL_covered_X11_covered rfl rfl rfl (by decide +kernel) ⟨Nat.le_of_ble_eq_true rfl, Nat.le_of_ble_eq_true rfl⟩) hc0_ rfl rfl rfl rfl (Nat.le_of_ble_eq_true rfl) dL_covered_4 ⟨Nat.le_of_ble_eq_true rfl, Nat.le_of_ble_eq_true rfl⟩ (fun v1 Φ1 sz1 st1 hp1 hs1 => ?_)
  obtain ⟨rfl, fr1⟩ := hp1
  replace hs1 : st1 = [.int 0, .int 0, .ref o] := hs1
  subst st1
  refine z_i2l (v := 0) B dL_covered_7 (by decide +kernel) ?_
  have h_1 : Φ1 o = some (al_ G 1 gg) := ((fr1 o ho).trans hco)
  refine z_last B h_1 (Nat.le_trans hna (Nat.le_trans (Nat.le_add_right x 149) ho)) (vin rfl) dL_covered_8 (fun Φ2 hΦ1 => ?_)
  have h_2 : Φ2 o = some (al_ G 1 (vp_updL gg (0 : Int32).toNatClampNeg 0)) := fset_at hΦ1
  refine z_goto (tgt := 15) B dL_covered_9 rfl ?_
  refine z_iconst (v := 0) B dL_covered_15 rfl ?_
  exact z_ret_i B dL_covered_16 ⟨rfl, (fun b9 h9 h8 => ((fset_fr hΦ1 h8).trans ((fr1 b9 h9).trans rfl))), _, h_2, rfl⟩

set_option maxHeartbeats 4000000 in
set_option maxRecDepth 100000 in
theorem w_covered_1 (G : EnvG) (l : Launch) (Φ : Hm) (sz : Nat) (x : Nat) (o : Nat) (gg : Nat → Int64) (hc0_ : Φ x = some (o_ 13 [.ref (x + 1), .ref (x + 3), .ref (x + 24), .ref (x + 46), .ref (x + 74), .ref (x + 80), .ref (x + 132), .ref (x + 121)])) (hc121_ : Φ (x + 121) = some (o_ 11 [.ref (x + 122), .ref (x + 123), .ref (x + 126), .ref (x + 129), .int 0])) (hco : Φ o = some (al_ G 1 gg)) (hna : G.2.2.2 ≤ x) (ho : x + 149 ≤ o) : Ct G l yL_covered wsL_covered ({ frames := 2, cells := 0, slots := 0, locals := 45 }) 0 0 [.ref x, .int 1, .ref o] Φ sz (fun v Φ1 sz1 => v = some (.int 0) ∧ (∀ b9 : Nat, x + 149 ≤ b9 → b9 ≠ o → Φ1 b9 = Φ b9) ∧ ∃ g1 : Nat → Int64, Φ1 o = some (al_ G 1 g1) ∧ g1 0 = 0) := by
  refine Ct.ofH (cc := cL_covered) (maxL := 4) (ret := (some .int)) (by decide) rfl (Nat.le_of_ble_eq_true rfl) ?_
  intro p9 e9 s9 m9 w9 t9 k9 B htab9
  show Z p9 l e9 _ s9 m9 _ w9 t9 k9 _ G 4 0 [(0, .ref x), (1, .int 1), (2, .ref o)] [] Φ sz 0 0
  refine z_aload_n B dL_covered_0 rfl 2 rfl ?_
  refine z_iconst (v := 0) B dL_covered_1 rfl ?_
  refine z_aload_n B dL_covered_2 rfl 0 rfl ?_
  refine z_iload_n B dL_covered_3 rfl 1 rfl ?_
  refine z_callV (As := [.int 1]) (rest := [.int 0, .ref o]) B (f_X11_covered_1 G l Φ sz x hc0_ hc121_) (cwV 1 B.1.2.2.2.2 gL_covered_X11_covered rfl rfl rfl (by decide +kernel) ⟨Nat.le_of_ble_eq_true rfl, Nat.le_of_ble_eq_true rfl⟩) hc0_ rfl rfl rfl rfl (Nat.le_of_ble_eq_true rfl) dL_covered_4 ⟨Nat.le_of_ble_eq_true rfl, Nat.le_of_ble_eq_true rfl⟩ (fun v1 Φ1 sz1 st1 hp1 hs1 => ?_)
  obtain ⟨rfl, fr1⟩ := hp1
  replace hs1 : st1 = [.int 0, .int 0, .ref o] := hs1
  subst st1
  refine z_i2l (v := 0) B dL_covered_7 (by decide +kernel) ?_
  have h_1 : Φ1 o = some (al_ G 1 gg) := ((fr1 o ho).trans hco)
  refine z_last B h_1 (Nat.le_trans hna (Nat.le_trans (Nat.le_add_right x 149) ho)) (vin rfl) dL_covered_8 (fun Φ2 hΦ1 => ?_)
  have h_2 : Φ2 o = some (al_ G 1 (vp_updL gg (0 : Int32).toNatClampNeg 0)) := fset_at hΦ1
  refine z_goto (tgt := 15) B dL_covered_9 rfl ?_
  refine z_iconst (v := 0) B dL_covered_15 rfl ?_
  exact z_ret_i B dL_covered_16 ⟨rfl, (fun b9 h9 h8 => ((fset_fr hΦ1 h8).trans ((fr1 b9 h9).trans rfl))), _, h_2, rfl⟩

set_option maxHeartbeats 4000000 in
set_option maxRecDepth 100000 in
theorem w_covered_x (G : EnvG) (l : Launch) (hl9 : l.stackTraces = false) (Φ : Hm) (sz : Nat) (x : Nat) (o : Nat) (w : Int32) (hc0_ : Φ x = some (o_ 13 [.ref (x + 1), .ref (x + 3), .ref (x + 24), .ref (x + 46), .ref (x + 74), .ref (x + 80), .ref (x + 132), .ref (x + 121)])) (hw : ¬ (w = 0 ∨ w = 1)) : Ct G l yL_covered wsL_covered ({ frames := 8, cells := 1, slots := 6, locals := 126 }) 1 6 [.ref x, .int w, .ref o] Φ sz (fun v Φ1 sz1 => v = some (.int 1) ∧ Φ1 = Φ) := by
  refine Ct.ofH (cc := cL_covered) (maxL := 4) (ret := (some .int)) (by decide) rfl (Nat.le_of_ble_eq_true rfl) ?_
  intro p9 e9 s9 m9 w9 t9 k9 B htab9
  show Z p9 l e9 _ s9 m9 _ w9 t9 k9 _ G 4 0 [(0, .ref x), (1, .int w), (2, .ref o)] [] Φ sz 0 0
  refine z_aload_n B dL_covered_0 rfl 2 rfl ?_
  refine z_iconst (v := 0) B dL_covered_1 rfl ?_
  refine z_aload_n B dL_covered_2 rfl 0 rfl ?_
  refine z_iload_n B dL_covered_3 rfl 1 rfl ?_
  refine z_callVC (As := [.int w]) (rest := [.int 0, .ref o]) B (f_X11_covered_x G l hl9 Φ sz x w hw) (cwV 1 B.1.2.2.2.2 gL_covered_X11_covered rfl rfl rfl (by decide +kernel) ⟨Nat.le_of_ble_eq_true rfl, Nat.le_of_ble_eq_true rfl⟩) hc0_ rfl rfl rfl rfl (Nat.le_of_ble_eq_true rfl) dL_covered_4 ⟨Nat.le_of_ble_eq_true rfl, Nat.le_of_ble_eq_true rfl⟩ [] ⟨0, 9, 12, 13⟩ [] (htab9.trans rfl) (fun z9 hz9 => absurd hz9 (List.not_mem_nil)) (by decide) (by decide) (by decide +kernel) (by decide) (fun q9 sz9 => ?_)
  refine z_astore_n (lv' := [(3, .ref q9), (0, .ref x), (1, .int w), (2, .ref o)]) B dL_covered_12 rfl (Nat.le_of_ble_eq_true rfl) rfl ?_
  refine z_iconst (v := 1) B dL_covered_13 rfl ?_
  exact z_ret_i B dL_covered_14 ⟨rfl, rfl⟩

set_option maxHeartbeats 4000000 in
set_option maxRecDepth 100000 in
theorem w_totalEstimate_0 (G : EnvG) (l : Launch) (Φ : Hm) (sz : Nat) (x : Nat) (o : Nat) (gg : Nat → Int64) (hc0_ : Φ x = some (o_ 13 [.ref (x + 1), .ref (x + 3), .ref (x + 24), .ref (x + 46), .ref (x + 74), .ref (x + 80), .ref (x + 132), .ref (x + 121)])) (hc121_ : Φ (x + 121) = some (o_ 11 [.ref (x + 122), .ref (x + 123), .ref (x + 126), .ref (x + 129), .int 0])) (hco : Φ o = some (al_ G 1 gg)) (hna : G.2.2.2 ≤ x) (ho : x + 149 ≤ o) : Ct G l yL_totalEstimate wsL_totalEstimate ({ frames := 2, cells := 0, slots := 0, locals := 45 }) 0 0 [.ref x, .int 0, .ref o] Φ sz (fun v Φ1 sz1 => v = some (.int 0) ∧ (∀ b9 : Nat, x + 149 ≤ b9 → b9 ≠ o → Φ1 b9 = Φ b9) ∧ ∃ g1 : Nat → Int64, Φ1 o = some (al_ G 1 g1) ∧ g1 0 = 0) := by
  refine Ct.ofH (cc := cL_totalEstimate) (maxL := 4) (ret := (some .int)) (by decide) rfl (Nat.le_of_ble_eq_true rfl) ?_
  intro p9 e9 s9 m9 w9 t9 k9 B htab9
  show Z p9 l e9 _ s9 m9 _ w9 t9 k9 _ G 4 0 [(0, .ref x), (1, .int 0), (2, .ref o)] [] Φ sz 0 0
  refine z_aload_n B dL_totalEstimate_0 rfl 2 rfl ?_
  refine z_iconst (v := 0) B dL_totalEstimate_1 rfl ?_
  refine z_aload_n B dL_totalEstimate_2 rfl 0 rfl ?_
  refine z_iload_n B dL_totalEstimate_3 rfl 1 rfl ?_
  refine z_callV (As := [.int 0]) (rest := [.int 0, .ref o]) B (f_X11_totalEstimate_0 G l Φ sz x hc0_ hc121_) (cwV 1 B.1.2.2.2.2 gL_totalEstimate_X11_totalEstimate rfl rfl rfl (by decide +kernel) ⟨Nat.le_of_ble_eq_true rfl, Nat.le_of_ble_eq_true rfl⟩) hc0_ rfl rfl rfl rfl (Nat.le_of_ble_eq_true rfl) dL_totalEstimate_4 ⟨Nat.le_of_ble_eq_true rfl, Nat.le_of_ble_eq_true rfl⟩ (fun v1 Φ1 sz1 st1 hp1 hs1 => ?_)
  obtain ⟨rfl, fr1⟩ := hp1
  replace hs1 : st1 = [.long 0, .int 0, .ref o] := hs1
  subst st1
  have h_1 : Φ1 o = some (al_ G 1 gg) := ((fr1 o ho).trans hco)
  refine z_last B h_1 (Nat.le_trans hna (Nat.le_trans (Nat.le_add_right x 149) ho)) (vin rfl) dL_totalEstimate_7 (fun Φ2 hΦ1 => ?_)
  have h_2 : Φ2 o = some (al_ G 1 (vp_updL gg (0 : Int32).toNatClampNeg 0)) := fset_at hΦ1
  refine z_goto (tgt := 14) B dL_totalEstimate_8 rfl ?_
  refine z_iconst (v := 0) B dL_totalEstimate_14 rfl ?_
  exact z_ret_i B dL_totalEstimate_15 ⟨rfl, (fun b9 h9 h8 => ((fset_fr hΦ1 h8).trans ((fr1 b9 h9).trans rfl))), _, h_2, rfl⟩

set_option maxHeartbeats 4000000 in
set_option maxRecDepth 100000 in
theorem w_totalEstimate_1 (G : EnvG) (l : Launch) (Φ : Hm) (sz : Nat) (x : Nat) (o : Nat) (gg : Nat → Int64) (hc0_ : Φ x = some (o_ 13 [.ref (x + 1), .ref (x + 3), .ref (x + 24), .ref (x + 46), .ref (x + 74), .ref (x + 80), .ref (x + 132), .ref (x + 121)])) (hc121_ : Φ (x + 121) = some (o_ 11 [.ref (x + 122), .ref (x + 123), .ref (x + 126), .ref (x + 129), .int 0])) (hco : Φ o = some (al_ G 1 gg)) (hna : G.2.2.2 ≤ x) (ho : x + 149 ≤ o) : Ct G l yL_totalEstimate wsL_totalEstimate ({ frames := 2, cells := 0, slots := 0, locals := 45 }) 0 0 [.ref x, .int 1, .ref o] Φ sz (fun v Φ1 sz1 => v = some (.int 0) ∧ (∀ b9 : Nat, x + 149 ≤ b9 → b9 ≠ o → Φ1 b9 = Φ b9) ∧ ∃ g1 : Nat → Int64, Φ1 o = some (al_ G 1 g1) ∧ g1 0 = 0) := by
  refine Ct.ofH (cc := cL_totalEstimate) (maxL := 4) (ret := (some .int)) (by decide) rfl (Nat.le_of_ble_eq_true rfl) ?_
  intro p9 e9 s9 m9 w9 t9 k9 B htab9
  show Z p9 l e9 _ s9 m9 _ w9 t9 k9 _ G 4 0 [(0, .ref x), (1, .int 1), (2, .ref o)] [] Φ sz 0 0
  refine z_aload_n B dL_totalEstimate_0 rfl 2 rfl ?_
  refine z_iconst (v := 0) B dL_totalEstimate_1 rfl ?_
  refine z_aload_n B dL_totalEstimate_2 rfl 0 rfl ?_
  refine z_iload_n B dL_totalEstimate_3 rfl 1 rfl ?_
  refine z_callV (As := [.int 1]) (rest := [.int 0, .ref o]) B (f_X11_totalEstimate_1 G l Φ sz x hc0_ hc121_) (cwV 1 B.1.2.2.2.2 gL_totalEstimate_X11_totalEstimate rfl rfl rfl (by decide +kernel) ⟨Nat.le_of_ble_eq_true rfl, Nat.le_of_ble_eq_true rfl⟩) hc0_ rfl rfl rfl rfl (Nat.le_of_ble_eq_true rfl) dL_totalEstimate_4 ⟨Nat.le_of_ble_eq_true rfl, Nat.le_of_ble_eq_true rfl⟩ (fun v1 Φ1 sz1 st1 hp1 hs1 => ?_)
  obtain ⟨rfl, fr1⟩ := hp1
  replace hs1 : st1 = [.long 0, .int 0, .ref o] := hs1
  subst st1
  have h_1 : Φ1 o = some (al_ G 1 gg) := ((fr1 o ho).trans hco)
  refine z_last B h_1 (Nat.le_trans hna (Nat.le_trans (Nat.le_add_right x 149) ho)) (vin rfl) dL_totalEstimate_7 (fun Φ2 hΦ1 => ?_)
  have h_2 : Φ2 o = some (al_ G 1 (vp_updL gg (0 : Int32).toNatClampNeg 0)) := fset_at hΦ1
  refine z_goto (tgt := 14) B dL_totalEstimate_8 rfl ?_
  refine z_iconst (v := 0) B dL_totalEstimate_14 rfl ?_
  exact z_ret_i B dL_totalEstimate_15 ⟨rfl, (fun b9 h9 h8 => ((fset_fr hΦ1 h8).trans ((fr1 b9 h9).trans rfl))), _, h_2, rfl⟩

set_option maxHeartbeats 4000000 in
set_option maxRecDepth 100000 in
theorem w_totalEstimate_x (G : EnvG) (l : Launch) (hl9 : l.stackTraces = false) (Φ : Hm) (sz : Nat) (x : Nat) (o : Nat) (w : Int32) (hc0_ : Φ x = some (o_ 13 [.ref (x + 1), .ref (x + 3), .ref (x + 24), .ref (x + 46), .ref (x + 74), .ref (x + 80), .ref (x + 132), .ref (x + 121)])) (hw : ¬ (w = 0 ∨ w = 1)) : Ct G l yL_totalEstimate wsL_totalEstimate ({ frames := 8, cells := 1, slots := 6, locals := 122 }) 1 6 [.ref x, .int w, .ref o] Φ sz (fun v Φ1 sz1 => v = some (.int 1) ∧ Φ1 = Φ) := by
  refine Ct.ofH (cc := cL_totalEstimate) (maxL := 4) (ret := (some .int)) (by decide) rfl (Nat.le_of_ble_eq_true rfl) ?_
  intro p9 e9 s9 m9 w9 t9 k9 B htab9
  show Z p9 l e9 _ s9 m9 _ w9 t9 k9 _ G 4 0 [(0, .ref x), (1, .int w), (2, .ref o)] [] Φ sz 0 0
  refine z_aload_n B dL_totalEstimate_0 rfl 2 rfl ?_
  refine z_iconst (v := 0) B dL_totalEstimate_1 rfl ?_
  refine z_aload_n B dL_totalEstimate_2 rfl 0 rfl ?_
  refine z_iload_n B dL_totalEstimate_3 rfl 1 rfl ?_
  refine z_callVC (As := [.int w]) (rest := [.int 0, .ref o]) B (f_X11_totalEstimate_x G l hl9 Φ sz x w hw) (cwV 1 B.1.2.2.2.2 gL_totalEstimate_X11_totalEstimate rfl rfl rfl (by decide +kernel) ⟨Nat.le_of_ble_eq_true rfl, Nat.le_of_ble_eq_true rfl⟩) hc0_ rfl rfl rfl rfl (Nat.le_of_ble_eq_true rfl) dL_totalEstimate_4 ⟨Nat.le_of_ble_eq_true rfl, Nat.le_of_ble_eq_true rfl⟩ [] ⟨0, 8, 11, 13⟩ [] (htab9.trans rfl) (fun z9 hz9 => absurd hz9 (List.not_mem_nil)) (by decide) (by decide) (by decide +kernel) (by decide) (fun q9 sz9 => ?_)
  refine z_astore_n (lv' := [(3, .ref q9), (0, .ref x), (1, .int w), (2, .ref o)]) B dL_totalEstimate_11 rfl (Nat.le_of_ble_eq_true rfl) rfl ?_
  refine z_iconst (v := 1) B dL_totalEstimate_12 rfl ?_
  exact z_ret_i B dL_totalEstimate_13 ⟨rfl, rfl⟩

set_option maxHeartbeats 4000000 in
set_option maxRecDepth 100000 in
theorem w_totalMargin_0 (G : EnvG) (l : Launch) (Φ : Hm) (sz : Nat) (x : Nat) (o : Nat) (gg : Nat → UInt64) (hc0_ : Φ x = some (o_ 13 [.ref (x + 1), .ref (x + 3), .ref (x + 24), .ref (x + 46), .ref (x + 74), .ref (x + 80), .ref (x + 132), .ref (x + 121)])) (hc121_ : Φ (x + 121) = some (o_ 11 [.ref (x + 122), .ref (x + 123), .ref (x + 126), .ref (x + 129), .int 0])) (hco : Φ o = some (ad_ G 1 gg)) (hna : G.2.2.2 ≤ x) (ho : x + 149 ≤ o) : Ct G l yL_totalMargin wsL_totalMargin ({ frames := 4, cells := 0, slots := 0, locals := 91 }) 0 0 [.ref x, .int 0, .ref o] Φ sz (fun v Φ1 sz1 => v = some (.int 0) ∧ (∀ b9 : Nat, x + 149 ≤ b9 → b9 ≠ o → Φ1 b9 = Φ b9) ∧ ∃ g1 : Nat → UInt64, Φ1 o = some (ad_ G 1 g1) ∧ g1 0 = (FP.dmul 4611505874442293084 FP.dconst0)) := by
  refine Ct.ofH (cc := cL_totalMargin) (maxL := 4) (ret := (some .int)) (by decide) rfl (Nat.le_of_ble_eq_true rfl) ?_
  intro p9 e9 s9 m9 w9 t9 k9 B htab9
  show Z p9 l e9 _ s9 m9 _ w9 t9 k9 _ G 4 0 [(0, .ref x), (1, .int 0), (2, .ref o)] [] Φ sz 0 0
  refine z_aload_n B dL_totalMargin_0 rfl 2 rfl ?_
  refine z_iconst (v := 0) B dL_totalMargin_1 rfl ?_
  refine z_aload_n B dL_totalMargin_2 rfl 0 rfl ?_
  refine z_iload_n B dL_totalMargin_3 rfl 1 rfl ?_
  refine z_callV (As := [.int 0]) (rest := [.int 0, .ref o]) B (f_X11_totalMargin_0 G l Φ sz x hc0_ hc121_) (cwV 1 B.1.2.2.2.2 gL_totalMargin_X11_totalMargin rfl rfl rfl (by decide +kernel) ⟨Nat.le_of_ble_eq_true rfl, Nat.le_of_ble_eq_true rfl⟩) hc0_ rfl rfl rfl rfl (Nat.le_of_ble_eq_true rfl) dL_totalMargin_4 ⟨Nat.le_of_ble_eq_true rfl, Nat.le_of_ble_eq_true rfl⟩ (fun v1 Φ1 sz1 st1 hp1 hs1 => ?_)
  obtain ⟨rfl, fr1⟩ := hp1
  replace hs1 : st1 = [.double (FP.dmul 4611505874442293084 FP.dconst0), .int 0, .ref o] := hs1
  subst st1
  have h_1 : Φ1 o = some (ad_ G 1 gg) := ((fr1 o ho).trans hco)
  refine z_dast B h_1 (Nat.le_trans hna (Nat.le_trans (Nat.le_add_right x 149) ho)) (vin rfl) dL_totalMargin_7 (fun Φ2 hΦ1 => ?_)
  have h_2 : Φ2 o = some (ad_ G 1 (vf_upd gg (0 : Int32).toNatClampNeg (FP.dmul 4611505874442293084 FP.dconst0))) := fset_at hΦ1
  refine z_goto (tgt := 14) B dL_totalMargin_8 rfl ?_
  refine z_iconst (v := 0) B dL_totalMargin_14 rfl ?_
  exact z_ret_i B dL_totalMargin_15 ⟨rfl, (fun b9 h9 h8 => ((fset_fr hΦ1 h8).trans ((fr1 b9 h9).trans rfl))), _, h_2, rfl⟩

set_option maxHeartbeats 4000000 in
set_option maxRecDepth 100000 in
theorem w_totalMargin_1 (G : EnvG) (l : Launch) (Φ : Hm) (sz : Nat) (x : Nat) (o : Nat) (gg : Nat → UInt64) (hc0_ : Φ x = some (o_ 13 [.ref (x + 1), .ref (x + 3), .ref (x + 24), .ref (x + 46), .ref (x + 74), .ref (x + 80), .ref (x + 132), .ref (x + 121)])) (hc121_ : Φ (x + 121) = some (o_ 11 [.ref (x + 122), .ref (x + 123), .ref (x + 126), .ref (x + 129), .int 0])) (hco : Φ o = some (ad_ G 1 gg)) (hna : G.2.2.2 ≤ x) (ho : x + 149 ≤ o) : Ct G l yL_totalMargin wsL_totalMargin ({ frames := 4, cells := 0, slots := 0, locals := 91 }) 0 0 [.ref x, .int 1, .ref o] Φ sz (fun v Φ1 sz1 => v = some (.int 0) ∧ (∀ b9 : Nat, x + 149 ≤ b9 → b9 ≠ o → Φ1 b9 = Φ b9) ∧ ∃ g1 : Nat → UInt64, Φ1 o = some (ad_ G 1 g1) ∧ g1 0 = (FP.dmul 4611505874442293084 FP.dconst0)) := by
  refine Ct.ofH (cc := cL_totalMargin) (maxL := 4) (ret := (some .int)) (by decide) rfl (Nat.le_of_ble_eq_true rfl) ?_
  intro p9 e9 s9 m9 w9 t9 k9 B htab9
  show Z p9 l e9 _ s9 m9 _ w9 t9 k9 _ G 4 0 [(0, .ref x), (1, .int 1), (2, .ref o)] [] Φ sz 0 0
  refine z_aload_n B dL_totalMargin_0 rfl 2 rfl ?_
  refine z_iconst (v := 0) B dL_totalMargin_1 rfl ?_
  refine z_aload_n B dL_totalMargin_2 rfl 0 rfl ?_
  refine z_iload_n B dL_totalMargin_3 rfl 1 rfl ?_
  refine z_callV (As := [.int 1]) (rest := [.int 0, .ref o]) B (f_X11_totalMargin_1 G l Φ sz x hc0_ hc121_) (cwV 1 B.1.2.2.2.2 gL_totalMargin_X11_totalMargin rfl rfl rfl (by decide +kernel) ⟨Nat.le_of_ble_eq_true rfl, Nat.le_of_ble_eq_true rfl⟩) hc0_ rfl rfl rfl rfl (Nat.le_of_ble_eq_true rfl) dL_totalMargin_4 ⟨Nat.le_of_ble_eq_true rfl, Nat.le_of_ble_eq_true rfl⟩ (fun v1 Φ1 sz1 st1 hp1 hs1 => ?_)
  obtain ⟨rfl, fr1⟩ := hp1
  replace hs1 : st1 = [.double (FP.dmul 4611505874442293084 FP.dconst0), .int 0, .ref o] := hs1
  subst st1
  have h_1 : Φ1 o = some (ad_ G 1 gg) := ((fr1 o ho).trans hco)
  refine z_dast B h_1 (Nat.le_trans hna (Nat.le_trans (Nat.le_add_right x 149) ho)) (vin rfl) dL_totalMargin_7 (fun Φ2 hΦ1 => ?_)
  have h_2 : Φ2 o = some (ad_ G 1 (vf_upd gg (0 : Int32).toNatClampNeg (FP.dmul 4611505874442293084 FP.dconst0))) := fset_at hΦ1
  refine z_goto (tgt := 14) B dL_totalMargin_8 rfl ?_
  refine z_iconst (v := 0) B dL_totalMargin_14 rfl ?_
  exact z_ret_i B dL_totalMargin_15 ⟨rfl, (fun b9 h9 h8 => ((fset_fr hΦ1 h8).trans ((fr1 b9 h9).trans rfl))), _, h_2, rfl⟩

set_option maxHeartbeats 4000000 in
set_option maxRecDepth 100000 in
theorem w_totalMargin_x (G : EnvG) (l : Launch) (hl9 : l.stackTraces = false) (Φ : Hm) (sz : Nat) (x : Nat) (o : Nat) (w : Int32) (hc0_ : Φ x = some (o_ 13 [.ref (x + 1), .ref (x + 3), .ref (x + 24), .ref (x + 46), .ref (x + 74), .ref (x + 80), .ref (x + 132), .ref (x + 121)])) (hw : ¬ (w = 0 ∨ w = 1)) : Ct G l yL_totalMargin wsL_totalMargin ({ frames := 8, cells := 1, slots := 6, locals := 122 }) 1 6 [.ref x, .int w, .ref o] Φ sz (fun v Φ1 sz1 => v = some (.int 1) ∧ Φ1 = Φ) := by
  refine Ct.ofH (cc := cL_totalMargin) (maxL := 4) (ret := (some .int)) (by decide) rfl (Nat.le_of_ble_eq_true rfl) ?_
  intro p9 e9 s9 m9 w9 t9 k9 B htab9
  show Z p9 l e9 _ s9 m9 _ w9 t9 k9 _ G 4 0 [(0, .ref x), (1, .int w), (2, .ref o)] [] Φ sz 0 0
  refine z_aload_n B dL_totalMargin_0 rfl 2 rfl ?_
  refine z_iconst (v := 0) B dL_totalMargin_1 rfl ?_
  refine z_aload_n B dL_totalMargin_2 rfl 0 rfl ?_
  refine z_iload_n B dL_totalMargin_3 rfl 1 rfl ?_
  refine z_callVC (As := [.int w]) (rest := [.int 0, .ref o]) B (f_X11_totalMargin_x G l hl9 Φ sz x w hw) (cwV 1 B.1.2.2.2.2 gL_totalMargin_X11_totalMargin rfl rfl rfl (by decide +kernel) ⟨Nat.le_of_ble_eq_true rfl, Nat.le_of_ble_eq_true rfl⟩) hc0_ rfl rfl rfl rfl (Nat.le_of_ble_eq_true rfl) dL_totalMargin_4 ⟨Nat.le_of_ble_eq_true rfl, Nat.le_of_ble_eq_true rfl⟩ [] ⟨0, 8, 11, 13⟩ [] (htab9.trans rfl) (fun z9 hz9 => absurd hz9 (List.not_mem_nil)) (by decide) (by decide) (by decide +kernel) (by decide) (fun q9 sz9 => ?_)
  refine z_astore_n (lv' := [(3, .ref q9), (0, .ref x), (1, .int w), (2, .ref o)]) B dL_totalMargin_11 rfl (Nat.le_of_ble_eq_true rfl) rfl ?_
  refine z_iconst (v := 1) B dL_totalMargin_12 rfl ?_
  exact z_ret_i B dL_totalMargin_13 ⟨rfl, rfl⟩

set_option maxHeartbeats 4000000 in
set_option maxRecDepth 100000 in
theorem w_ranked_0 (G : EnvG) (l : Launch) (Φ : Hm) (sz : Nat) (x : Nat) (o : Nat) (a : Int32) (gg : Nat → Int64) (hc0_ : Φ x = some (o_ 13 [.ref (x + 1), .ref (x + 3), .ref (x + 24), .ref (x + 46), .ref (x + 74), .ref (x + 80), .ref (x + 132), .ref (x + 121)])) (hc121_ : Φ (x + 121) = some (o_ 11 [.ref (x + 122), .ref (x + 123), .ref (x + 126), .ref (x + 129), .int 0])) (hco : Φ o = some (al_ G 1 gg)) (hna : G.2.2.2 ≤ x) (ho : x + 149 ≤ o) : Ct G l yL_ranked wsL_ranked ({ frames := 2, cells := 0, slots := 0, locals := 45 }) 0 0 [.ref x, .int a, .int 0, .ref o] Φ sz (fun v Φ1 sz1 => v = some (.int 0) ∧ (∀ b9 : Nat, x + 149 ≤ b9 → b9 ≠ o → Φ1 b9 = Φ b9) ∧ ∃ g1 : Nat → Int64, Φ1 o = some (al_ G 1 g1) ∧ g1 0 = (-1)) := by
  refine Ct.ofH (cc := cL_ranked) (maxL := 5) (ret := (some .int)) (by decide) rfl (Nat.le_of_ble_eq_true rfl) ?_
  intro p9 e9 s9 m9 w9 t9 k9 B htab9
  show Z p9 l e9 _ s9 m9 _ w9 t9 k9 _ G 5 0 [(0, .ref x), (1, .int a), (2, .int 0), (3, .ref o)] [] Φ sz 0 0
  refine z_aload_n B dL_ranked_0 rfl 3 rfl ?_
  refine z_iconst (v := 0) B dL_ranked_1 rfl ?_
  refine z_aload_n B dL_ranked_2 rfl 0 rfl ?_
  refine z_iload_n B dL_ranked_3 rfl 1 rfl ?_
  refine z_iload_n B dL_ranked_4 rfl 2 rfl ?_
  refine z_callV (As := [.int a, .int 0]) (rest := [.int 0, .ref o]) B (f_X11_ranked_0 G l Φ sz x a hc0_ hc121_) (cwV 2 B.1.2.2.2.2 gL_ranked_X11_ranked rfl rfl rfl (by decide +kernel) ⟨Nat.le_of_ble_eq_true rfl, Nat.le_of_ble_eq_true rfl⟩) hc0_ rfl rfl rfl rfl (Nat.le_of_ble_eq_true rfl) dL_ranked_5 ⟨Nat.le_of_ble_eq_true rfl, Nat.le_of_ble_eq_true rfl⟩ (fun v1 Φ1 sz1 st1 hp1 hs1 => ?_)
  obtain ⟨rfl, fr1⟩ := hp1
  replace hs1 : st1 = [.int (-1), .int 0, .ref o] := hs1
  subst st1
  refine z_i2l (v := (-1)) B dL_ranked_8 (by decide +kernel) ?_
  have h_1 : Φ1 o = some (al_ G 1 gg) := ((fr1 o ho).trans hco)
  refine z_last B h_1 (Nat.le_trans hna (Nat.le_trans (Nat.le_add_right x 149) ho)) (vin rfl) dL_ranked_9 (fun Φ2 hΦ1 => ?_)
  have h_2 : Φ2 o = some (al_ G 1 (vp_updL gg (0 : Int32).toNatClampNeg (-1))) := fset_at hΦ1
  refine z_goto (tgt := 17) B dL_ranked_10 rfl ?_
  refine z_iconst (v := 0) B dL_ranked_17 rfl ?_
  exact z_ret_i B dL_ranked_18 ⟨rfl, (fun b9 h9 h8 => ((fset_fr hΦ1 h8).trans ((fr1 b9 h9).trans rfl))), _, h_2, rfl⟩

set_option maxHeartbeats 4000000 in
set_option maxRecDepth 100000 in
theorem w_ranked_1 (G : EnvG) (l : Launch) (Φ : Hm) (sz : Nat) (x : Nat) (o : Nat) (a : Int32) (gg : Nat → Int64) (hc0_ : Φ x = some (o_ 13 [.ref (x + 1), .ref (x + 3), .ref (x + 24), .ref (x + 46), .ref (x + 74), .ref (x + 80), .ref (x + 132), .ref (x + 121)])) (hc121_ : Φ (x + 121) = some (o_ 11 [.ref (x + 122), .ref (x + 123), .ref (x + 126), .ref (x + 129), .int 0])) (hco : Φ o = some (al_ G 1 gg)) (hna : G.2.2.2 ≤ x) (ho : x + 149 ≤ o) : Ct G l yL_ranked wsL_ranked ({ frames := 2, cells := 0, slots := 0, locals := 45 }) 0 0 [.ref x, .int a, .int 1, .ref o] Φ sz (fun v Φ1 sz1 => v = some (.int 0) ∧ (∀ b9 : Nat, x + 149 ≤ b9 → b9 ≠ o → Φ1 b9 = Φ b9) ∧ ∃ g1 : Nat → Int64, Φ1 o = some (al_ G 1 g1) ∧ g1 0 = (-1)) := by
  refine Ct.ofH (cc := cL_ranked) (maxL := 5) (ret := (some .int)) (by decide) rfl (Nat.le_of_ble_eq_true rfl) ?_
  intro p9 e9 s9 m9 w9 t9 k9 B htab9
  show Z p9 l e9 _ s9 m9 _ w9 t9 k9 _ G 5 0 [(0, .ref x), (1, .int a), (2, .int 1), (3, .ref o)] [] Φ sz 0 0
  refine z_aload_n B dL_ranked_0 rfl 3 rfl ?_
  refine z_iconst (v := 0) B dL_ranked_1 rfl ?_
  refine z_aload_n B dL_ranked_2 rfl 0 rfl ?_
  refine z_iload_n B dL_ranked_3 rfl 1 rfl ?_
  refine z_iload_n B dL_ranked_4 rfl 2 rfl ?_
  refine z_callV (As := [.int a, .int 1]) (rest := [.int 0, .ref o]) B (f_X11_ranked_1 G l Φ sz x a hc0_ hc121_) (cwV 2 B.1.2.2.2.2 gL_ranked_X11_ranked rfl rfl rfl (by decide +kernel) ⟨Nat.le_of_ble_eq_true rfl, Nat.le_of_ble_eq_true rfl⟩) hc0_ rfl rfl rfl rfl (Nat.le_of_ble_eq_true rfl) dL_ranked_5 ⟨Nat.le_of_ble_eq_true rfl, Nat.le_of_ble_eq_true rfl⟩ (fun v1 Φ1 sz1 st1 hp1 hs1 => ?_)
  obtain ⟨rfl, fr1⟩ := hp1
  replace hs1 : st1 = [.int (-1), .int 0, .ref o] := hs1
  subst st1
  refine z_i2l (v := (-1)) B dL_ranked_8 (by decide +kernel) ?_
  have h_1 : Φ1 o = some (al_ G 1 gg) := ((fr1 o ho).trans hco)
  refine z_last B h_1 (Nat.le_trans hna (Nat.le_trans (Nat.le_add_right x 149) ho)) (vin rfl) dL_ranked_9 (fun Φ2 hΦ1 => ?_)
  have h_2 : Φ2 o = some (al_ G 1 (vp_updL gg (0 : Int32).toNatClampNeg (-1))) := fset_at hΦ1
  refine z_goto (tgt := 17) B dL_ranked_10 rfl ?_
  refine z_iconst (v := 0) B dL_ranked_17 rfl ?_
  exact z_ret_i B dL_ranked_18 ⟨rfl, (fun b9 h9 h8 => ((fset_fr hΦ1 h8).trans ((fr1 b9 h9).trans rfl))), _, h_2, rfl⟩

set_option maxHeartbeats 4000000 in
set_option maxRecDepth 100000 in
theorem w_ranked_x (G : EnvG) (l : Launch) (hl9 : l.stackTraces = false) (Φ : Hm) (sz : Nat) (x : Nat) (o : Nat) (a : Int32) (w : Int32) (hc0_ : Φ x = some (o_ 13 [.ref (x + 1), .ref (x + 3), .ref (x + 24), .ref (x + 46), .ref (x + 74), .ref (x + 80), .ref (x + 132), .ref (x + 121)])) (hw : ¬ (w = 0 ∨ w = 1)) : Ct G l yL_ranked wsL_ranked ({ frames := 8, cells := 1, slots := 6, locals := 123 }) 1 6 [.ref x, .int a, .int w, .ref o] Φ sz (fun v Φ1 sz1 => v = some (.int 1) ∧ Φ1 = Φ) := by
  refine Ct.ofH (cc := cL_ranked) (maxL := 5) (ret := (some .int)) (by decide) rfl (Nat.le_of_ble_eq_true rfl) ?_
  intro p9 e9 s9 m9 w9 t9 k9 B htab9
  show Z p9 l e9 _ s9 m9 _ w9 t9 k9 _ G 5 0 [(0, .ref x), (1, .int a), (2, .int w), (3, .ref o)] [] Φ sz 0 0
  refine z_aload_n B dL_ranked_0 rfl 3 rfl ?_
  refine z_iconst (v := 0) B dL_ranked_1 rfl ?_
  refine z_aload_n B dL_ranked_2 rfl 0 rfl ?_
  refine z_iload_n B dL_ranked_3 rfl 1 rfl ?_
  refine z_iload_n B dL_ranked_4 rfl 2 rfl ?_
  refine z_callVC (As := [.int a, .int w]) (rest := [.int 0, .ref o]) B (f_X11_ranked_x G l hl9 Φ sz x a w hw) (cwV 2 B.1.2.2.2.2 gL_ranked_X11_ranked rfl rfl rfl (by decide +kernel) ⟨Nat.le_of_ble_eq_true rfl, Nat.le_of_ble_eq_true rfl⟩) hc0_ rfl rfl rfl rfl (Nat.le_of_ble_eq_true rfl) dL_ranked_5 ⟨Nat.le_of_ble_eq_true rfl, Nat.le_of_ble_eq_true rfl⟩ [] ⟨0, 10, 13, 13⟩ [] (htab9.trans rfl) (fun z9 hz9 => absurd hz9 (List.not_mem_nil)) (by decide) (by decide) (by decide +kernel) (by decide) (fun q9 sz9 => ?_)
  refine z_astore (lv' := [(4, .ref q9), (0, .ref x), (1, .int a), (2, .int w), (3, .ref o)]) B dL_ranked_13 (Nat.le_of_ble_eq_true rfl) rfl ?_
  refine z_iconst (v := 1) B dL_ranked_15 rfl ?_
  exact z_ret_i B dL_ranked_16 ⟨rfl, rfl⟩

set_option maxHeartbeats 4000000 in
set_option maxRecDepth 100000 in
theorem w_observe (G : EnvG) (l : Launch) (Φ : Hm) (sz : Nat) (x : Nat) (o : Nat) (a : Int32) (b : Int32) (c : Int32) (d : Int32) (f : Int32) (gg : Nat → Int64) (hc0_ : Φ x = some (o_ 13 [.ref (x + 1), .ref (x + 3), .ref (x + 24), .ref (x + 46), .ref (x + 74), .ref (x + 80), .ref (x + 132), .ref (x + 121)])) (hc74_ : Φ (x + 74) = some (o_ 10 [.ref (x + 3), .ref (x + 46), .ref (x + 75), .ref (x + 77), .int 0, .ref (x + 78), .ref (x + 79), .int 0, .long 0, .int 0])) (hc80_ : Φ (x + 80) = some (o_ 4 [.ref (x + 3), .ref (x + 74), .ref (x + 81), .ref (x + 95), .int 0, .int 1, .int 1, .int 0, .int 0, .int 0, .long 0, .long 0, .long 0])) (hc81_ : Φ (x + 81) = some (o_ 6 [.ref (x + 82), .int 0])) (hc82_ : Φ (x + 82) = some (aq_ G 5 12 (va_up (va_up (va_up (va_up (va_up (va_up (va_up (va_up (va_up (va_up (va_up (va_up (fun _ => none) (0 : Int32).toNatClampNeg (some (x + 83))) (1 : Int32).toNatClampNeg (some (x + 84))) (2 : Int32).toNatClampNeg (some (x + 85))) (3 : Int32).toNatClampNeg (some (x + 86))) (4 : Int32).toNatClampNeg (some (x + 87))) (5 : Int32).toNatClampNeg (some (x + 88))) (6 : Int32).toNatClampNeg (some (x + 89))) (7 : Int32).toNatClampNeg (some (x + 90))) (8 : Int32).toNatClampNeg (some (x + 91))) (9 : Int32).toNatClampNeg (some (x + 92))) (10 : Int32).toNatClampNeg (some (x + 93))) (11 : Int32).toNatClampNeg (some (x + 94))))) (hc83_ : Φ (x + 83) = some (o_ 5 [.long 0, .long 0, .long 0, .int 0, .int 0])) (hc95_ : Φ (x + 95) = some (o_ 6 [.ref (x + 96), .int 0])) (hc96_ : Φ (x + 96) = some (aq_ G 5 24 (va_up (va_up (va_up (va_up (va_up (va_up (va_up (va_up (va_up (va_up (va_up (va_up (va_up (va_up (va_up (va_up (va_up (va_up (va_up (va_up (va_up (va_up (va_up (va_up (fun _ => none) (0 : Int32).toNatClampNeg (some (x + 97))) (1 : Int32).toNatClampNeg (some (x + 98))) (2 : Int32).toNatClampNeg (some (x + 99))) (3 : Int32).toNatClampNeg (some (x + 100))) (4 : Int32).toNatClampNeg (some (x + 101))) (5 : Int32).toNatClampNeg (some (x + 102))) (6 : Int32).toNatClampNeg (some (x + 103))) (7 : Int32).toNatClampNeg (some (x + 104))) (8 : Int32).toNatClampNeg (some (x + 105))) (9 : Int32).toNatClampNeg (some (x + 106))) (10 : Int32).toNatClampNeg (some (x + 107))) (11 : Int32).toNatClampNeg (some (x + 108))) (12 : Int32).toNatClampNeg (some (x + 109))) (13 : Int32).toNatClampNeg (some (x + 110))) (14 : Int32).toNatClampNeg (some (x + 111))) (15 : Int32).toNatClampNeg (some (x + 112))) (16 : Int32).toNatClampNeg (some (x + 113))) (17 : Int32).toNatClampNeg (some (x + 114))) (18 : Int32).toNatClampNeg (some (x + 115))) (19 : Int32).toNatClampNeg (some (x + 116))) (20 : Int32).toNatClampNeg (some (x + 117))) (21 : Int32).toNatClampNeg (some (x + 118))) (22 : Int32).toNatClampNeg (some (x + 119))) (23 : Int32).toNatClampNeg (some (x + 120))))) (hc97_ : Φ (x + 97) = some (o_ 5 [.long 0, .long 0, .long 0, .int 0, .int 0])) (hco : Φ o = some (al_ G 1 gg)) (hna : G.2.2.2 ≤ x) (ho : x + 149 ≤ o) (hk : ¬ lg_cmp (kOf a b c d) (-1) = 0 ∧ ¬ f < 1 ∧ ¬ 65535 < f) : Ct G l yL_observe wsL_observe ({ frames := 5, cells := 0, slots := 0, locals := 126 }) 0 0 [.ref x, .int a, .int b, .int c, .int d, .int f, .ref o] Φ sz (fun v Φ1 sz1 => v = some (.int 0) ∧ (∀ b9 : Nat, x + 149 ≤ b9 → b9 ≠ o → Φ1 b9 = Φ b9) ∧ ∃ g1 : Nat → Int64, Φ1 o = some (al_ G 1 g1) ∧ g1 0 = 1) := by
  refine Ct.ofH (cc := cL_observe) (maxL := 8) (ret := (some .int)) (by decide) rfl (Nat.le_of_ble_eq_true rfl) ?_
  intro p9 e9 s9 m9 w9 t9 k9 B htab9
  show Z p9 l e9 _ s9 m9 _ w9 t9 k9 _ G 8 0 [(0, .ref x), (1, .int a), (2, .int b), (3, .int c), (4, .int d), (5, .int f), (6, .ref o)] [] Φ sz 0 0
  refine z_aload B dL_observe_0 6 rfl ?_
  refine z_iconst (v := 0) B dL_observe_2 rfl ?_
  refine z_aload_n B dL_observe_3 rfl 0 rfl ?_
  refine z_iload_n B dL_observe_4 rfl 1 rfl ?_
  refine z_iload_n B dL_observe_5 rfl 2 rfl ?_
  refine z_iload_n B dL_observe_6 rfl 3 rfl ?_
  refine z_iload B dL_observe_7 4 rfl ?_
  refine z_iload B dL_observe_9 5 rfl ?_
  refine z_callV (As := [.int a, .int b, .int c, .int d, .int f]) (rest := [.int 0, .ref o]) B (f_X11_observe G l Φ sz x a b c d f hc0_ hc74_ hc80_ hc81_ hc82_ hc83_ hc95_ hc96_ hc97_ hna hk) (cwV 5 B.1.2.2.2.2 gL_observe_X11_observe rfl rfl rfl (by decide +kernel) ⟨Nat.le_of_ble_eq_true rfl, Nat.le_of_ble_eq_true rfl⟩) hc0_ rfl rfl rfl rfl (Nat.le_of_ble_eq_true rfl) dL_observe_11 ⟨Nat.le_of_ble_eq_true rfl, Nat.le_of_ble_eq_true rfl⟩ (fun v1 Φ1 sz1 st1 hp1 hs1 => ?_)
  obtain ⟨rfl, fr1⟩ := hp1
  replace hs1 : st1 = [.int 1, .int 0, .ref o] := hs1
  subst st1
  refine z_if_eq (tgt := 21) B dL_observe_14 rfl (fun h9 => absurd h9 (by decide)) (fun c_1 => ?_)
  refine z_lconst (v := 1) B dL_observe_17 rfl ?_
  refine z_goto (tgt := 22) B dL_observe_18 rfl ?_
  have h_1 : Φ1 o = some (al_ G 1 gg) := ((fr1 o ho).trans hco)
  refine z_last B h_1 (Nat.le_trans hna (Nat.le_trans (Nat.le_add_right x 149) ho)) (vin rfl) dL_observe_22 (fun Φ2 hΦ1 => ?_)
  have h_2 : Φ2 o = some (al_ G 1 (vp_updL gg (0 : Int32).toNatClampNeg 1)) := fset_at hΦ1
  refine z_goto (tgt := 30) B dL_observe_23 rfl ?_
  refine z_iconst (v := 0) B dL_observe_30 rfl ?_
  exact z_ret_i B dL_observe_31 ⟨rfl, (fun b9 h9 h8 => ((fset_fr hΦ1 h8).trans ((fr1 b9 h9).trans rfl))), _, h_2, rfl⟩

set_option maxHeartbeats 4000000 in
set_option maxRecDepth 100000 in
theorem w_observe_x (G : EnvG) (l : Launch) (hl9 : l.stackTraces = false) (Φ : Hm) (sz : Nat) (x : Nat) (o : Nat) (a : Int32) (b : Int32) (c : Int32) (d : Int32) (f : Int32) (hc0_ : Φ x = some (o_ 13 [.ref (x + 1), .ref (x + 3), .ref (x + 24), .ref (x + 46), .ref (x + 74), .ref (x + 80), .ref (x + 132), .ref (x + 121)])) (hk : ¬ (¬ lg_cmp (kOf a b c d) (-1) = 0 ∧ ¬ f < 1 ∧ ¬ 65535 < f)) : Ct G l yL_observe wsL_observe ({ frames := 8, cells := 1, slots := 6, locals := 131 }) 1 6 [.ref x, .int a, .int b, .int c, .int d, .int f, .ref o] Φ sz (fun v Φ1 sz1 => v = some (.int 1) ∧ Φ1 = Φ) := by
  refine Ct.ofH (cc := cL_observe) (maxL := 8) (ret := (some .int)) (by decide) rfl (Nat.le_of_ble_eq_true rfl) ?_
  intro p9 e9 s9 m9 w9 t9 k9 B htab9
  show Z p9 l e9 _ s9 m9 _ w9 t9 k9 _ G 8 0 [(0, .ref x), (1, .int a), (2, .int b), (3, .int c), (4, .int d), (5, .int f), (6, .ref o)] [] Φ sz 0 0
  refine z_aload B dL_observe_0 6 rfl ?_
  refine z_iconst (v := 0) B dL_observe_2 rfl ?_
  refine z_aload_n B dL_observe_3 rfl 0 rfl ?_
  refine z_iload_n B dL_observe_4 rfl 1 rfl ?_
  refine z_iload_n B dL_observe_5 rfl 2 rfl ?_
  refine z_iload_n B dL_observe_6 rfl 3 rfl ?_
  refine z_iload B dL_observe_7 4 rfl ?_
  refine z_iload B dL_observe_9 5 rfl ?_
  refine z_callVC (As := [.int a, .int b, .int c, .int d, .int f]) (rest := [.int 0, .ref o]) B (f_X11_observe_x G l hl9 Φ sz x a b c d f hk) (cwV 5 B.1.2.2.2.2 gL_observe_X11_observe rfl rfl rfl (by decide +kernel) ⟨Nat.le_of_ble_eq_true rfl, Nat.le_of_ble_eq_true rfl⟩) hc0_ rfl rfl rfl rfl (Nat.le_of_ble_eq_true rfl) dL_observe_11 ⟨Nat.le_of_ble_eq_true rfl, Nat.le_of_ble_eq_true rfl⟩ [] ⟨0, 23, 26, 13⟩ [] (htab9.trans rfl) (fun z9 hz9 => absurd hz9 (List.not_mem_nil)) (by decide) (by decide) (by decide +kernel) (by decide) (fun q9 sz9 => ?_)
  refine z_astore (lv' := [(7, .ref q9), (0, .ref x), (1, .int a), (2, .int b), (3, .int c), (4, .int d), (5, .int f), (6, .ref o)]) B dL_observe_26 (Nat.le_of_ble_eq_true rfl) rfl ?_
  refine z_iconst (v := 1) B dL_observe_28 rfl ?_
  exact z_ret_i B dL_observe_29 ⟨rfl, rfl⟩

set_option maxHeartbeats 4000000 in
set_option maxRecDepth 100000 in
theorem w_observeMany_x (G : EnvG) (l : Launch) (hl9 : l.stackTraces = false) (Φ : Hm) (sz : Nat) (x : Nat) (o : Nat) (a : Int32) (b : Int32) (c : Int32) (d : Int32) (f : Int32) (g : Int32) (hc0_ : Φ x = some (o_ 13 [.ref (x + 1), .ref (x + 3), .ref (x + 24), .ref (x + 46), .ref (x + 74), .ref (x + 80), .ref (x + 132), .ref (x + 121)])) (hk : ¬ (¬ lg_cmp (kOf a b c d) (-1) = 0 ∧ ¬ f < 1 ∧ ¬ 65535 < f ∧ ¬ g < 1 ∧ g ≤ 200)) : Ct G l yL_observeMany wsL_observeMany ({ frames := 8, cells := 1, slots := 6, locals := 132 }) 1 6 [.ref x, .int a, .int b, .int c, .int d, .int f, .int g, .ref o] Φ sz (fun v Φ1 sz1 => v = some (.int 1) ∧ Φ1 = Φ) := by
  refine Ct.ofH (cc := cL_observeMany) (maxL := 9) (ret := (some .int)) (by decide) rfl (Nat.le_of_ble_eq_true rfl) ?_
  intro p9 e9 s9 m9 w9 t9 k9 B htab9
  show Z p9 l e9 _ s9 m9 _ w9 t9 k9 _ G 9 0 [(0, .ref x), (1, .int a), (2, .int b), (3, .int c), (4, .int d), (5, .int f), (6, .int g), (7, .ref o)] [] Φ sz 0 0
  refine z_aload B dL_observeMany_0 7 rfl ?_
  refine z_iconst (v := 0) B dL_observeMany_2 rfl ?_
  refine z_aload_n B dL_observeMany_3 rfl 0 rfl ?_
  refine z_iload_n B dL_observeMany_4 rfl 1 rfl ?_
  refine z_iload_n B dL_observeMany_5 rfl 2 rfl ?_
  refine z_iload_n B dL_observeMany_6 rfl 3 rfl ?_
  refine z_iload B dL_observeMany_7 4 rfl ?_
  refine z_iload B dL_observeMany_9 5 rfl ?_
  refine z_iload B dL_observeMany_11 6 rfl ?_
  refine z_callVC (As := [.int a, .int b, .int c, .int d, .int f, .int g]) (rest := [.int 0, .ref o]) B (f_X11_observeMany_x G l hl9 Φ sz x a b c d f g hk) (cwV 6 B.1.2.2.2.2 gL_observeMany_X11_observeMany rfl rfl rfl (by decide +kernel) ⟨Nat.le_of_ble_eq_true rfl, Nat.le_of_ble_eq_true rfl⟩) hc0_ rfl rfl rfl rfl (Nat.le_of_ble_eq_true rfl) dL_observeMany_13 ⟨Nat.le_of_ble_eq_true rfl, Nat.le_of_ble_eq_true rfl⟩ [] ⟨0, 18, 21, 13⟩ [] (htab9.trans rfl) (fun z9 hz9 => absurd hz9 (List.not_mem_nil)) (by decide) (by decide) (by decide +kernel) (by decide) (fun q9 sz9 => ?_)
  refine z_astore (lv' := [(8, .ref q9), (0, .ref x), (1, .int a), (2, .int b), (3, .int c), (4, .int d), (5, .int f), (6, .int g), (7, .ref o)]) B dL_observeMany_21 (Nat.le_of_ble_eq_true rfl) rfl ?_
  refine z_iconst (v := 1) B dL_observeMany_23 rfl ?_
  exact z_ret_i B dL_observeMany_24 ⟨rfl, rfl⟩

set_option maxHeartbeats 4000000 in
set_option maxRecDepth 100000 in
theorem w_observeMany (G : EnvG) (l : Launch) (Φ : Hm) (sz : Nat) (x : Nat) (o : Nat) (a : Int32) (b : Int32) (c : Int32) (d : Int32) (f : Int32) (n : Nat) (gg : Nat → Int64) (hc0_ : Φ x = some (o_ 13 [.ref (x + 1), .ref (x + 3), .ref (x + 24), .ref (x + 46), .ref (x + 74), .ref (x + 80), .ref (x + 132), .ref (x + 121)])) (hc74_ : Φ (x + 74) = some (o_ 10 [.ref (x + 3), .ref (x + 46), .ref (x + 75), .ref (x + 77), .int 0, .ref (x + 78), .ref (x + 79), .int 0, .long 0, .int 0])) (hc80_ : Φ (x + 80) = some (o_ 4 [.ref (x + 3), .ref (x + 74), .ref (x + 81), .ref (x + 95), .int 0, .int 1, .int 1, .int 0, .int 0, .int 0, .long 0, .long 0, .long 0])) (hc81_ : Φ (x + 81) = some (o_ 6 [.ref (x + 82), .int 0])) (hc82_ : Φ (x + 82) = some (aq_ G 5 12 (va_up (va_up (va_up (va_up (va_up (va_up (va_up (va_up (va_up (va_up (va_up (va_up (fun _ => none) (0 : Int32).toNatClampNeg (some (x + 83))) (1 : Int32).toNatClampNeg (some (x + 84))) (2 : Int32).toNatClampNeg (some (x + 85))) (3 : Int32).toNatClampNeg (some (x + 86))) (4 : Int32).toNatClampNeg (some (x + 87))) (5 : Int32).toNatClampNeg (some (x + 88))) (6 : Int32).toNatClampNeg (some (x + 89))) (7 : Int32).toNatClampNeg (some (x + 90))) (8 : Int32).toNatClampNeg (some (x + 91))) (9 : Int32).toNatClampNeg (some (x + 92))) (10 : Int32).toNatClampNeg (some (x + 93))) (11 : Int32).toNatClampNeg (some (x + 94))))) (hc83_ : Φ (x + 83) = some (o_ 5 [.long 0, .long 0, .long 0, .int 0, .int 0])) (hc95_ : Φ (x + 95) = some (o_ 6 [.ref (x + 96), .int 0])) (hc96_ : Φ (x + 96) = some (aq_ G 5 24 (va_up (va_up (va_up (va_up (va_up (va_up (va_up (va_up (va_up (va_up (va_up (va_up (va_up (va_up (va_up (va_up (va_up (va_up (va_up (va_up (va_up (va_up (va_up (va_up (fun _ => none) (0 : Int32).toNatClampNeg (some (x + 97))) (1 : Int32).toNatClampNeg (some (x + 98))) (2 : Int32).toNatClampNeg (some (x + 99))) (3 : Int32).toNatClampNeg (some (x + 100))) (4 : Int32).toNatClampNeg (some (x + 101))) (5 : Int32).toNatClampNeg (some (x + 102))) (6 : Int32).toNatClampNeg (some (x + 103))) (7 : Int32).toNatClampNeg (some (x + 104))) (8 : Int32).toNatClampNeg (some (x + 105))) (9 : Int32).toNatClampNeg (some (x + 106))) (10 : Int32).toNatClampNeg (some (x + 107))) (11 : Int32).toNatClampNeg (some (x + 108))) (12 : Int32).toNatClampNeg (some (x + 109))) (13 : Int32).toNatClampNeg (some (x + 110))) (14 : Int32).toNatClampNeg (some (x + 111))) (15 : Int32).toNatClampNeg (some (x + 112))) (16 : Int32).toNatClampNeg (some (x + 113))) (17 : Int32).toNatClampNeg (some (x + 114))) (18 : Int32).toNatClampNeg (some (x + 115))) (19 : Int32).toNatClampNeg (some (x + 116))) (20 : Int32).toNatClampNeg (some (x + 117))) (21 : Int32).toNatClampNeg (some (x + 118))) (22 : Int32).toNatClampNeg (some (x + 119))) (23 : Int32).toNatClampNeg (some (x + 120))))) (hc97_ : Φ (x + 97) = some (o_ 5 [.long 0, .long 0, .long 0, .int 0, .int 0])) (hco : Φ o = some (al_ G 1 gg)) (hna : G.2.2.2 ≤ x) (ho : x + 149 ≤ o) (hk : ¬ lg_cmp (kOf a b c d) (-1) = 0 ∧ ¬ f < 1 ∧ ¬ 65535 < f ∧ ¬ nI n < 1 ∧ nI n ≤ 200) (hn1 : 1 ≤ n) (hn2 : n ≤ 200) : Ct G l yL_observeMany wsL_observeMany ({ frames := 5, cells := 0, slots := 0, locals := 127 }) 0 0 [.ref x, .int a, .int b, .int c, .int d, .int f, .int (nI n), .ref o] Φ sz (fun v Φ1 sz1 => v = some (.int 0) ∧ (∀ b9 : Nat, x + 149 ≤ b9 → b9 ≠ o → Φ1 b9 = Φ b9) ∧ ∃ g1 : Nat → Int64, Φ1 o = some (al_ G 1 g1) ∧ g1 0 = ((nI n).toInt64)) := by
  refine Ct.ofH (cc := cL_observeMany) (maxL := 9) (ret := (some .int)) (by decide) rfl (Nat.le_of_ble_eq_true rfl) ?_
  intro p9 e9 s9 m9 w9 t9 k9 B htab9
  show Z p9 l e9 _ s9 m9 _ w9 t9 k9 _ G 9 0 [(0, .ref x), (1, .int a), (2, .int b), (3, .int c), (4, .int d), (5, .int f), (6, .int (nI n)), (7, .ref o)] [] Φ sz 0 0
  refine z_aload B dL_observeMany_0 7 rfl ?_
  refine z_iconst (v := 0) B dL_observeMany_2 rfl ?_
  refine z_aload_n B dL_observeMany_3 rfl 0 rfl ?_
  refine z_iload_n B dL_observeMany_4 rfl 1 rfl ?_
  refine z_iload_n B dL_observeMany_5 rfl 2 rfl ?_
  refine z_iload_n B dL_observeMany_6 rfl 3 rfl ?_
  refine z_iload B dL_observeMany_7 4 rfl ?_
  refine z_iload B dL_observeMany_9 5 rfl ?_
  refine z_iload B dL_observeMany_11 6 rfl ?_
  refine z_callV (As := [.int a, .int b, .int c, .int d, .int f, .int (nI n)]) (rest := [.int 0, .ref o]) B (f_X11_observeMany G l Φ sz x a b c d f n hc0_ hc74_ hc80_ hc81_ hc82_ hc83_ hc95_ hc96_ hc97_ hna hk hn1 hn2) (cwV 6 B.1.2.2.2.2 gL_observeMany_X11_observeMany rfl rfl rfl (by decide +kernel) ⟨Nat.le_of_ble_eq_true rfl, Nat.le_of_ble_eq_true rfl⟩) hc0_ rfl rfl rfl rfl (Nat.le_of_ble_eq_true rfl) dL_observeMany_13 ⟨Nat.le_of_ble_eq_true rfl, Nat.le_of_ble_eq_true rfl⟩ (fun v1 Φ1 sz1 st1 hp1 hs1 => ?_)
  obtain ⟨rfl, fr1⟩ := hp1
  replace hs1 : st1 = [.int (nI n), .int 0, .ref o] := hs1
  subst st1
  refine z_i2l (v := (nI n).toInt64) B dL_observeMany_16 rfl ?_
  have h_1 : Φ1 o = some (al_ G 1 gg) := ((fr1 o ho).trans hco)
  refine z_last B h_1 (Nat.le_trans hna (Nat.le_trans (Nat.le_add_right x 149) ho)) (vin rfl) dL_observeMany_17 (fun Φ2 hΦ1 => ?_)
  have h_2 : Φ2 o = some (al_ G 1 (vp_updL gg (0 : Int32).toNatClampNeg ((nI n).toInt64))) := fset_at hΦ1
  refine z_goto (tgt := 25) B dL_observeMany_18 rfl ?_
  refine z_iconst (v := 0) B dL_observeMany_25 rfl ?_
  exact z_ret_i B dL_observeMany_26 ⟨rfl, (fun b9 h9 h8 => ((fset_fr hΦ1 h8).trans ((fr1 b9 h9).trans rfl))), _, h_2, rfl⟩

set_option maxHeartbeats 4000000 in
set_option maxRecDepth 100000 in
theorem w_advance (G : EnvG) (l : Launch) (Φ : Hm) (sz : Nat) (x : Nat) (o : Nat) (n : Nat) (gg : Nat → Int64) (hc0_ : Φ x = some (o_ 13 [.ref (x + 1), .ref (x + 3), .ref (x + 24), .ref (x + 46), .ref (x + 74), .ref (x + 80), .ref (x + 132), .ref (x + 121)])) (hc3_ : Φ (x + 3) = some (o_ 3 [.ref (x + 4), .ref (x + 5), .ref (x + 6), .ref (x + 7), .int 1, .int 511])) (hc4_ : Φ (x + 4) = some (ai_ G 9 usT)) (hc74_ : Φ (x + 74) = some (o_ 10 [.ref (x + 3), .ref (x + 46), .ref (x + 75), .ref (x + 77), .int 0, .ref (x + 78), .ref (x + 79), .int 0, .long 0, .int 0])) (hc80_ : Φ (x + 80) = some (o_ 4 [.ref (x + 3), .ref (x + 74), .ref (x + 81), .ref (x + 95), .int 0, .int 1, .int 1, .int 0, .int 0, .int 0, .long 0, .long 0, .long 0])) (hc81_ : Φ (x + 81) = some (o_ 6 [.ref (x + 82), .int 0])) (hco : Φ o = some (al_ G 1 gg)) (hna : G.2.2.2 ≤ x) (ho : x + 149 ≤ o) (hn1 : ¬ nI n < 1) (hn3 : nI n ≤ 1000) (hn2 : n ≤ 1000) : Ct G l yL_advance wsL_advance ({ frames := 4, cells := 0, slots := 0, locals := 90 }) 0 0 [.ref x, .int (nI n), .ref o] Φ sz (fun v Φ1 sz1 => v = some (.int 0) ∧ (∀ b9 : Nat, x + 149 ≤ b9 → b9 ≠ o → Φ1 b9 = Φ b9) ∧ ∃ g1 : Nat → Int64, Φ1 o = some (al_ G 1 g1) ∧ g1 0 = 0) := by
  refine Ct.ofH (cc := cL_advance) (maxL := 4) (ret := (some .int)) (by decide) rfl (Nat.le_of_ble_eq_true rfl) ?_
  intro p9 e9 s9 m9 w9 t9 k9 B htab9
  show Z p9 l e9 _ s9 m9 _ w9 t9 k9 _ G 4 0 [(0, .ref x), (1, .int (nI n)), (2, .ref o)] [] Φ sz 0 0
  refine z_aload_n B dL_advance_0 rfl 2 rfl ?_
  refine z_iconst (v := 0) B dL_advance_1 rfl ?_
  refine z_aload_n B dL_advance_2 rfl 0 rfl ?_
  refine z_iload_n B dL_advance_3 rfl 1 rfl ?_
  refine z_callV (As := [.int (nI n)]) (rest := [.int 0, .ref o]) B (f_X11_advance G l Φ sz x n hc0_ hc3_ hc4_ hc74_ hc80_ hc81_ hna hn1 hn3 hn2) (cwV 1 B.1.2.2.2.2 gL_advance_X11_advance rfl rfl rfl (by decide +kernel) ⟨Nat.le_of_ble_eq_true rfl, Nat.le_of_ble_eq_true rfl⟩) hc0_ rfl rfl rfl rfl (Nat.le_of_ble_eq_true rfl) dL_advance_4 ⟨Nat.le_of_ble_eq_true rfl, Nat.le_of_ble_eq_true rfl⟩ (fun v1 Φ1 sz1 st1 hp1 hs1 => ?_)
  obtain ⟨rfl, fr1⟩ := hp1
  replace hs1 : st1 = [.int 0, .int 0, .ref o] := hs1
  subst st1
  refine z_i2l (v := 0) B dL_advance_7 (by decide +kernel) ?_
  have h_1 : Φ1 o = some (al_ G 1 gg) := ((fr1 o ho).trans hco)
  refine z_last B h_1 (Nat.le_trans hna (Nat.le_trans (Nat.le_add_right x 149) ho)) (vin rfl) dL_advance_8 (fun Φ2 hΦ1 => ?_)
  have h_2 : Φ2 o = some (al_ G 1 (vp_updL gg (0 : Int32).toNatClampNeg 0)) := fset_at hΦ1
  refine z_goto (tgt := 18) B dL_advance_9 rfl ?_
  refine z_iconst (v := 0) B dL_advance_18 rfl ?_
  exact z_ret_i B dL_advance_19 ⟨rfl, (fun b9 h9 h8 => ((fset_fr hΦ1 h8).trans ((fr1 b9 h9).trans rfl))), _, h_2, rfl⟩

set_option maxHeartbeats 4000000 in
set_option maxRecDepth 100000 in
theorem w_advance_x (G : EnvG) (l : Launch) (hl9 : l.stackTraces = false) (Φ : Hm) (sz : Nat) (x : Nat) (o : Nat) (a : Int32) (hc0_ : Φ x = some (o_ 13 [.ref (x + 1), .ref (x + 3), .ref (x + 24), .ref (x + 46), .ref (x + 74), .ref (x + 80), .ref (x + 132), .ref (x + 121)])) (ha : ¬ (¬ a < 1 ∧ a ≤ 1000)) : Ct G l yL_advance wsL_advance ({ frames := 7, cells := 1, slots := 6, locals := 104 }) 1 6 [.ref x, .int a, .ref o] Φ sz (fun v Φ1 sz1 => v = some (.int 1) ∧ Φ1 = Φ) := by
  refine Ct.ofH (cc := cL_advance) (maxL := 4) (ret := (some .int)) (by decide) rfl (Nat.le_of_ble_eq_true rfl) ?_
  intro p9 e9 s9 m9 w9 t9 k9 B htab9
  show Z p9 l e9 _ s9 m9 _ w9 t9 k9 _ G 4 0 [(0, .ref x), (1, .int a), (2, .ref o)] [] Φ sz 0 0
  refine z_aload_n B dL_advance_0 rfl 2 rfl ?_
  refine z_iconst (v := 0) B dL_advance_1 rfl ?_
  refine z_aload_n B dL_advance_2 rfl 0 rfl ?_
  refine z_iload_n B dL_advance_3 rfl 1 rfl ?_
  refine z_callVC (As := [.int a]) (rest := [.int 0, .ref o]) B (f_X11_advance_x G l hl9 Φ sz x a ha) (cwV 1 B.1.2.2.2.2 gL_advance_X11_advance rfl rfl rfl (by decide +kernel) ⟨Nat.le_of_ble_eq_true rfl, Nat.le_of_ble_eq_true rfl⟩) hc0_ rfl rfl rfl rfl (Nat.le_of_ble_eq_true rfl) dL_advance_4 ⟨Nat.le_of_ble_eq_true rfl, Nat.le_of_ble_eq_true rfl⟩ [] ⟨0, 9, 12, 13⟩ [⟨0, 9, 15, 23⟩] (htab9.trans rfl) (fun z9 hz9 => absurd hz9 (List.not_mem_nil)) (by decide) (by decide) (by decide +kernel) (by decide) (fun q9 sz9 => ?_)
  refine z_astore_n (lv' := [(3, .ref q9), (0, .ref x), (1, .int a), (2, .ref o)]) B dL_advance_12 rfl (Nat.le_of_ble_eq_true rfl) rfl ?_
  refine z_iconst (v := 1) B dL_advance_13 rfl ?_
  exact z_ret_i B dL_advance_14 ⟨rfl, rfl⟩

set_option maxHeartbeats 4000000 in
set_option maxRecDepth 100000 in
theorem w_fieldAt_0 (G : EnvG) (l : Launch) (Φ : Hm) (sz : Nat) (x : Nat) (o : Nat) (gg : Nat → Int64) (hc0_ : Φ x = some (o_ 13 [.ref (x + 1), .ref (x + 3), .ref (x + 24), .ref (x + 46), .ref (x + 74), .ref (x + 80), .ref (x + 132), .ref (x + 121)])) (hc3_ : Φ (x + 3) = some (o_ 3 [.ref (x + 4), .ref (x + 5), .ref (x + 6), .ref (x + 7), .int 1, .int 511])) (hc6_ : Φ (x + 6) = some (aq_ G 4 4 (va_up (va_up (va_up (va_up (fun _ => none) (0 : Int32).toNatClampNeg (some (x + 8))) (1 : Int32).toNatClampNeg (some (x + 12))) (2 : Int32).toNatClampNeg (some (x + 16))) (3 : Int32).toNatClampNeg (some (x + 20))))) (hc8_ : Φ (x + 8) = some (o_ 12 [.ref (x + 9), .int 9, .int 511, .int 29])) (hc9_ : Φ (x + 9) = some (ai_ G 9 (upd (upd (upd (upd (upd (upd (upd (upd (upd (fun _ => 0) (0 : Int32).toNatClampNeg 0) (1 : Int32).toNatClampNeg 1) (2 : Int32).toNatClampNeg 2) (3 : Int32).toNatClampNeg 3) (4 : Int32).toNatClampNeg 4) (5 : Int32).toNatClampNeg 5) (6 : Int32).toNatClampNeg 6) (7 : Int32).toNatClampNeg 7) (8 : Int32).toNatClampNeg 8))) (hco : Φ o = some (al_ G 1 gg)) (hna : G.2.2.2 ≤ x) (ho : x + 149 ≤ o) : Ct G l yL_fieldAt wsL_fieldAt ({ frames := 2, cells := 0, slots := 0, locals := 43 }) 0 0 [.ref x, .int 0, .int 0, .ref o] Φ sz (fun v Φ1 sz1 => v = some (.int 0) ∧ (∀ b9 : Nat, x + 149 ≤ b9 → b9 ≠ o → Φ1 b9 = Φ b9) ∧ ∃ g1 : Nat → Int64, Φ1 o = some (al_ G 1 g1) ∧ g1 0 = 0) := by
  refine Ct.ofH (cc := cL_fieldAt) (maxL := 5) (ret := (some .int)) (by decide) rfl (Nat.le_of_ble_eq_true rfl) ?_
  intro p9 e9 s9 m9 w9 t9 k9 B htab9
  show Z p9 l e9 _ s9 m9 _ w9 t9 k9 _ G 5 0 [(0, .ref x), (1, .int 0), (2, .int 0), (3, .ref o)] [] Φ sz 0 0
  refine z_aload_n B dL_fieldAt_0 rfl 3 rfl ?_
  refine z_iconst (v := 0) B dL_fieldAt_1 rfl ?_
  refine z_aload_n B dL_fieldAt_2 rfl 0 rfl ?_
  refine z_iload_n B dL_fieldAt_3 rfl 1 rfl ?_
  refine z_iload_n B dL_fieldAt_4 rfl 2 rfl ?_
  refine z_callV (As := [.int 0, .int 0]) (rest := [.int 0, .ref o]) B (f_X11_fieldAt_0 G l Φ sz x hc0_ hc3_ hc6_ hc8_ hc9_) (cwV 2 B.1.2.2.2.2 gL_fieldAt_X11_fieldAt rfl rfl rfl (by decide +kernel) ⟨Nat.le_of_ble_eq_true rfl, Nat.le_of_ble_eq_true rfl⟩) hc0_ rfl rfl rfl rfl (Nat.le_of_ble_eq_true rfl) dL_fieldAt_5 ⟨Nat.le_of_ble_eq_true rfl, Nat.le_of_ble_eq_true rfl⟩ (fun v1 Φ1 sz1 st1 hp1 hs1 => ?_)
  obtain ⟨rfl, fr1⟩ := hp1
  replace hs1 : st1 = [.int 0, .int 0, .ref o] := hs1
  subst st1
  refine z_i2l (v := 0) B dL_fieldAt_8 (by decide +kernel) ?_
  have h_1 : Φ1 o = some (al_ G 1 gg) := ((fr1 o ho).trans hco)
  refine z_last B h_1 (Nat.le_trans hna (Nat.le_trans (Nat.le_add_right x 149) ho)) (vin rfl) dL_fieldAt_9 (fun Φ2 hΦ1 => ?_)
  have h_2 : Φ2 o = some (al_ G 1 (vp_updL gg (0 : Int32).toNatClampNeg 0)) := fset_at hΦ1
  refine z_goto (tgt := 17) B dL_fieldAt_10 rfl ?_
  refine z_iconst (v := 0) B dL_fieldAt_17 rfl ?_
  exact z_ret_i B dL_fieldAt_18 ⟨rfl, (fun b9 h9 h8 => ((fset_fr hΦ1 h8).trans ((fr1 b9 h9).trans rfl))), _, h_2, rfl⟩

set_option maxHeartbeats 4000000 in
set_option maxRecDepth 100000 in
theorem w_fieldAt_1 (G : EnvG) (l : Launch) (Φ : Hm) (sz : Nat) (x : Nat) (o : Nat) (gg : Nat → Int64) (hc0_ : Φ x = some (o_ 13 [.ref (x + 1), .ref (x + 3), .ref (x + 24), .ref (x + 46), .ref (x + 74), .ref (x + 80), .ref (x + 132), .ref (x + 121)])) (hc3_ : Φ (x + 3) = some (o_ 3 [.ref (x + 4), .ref (x + 5), .ref (x + 6), .ref (x + 7), .int 1, .int 511])) (hc6_ : Φ (x + 6) = some (aq_ G 4 4 (va_up (va_up (va_up (va_up (fun _ => none) (0 : Int32).toNatClampNeg (some (x + 8))) (1 : Int32).toNatClampNeg (some (x + 12))) (2 : Int32).toNatClampNeg (some (x + 16))) (3 : Int32).toNatClampNeg (some (x + 20))))) (hc8_ : Φ (x + 8) = some (o_ 12 [.ref (x + 9), .int 9, .int 511, .int 29])) (hc9_ : Φ (x + 9) = some (ai_ G 9 (upd (upd (upd (upd (upd (upd (upd (upd (upd (fun _ => 0) (0 : Int32).toNatClampNeg 0) (1 : Int32).toNatClampNeg 1) (2 : Int32).toNatClampNeg 2) (3 : Int32).toNatClampNeg 3) (4 : Int32).toNatClampNeg 4) (5 : Int32).toNatClampNeg 5) (6 : Int32).toNatClampNeg 6) (7 : Int32).toNatClampNeg 7) (8 : Int32).toNatClampNeg 8))) (hco : Φ o = some (al_ G 1 gg)) (hna : G.2.2.2 ≤ x) (ho : x + 149 ≤ o) : Ct G l yL_fieldAt wsL_fieldAt ({ frames := 2, cells := 0, slots := 0, locals := 43 }) 0 0 [.ref x, .int 0, .int 1, .ref o] Φ sz (fun v Φ1 sz1 => v = some (.int 0) ∧ (∀ b9 : Nat, x + 149 ≤ b9 → b9 ≠ o → Φ1 b9 = Φ b9) ∧ ∃ g1 : Nat → Int64, Φ1 o = some (al_ G 1 g1) ∧ g1 0 = 1) := by
  refine Ct.ofH (cc := cL_fieldAt) (maxL := 5) (ret := (some .int)) (by decide) rfl (Nat.le_of_ble_eq_true rfl) ?_
  intro p9 e9 s9 m9 w9 t9 k9 B htab9
  show Z p9 l e9 _ s9 m9 _ w9 t9 k9 _ G 5 0 [(0, .ref x), (1, .int 0), (2, .int 1), (3, .ref o)] [] Φ sz 0 0
  refine z_aload_n B dL_fieldAt_0 rfl 3 rfl ?_
  refine z_iconst (v := 0) B dL_fieldAt_1 rfl ?_
  refine z_aload_n B dL_fieldAt_2 rfl 0 rfl ?_
  refine z_iload_n B dL_fieldAt_3 rfl 1 rfl ?_
  refine z_iload_n B dL_fieldAt_4 rfl 2 rfl ?_
  refine z_callV (As := [.int 0, .int 1]) (rest := [.int 0, .ref o]) B (f_X11_fieldAt_1 G l Φ sz x hc0_ hc3_ hc6_ hc8_ hc9_) (cwV 2 B.1.2.2.2.2 gL_fieldAt_X11_fieldAt rfl rfl rfl (by decide +kernel) ⟨Nat.le_of_ble_eq_true rfl, Nat.le_of_ble_eq_true rfl⟩) hc0_ rfl rfl rfl rfl (Nat.le_of_ble_eq_true rfl) dL_fieldAt_5 ⟨Nat.le_of_ble_eq_true rfl, Nat.le_of_ble_eq_true rfl⟩ (fun v1 Φ1 sz1 st1 hp1 hs1 => ?_)
  obtain ⟨rfl, fr1⟩ := hp1
  replace hs1 : st1 = [.int 1, .int 0, .ref o] := hs1
  subst st1
  refine z_i2l (v := 1) B dL_fieldAt_8 (by decide +kernel) ?_
  have h_1 : Φ1 o = some (al_ G 1 gg) := ((fr1 o ho).trans hco)
  refine z_last B h_1 (Nat.le_trans hna (Nat.le_trans (Nat.le_add_right x 149) ho)) (vin rfl) dL_fieldAt_9 (fun Φ2 hΦ1 => ?_)
  have h_2 : Φ2 o = some (al_ G 1 (vp_updL gg (0 : Int32).toNatClampNeg 1)) := fset_at hΦ1
  refine z_goto (tgt := 17) B dL_fieldAt_10 rfl ?_
  refine z_iconst (v := 0) B dL_fieldAt_17 rfl ?_
  exact z_ret_i B dL_fieldAt_18 ⟨rfl, (fun b9 h9 h8 => ((fset_fr hΦ1 h8).trans ((fr1 b9 h9).trans rfl))), _, h_2, rfl⟩

set_option maxHeartbeats 4000000 in
set_option maxRecDepth 100000 in
theorem w_fieldAt_2 (G : EnvG) (l : Launch) (Φ : Hm) (sz : Nat) (x : Nat) (o : Nat) (gg : Nat → Int64) (hc0_ : Φ x = some (o_ 13 [.ref (x + 1), .ref (x + 3), .ref (x + 24), .ref (x + 46), .ref (x + 74), .ref (x + 80), .ref (x + 132), .ref (x + 121)])) (hc3_ : Φ (x + 3) = some (o_ 3 [.ref (x + 4), .ref (x + 5), .ref (x + 6), .ref (x + 7), .int 1, .int 511])) (hc6_ : Φ (x + 6) = some (aq_ G 4 4 (va_up (va_up (va_up (va_up (fun _ => none) (0 : Int32).toNatClampNeg (some (x + 8))) (1 : Int32).toNatClampNeg (some (x + 12))) (2 : Int32).toNatClampNeg (some (x + 16))) (3 : Int32).toNatClampNeg (some (x + 20))))) (hc8_ : Φ (x + 8) = some (o_ 12 [.ref (x + 9), .int 9, .int 511, .int 29])) (hc9_ : Φ (x + 9) = some (ai_ G 9 (upd (upd (upd (upd (upd (upd (upd (upd (upd (fun _ => 0) (0 : Int32).toNatClampNeg 0) (1 : Int32).toNatClampNeg 1) (2 : Int32).toNatClampNeg 2) (3 : Int32).toNatClampNeg 3) (4 : Int32).toNatClampNeg 4) (5 : Int32).toNatClampNeg 5) (6 : Int32).toNatClampNeg 6) (7 : Int32).toNatClampNeg 7) (8 : Int32).toNatClampNeg 8))) (hco : Φ o = some (al_ G 1 gg)) (hna : G.2.2.2 ≤ x) (ho : x + 149 ≤ o) : Ct G l yL_fieldAt wsL_fieldAt ({ frames := 2, cells := 0, slots := 0, locals := 43 }) 0 0 [.ref x, .int 0, .int 2, .ref o] Φ sz (fun v Φ1 sz1 => v = some (.int 0) ∧ (∀ b9 : Nat, x + 149 ≤ b9 → b9 ≠ o → Φ1 b9 = Φ b9) ∧ ∃ g1 : Nat → Int64, Φ1 o = some (al_ G 1 g1) ∧ g1 0 = 2) := by
  refine Ct.ofH (cc := cL_fieldAt) (maxL := 5) (ret := (some .int)) (by decide) rfl (Nat.le_of_ble_eq_true rfl) ?_
  intro p9 e9 s9 m9 w9 t9 k9 B htab9
  show Z p9 l e9 _ s9 m9 _ w9 t9 k9 _ G 5 0 [(0, .ref x), (1, .int 0), (2, .int 2), (3, .ref o)] [] Φ sz 0 0
  refine z_aload_n B dL_fieldAt_0 rfl 3 rfl ?_
  refine z_iconst (v := 0) B dL_fieldAt_1 rfl ?_
  refine z_aload_n B dL_fieldAt_2 rfl 0 rfl ?_
  refine z_iload_n B dL_fieldAt_3 rfl 1 rfl ?_
  refine z_iload_n B dL_fieldAt_4 rfl 2 rfl ?_
  refine z_callV (As := [.int 0, .int 2]) (rest := [.int 0, .ref o]) B (f_X11_fieldAt_2 G l Φ sz x hc0_ hc3_ hc6_ hc8_ hc9_) (cwV 2 B.1.2.2.2.2 gL_fieldAt_X11_fieldAt rfl rfl rfl (by decide +kernel) ⟨Nat.le_of_ble_eq_true rfl, Nat.le_of_ble_eq_true rfl⟩) hc0_ rfl rfl rfl rfl (Nat.le_of_ble_eq_true rfl) dL_fieldAt_5 ⟨Nat.le_of_ble_eq_true rfl, Nat.le_of_ble_eq_true rfl⟩ (fun v1 Φ1 sz1 st1 hp1 hs1 => ?_)
  obtain ⟨rfl, fr1⟩ := hp1
  replace hs1 : st1 = [.int 2, .int 0, .ref o] := hs1
  subst st1
  refine z_i2l (v := 2) B dL_fieldAt_8 (by decide +kernel) ?_
  have h_1 : Φ1 o = some (al_ G 1 gg) := ((fr1 o ho).trans hco)
  refine z_last B h_1 (Nat.le_trans hna (Nat.le_trans (Nat.le_add_right x 149) ho)) (vin rfl) dL_fieldAt_9 (fun Φ2 hΦ1 => ?_)
  have h_2 : Φ2 o = some (al_ G 1 (vp_updL gg (0 : Int32).toNatClampNeg 2)) := fset_at hΦ1
  refine z_goto (tgt := 17) B dL_fieldAt_10 rfl ?_
  refine z_iconst (v := 0) B dL_fieldAt_17 rfl ?_
  exact z_ret_i B dL_fieldAt_18 ⟨rfl, (fun b9 h9 h8 => ((fset_fr hΦ1 h8).trans ((fr1 b9 h9).trans rfl))), _, h_2, rfl⟩

set_option maxHeartbeats 4000000 in
set_option maxRecDepth 100000 in
theorem w_fieldAt_3 (G : EnvG) (l : Launch) (Φ : Hm) (sz : Nat) (x : Nat) (o : Nat) (gg : Nat → Int64) (hc0_ : Φ x = some (o_ 13 [.ref (x + 1), .ref (x + 3), .ref (x + 24), .ref (x + 46), .ref (x + 74), .ref (x + 80), .ref (x + 132), .ref (x + 121)])) (hc3_ : Φ (x + 3) = some (o_ 3 [.ref (x + 4), .ref (x + 5), .ref (x + 6), .ref (x + 7), .int 1, .int 511])) (hc6_ : Φ (x + 6) = some (aq_ G 4 4 (va_up (va_up (va_up (va_up (fun _ => none) (0 : Int32).toNatClampNeg (some (x + 8))) (1 : Int32).toNatClampNeg (some (x + 12))) (2 : Int32).toNatClampNeg (some (x + 16))) (3 : Int32).toNatClampNeg (some (x + 20))))) (hc8_ : Φ (x + 8) = some (o_ 12 [.ref (x + 9), .int 9, .int 511, .int 29])) (hc9_ : Φ (x + 9) = some (ai_ G 9 (upd (upd (upd (upd (upd (upd (upd (upd (upd (fun _ => 0) (0 : Int32).toNatClampNeg 0) (1 : Int32).toNatClampNeg 1) (2 : Int32).toNatClampNeg 2) (3 : Int32).toNatClampNeg 3) (4 : Int32).toNatClampNeg 4) (5 : Int32).toNatClampNeg 5) (6 : Int32).toNatClampNeg 6) (7 : Int32).toNatClampNeg 7) (8 : Int32).toNatClampNeg 8))) (hco : Φ o = some (al_ G 1 gg)) (hna : G.2.2.2 ≤ x) (ho : x + 149 ≤ o) : Ct G l yL_fieldAt wsL_fieldAt ({ frames := 2, cells := 0, slots := 0, locals := 43 }) 0 0 [.ref x, .int 0, .int 3, .ref o] Φ sz (fun v Φ1 sz1 => v = some (.int 0) ∧ (∀ b9 : Nat, x + 149 ≤ b9 → b9 ≠ o → Φ1 b9 = Φ b9) ∧ ∃ g1 : Nat → Int64, Φ1 o = some (al_ G 1 g1) ∧ g1 0 = 3) := by
  refine Ct.ofH (cc := cL_fieldAt) (maxL := 5) (ret := (some .int)) (by decide) rfl (Nat.le_of_ble_eq_true rfl) ?_
  intro p9 e9 s9 m9 w9 t9 k9 B htab9
  show Z p9 l e9 _ s9 m9 _ w9 t9 k9 _ G 5 0 [(0, .ref x), (1, .int 0), (2, .int 3), (3, .ref o)] [] Φ sz 0 0
  refine z_aload_n B dL_fieldAt_0 rfl 3 rfl ?_
  refine z_iconst (v := 0) B dL_fieldAt_1 rfl ?_
  refine z_aload_n B dL_fieldAt_2 rfl 0 rfl ?_
  refine z_iload_n B dL_fieldAt_3 rfl 1 rfl ?_
  refine z_iload_n B dL_fieldAt_4 rfl 2 rfl ?_
  refine z_callV (As := [.int 0, .int 3]) (rest := [.int 0, .ref o]) B (f_X11_fieldAt_3 G l Φ sz x hc0_ hc3_ hc6_ hc8_ hc9_) (cwV 2 B.1.2.2.2.2 gL_fieldAt_X11_fieldAt rfl rfl rfl (by decide +kernel) ⟨Nat.le_of_ble_eq_true rfl, Nat.le_of_ble_eq_true rfl⟩) hc0_ rfl rfl rfl rfl (Nat.le_of_ble_eq_true rfl) dL_fieldAt_5 ⟨Nat.le_of_ble_eq_true rfl, Nat.le_of_ble_eq_true rfl⟩ (fun v1 Φ1 sz1 st1 hp1 hs1 => ?_)
  obtain ⟨rfl, fr1⟩ := hp1
  replace hs1 : st1 = [.int 3, .int 0, .ref o] := hs1
  subst st1
  refine z_i2l (v := 3) B dL_fieldAt_8 (by decide +kernel) ?_
  have h_1 : Φ1 o = some (al_ G 1 gg) := ((fr1 o ho).trans hco)
  refine z_last B h_1 (Nat.le_trans hna (Nat.le_trans (Nat.le_add_right x 149) ho)) (vin rfl) dL_fieldAt_9 (fun Φ2 hΦ1 => ?_)
  have h_2 : Φ2 o = some (al_ G 1 (vp_updL gg (0 : Int32).toNatClampNeg 3)) := fset_at hΦ1
  refine z_goto (tgt := 17) B dL_fieldAt_10 rfl ?_
  refine z_iconst (v := 0) B dL_fieldAt_17 rfl ?_
  exact z_ret_i B dL_fieldAt_18 ⟨rfl, (fun b9 h9 h8 => ((fset_fr hΦ1 h8).trans ((fr1 b9 h9).trans rfl))), _, h_2, rfl⟩

set_option maxHeartbeats 4000000 in
set_option maxRecDepth 100000 in
theorem w_fieldAt_4 (G : EnvG) (l : Launch) (Φ : Hm) (sz : Nat) (x : Nat) (o : Nat) (gg : Nat → Int64) (hc0_ : Φ x = some (o_ 13 [.ref (x + 1), .ref (x + 3), .ref (x + 24), .ref (x + 46), .ref (x + 74), .ref (x + 80), .ref (x + 132), .ref (x + 121)])) (hc3_ : Φ (x + 3) = some (o_ 3 [.ref (x + 4), .ref (x + 5), .ref (x + 6), .ref (x + 7), .int 1, .int 511])) (hc6_ : Φ (x + 6) = some (aq_ G 4 4 (va_up (va_up (va_up (va_up (fun _ => none) (0 : Int32).toNatClampNeg (some (x + 8))) (1 : Int32).toNatClampNeg (some (x + 12))) (2 : Int32).toNatClampNeg (some (x + 16))) (3 : Int32).toNatClampNeg (some (x + 20))))) (hc8_ : Φ (x + 8) = some (o_ 12 [.ref (x + 9), .int 9, .int 511, .int 29])) (hc9_ : Φ (x + 9) = some (ai_ G 9 (upd (upd (upd (upd (upd (upd (upd (upd (upd (fun _ => 0) (0 : Int32).toNatClampNeg 0) (1 : Int32).toNatClampNeg 1) (2 : Int32).toNatClampNeg 2) (3 : Int32).toNatClampNeg 3) (4 : Int32).toNatClampNeg 4) (5 : Int32).toNatClampNeg 5) (6 : Int32).toNatClampNeg 6) (7 : Int32).toNatClampNeg 7) (8 : Int32).toNatClampNeg 8))) (hco : Φ o = some (al_ G 1 gg)) (hna : G.2.2.2 ≤ x) (ho : x + 149 ≤ o) : Ct G l yL_fieldAt wsL_fieldAt ({ frames := 2, cells := 0, slots := 0, locals := 43 }) 0 0 [.ref x, .int 0, .int 4, .ref o] Φ sz (fun v Φ1 sz1 => v = some (.int 0) ∧ (∀ b9 : Nat, x + 149 ≤ b9 → b9 ≠ o → Φ1 b9 = Φ b9) ∧ ∃ g1 : Nat → Int64, Φ1 o = some (al_ G 1 g1) ∧ g1 0 = 4) := by
  refine Ct.ofH (cc := cL_fieldAt) (maxL := 5) (ret := (some .int)) (by decide) rfl (Nat.le_of_ble_eq_true rfl) ?_
  intro p9 e9 s9 m9 w9 t9 k9 B htab9
  show Z p9 l e9 _ s9 m9 _ w9 t9 k9 _ G 5 0 [(0, .ref x), (1, .int 0), (2, .int 4), (3, .ref o)] [] Φ sz 0 0
  refine z_aload_n B dL_fieldAt_0 rfl 3 rfl ?_
  refine z_iconst (v := 0) B dL_fieldAt_1 rfl ?_
  refine z_aload_n B dL_fieldAt_2 rfl 0 rfl ?_
  refine z_iload_n B dL_fieldAt_3 rfl 1 rfl ?_
  refine z_iload_n B dL_fieldAt_4 rfl 2 rfl ?_
  refine z_callV (As := [.int 0, .int 4]) (rest := [.int 0, .ref o]) B (f_X11_fieldAt_4 G l Φ sz x hc0_ hc3_ hc6_ hc8_ hc9_) (cwV 2 B.1.2.2.2.2 gL_fieldAt_X11_fieldAt rfl rfl rfl (by decide +kernel) ⟨Nat.le_of_ble_eq_true rfl, Nat.le_of_ble_eq_true rfl⟩) hc0_ rfl rfl rfl rfl (Nat.le_of_ble_eq_true rfl) dL_fieldAt_5 ⟨Nat.le_of_ble_eq_true rfl, Nat.le_of_ble_eq_true rfl⟩ (fun v1 Φ1 sz1 st1 hp1 hs1 => ?_)
  obtain ⟨rfl, fr1⟩ := hp1
  replace hs1 : st1 = [.int 4, .int 0, .ref o] := hs1
  subst st1
  refine z_i2l (v := 4) B dL_fieldAt_8 (by decide +kernel) ?_
  have h_1 : Φ1 o = some (al_ G 1 gg) := ((fr1 o ho).trans hco)
  refine z_last B h_1 (Nat.le_trans hna (Nat.le_trans (Nat.le_add_right x 149) ho)) (vin rfl) dL_fieldAt_9 (fun Φ2 hΦ1 => ?_)
  have h_2 : Φ2 o = some (al_ G 1 (vp_updL gg (0 : Int32).toNatClampNeg 4)) := fset_at hΦ1
  refine z_goto (tgt := 17) B dL_fieldAt_10 rfl ?_
  refine z_iconst (v := 0) B dL_fieldAt_17 rfl ?_
  exact z_ret_i B dL_fieldAt_18 ⟨rfl, (fun b9 h9 h8 => ((fset_fr hΦ1 h8).trans ((fr1 b9 h9).trans rfl))), _, h_2, rfl⟩

set_option maxHeartbeats 4000000 in
set_option maxRecDepth 100000 in
theorem w_fieldAt_5 (G : EnvG) (l : Launch) (Φ : Hm) (sz : Nat) (x : Nat) (o : Nat) (gg : Nat → Int64) (hc0_ : Φ x = some (o_ 13 [.ref (x + 1), .ref (x + 3), .ref (x + 24), .ref (x + 46), .ref (x + 74), .ref (x + 80), .ref (x + 132), .ref (x + 121)])) (hc3_ : Φ (x + 3) = some (o_ 3 [.ref (x + 4), .ref (x + 5), .ref (x + 6), .ref (x + 7), .int 1, .int 511])) (hc6_ : Φ (x + 6) = some (aq_ G 4 4 (va_up (va_up (va_up (va_up (fun _ => none) (0 : Int32).toNatClampNeg (some (x + 8))) (1 : Int32).toNatClampNeg (some (x + 12))) (2 : Int32).toNatClampNeg (some (x + 16))) (3 : Int32).toNatClampNeg (some (x + 20))))) (hc8_ : Φ (x + 8) = some (o_ 12 [.ref (x + 9), .int 9, .int 511, .int 29])) (hc9_ : Φ (x + 9) = some (ai_ G 9 (upd (upd (upd (upd (upd (upd (upd (upd (upd (fun _ => 0) (0 : Int32).toNatClampNeg 0) (1 : Int32).toNatClampNeg 1) (2 : Int32).toNatClampNeg 2) (3 : Int32).toNatClampNeg 3) (4 : Int32).toNatClampNeg 4) (5 : Int32).toNatClampNeg 5) (6 : Int32).toNatClampNeg 6) (7 : Int32).toNatClampNeg 7) (8 : Int32).toNatClampNeg 8))) (hco : Φ o = some (al_ G 1 gg)) (hna : G.2.2.2 ≤ x) (ho : x + 149 ≤ o) : Ct G l yL_fieldAt wsL_fieldAt ({ frames := 2, cells := 0, slots := 0, locals := 43 }) 0 0 [.ref x, .int 0, .int 5, .ref o] Φ sz (fun v Φ1 sz1 => v = some (.int 0) ∧ (∀ b9 : Nat, x + 149 ≤ b9 → b9 ≠ o → Φ1 b9 = Φ b9) ∧ ∃ g1 : Nat → Int64, Φ1 o = some (al_ G 1 g1) ∧ g1 0 = 5) := by
  refine Ct.ofH (cc := cL_fieldAt) (maxL := 5) (ret := (some .int)) (by decide) rfl (Nat.le_of_ble_eq_true rfl) ?_
  intro p9 e9 s9 m9 w9 t9 k9 B htab9
  show Z p9 l e9 _ s9 m9 _ w9 t9 k9 _ G 5 0 [(0, .ref x), (1, .int 0), (2, .int 5), (3, .ref o)] [] Φ sz 0 0
  refine z_aload_n B dL_fieldAt_0 rfl 3 rfl ?_
  refine z_iconst (v := 0) B dL_fieldAt_1 rfl ?_
  refine z_aload_n B dL_fieldAt_2 rfl 0 rfl ?_
  refine z_iload_n B dL_fieldAt_3 rfl 1 rfl ?_
  refine z_iload_n B dL_fieldAt_4 rfl 2 rfl ?_
  refine z_callV (As := [.int 0, .int 5]) (rest := [.int 0, .ref o]) B (f_X11_fieldAt_5 G l Φ sz x hc0_ hc3_ hc6_ hc8_ hc9_) (cwV 2 B.1.2.2.2.2 gL_fieldAt_X11_fieldAt rfl rfl rfl (by decide +kernel) ⟨Nat.le_of_ble_eq_true rfl, Nat.le_of_ble_eq_true rfl⟩) hc0_ rfl rfl rfl rfl (Nat.le_of_ble_eq_true rfl) dL_fieldAt_5 ⟨Nat.le_of_ble_eq_true rfl, Nat.le_of_ble_eq_true rfl⟩ (fun v1 Φ1 sz1 st1 hp1 hs1 => ?_)
  obtain ⟨rfl, fr1⟩ := hp1
  replace hs1 : st1 = [.int 5, .int 0, .ref o] := hs1
  subst st1
  refine z_i2l (v := 5) B dL_fieldAt_8 (by decide +kernel) ?_
  have h_1 : Φ1 o = some (al_ G 1 gg) := ((fr1 o ho).trans hco)
  refine z_last B h_1 (Nat.le_trans hna (Nat.le_trans (Nat.le_add_right x 149) ho)) (vin rfl) dL_fieldAt_9 (fun Φ2 hΦ1 => ?_)
  have h_2 : Φ2 o = some (al_ G 1 (vp_updL gg (0 : Int32).toNatClampNeg 5)) := fset_at hΦ1
  refine z_goto (tgt := 17) B dL_fieldAt_10 rfl ?_
  refine z_iconst (v := 0) B dL_fieldAt_17 rfl ?_
  exact z_ret_i B dL_fieldAt_18 ⟨rfl, (fun b9 h9 h8 => ((fset_fr hΦ1 h8).trans ((fr1 b9 h9).trans rfl))), _, h_2, rfl⟩

set_option maxHeartbeats 4000000 in
set_option maxRecDepth 100000 in
theorem w_fieldAt_6 (G : EnvG) (l : Launch) (Φ : Hm) (sz : Nat) (x : Nat) (o : Nat) (gg : Nat → Int64) (hc0_ : Φ x = some (o_ 13 [.ref (x + 1), .ref (x + 3), .ref (x + 24), .ref (x + 46), .ref (x + 74), .ref (x + 80), .ref (x + 132), .ref (x + 121)])) (hc3_ : Φ (x + 3) = some (o_ 3 [.ref (x + 4), .ref (x + 5), .ref (x + 6), .ref (x + 7), .int 1, .int 511])) (hc6_ : Φ (x + 6) = some (aq_ G 4 4 (va_up (va_up (va_up (va_up (fun _ => none) (0 : Int32).toNatClampNeg (some (x + 8))) (1 : Int32).toNatClampNeg (some (x + 12))) (2 : Int32).toNatClampNeg (some (x + 16))) (3 : Int32).toNatClampNeg (some (x + 20))))) (hc8_ : Φ (x + 8) = some (o_ 12 [.ref (x + 9), .int 9, .int 511, .int 29])) (hc9_ : Φ (x + 9) = some (ai_ G 9 (upd (upd (upd (upd (upd (upd (upd (upd (upd (fun _ => 0) (0 : Int32).toNatClampNeg 0) (1 : Int32).toNatClampNeg 1) (2 : Int32).toNatClampNeg 2) (3 : Int32).toNatClampNeg 3) (4 : Int32).toNatClampNeg 4) (5 : Int32).toNatClampNeg 5) (6 : Int32).toNatClampNeg 6) (7 : Int32).toNatClampNeg 7) (8 : Int32).toNatClampNeg 8))) (hco : Φ o = some (al_ G 1 gg)) (hna : G.2.2.2 ≤ x) (ho : x + 149 ≤ o) : Ct G l yL_fieldAt wsL_fieldAt ({ frames := 2, cells := 0, slots := 0, locals := 43 }) 0 0 [.ref x, .int 0, .int 6, .ref o] Φ sz (fun v Φ1 sz1 => v = some (.int 0) ∧ (∀ b9 : Nat, x + 149 ≤ b9 → b9 ≠ o → Φ1 b9 = Φ b9) ∧ ∃ g1 : Nat → Int64, Φ1 o = some (al_ G 1 g1) ∧ g1 0 = 6) := by
  refine Ct.ofH (cc := cL_fieldAt) (maxL := 5) (ret := (some .int)) (by decide) rfl (Nat.le_of_ble_eq_true rfl) ?_
  intro p9 e9 s9 m9 w9 t9 k9 B htab9
  show Z p9 l e9 _ s9 m9 _ w9 t9 k9 _ G 5 0 [(0, .ref x), (1, .int 0), (2, .int 6), (3, .ref o)] [] Φ sz 0 0
  refine z_aload_n B dL_fieldAt_0 rfl 3 rfl ?_
  refine z_iconst (v := 0) B dL_fieldAt_1 rfl ?_
  refine z_aload_n B dL_fieldAt_2 rfl 0 rfl ?_
  refine z_iload_n B dL_fieldAt_3 rfl 1 rfl ?_
  refine z_iload_n B dL_fieldAt_4 rfl 2 rfl ?_
  refine z_callV (As := [.int 0, .int 6]) (rest := [.int 0, .ref o]) B (f_X11_fieldAt_6 G l Φ sz x hc0_ hc3_ hc6_ hc8_ hc9_) (cwV 2 B.1.2.2.2.2 gL_fieldAt_X11_fieldAt rfl rfl rfl (by decide +kernel) ⟨Nat.le_of_ble_eq_true rfl, Nat.le_of_ble_eq_true rfl⟩) hc0_ rfl rfl rfl rfl (Nat.le_of_ble_eq_true rfl) dL_fieldAt_5 ⟨Nat.le_of_ble_eq_true rfl, Nat.le_of_ble_eq_true rfl⟩ (fun v1 Φ1 sz1 st1 hp1 hs1 => ?_)
  obtain ⟨rfl, fr1⟩ := hp1
  replace hs1 : st1 = [.int 6, .int 0, .ref o] := hs1
  subst st1
  refine z_i2l (v := 6) B dL_fieldAt_8 (by decide +kernel) ?_
  have h_1 : Φ1 o = some (al_ G 1 gg) := ((fr1 o ho).trans hco)
  refine z_last B h_1 (Nat.le_trans hna (Nat.le_trans (Nat.le_add_right x 149) ho)) (vin rfl) dL_fieldAt_9 (fun Φ2 hΦ1 => ?_)
  have h_2 : Φ2 o = some (al_ G 1 (vp_updL gg (0 : Int32).toNatClampNeg 6)) := fset_at hΦ1
  refine z_goto (tgt := 17) B dL_fieldAt_10 rfl ?_
  refine z_iconst (v := 0) B dL_fieldAt_17 rfl ?_
  exact z_ret_i B dL_fieldAt_18 ⟨rfl, (fun b9 h9 h8 => ((fset_fr hΦ1 h8).trans ((fr1 b9 h9).trans rfl))), _, h_2, rfl⟩

set_option maxHeartbeats 4000000 in
set_option maxRecDepth 100000 in
theorem w_fieldAt_7 (G : EnvG) (l : Launch) (Φ : Hm) (sz : Nat) (x : Nat) (o : Nat) (gg : Nat → Int64) (hc0_ : Φ x = some (o_ 13 [.ref (x + 1), .ref (x + 3), .ref (x + 24), .ref (x + 46), .ref (x + 74), .ref (x + 80), .ref (x + 132), .ref (x + 121)])) (hc3_ : Φ (x + 3) = some (o_ 3 [.ref (x + 4), .ref (x + 5), .ref (x + 6), .ref (x + 7), .int 1, .int 511])) (hc6_ : Φ (x + 6) = some (aq_ G 4 4 (va_up (va_up (va_up (va_up (fun _ => none) (0 : Int32).toNatClampNeg (some (x + 8))) (1 : Int32).toNatClampNeg (some (x + 12))) (2 : Int32).toNatClampNeg (some (x + 16))) (3 : Int32).toNatClampNeg (some (x + 20))))) (hc8_ : Φ (x + 8) = some (o_ 12 [.ref (x + 9), .int 9, .int 511, .int 29])) (hc9_ : Φ (x + 9) = some (ai_ G 9 (upd (upd (upd (upd (upd (upd (upd (upd (upd (fun _ => 0) (0 : Int32).toNatClampNeg 0) (1 : Int32).toNatClampNeg 1) (2 : Int32).toNatClampNeg 2) (3 : Int32).toNatClampNeg 3) (4 : Int32).toNatClampNeg 4) (5 : Int32).toNatClampNeg 5) (6 : Int32).toNatClampNeg 6) (7 : Int32).toNatClampNeg 7) (8 : Int32).toNatClampNeg 8))) (hco : Φ o = some (al_ G 1 gg)) (hna : G.2.2.2 ≤ x) (ho : x + 149 ≤ o) : Ct G l yL_fieldAt wsL_fieldAt ({ frames := 2, cells := 0, slots := 0, locals := 43 }) 0 0 [.ref x, .int 0, .int 7, .ref o] Φ sz (fun v Φ1 sz1 => v = some (.int 0) ∧ (∀ b9 : Nat, x + 149 ≤ b9 → b9 ≠ o → Φ1 b9 = Φ b9) ∧ ∃ g1 : Nat → Int64, Φ1 o = some (al_ G 1 g1) ∧ g1 0 = 7) := by
  refine Ct.ofH (cc := cL_fieldAt) (maxL := 5) (ret := (some .int)) (by decide) rfl (Nat.le_of_ble_eq_true rfl) ?_
  intro p9 e9 s9 m9 w9 t9 k9 B htab9
  show Z p9 l e9 _ s9 m9 _ w9 t9 k9 _ G 5 0 [(0, .ref x), (1, .int 0), (2, .int 7), (3, .ref o)] [] Φ sz 0 0
  refine z_aload_n B dL_fieldAt_0 rfl 3 rfl ?_
  refine z_iconst (v := 0) B dL_fieldAt_1 rfl ?_
  refine z_aload_n B dL_fieldAt_2 rfl 0 rfl ?_
  refine z_iload_n B dL_fieldAt_3 rfl 1 rfl ?_
  refine z_iload_n B dL_fieldAt_4 rfl 2 rfl ?_
  refine z_callV (As := [.int 0, .int 7]) (rest := [.int 0, .ref o]) B (f_X11_fieldAt_7 G l Φ sz x hc0_ hc3_ hc6_ hc8_ hc9_) (cwV 2 B.1.2.2.2.2 gL_fieldAt_X11_fieldAt rfl rfl rfl (by decide +kernel) ⟨Nat.le_of_ble_eq_true rfl, Nat.le_of_ble_eq_true rfl⟩) hc0_ rfl rfl rfl rfl (Nat.le_of_ble_eq_true rfl) dL_fieldAt_5 ⟨Nat.le_of_ble_eq_true rfl, Nat.le_of_ble_eq_true rfl⟩ (fun v1 Φ1 sz1 st1 hp1 hs1 => ?_)
  obtain ⟨rfl, fr1⟩ := hp1
  replace hs1 : st1 = [.int 7, .int 0, .ref o] := hs1
  subst st1
  refine z_i2l (v := 7) B dL_fieldAt_8 (by decide +kernel) ?_
  have h_1 : Φ1 o = some (al_ G 1 gg) := ((fr1 o ho).trans hco)
  refine z_last B h_1 (Nat.le_trans hna (Nat.le_trans (Nat.le_add_right x 149) ho)) (vin rfl) dL_fieldAt_9 (fun Φ2 hΦ1 => ?_)
  have h_2 : Φ2 o = some (al_ G 1 (vp_updL gg (0 : Int32).toNatClampNeg 7)) := fset_at hΦ1
  refine z_goto (tgt := 17) B dL_fieldAt_10 rfl ?_
  refine z_iconst (v := 0) B dL_fieldAt_17 rfl ?_
  exact z_ret_i B dL_fieldAt_18 ⟨rfl, (fun b9 h9 h8 => ((fset_fr hΦ1 h8).trans ((fr1 b9 h9).trans rfl))), _, h_2, rfl⟩

set_option maxHeartbeats 4000000 in
set_option maxRecDepth 100000 in
theorem w_fieldAt_8 (G : EnvG) (l : Launch) (Φ : Hm) (sz : Nat) (x : Nat) (o : Nat) (gg : Nat → Int64) (hc0_ : Φ x = some (o_ 13 [.ref (x + 1), .ref (x + 3), .ref (x + 24), .ref (x + 46), .ref (x + 74), .ref (x + 80), .ref (x + 132), .ref (x + 121)])) (hc3_ : Φ (x + 3) = some (o_ 3 [.ref (x + 4), .ref (x + 5), .ref (x + 6), .ref (x + 7), .int 1, .int 511])) (hc6_ : Φ (x + 6) = some (aq_ G 4 4 (va_up (va_up (va_up (va_up (fun _ => none) (0 : Int32).toNatClampNeg (some (x + 8))) (1 : Int32).toNatClampNeg (some (x + 12))) (2 : Int32).toNatClampNeg (some (x + 16))) (3 : Int32).toNatClampNeg (some (x + 20))))) (hc8_ : Φ (x + 8) = some (o_ 12 [.ref (x + 9), .int 9, .int 511, .int 29])) (hc9_ : Φ (x + 9) = some (ai_ G 9 (upd (upd (upd (upd (upd (upd (upd (upd (upd (fun _ => 0) (0 : Int32).toNatClampNeg 0) (1 : Int32).toNatClampNeg 1) (2 : Int32).toNatClampNeg 2) (3 : Int32).toNatClampNeg 3) (4 : Int32).toNatClampNeg 4) (5 : Int32).toNatClampNeg 5) (6 : Int32).toNatClampNeg 6) (7 : Int32).toNatClampNeg 7) (8 : Int32).toNatClampNeg 8))) (hco : Φ o = some (al_ G 1 gg)) (hna : G.2.2.2 ≤ x) (ho : x + 149 ≤ o) : Ct G l yL_fieldAt wsL_fieldAt ({ frames := 2, cells := 0, slots := 0, locals := 43 }) 0 0 [.ref x, .int 0, .int 8, .ref o] Φ sz (fun v Φ1 sz1 => v = some (.int 0) ∧ (∀ b9 : Nat, x + 149 ≤ b9 → b9 ≠ o → Φ1 b9 = Φ b9) ∧ ∃ g1 : Nat → Int64, Φ1 o = some (al_ G 1 g1) ∧ g1 0 = 8) := by
  refine Ct.ofH (cc := cL_fieldAt) (maxL := 5) (ret := (some .int)) (by decide) rfl (Nat.le_of_ble_eq_true rfl) ?_
  intro p9 e9 s9 m9 w9 t9 k9 B htab9
  show Z p9 l e9 _ s9 m9 _ w9 t9 k9 _ G 5 0 [(0, .ref x), (1, .int 0), (2, .int 8), (3, .ref o)] [] Φ sz 0 0
  refine z_aload_n B dL_fieldAt_0 rfl 3 rfl ?_
  refine z_iconst (v := 0) B dL_fieldAt_1 rfl ?_
  refine z_aload_n B dL_fieldAt_2 rfl 0 rfl ?_
  refine z_iload_n B dL_fieldAt_3 rfl 1 rfl ?_
  refine z_iload_n B dL_fieldAt_4 rfl 2 rfl ?_
  refine z_callV (As := [.int 0, .int 8]) (rest := [.int 0, .ref o]) B (f_X11_fieldAt_8 G l Φ sz x hc0_ hc3_ hc6_ hc8_ hc9_) (cwV 2 B.1.2.2.2.2 gL_fieldAt_X11_fieldAt rfl rfl rfl (by decide +kernel) ⟨Nat.le_of_ble_eq_true rfl, Nat.le_of_ble_eq_true rfl⟩) hc0_ rfl rfl rfl rfl (Nat.le_of_ble_eq_true rfl) dL_fieldAt_5 ⟨Nat.le_of_ble_eq_true rfl, Nat.le_of_ble_eq_true rfl⟩ (fun v1 Φ1 sz1 st1 hp1 hs1 => ?_)
  obtain ⟨rfl, fr1⟩ := hp1
  replace hs1 : st1 = [.int 8, .int 0, .ref o] := hs1
  subst st1
  refine z_i2l (v := 8) B dL_fieldAt_8 (by decide +kernel) ?_
  have h_1 : Φ1 o = some (al_ G 1 gg) := ((fr1 o ho).trans hco)
  refine z_last B h_1 (Nat.le_trans hna (Nat.le_trans (Nat.le_add_right x 149) ho)) (vin rfl) dL_fieldAt_9 (fun Φ2 hΦ1 => ?_)
  have h_2 : Φ2 o = some (al_ G 1 (vp_updL gg (0 : Int32).toNatClampNeg 8)) := fset_at hΦ1
  refine z_goto (tgt := 17) B dL_fieldAt_10 rfl ?_
  refine z_iconst (v := 0) B dL_fieldAt_17 rfl ?_
  exact z_ret_i B dL_fieldAt_18 ⟨rfl, (fun b9 h9 h8 => ((fset_fr hΦ1 h8).trans ((fr1 b9 h9).trans rfl))), _, h_2, rfl⟩

set_option maxHeartbeats 4000000 in
set_option maxRecDepth 100000 in
theorem w_fieldAt_n (G : EnvG) (l : Launch) (Φ : Hm) (sz : Nat) (x : Nat) (o : Nat) (b : Int32) (gg : Nat → Int64) (hc0_ : Φ x = some (o_ 13 [.ref (x + 1), .ref (x + 3), .ref (x + 24), .ref (x + 46), .ref (x + 74), .ref (x + 80), .ref (x + 132), .ref (x + 121)])) (hc3_ : Φ (x + 3) = some (o_ 3 [.ref (x + 4), .ref (x + 5), .ref (x + 6), .ref (x + 7), .int 1, .int 511])) (hc6_ : Φ (x + 6) = some (aq_ G 4 4 (va_up (va_up (va_up (va_up (fun _ => none) (0 : Int32).toNatClampNeg (some (x + 8))) (1 : Int32).toNatClampNeg (some (x + 12))) (2 : Int32).toNatClampNeg (some (x + 16))) (3 : Int32).toNatClampNeg (some (x + 20))))) (hc8_ : Φ (x + 8) = some (o_ 12 [.ref (x + 9), .int 9, .int 511, .int 29])) (hco : Φ o = some (al_ G 1 gg)) (hna : G.2.2.2 ≤ x) (ho : x + 149 ≤ o) (hb : ¬ (¬ b < 0 ∧ b < 9)) : Ct G l yL_fieldAt wsL_fieldAt ({ frames := 2, cells := 0, slots := 0, locals := 43 }) 0 0 [.ref x, .int 0, .int b, .ref o] Φ sz (fun v Φ1 sz1 => v = some (.int 0) ∧ (∀ b9 : Nat, x + 149 ≤ b9 → b9 ≠ o → Φ1 b9 = Φ b9) ∧ ∃ g1 : Nat → Int64, Φ1 o = some (al_ G 1 g1) ∧ g1 0 = (-1)) := by
  refine Ct.ofH (cc := cL_fieldAt) (maxL := 5) (ret := (some .int)) (by decide) rfl (Nat.le_of_ble_eq_true rfl) ?_
  intro p9 e9 s9 m9 w9 t9 k9 B htab9
  show Z p9 l e9 _ s9 m9 _ w9 t9 k9 _ G 5 0 [(0, .ref x), (1, .int 0), (2, .int b), (3, .ref o)] [] Φ sz 0 0
  refine z_aload_n B dL_fieldAt_0 rfl 3 rfl ?_
  refine z_iconst (v := 0) B dL_fieldAt_1 rfl ?_
  refine z_aload_n B dL_fieldAt_2 rfl 0 rfl ?_
  refine z_iload_n B dL_fieldAt_3 rfl 1 rfl ?_
  refine z_iload_n B dL_fieldAt_4 rfl 2 rfl ?_
  refine z_callV (As := [.int 0, .int b]) (rest := [.int 0, .ref o]) B (f_X11_fieldAt_n G l Φ sz x b hc0_ hc3_ hc6_ hc8_ hb) (cwV 2 B.1.2.2.2.2 gL_fieldAt_X11_fieldAt rfl rfl rfl (by decide +kernel) ⟨Nat.le_of_ble_eq_true rfl, Nat.le_of_ble_eq_true rfl⟩) hc0_ rfl rfl rfl rfl (Nat.le_of_ble_eq_true rfl) dL_fieldAt_5 ⟨Nat.le_of_ble_eq_true rfl, Nat.le_of_ble_eq_true rfl⟩ (fun v1 Φ1 sz1 st1 hp1 hs1 => ?_)
  obtain ⟨rfl, fr1⟩ := hp1
  replace hs1 : st1 = [.int (-1), .int 0, .ref o] := hs1
  subst st1
  refine z_i2l (v := (-1)) B dL_fieldAt_8 (by decide +kernel) ?_
  have h_1 : Φ1 o = some (al_ G 1 gg) := ((fr1 o ho).trans hco)
  refine z_last B h_1 (Nat.le_trans hna (Nat.le_trans (Nat.le_add_right x 149) ho)) (vin rfl) dL_fieldAt_9 (fun Φ2 hΦ1 => ?_)
  have h_2 : Φ2 o = some (al_ G 1 (vp_updL gg (0 : Int32).toNatClampNeg (-1))) := fset_at hΦ1
  refine z_goto (tgt := 17) B dL_fieldAt_10 rfl ?_
  refine z_iconst (v := 0) B dL_fieldAt_17 rfl ?_
  exact z_ret_i B dL_fieldAt_18 ⟨rfl, (fun b9 h9 h8 => ((fset_fr hΦ1 h8).trans ((fr1 b9 h9).trans rfl))), _, h_2, rfl⟩

set_option maxHeartbeats 4000000 in
set_option maxRecDepth 100000 in
theorem w_setSupport_0_0 (G : EnvG) (l : Launch) (Φ : Hm) (sz : Nat) (x : Nat) (o : Nat) (gg : Nat → Int64) (hc0_ : Φ x = some (o_ 13 [.ref (x + 1), .ref (x + 3), .ref (x + 24), .ref (x + 46), .ref (x + 74), .ref (x + 80), .ref (x + 132), .ref (x + 121)])) (hc3_ : Φ (x + 3) = some (o_ 3 [.ref (x + 4), .ref (x + 5), .ref (x + 6), .ref (x + 7), .int 1, .int 511])) (hc6_ : Φ (x + 6) = some (aq_ G 4 4 (va_up (va_up (va_up (va_up (fun _ => none) (0 : Int32).toNatClampNeg (some (x + 8))) (1 : Int32).toNatClampNeg (some (x + 12))) (2 : Int32).toNatClampNeg (some (x + 16))) (3 : Int32).toNatClampNeg (some (x + 20))))) (hc7_ : Φ (x + 7) = some (aq_ G 4 4 (va_up (va_up (va_up (va_up (fun _ => none) (0 : Int32).toNatClampNeg (some (x + 10))) (1 : Int32).toNatClampNeg (some (x + 14))) (2 : Int32).toNatClampNeg (some (x + 18))) (3 : Int32).toNatClampNeg (some (x + 22))))) (hc8_ : Φ (x + 8) = some (o_ 12 [.ref (x + 9), .int 9, .int 511, .int 29])) (hc9_ : Φ (x + 9) = some (ai_ G 9 (upd (upd (upd (upd (upd (upd (upd (upd (upd (fun _ => 0) (0 : Int32).toNatClampNeg 0) (1 : Int32).toNatClampNeg 1) (2 : Int32).toNatClampNeg 2) (3 : Int32).toNatClampNeg 3) (4 : Int32).toNatClampNeg 4) (5 : Int32).toNatClampNeg 5) (6 : Int32).toNatClampNeg 6) (7 : Int32).toNatClampNeg 7) (8 : Int32).toNatClampNeg 8))) (hc10_ : Φ (x + 10) = some (o_ 12 [.ref (x + 11), .int 9, .int 511, .int 29])) (hc11_ : Φ (x + 11) = some (ai_ G 9 (upd (upd (upd (upd (upd (upd (upd (upd (upd (fun _ => 0) (0 : Int32).toNatClampNeg 0) (1 : Int32).toNatClampNeg 1) (2 : Int32).toNatClampNeg 2) (3 : Int32).toNatClampNeg 3) (4 : Int32).toNatClampNeg 4) (5 : Int32).toNatClampNeg 5) (6 : Int32).toNatClampNeg 6) (7 : Int32).toNatClampNeg 7) (8 : Int32).toNatClampNeg 8))) (hc12_ : Φ (x + 12) = some (o_ 12 [.ref (x + 13), .int 0, .int 0, .int 0])) (hc14_ : Φ (x + 14) = some (o_ 12 [.ref (x + 15), .int 0, .int 0, .int 0])) (hc16_ : Φ (x + 16) = some (o_ 12 [.ref (x + 17), .int 0, .int 0, .int 0])) (hc18_ : Φ (x + 18) = some (o_ 12 [.ref (x + 19), .int 0, .int 0, .int 0])) (hc20_ : Φ (x + 20) = some (o_ 12 [.ref (x + 21), .int 0, .int 0, .int 0])) (hc22_ : Φ (x + 22) = some (o_ 12 [.ref (x + 23), .int 0, .int 0, .int 0])) (hc74_ : Φ (x + 74) = some (o_ 10 [.ref (x + 3), .ref (x + 46), .ref (x + 75), .ref (x + 77), .int 0, .ref (x + 78), .ref (x + 79), .int 0, .long 0, .int 0])) (hc78_ : Φ (x + 78) = some (ai_ G 4 (fun _ => 0))) (hco : Φ o = some (al_ G 1 gg)) (hna : G.2.2.2 ≤ x) (ho : x + 149 ≤ o) : Ct G l yL_setSupport wsL_setSupport ({ frames := 4, cells := 0, slots := 0, locals := 90 }) 0 0 [.ref x, .int 0, .int 0, .ref o] Φ sz (fun v Φ1 sz1 => v = some (.int 0) ∧ (∀ b9 : Nat, x + 149 ≤ b9 → b9 ≠ o → Φ1 b9 = Φ b9) ∧ ∃ g1 : Nat → Int64, Φ1 o = some (al_ G 1 g1) ∧ g1 0 = 1) := by
  refine Ct.ofH (cc := cL_setSupport) (maxL := 5) (ret := (some .int)) (by decide) rfl (Nat.le_of_ble_eq_true rfl) ?_
  intro p9 e9 s9 m9 w9 t9 k9 B htab9
  show Z p9 l e9 _ s9 m9 _ w9 t9 k9 _ G 5 0 [(0, .ref x), (1, .int 0), (2, .int 0), (3, .ref o)] [] Φ sz 0 0
  refine z_aload_n B dL_setSupport_0 rfl 3 rfl ?_
  refine z_iconst (v := 0) B dL_setSupport_1 rfl ?_
  refine z_aload_n B dL_setSupport_2 rfl 0 rfl ?_
  refine z_iload_n B dL_setSupport_3 rfl 1 rfl ?_
  refine z_iload_n B dL_setSupport_4 rfl 2 rfl ?_
  refine z_callV (As := [.int 0, .int 0]) (rest := [.int 0, .ref o]) B (f_X11_setSupport_0_0 G l Φ sz x hc0_ hc3_ hc6_ hc7_ hc8_ hc9_ hc10_ hc11_ hc12_ hc14_ hc16_ hc18_ hc20_ hc22_ hc74_ hc78_ hna) (cwV 2 B.1.2.2.2.2 gL_setSupport_X11_setSupport rfl rfl rfl (by decide +kernel) ⟨Nat.le_of_ble_eq_true rfl, Nat.le_of_ble_eq_true rfl⟩) hc0_ rfl rfl rfl rfl (Nat.le_of_ble_eq_true rfl) dL_setSupport_5 ⟨Nat.le_of_ble_eq_true rfl, Nat.le_of_ble_eq_true rfl⟩ (fun v1 Φ1 sz1 st1 hp1 hs1 => ?_)
  obtain ⟨rfl, fr1⟩ := hp1
  replace hs1 : st1 = [.int 1, .int 0, .ref o] := hs1
  subst st1
  refine z_if_eq (tgt := 15) B dL_setSupport_8 rfl (fun h9 => absurd h9 (by decide)) (fun c_1 => ?_)
  refine z_lconst (v := 1) B dL_setSupport_11 rfl ?_
  refine z_goto (tgt := 16) B dL_setSupport_12 rfl ?_
  have h_1 : Φ1 o = some (al_ G 1 gg) := ((fr1 o ho).trans hco)
  refine z_last B h_1 (Nat.le_trans hna (Nat.le_trans (Nat.le_add_right x 149) ho)) (vin rfl) dL_setSupport_16 (fun Φ2 hΦ1 => ?_)
  have h_2 : Φ2 o = some (al_ G 1 (vp_updL gg (0 : Int32).toNatClampNeg 1)) := fset_at hΦ1
  refine z_goto (tgt := 24) B dL_setSupport_17 rfl ?_
  refine z_iconst (v := 0) B dL_setSupport_24 rfl ?_
  exact z_ret_i B dL_setSupport_25 ⟨rfl, (fun b9 h9 h8 => ((fset_fr hΦ1 h8).trans ((fr1 b9 h9).trans rfl))), _, h_2, rfl⟩

set_option maxHeartbeats 4000000 in
set_option maxRecDepth 100000 in
theorem w_setSupport_0_1 (G : EnvG) (l : Launch) (Φ : Hm) (sz : Nat) (x : Nat) (o : Nat) (gg : Nat → Int64) (hc0_ : Φ x = some (o_ 13 [.ref (x + 1), .ref (x + 3), .ref (x + 24), .ref (x + 46), .ref (x + 74), .ref (x + 80), .ref (x + 132), .ref (x + 121)])) (hc3_ : Φ (x + 3) = some (o_ 3 [.ref (x + 4), .ref (x + 5), .ref (x + 6), .ref (x + 7), .int 1, .int 511])) (hco : Φ o = some (al_ G 1 gg)) (hna : G.2.2.2 ≤ x) (ho : x + 149 ≤ o) : Ct G l yL_setSupport wsL_setSupport ({ frames := 1, cells := 0, slots := 0, locals := 23 }) 0 0 [.ref x, .int 0, .int 1, .ref o] Φ sz (fun v Φ1 sz1 => v = some (.int 0) ∧ (∀ b9 : Nat, x + 149 ≤ b9 → b9 ≠ o → Φ1 b9 = Φ b9) ∧ ∃ g1 : Nat → Int64, Φ1 o = some (al_ G 1 g1) ∧ g1 0 = 1) := by
  refine Ct.ofH (cc := cL_setSupport) (maxL := 5) (ret := (some .int)) (by decide) rfl (Nat.le_of_ble_eq_true rfl) ?_
  intro p9 e9 s9 m9 w9 t9 k9 B htab9
  show Z p9 l e9 _ s9 m9 _ w9 t9 k9 _ G 5 0 [(0, .ref x), (1, .int 0), (2, .int 1), (3, .ref o)] [] Φ sz 0 0
  refine z_aload_n B dL_setSupport_0 rfl 3 rfl ?_
  refine z_iconst (v := 0) B dL_setSupport_1 rfl ?_
  refine z_aload_n B dL_setSupport_2 rfl 0 rfl ?_
  refine z_iload_n B dL_setSupport_3 rfl 1 rfl ?_
  refine z_iload_n B dL_setSupport_4 rfl 2 rfl ?_
  refine z_callV (As := [.int 0, .int 1]) (rest := [.int 0, .ref o]) B (f_X11_setSupport_0_1 G l Φ sz x hc0_ hc3_) (cwV 2 B.1.2.2.2.2 gL_setSupport_X11_setSupport rfl rfl rfl (by decide +kernel) ⟨Nat.le_of_ble_eq_true rfl, Nat.le_of_ble_eq_true rfl⟩) hc0_ rfl rfl rfl rfl (Nat.le_of_ble_eq_true rfl) dL_setSupport_5 ⟨Nat.le_of_ble_eq_true rfl, Nat.le_of_ble_eq_true rfl⟩ (fun v1 Φ1 sz1 st1 hp1 hs1 => ?_)
  obtain ⟨rfl, fr1⟩ := hp1
  replace hs1 : st1 = [.int 1, .int 0, .ref o] := hs1
  subst st1
  refine z_if_eq (tgt := 15) B dL_setSupport_8 rfl (fun h9 => absurd h9 (by decide)) (fun c_1 => ?_)
  refine z_lconst (v := 1) B dL_setSupport_11 rfl ?_
  refine z_goto (tgt := 16) B dL_setSupport_12 rfl ?_
  have h_1 : Φ1 o = some (al_ G 1 gg) := ((fr1 o ho).trans hco)
  refine z_last B h_1 (Nat.le_trans hna (Nat.le_trans (Nat.le_add_right x 149) ho)) (vin rfl) dL_setSupport_16 (fun Φ2 hΦ1 => ?_)
  have h_2 : Φ2 o = some (al_ G 1 (vp_updL gg (0 : Int32).toNatClampNeg 1)) := fset_at hΦ1
  refine z_goto (tgt := 24) B dL_setSupport_17 rfl ?_
  refine z_iconst (v := 0) B dL_setSupport_24 rfl ?_
  exact z_ret_i B dL_setSupport_25 ⟨rfl, (fun b9 h9 h8 => ((fset_fr hΦ1 h8).trans ((fr1 b9 h9).trans rfl))), _, h_2, rfl⟩

set_option maxHeartbeats 4000000 in
set_option maxRecDepth 100000 in
theorem w_setSupport_1_0 (G : EnvG) (l : Launch) (Φ : Hm) (sz : Nat) (x : Nat) (o : Nat) (gg : Nat → Int64) (hc0_ : Φ x = some (o_ 13 [.ref (x + 1), .ref (x + 3), .ref (x + 24), .ref (x + 46), .ref (x + 74), .ref (x + 80), .ref (x + 132), .ref (x + 121)])) (hc3_ : Φ (x + 3) = some (o_ 3 [.ref (x + 4), .ref (x + 5), .ref (x + 6), .ref (x + 7), .int 1, .int 511])) (hc6_ : Φ (x + 6) = some (aq_ G 4 4 (va_up (va_up (va_up (va_up (fun _ => none) (0 : Int32).toNatClampNeg (some (x + 8))) (1 : Int32).toNatClampNeg (some (x + 12))) (2 : Int32).toNatClampNeg (some (x + 16))) (3 : Int32).toNatClampNeg (some (x + 20))))) (hc7_ : Φ (x + 7) = some (aq_ G 4 4 (va_up (va_up (va_up (va_up (fun _ => none) (0 : Int32).toNatClampNeg (some (x + 10))) (1 : Int32).toNatClampNeg (some (x + 14))) (2 : Int32).toNatClampNeg (some (x + 18))) (3 : Int32).toNatClampNeg (some (x + 22))))) (hc8_ : Φ (x + 8) = some (o_ 12 [.ref (x + 9), .int 9, .int 511, .int 29])) (hc9_ : Φ (x + 9) = some (ai_ G 9 (upd (upd (upd (upd (upd (upd (upd (upd (upd (fun _ => 0) (0 : Int32).toNatClampNeg 0) (1 : Int32).toNatClampNeg 1) (2 : Int32).toNatClampNeg 2) (3 : Int32).toNatClampNeg 3) (4 : Int32).toNatClampNeg 4) (5 : Int32).toNatClampNeg 5) (6 : Int32).toNatClampNeg 6) (7 : Int32).toNatClampNeg 7) (8 : Int32).toNatClampNeg 8))) (hc10_ : Φ (x + 10) = some (o_ 12 [.ref (x + 11), .int 9, .int 511, .int 29])) (hc11_ : Φ (x + 11) = some (ai_ G 9 (upd (upd (upd (upd (upd (upd (upd (upd (upd (fun _ => 0) (0 : Int32).toNatClampNeg 0) (1 : Int32).toNatClampNeg 1) (2 : Int32).toNatClampNeg 2) (3 : Int32).toNatClampNeg 3) (4 : Int32).toNatClampNeg 4) (5 : Int32).toNatClampNeg 5) (6 : Int32).toNatClampNeg 6) (7 : Int32).toNatClampNeg 7) (8 : Int32).toNatClampNeg 8))) (hc12_ : Φ (x + 12) = some (o_ 12 [.ref (x + 13), .int 0, .int 0, .int 0])) (hc14_ : Φ (x + 14) = some (o_ 12 [.ref (x + 15), .int 0, .int 0, .int 0])) (hc16_ : Φ (x + 16) = some (o_ 12 [.ref (x + 17), .int 0, .int 0, .int 0])) (hc18_ : Φ (x + 18) = some (o_ 12 [.ref (x + 19), .int 0, .int 0, .int 0])) (hc20_ : Φ (x + 20) = some (o_ 12 [.ref (x + 21), .int 0, .int 0, .int 0])) (hc22_ : Φ (x + 22) = some (o_ 12 [.ref (x + 23), .int 0, .int 0, .int 0])) (hc74_ : Φ (x + 74) = some (o_ 10 [.ref (x + 3), .ref (x + 46), .ref (x + 75), .ref (x + 77), .int 0, .ref (x + 78), .ref (x + 79), .int 0, .long 0, .int 0])) (hc78_ : Φ (x + 78) = some (ai_ G 4 (fun _ => 0))) (hco : Φ o = some (al_ G 1 gg)) (hna : G.2.2.2 ≤ x) (ho : x + 149 ≤ o) : Ct G l yL_setSupport wsL_setSupport ({ frames := 4, cells := 0, slots := 0, locals := 90 }) 0 0 [.ref x, .int 1, .int 0, .ref o] Φ sz (fun v Φ1 sz1 => v = some (.int 0) ∧ (∀ b9 : Nat, x + 149 ≤ b9 → b9 ≠ o → Φ1 b9 = Φ b9) ∧ ∃ g1 : Nat → Int64, Φ1 o = some (al_ G 1 g1) ∧ g1 0 = 1) := by
  refine Ct.ofH (cc := cL_setSupport) (maxL := 5) (ret := (some .int)) (by decide) rfl (Nat.le_of_ble_eq_true rfl) ?_
  intro p9 e9 s9 m9 w9 t9 k9 B htab9
  show Z p9 l e9 _ s9 m9 _ w9 t9 k9 _ G 5 0 [(0, .ref x), (1, .int 1), (2, .int 0), (3, .ref o)] [] Φ sz 0 0
  refine z_aload_n B dL_setSupport_0 rfl 3 rfl ?_
  refine z_iconst (v := 0) B dL_setSupport_1 rfl ?_
  refine z_aload_n B dL_setSupport_2 rfl 0 rfl ?_
  refine z_iload_n B dL_setSupport_3 rfl 1 rfl ?_
  refine z_iload_n B dL_setSupport_4 rfl 2 rfl ?_
  refine z_callV (As := [.int 1, .int 0]) (rest := [.int 0, .ref o]) B (f_X11_setSupport_1_0 G l Φ sz x hc0_ hc3_ hc6_ hc7_ hc8_ hc9_ hc10_ hc11_ hc12_ hc14_ hc16_ hc18_ hc20_ hc22_ hc74_ hc78_ hna) (cwV 2 B.1.2.2.2.2 gL_setSupport_X11_setSupport rfl rfl rfl (by decide +kernel) ⟨Nat.le_of_ble_eq_true rfl, Nat.le_of_ble_eq_true rfl⟩) hc0_ rfl rfl rfl rfl (Nat.le_of_ble_eq_true rfl) dL_setSupport_5 ⟨Nat.le_of_ble_eq_true rfl, Nat.le_of_ble_eq_true rfl⟩ (fun v1 Φ1 sz1 st1 hp1 hs1 => ?_)
  obtain ⟨rfl, fr1⟩ := hp1
  replace hs1 : st1 = [.int 1, .int 0, .ref o] := hs1
  subst st1
  refine z_if_eq (tgt := 15) B dL_setSupport_8 rfl (fun h9 => absurd h9 (by decide)) (fun c_1 => ?_)
  refine z_lconst (v := 1) B dL_setSupport_11 rfl ?_
  refine z_goto (tgt := 16) B dL_setSupport_12 rfl ?_
  have h_1 : Φ1 o = some (al_ G 1 gg) := ((fr1 o ho).trans hco)
  refine z_last B h_1 (Nat.le_trans hna (Nat.le_trans (Nat.le_add_right x 149) ho)) (vin rfl) dL_setSupport_16 (fun Φ2 hΦ1 => ?_)
  have h_2 : Φ2 o = some (al_ G 1 (vp_updL gg (0 : Int32).toNatClampNeg 1)) := fset_at hΦ1
  refine z_goto (tgt := 24) B dL_setSupport_17 rfl ?_
  refine z_iconst (v := 0) B dL_setSupport_24 rfl ?_
  exact z_ret_i B dL_setSupport_25 ⟨rfl, (fun b9 h9 h8 => ((fset_fr hΦ1 h8).trans ((fr1 b9 h9).trans rfl))), _, h_2, rfl⟩

set_option maxHeartbeats 4000000 in
set_option maxRecDepth 100000 in
theorem w_setSupport_1_1 (G : EnvG) (l : Launch) (Φ : Hm) (sz : Nat) (x : Nat) (o : Nat) (gg : Nat → Int64) (hc0_ : Φ x = some (o_ 13 [.ref (x + 1), .ref (x + 3), .ref (x + 24), .ref (x + 46), .ref (x + 74), .ref (x + 80), .ref (x + 132), .ref (x + 121)])) (hc3_ : Φ (x + 3) = some (o_ 3 [.ref (x + 4), .ref (x + 5), .ref (x + 6), .ref (x + 7), .int 1, .int 511])) (hco : Φ o = some (al_ G 1 gg)) (hna : G.2.2.2 ≤ x) (ho : x + 149 ≤ o) : Ct G l yL_setSupport wsL_setSupport ({ frames := 1, cells := 0, slots := 0, locals := 23 }) 0 0 [.ref x, .int 1, .int 1, .ref o] Φ sz (fun v Φ1 sz1 => v = some (.int 0) ∧ (∀ b9 : Nat, x + 149 ≤ b9 → b9 ≠ o → Φ1 b9 = Φ b9) ∧ ∃ g1 : Nat → Int64, Φ1 o = some (al_ G 1 g1) ∧ g1 0 = 1) := by
  refine Ct.ofH (cc := cL_setSupport) (maxL := 5) (ret := (some .int)) (by decide) rfl (Nat.le_of_ble_eq_true rfl) ?_
  intro p9 e9 s9 m9 w9 t9 k9 B htab9
  show Z p9 l e9 _ s9 m9 _ w9 t9 k9 _ G 5 0 [(0, .ref x), (1, .int 1), (2, .int 1), (3, .ref o)] [] Φ sz 0 0
  refine z_aload_n B dL_setSupport_0 rfl 3 rfl ?_
  refine z_iconst (v := 0) B dL_setSupport_1 rfl ?_
  refine z_aload_n B dL_setSupport_2 rfl 0 rfl ?_
  refine z_iload_n B dL_setSupport_3 rfl 1 rfl ?_
  refine z_iload_n B dL_setSupport_4 rfl 2 rfl ?_
  refine z_callV (As := [.int 1, .int 1]) (rest := [.int 0, .ref o]) B (f_X11_setSupport_1_1 G l Φ sz x hc0_ hc3_) (cwV 2 B.1.2.2.2.2 gL_setSupport_X11_setSupport rfl rfl rfl (by decide +kernel) ⟨Nat.le_of_ble_eq_true rfl, Nat.le_of_ble_eq_true rfl⟩) hc0_ rfl rfl rfl rfl (Nat.le_of_ble_eq_true rfl) dL_setSupport_5 ⟨Nat.le_of_ble_eq_true rfl, Nat.le_of_ble_eq_true rfl⟩ (fun v1 Φ1 sz1 st1 hp1 hs1 => ?_)
  obtain ⟨rfl, fr1⟩ := hp1
  replace hs1 : st1 = [.int 1, .int 0, .ref o] := hs1
  subst st1
  refine z_if_eq (tgt := 15) B dL_setSupport_8 rfl (fun h9 => absurd h9 (by decide)) (fun c_1 => ?_)
  refine z_lconst (v := 1) B dL_setSupport_11 rfl ?_
  refine z_goto (tgt := 16) B dL_setSupport_12 rfl ?_
  have h_1 : Φ1 o = some (al_ G 1 gg) := ((fr1 o ho).trans hco)
  refine z_last B h_1 (Nat.le_trans hna (Nat.le_trans (Nat.le_add_right x 149) ho)) (vin rfl) dL_setSupport_16 (fun Φ2 hΦ1 => ?_)
  have h_2 : Φ2 o = some (al_ G 1 (vp_updL gg (0 : Int32).toNatClampNeg 1)) := fset_at hΦ1
  refine z_goto (tgt := 24) B dL_setSupport_17 rfl ?_
  refine z_iconst (v := 0) B dL_setSupport_24 rfl ?_
  exact z_ret_i B dL_setSupport_25 ⟨rfl, (fun b9 h9 h8 => ((fset_fr hΦ1 h8).trans ((fr1 b9 h9).trans rfl))), _, h_2, rfl⟩

set_option maxHeartbeats 4000000 in
set_option maxRecDepth 100000 in
theorem w_setSupport_2_0 (G : EnvG) (l : Launch) (Φ : Hm) (sz : Nat) (x : Nat) (o : Nat) (gg : Nat → Int64) (hc0_ : Φ x = some (o_ 13 [.ref (x + 1), .ref (x + 3), .ref (x + 24), .ref (x + 46), .ref (x + 74), .ref (x + 80), .ref (x + 132), .ref (x + 121)])) (hc3_ : Φ (x + 3) = some (o_ 3 [.ref (x + 4), .ref (x + 5), .ref (x + 6), .ref (x + 7), .int 1, .int 511])) (hc6_ : Φ (x + 6) = some (aq_ G 4 4 (va_up (va_up (va_up (va_up (fun _ => none) (0 : Int32).toNatClampNeg (some (x + 8))) (1 : Int32).toNatClampNeg (some (x + 12))) (2 : Int32).toNatClampNeg (some (x + 16))) (3 : Int32).toNatClampNeg (some (x + 20))))) (hc7_ : Φ (x + 7) = some (aq_ G 4 4 (va_up (va_up (va_up (va_up (fun _ => none) (0 : Int32).toNatClampNeg (some (x + 10))) (1 : Int32).toNatClampNeg (some (x + 14))) (2 : Int32).toNatClampNeg (some (x + 18))) (3 : Int32).toNatClampNeg (some (x + 22))))) (hc8_ : Φ (x + 8) = some (o_ 12 [.ref (x + 9), .int 9, .int 511, .int 29])) (hc9_ : Φ (x + 9) = some (ai_ G 9 (upd (upd (upd (upd (upd (upd (upd (upd (upd (fun _ => 0) (0 : Int32).toNatClampNeg 0) (1 : Int32).toNatClampNeg 1) (2 : Int32).toNatClampNeg 2) (3 : Int32).toNatClampNeg 3) (4 : Int32).toNatClampNeg 4) (5 : Int32).toNatClampNeg 5) (6 : Int32).toNatClampNeg 6) (7 : Int32).toNatClampNeg 7) (8 : Int32).toNatClampNeg 8))) (hc10_ : Φ (x + 10) = some (o_ 12 [.ref (x + 11), .int 9, .int 511, .int 29])) (hc11_ : Φ (x + 11) = some (ai_ G 9 (upd (upd (upd (upd (upd (upd (upd (upd (upd (fun _ => 0) (0 : Int32).toNatClampNeg 0) (1 : Int32).toNatClampNeg 1) (2 : Int32).toNatClampNeg 2) (3 : Int32).toNatClampNeg 3) (4 : Int32).toNatClampNeg 4) (5 : Int32).toNatClampNeg 5) (6 : Int32).toNatClampNeg 6) (7 : Int32).toNatClampNeg 7) (8 : Int32).toNatClampNeg 8))) (hc12_ : Φ (x + 12) = some (o_ 12 [.ref (x + 13), .int 0, .int 0, .int 0])) (hc14_ : Φ (x + 14) = some (o_ 12 [.ref (x + 15), .int 0, .int 0, .int 0])) (hc16_ : Φ (x + 16) = some (o_ 12 [.ref (x + 17), .int 0, .int 0, .int 0])) (hc18_ : Φ (x + 18) = some (o_ 12 [.ref (x + 19), .int 0, .int 0, .int 0])) (hc20_ : Φ (x + 20) = some (o_ 12 [.ref (x + 21), .int 0, .int 0, .int 0])) (hc22_ : Φ (x + 22) = some (o_ 12 [.ref (x + 23), .int 0, .int 0, .int 0])) (hc74_ : Φ (x + 74) = some (o_ 10 [.ref (x + 3), .ref (x + 46), .ref (x + 75), .ref (x + 77), .int 0, .ref (x + 78), .ref (x + 79), .int 0, .long 0, .int 0])) (hc78_ : Φ (x + 78) = some (ai_ G 4 (fun _ => 0))) (hco : Φ o = some (al_ G 1 gg)) (hna : G.2.2.2 ≤ x) (ho : x + 149 ≤ o) : Ct G l yL_setSupport wsL_setSupport ({ frames := 4, cells := 0, slots := 0, locals := 90 }) 0 0 [.ref x, .int 2, .int 0, .ref o] Φ sz (fun v Φ1 sz1 => v = some (.int 0) ∧ (∀ b9 : Nat, x + 149 ≤ b9 → b9 ≠ o → Φ1 b9 = Φ b9) ∧ ∃ g1 : Nat → Int64, Φ1 o = some (al_ G 1 g1) ∧ g1 0 = 1) := by
  refine Ct.ofH (cc := cL_setSupport) (maxL := 5) (ret := (some .int)) (by decide) rfl (Nat.le_of_ble_eq_true rfl) ?_
  intro p9 e9 s9 m9 w9 t9 k9 B htab9
  show Z p9 l e9 _ s9 m9 _ w9 t9 k9 _ G 5 0 [(0, .ref x), (1, .int 2), (2, .int 0), (3, .ref o)] [] Φ sz 0 0
  refine z_aload_n B dL_setSupport_0 rfl 3 rfl ?_
  refine z_iconst (v := 0) B dL_setSupport_1 rfl ?_
  refine z_aload_n B dL_setSupport_2 rfl 0 rfl ?_
  refine z_iload_n B dL_setSupport_3 rfl 1 rfl ?_
  refine z_iload_n B dL_setSupport_4 rfl 2 rfl ?_
  refine z_callV (As := [.int 2, .int 0]) (rest := [.int 0, .ref o]) B (f_X11_setSupport_2_0 G l Φ sz x hc0_ hc3_ hc6_ hc7_ hc8_ hc9_ hc10_ hc11_ hc12_ hc14_ hc16_ hc18_ hc20_ hc22_ hc74_ hc78_ hna) (cwV 2 B.1.2.2.2.2 gL_setSupport_X11_setSupport rfl rfl rfl (by decide +kernel) ⟨Nat.le_of_ble_eq_true rfl, Nat.le_of_ble_eq_true rfl⟩) hc0_ rfl rfl rfl rfl (Nat.le_of_ble_eq_true rfl) dL_setSupport_5 ⟨Nat.le_of_ble_eq_true rfl, Nat.le_of_ble_eq_true rfl⟩ (fun v1 Φ1 sz1 st1 hp1 hs1 => ?_)
  obtain ⟨rfl, fr1⟩ := hp1
  replace hs1 : st1 = [.int 1, .int 0, .ref o] := hs1
  subst st1
  refine z_if_eq (tgt := 15) B dL_setSupport_8 rfl (fun h9 => absurd h9 (by decide)) (fun c_1 => ?_)
  refine z_lconst (v := 1) B dL_setSupport_11 rfl ?_
  refine z_goto (tgt := 16) B dL_setSupport_12 rfl ?_
  have h_1 : Φ1 o = some (al_ G 1 gg) := ((fr1 o ho).trans hco)
  refine z_last B h_1 (Nat.le_trans hna (Nat.le_trans (Nat.le_add_right x 149) ho)) (vin rfl) dL_setSupport_16 (fun Φ2 hΦ1 => ?_)
  have h_2 : Φ2 o = some (al_ G 1 (vp_updL gg (0 : Int32).toNatClampNeg 1)) := fset_at hΦ1
  refine z_goto (tgt := 24) B dL_setSupport_17 rfl ?_
  refine z_iconst (v := 0) B dL_setSupport_24 rfl ?_
  exact z_ret_i B dL_setSupport_25 ⟨rfl, (fun b9 h9 h8 => ((fset_fr hΦ1 h8).trans ((fr1 b9 h9).trans rfl))), _, h_2, rfl⟩

set_option maxHeartbeats 4000000 in
set_option maxRecDepth 100000 in
theorem w_setSupport_2_1 (G : EnvG) (l : Launch) (Φ : Hm) (sz : Nat) (x : Nat) (o : Nat) (gg : Nat → Int64) (hc0_ : Φ x = some (o_ 13 [.ref (x + 1), .ref (x + 3), .ref (x + 24), .ref (x + 46), .ref (x + 74), .ref (x + 80), .ref (x + 132), .ref (x + 121)])) (hc3_ : Φ (x + 3) = some (o_ 3 [.ref (x + 4), .ref (x + 5), .ref (x + 6), .ref (x + 7), .int 1, .int 511])) (hco : Φ o = some (al_ G 1 gg)) (hna : G.2.2.2 ≤ x) (ho : x + 149 ≤ o) : Ct G l yL_setSupport wsL_setSupport ({ frames := 1, cells := 0, slots := 0, locals := 23 }) 0 0 [.ref x, .int 2, .int 1, .ref o] Φ sz (fun v Φ1 sz1 => v = some (.int 0) ∧ (∀ b9 : Nat, x + 149 ≤ b9 → b9 ≠ o → Φ1 b9 = Φ b9) ∧ ∃ g1 : Nat → Int64, Φ1 o = some (al_ G 1 g1) ∧ g1 0 = 1) := by
  refine Ct.ofH (cc := cL_setSupport) (maxL := 5) (ret := (some .int)) (by decide) rfl (Nat.le_of_ble_eq_true rfl) ?_
  intro p9 e9 s9 m9 w9 t9 k9 B htab9
  show Z p9 l e9 _ s9 m9 _ w9 t9 k9 _ G 5 0 [(0, .ref x), (1, .int 2), (2, .int 1), (3, .ref o)] [] Φ sz 0 0
  refine z_aload_n B dL_setSupport_0 rfl 3 rfl ?_
  refine z_iconst (v := 0) B dL_setSupport_1 rfl ?_
  refine z_aload_n B dL_setSupport_2 rfl 0 rfl ?_
  refine z_iload_n B dL_setSupport_3 rfl 1 rfl ?_
  refine z_iload_n B dL_setSupport_4 rfl 2 rfl ?_
  refine z_callV (As := [.int 2, .int 1]) (rest := [.int 0, .ref o]) B (f_X11_setSupport_2_1 G l Φ sz x hc0_ hc3_) (cwV 2 B.1.2.2.2.2 gL_setSupport_X11_setSupport rfl rfl rfl (by decide +kernel) ⟨Nat.le_of_ble_eq_true rfl, Nat.le_of_ble_eq_true rfl⟩) hc0_ rfl rfl rfl rfl (Nat.le_of_ble_eq_true rfl) dL_setSupport_5 ⟨Nat.le_of_ble_eq_true rfl, Nat.le_of_ble_eq_true rfl⟩ (fun v1 Φ1 sz1 st1 hp1 hs1 => ?_)
  obtain ⟨rfl, fr1⟩ := hp1
  replace hs1 : st1 = [.int 1, .int 0, .ref o] := hs1
  subst st1
  refine z_if_eq (tgt := 15) B dL_setSupport_8 rfl (fun h9 => absurd h9 (by decide)) (fun c_1 => ?_)
  refine z_lconst (v := 1) B dL_setSupport_11 rfl ?_
  refine z_goto (tgt := 16) B dL_setSupport_12 rfl ?_
  have h_1 : Φ1 o = some (al_ G 1 gg) := ((fr1 o ho).trans hco)
  refine z_last B h_1 (Nat.le_trans hna (Nat.le_trans (Nat.le_add_right x 149) ho)) (vin rfl) dL_setSupport_16 (fun Φ2 hΦ1 => ?_)
  have h_2 : Φ2 o = some (al_ G 1 (vp_updL gg (0 : Int32).toNatClampNeg 1)) := fset_at hΦ1
  refine z_goto (tgt := 24) B dL_setSupport_17 rfl ?_
  refine z_iconst (v := 0) B dL_setSupport_24 rfl ?_
  exact z_ret_i B dL_setSupport_25 ⟨rfl, (fun b9 h9 h8 => ((fset_fr hΦ1 h8).trans ((fr1 b9 h9).trans rfl))), _, h_2, rfl⟩

set_option maxHeartbeats 4000000 in
set_option maxRecDepth 100000 in
theorem w_setSupport_3_0 (G : EnvG) (l : Launch) (Φ : Hm) (sz : Nat) (x : Nat) (o : Nat) (gg : Nat → Int64) (hc0_ : Φ x = some (o_ 13 [.ref (x + 1), .ref (x + 3), .ref (x + 24), .ref (x + 46), .ref (x + 74), .ref (x + 80), .ref (x + 132), .ref (x + 121)])) (hc3_ : Φ (x + 3) = some (o_ 3 [.ref (x + 4), .ref (x + 5), .ref (x + 6), .ref (x + 7), .int 1, .int 511])) (hc6_ : Φ (x + 6) = some (aq_ G 4 4 (va_up (va_up (va_up (va_up (fun _ => none) (0 : Int32).toNatClampNeg (some (x + 8))) (1 : Int32).toNatClampNeg (some (x + 12))) (2 : Int32).toNatClampNeg (some (x + 16))) (3 : Int32).toNatClampNeg (some (x + 20))))) (hc7_ : Φ (x + 7) = some (aq_ G 4 4 (va_up (va_up (va_up (va_up (fun _ => none) (0 : Int32).toNatClampNeg (some (x + 10))) (1 : Int32).toNatClampNeg (some (x + 14))) (2 : Int32).toNatClampNeg (some (x + 18))) (3 : Int32).toNatClampNeg (some (x + 22))))) (hc8_ : Φ (x + 8) = some (o_ 12 [.ref (x + 9), .int 9, .int 511, .int 29])) (hc9_ : Φ (x + 9) = some (ai_ G 9 (upd (upd (upd (upd (upd (upd (upd (upd (upd (fun _ => 0) (0 : Int32).toNatClampNeg 0) (1 : Int32).toNatClampNeg 1) (2 : Int32).toNatClampNeg 2) (3 : Int32).toNatClampNeg 3) (4 : Int32).toNatClampNeg 4) (5 : Int32).toNatClampNeg 5) (6 : Int32).toNatClampNeg 6) (7 : Int32).toNatClampNeg 7) (8 : Int32).toNatClampNeg 8))) (hc10_ : Φ (x + 10) = some (o_ 12 [.ref (x + 11), .int 9, .int 511, .int 29])) (hc11_ : Φ (x + 11) = some (ai_ G 9 (upd (upd (upd (upd (upd (upd (upd (upd (upd (fun _ => 0) (0 : Int32).toNatClampNeg 0) (1 : Int32).toNatClampNeg 1) (2 : Int32).toNatClampNeg 2) (3 : Int32).toNatClampNeg 3) (4 : Int32).toNatClampNeg 4) (5 : Int32).toNatClampNeg 5) (6 : Int32).toNatClampNeg 6) (7 : Int32).toNatClampNeg 7) (8 : Int32).toNatClampNeg 8))) (hc12_ : Φ (x + 12) = some (o_ 12 [.ref (x + 13), .int 0, .int 0, .int 0])) (hc14_ : Φ (x + 14) = some (o_ 12 [.ref (x + 15), .int 0, .int 0, .int 0])) (hc16_ : Φ (x + 16) = some (o_ 12 [.ref (x + 17), .int 0, .int 0, .int 0])) (hc18_ : Φ (x + 18) = some (o_ 12 [.ref (x + 19), .int 0, .int 0, .int 0])) (hc20_ : Φ (x + 20) = some (o_ 12 [.ref (x + 21), .int 0, .int 0, .int 0])) (hc22_ : Φ (x + 22) = some (o_ 12 [.ref (x + 23), .int 0, .int 0, .int 0])) (hc74_ : Φ (x + 74) = some (o_ 10 [.ref (x + 3), .ref (x + 46), .ref (x + 75), .ref (x + 77), .int 0, .ref (x + 78), .ref (x + 79), .int 0, .long 0, .int 0])) (hc78_ : Φ (x + 78) = some (ai_ G 4 (fun _ => 0))) (hco : Φ o = some (al_ G 1 gg)) (hna : G.2.2.2 ≤ x) (ho : x + 149 ≤ o) : Ct G l yL_setSupport wsL_setSupport ({ frames := 4, cells := 0, slots := 0, locals := 90 }) 0 0 [.ref x, .int 3, .int 0, .ref o] Φ sz (fun v Φ1 sz1 => v = some (.int 0) ∧ (∀ b9 : Nat, x + 149 ≤ b9 → b9 ≠ o → Φ1 b9 = Φ b9) ∧ ∃ g1 : Nat → Int64, Φ1 o = some (al_ G 1 g1) ∧ g1 0 = 1) := by
  refine Ct.ofH (cc := cL_setSupport) (maxL := 5) (ret := (some .int)) (by decide) rfl (Nat.le_of_ble_eq_true rfl) ?_
  intro p9 e9 s9 m9 w9 t9 k9 B htab9
  show Z p9 l e9 _ s9 m9 _ w9 t9 k9 _ G 5 0 [(0, .ref x), (1, .int 3), (2, .int 0), (3, .ref o)] [] Φ sz 0 0
  refine z_aload_n B dL_setSupport_0 rfl 3 rfl ?_
  refine z_iconst (v := 0) B dL_setSupport_1 rfl ?_
  refine z_aload_n B dL_setSupport_2 rfl 0 rfl ?_
  refine z_iload_n B dL_setSupport_3 rfl 1 rfl ?_
  refine z_iload_n B dL_setSupport_4 rfl 2 rfl ?_
  refine z_callV (As := [.int 3, .int 0]) (rest := [.int 0, .ref o]) B (f_X11_setSupport_3_0 G l Φ sz x hc0_ hc3_ hc6_ hc7_ hc8_ hc9_ hc10_ hc11_ hc12_ hc14_ hc16_ hc18_ hc20_ hc22_ hc74_ hc78_ hna) (cwV 2 B.1.2.2.2.2 gL_setSupport_X11_setSupport rfl rfl rfl (by decide +kernel) ⟨Nat.le_of_ble_eq_true rfl, Nat.le_of_ble_eq_true rfl⟩) hc0_ rfl rfl rfl rfl (Nat.le_of_ble_eq_true rfl) dL_setSupport_5 ⟨Nat.le_of_ble_eq_true rfl, Nat.le_of_ble_eq_true rfl⟩ (fun v1 Φ1 sz1 st1 hp1 hs1 => ?_)
  obtain ⟨rfl, fr1⟩ := hp1
  replace hs1 : st1 = [.int 1, .int 0, .ref o] := hs1
  subst st1
  refine z_if_eq (tgt := 15) B dL_setSupport_8 rfl (fun h9 => absurd h9 (by decide)) (fun c_1 => ?_)
  refine z_lconst (v := 1) B dL_setSupport_11 rfl ?_
  refine z_goto (tgt := 16) B dL_setSupport_12 rfl ?_
  have h_1 : Φ1 o = some (al_ G 1 gg) := ((fr1 o ho).trans hco)
  refine z_last B h_1 (Nat.le_trans hna (Nat.le_trans (Nat.le_add_right x 149) ho)) (vin rfl) dL_setSupport_16 (fun Φ2 hΦ1 => ?_)
  have h_2 : Φ2 o = some (al_ G 1 (vp_updL gg (0 : Int32).toNatClampNeg 1)) := fset_at hΦ1
  refine z_goto (tgt := 24) B dL_setSupport_17 rfl ?_
  refine z_iconst (v := 0) B dL_setSupport_24 rfl ?_
  exact z_ret_i B dL_setSupport_25 ⟨rfl, (fun b9 h9 h8 => ((fset_fr hΦ1 h8).trans ((fr1 b9 h9).trans rfl))), _, h_2, rfl⟩

set_option maxHeartbeats 4000000 in
set_option maxRecDepth 100000 in
theorem w_setSupport_3_1 (G : EnvG) (l : Launch) (Φ : Hm) (sz : Nat) (x : Nat) (o : Nat) (gg : Nat → Int64) (hc0_ : Φ x = some (o_ 13 [.ref (x + 1), .ref (x + 3), .ref (x + 24), .ref (x + 46), .ref (x + 74), .ref (x + 80), .ref (x + 132), .ref (x + 121)])) (hc3_ : Φ (x + 3) = some (o_ 3 [.ref (x + 4), .ref (x + 5), .ref (x + 6), .ref (x + 7), .int 1, .int 511])) (hco : Φ o = some (al_ G 1 gg)) (hna : G.2.2.2 ≤ x) (ho : x + 149 ≤ o) : Ct G l yL_setSupport wsL_setSupport ({ frames := 1, cells := 0, slots := 0, locals := 23 }) 0 0 [.ref x, .int 3, .int 1, .ref o] Φ sz (fun v Φ1 sz1 => v = some (.int 0) ∧ (∀ b9 : Nat, x + 149 ≤ b9 → b9 ≠ o → Φ1 b9 = Φ b9) ∧ ∃ g1 : Nat → Int64, Φ1 o = some (al_ G 1 g1) ∧ g1 0 = 1) := by
  refine Ct.ofH (cc := cL_setSupport) (maxL := 5) (ret := (some .int)) (by decide) rfl (Nat.le_of_ble_eq_true rfl) ?_
  intro p9 e9 s9 m9 w9 t9 k9 B htab9
  show Z p9 l e9 _ s9 m9 _ w9 t9 k9 _ G 5 0 [(0, .ref x), (1, .int 3), (2, .int 1), (3, .ref o)] [] Φ sz 0 0
  refine z_aload_n B dL_setSupport_0 rfl 3 rfl ?_
  refine z_iconst (v := 0) B dL_setSupport_1 rfl ?_
  refine z_aload_n B dL_setSupport_2 rfl 0 rfl ?_
  refine z_iload_n B dL_setSupport_3 rfl 1 rfl ?_
  refine z_iload_n B dL_setSupport_4 rfl 2 rfl ?_
  refine z_callV (As := [.int 3, .int 1]) (rest := [.int 0, .ref o]) B (f_X11_setSupport_3_1 G l Φ sz x hc0_ hc3_) (cwV 2 B.1.2.2.2.2 gL_setSupport_X11_setSupport rfl rfl rfl (by decide +kernel) ⟨Nat.le_of_ble_eq_true rfl, Nat.le_of_ble_eq_true rfl⟩) hc0_ rfl rfl rfl rfl (Nat.le_of_ble_eq_true rfl) dL_setSupport_5 ⟨Nat.le_of_ble_eq_true rfl, Nat.le_of_ble_eq_true rfl⟩ (fun v1 Φ1 sz1 st1 hp1 hs1 => ?_)
  obtain ⟨rfl, fr1⟩ := hp1
  replace hs1 : st1 = [.int 1, .int 0, .ref o] := hs1
  subst st1
  refine z_if_eq (tgt := 15) B dL_setSupport_8 rfl (fun h9 => absurd h9 (by decide)) (fun c_1 => ?_)
  refine z_lconst (v := 1) B dL_setSupport_11 rfl ?_
  refine z_goto (tgt := 16) B dL_setSupport_12 rfl ?_
  have h_1 : Φ1 o = some (al_ G 1 gg) := ((fr1 o ho).trans hco)
  refine z_last B h_1 (Nat.le_trans hna (Nat.le_trans (Nat.le_add_right x 149) ho)) (vin rfl) dL_setSupport_16 (fun Φ2 hΦ1 => ?_)
  have h_2 : Φ2 o = some (al_ G 1 (vp_updL gg (0 : Int32).toNatClampNeg 1)) := fset_at hΦ1
  refine z_goto (tgt := 24) B dL_setSupport_17 rfl ?_
  refine z_iconst (v := 0) B dL_setSupport_24 rfl ?_
  exact z_ret_i B dL_setSupport_25 ⟨rfl, (fun b9 h9 h8 => ((fset_fr hΦ1 h8).trans ((fr1 b9 h9).trans rfl))), _, h_2, rfl⟩

set_option maxHeartbeats 4000000 in
set_option maxRecDepth 100000 in
theorem w_setSupport_4_0 (G : EnvG) (l : Launch) (Φ : Hm) (sz : Nat) (x : Nat) (o : Nat) (gg : Nat → Int64) (hc0_ : Φ x = some (o_ 13 [.ref (x + 1), .ref (x + 3), .ref (x + 24), .ref (x + 46), .ref (x + 74), .ref (x + 80), .ref (x + 132), .ref (x + 121)])) (hc3_ : Φ (x + 3) = some (o_ 3 [.ref (x + 4), .ref (x + 5), .ref (x + 6), .ref (x + 7), .int 1, .int 511])) (hc6_ : Φ (x + 6) = some (aq_ G 4 4 (va_up (va_up (va_up (va_up (fun _ => none) (0 : Int32).toNatClampNeg (some (x + 8))) (1 : Int32).toNatClampNeg (some (x + 12))) (2 : Int32).toNatClampNeg (some (x + 16))) (3 : Int32).toNatClampNeg (some (x + 20))))) (hc7_ : Φ (x + 7) = some (aq_ G 4 4 (va_up (va_up (va_up (va_up (fun _ => none) (0 : Int32).toNatClampNeg (some (x + 10))) (1 : Int32).toNatClampNeg (some (x + 14))) (2 : Int32).toNatClampNeg (some (x + 18))) (3 : Int32).toNatClampNeg (some (x + 22))))) (hc8_ : Φ (x + 8) = some (o_ 12 [.ref (x + 9), .int 9, .int 511, .int 29])) (hc9_ : Φ (x + 9) = some (ai_ G 9 (upd (upd (upd (upd (upd (upd (upd (upd (upd (fun _ => 0) (0 : Int32).toNatClampNeg 0) (1 : Int32).toNatClampNeg 1) (2 : Int32).toNatClampNeg 2) (3 : Int32).toNatClampNeg 3) (4 : Int32).toNatClampNeg 4) (5 : Int32).toNatClampNeg 5) (6 : Int32).toNatClampNeg 6) (7 : Int32).toNatClampNeg 7) (8 : Int32).toNatClampNeg 8))) (hc10_ : Φ (x + 10) = some (o_ 12 [.ref (x + 11), .int 9, .int 511, .int 29])) (hc11_ : Φ (x + 11) = some (ai_ G 9 (upd (upd (upd (upd (upd (upd (upd (upd (upd (fun _ => 0) (0 : Int32).toNatClampNeg 0) (1 : Int32).toNatClampNeg 1) (2 : Int32).toNatClampNeg 2) (3 : Int32).toNatClampNeg 3) (4 : Int32).toNatClampNeg 4) (5 : Int32).toNatClampNeg 5) (6 : Int32).toNatClampNeg 6) (7 : Int32).toNatClampNeg 7) (8 : Int32).toNatClampNeg 8))) (hc12_ : Φ (x + 12) = some (o_ 12 [.ref (x + 13), .int 0, .int 0, .int 0])) (hc14_ : Φ (x + 14) = some (o_ 12 [.ref (x + 15), .int 0, .int 0, .int 0])) (hc16_ : Φ (x + 16) = some (o_ 12 [.ref (x + 17), .int 0, .int 0, .int 0])) (hc18_ : Φ (x + 18) = some (o_ 12 [.ref (x + 19), .int 0, .int 0, .int 0])) (hc20_ : Φ (x + 20) = some (o_ 12 [.ref (x + 21), .int 0, .int 0, .int 0])) (hc22_ : Φ (x + 22) = some (o_ 12 [.ref (x + 23), .int 0, .int 0, .int 0])) (hc74_ : Φ (x + 74) = some (o_ 10 [.ref (x + 3), .ref (x + 46), .ref (x + 75), .ref (x + 77), .int 0, .ref (x + 78), .ref (x + 79), .int 0, .long 0, .int 0])) (hc78_ : Φ (x + 78) = some (ai_ G 4 (fun _ => 0))) (hco : Φ o = some (al_ G 1 gg)) (hna : G.2.2.2 ≤ x) (ho : x + 149 ≤ o) : Ct G l yL_setSupport wsL_setSupport ({ frames := 4, cells := 0, slots := 0, locals := 90 }) 0 0 [.ref x, .int 4, .int 0, .ref o] Φ sz (fun v Φ1 sz1 => v = some (.int 0) ∧ (∀ b9 : Nat, x + 149 ≤ b9 → b9 ≠ o → Φ1 b9 = Φ b9) ∧ ∃ g1 : Nat → Int64, Φ1 o = some (al_ G 1 g1) ∧ g1 0 = 1) := by
  refine Ct.ofH (cc := cL_setSupport) (maxL := 5) (ret := (some .int)) (by decide) rfl (Nat.le_of_ble_eq_true rfl) ?_
  intro p9 e9 s9 m9 w9 t9 k9 B htab9
  show Z p9 l e9 _ s9 m9 _ w9 t9 k9 _ G 5 0 [(0, .ref x), (1, .int 4), (2, .int 0), (3, .ref o)] [] Φ sz 0 0
  refine z_aload_n B dL_setSupport_0 rfl 3 rfl ?_
  refine z_iconst (v := 0) B dL_setSupport_1 rfl ?_
  refine z_aload_n B dL_setSupport_2 rfl 0 rfl ?_
  refine z_iload_n B dL_setSupport_3 rfl 1 rfl ?_
  refine z_iload_n B dL_setSupport_4 rfl 2 rfl ?_
  refine z_callV (As := [.int 4, .int 0]) (rest := [.int 0, .ref o]) B (f_X11_setSupport_4_0 G l Φ sz x hc0_ hc3_ hc6_ hc7_ hc8_ hc9_ hc10_ hc11_ hc12_ hc14_ hc16_ hc18_ hc20_ hc22_ hc74_ hc78_ hna) (cwV 2 B.1.2.2.2.2 gL_setSupport_X11_setSupport rfl rfl rfl (by decide +kernel) ⟨Nat.le_of_ble_eq_true rfl, Nat.le_of_ble_eq_true rfl⟩) hc0_ rfl rfl rfl rfl (Nat.le_of_ble_eq_true rfl) dL_setSupport_5 ⟨Nat.le_of_ble_eq_true rfl, Nat.le_of_ble_eq_true rfl⟩ (fun v1 Φ1 sz1 st1 hp1 hs1 => ?_)
  obtain ⟨rfl, fr1⟩ := hp1
  replace hs1 : st1 = [.int 1, .int 0, .ref o] := hs1
  subst st1
  refine z_if_eq (tgt := 15) B dL_setSupport_8 rfl (fun h9 => absurd h9 (by decide)) (fun c_1 => ?_)
  refine z_lconst (v := 1) B dL_setSupport_11 rfl ?_
  refine z_goto (tgt := 16) B dL_setSupport_12 rfl ?_
  have h_1 : Φ1 o = some (al_ G 1 gg) := ((fr1 o ho).trans hco)
  refine z_last B h_1 (Nat.le_trans hna (Nat.le_trans (Nat.le_add_right x 149) ho)) (vin rfl) dL_setSupport_16 (fun Φ2 hΦ1 => ?_)
  have h_2 : Φ2 o = some (al_ G 1 (vp_updL gg (0 : Int32).toNatClampNeg 1)) := fset_at hΦ1
  refine z_goto (tgt := 24) B dL_setSupport_17 rfl ?_
  refine z_iconst (v := 0) B dL_setSupport_24 rfl ?_
  exact z_ret_i B dL_setSupport_25 ⟨rfl, (fun b9 h9 h8 => ((fset_fr hΦ1 h8).trans ((fr1 b9 h9).trans rfl))), _, h_2, rfl⟩

set_option maxHeartbeats 4000000 in
set_option maxRecDepth 100000 in
theorem w_setSupport_4_1 (G : EnvG) (l : Launch) (Φ : Hm) (sz : Nat) (x : Nat) (o : Nat) (gg : Nat → Int64) (hc0_ : Φ x = some (o_ 13 [.ref (x + 1), .ref (x + 3), .ref (x + 24), .ref (x + 46), .ref (x + 74), .ref (x + 80), .ref (x + 132), .ref (x + 121)])) (hc3_ : Φ (x + 3) = some (o_ 3 [.ref (x + 4), .ref (x + 5), .ref (x + 6), .ref (x + 7), .int 1, .int 511])) (hco : Φ o = some (al_ G 1 gg)) (hna : G.2.2.2 ≤ x) (ho : x + 149 ≤ o) : Ct G l yL_setSupport wsL_setSupport ({ frames := 1, cells := 0, slots := 0, locals := 23 }) 0 0 [.ref x, .int 4, .int 1, .ref o] Φ sz (fun v Φ1 sz1 => v = some (.int 0) ∧ (∀ b9 : Nat, x + 149 ≤ b9 → b9 ≠ o → Φ1 b9 = Φ b9) ∧ ∃ g1 : Nat → Int64, Φ1 o = some (al_ G 1 g1) ∧ g1 0 = 1) := by
  refine Ct.ofH (cc := cL_setSupport) (maxL := 5) (ret := (some .int)) (by decide) rfl (Nat.le_of_ble_eq_true rfl) ?_
  intro p9 e9 s9 m9 w9 t9 k9 B htab9
  show Z p9 l e9 _ s9 m9 _ w9 t9 k9 _ G 5 0 [(0, .ref x), (1, .int 4), (2, .int 1), (3, .ref o)] [] Φ sz 0 0
  refine z_aload_n B dL_setSupport_0 rfl 3 rfl ?_
  refine z_iconst (v := 0) B dL_setSupport_1 rfl ?_
  refine z_aload_n B dL_setSupport_2 rfl 0 rfl ?_
  refine z_iload_n B dL_setSupport_3 rfl 1 rfl ?_
  refine z_iload_n B dL_setSupport_4 rfl 2 rfl ?_
  refine z_callV (As := [.int 4, .int 1]) (rest := [.int 0, .ref o]) B (f_X11_setSupport_4_1 G l Φ sz x hc0_ hc3_) (cwV 2 B.1.2.2.2.2 gL_setSupport_X11_setSupport rfl rfl rfl (by decide +kernel) ⟨Nat.le_of_ble_eq_true rfl, Nat.le_of_ble_eq_true rfl⟩) hc0_ rfl rfl rfl rfl (Nat.le_of_ble_eq_true rfl) dL_setSupport_5 ⟨Nat.le_of_ble_eq_true rfl, Nat.le_of_ble_eq_true rfl⟩ (fun v1 Φ1 sz1 st1 hp1 hs1 => ?_)
  obtain ⟨rfl, fr1⟩ := hp1
  replace hs1 : st1 = [.int 1, .int 0, .ref o] := hs1
  subst st1
  refine z_if_eq (tgt := 15) B dL_setSupport_8 rfl (fun h9 => absurd h9 (by decide)) (fun c_1 => ?_)
  refine z_lconst (v := 1) B dL_setSupport_11 rfl ?_
  refine z_goto (tgt := 16) B dL_setSupport_12 rfl ?_
  have h_1 : Φ1 o = some (al_ G 1 gg) := ((fr1 o ho).trans hco)
  refine z_last B h_1 (Nat.le_trans hna (Nat.le_trans (Nat.le_add_right x 149) ho)) (vin rfl) dL_setSupport_16 (fun Φ2 hΦ1 => ?_)
  have h_2 : Φ2 o = some (al_ G 1 (vp_updL gg (0 : Int32).toNatClampNeg 1)) := fset_at hΦ1
  refine z_goto (tgt := 24) B dL_setSupport_17 rfl ?_
  refine z_iconst (v := 0) B dL_setSupport_24 rfl ?_
  exact z_ret_i B dL_setSupport_25 ⟨rfl, (fun b9 h9 h8 => ((fset_fr hΦ1 h8).trans ((fr1 b9 h9).trans rfl))), _, h_2, rfl⟩

set_option maxHeartbeats 4000000 in
set_option maxRecDepth 100000 in
theorem w_setSupport_5_0 (G : EnvG) (l : Launch) (Φ : Hm) (sz : Nat) (x : Nat) (o : Nat) (gg : Nat → Int64) (hc0_ : Φ x = some (o_ 13 [.ref (x + 1), .ref (x + 3), .ref (x + 24), .ref (x + 46), .ref (x + 74), .ref (x + 80), .ref (x + 132), .ref (x + 121)])) (hc3_ : Φ (x + 3) = some (o_ 3 [.ref (x + 4), .ref (x + 5), .ref (x + 6), .ref (x + 7), .int 1, .int 511])) (hc6_ : Φ (x + 6) = some (aq_ G 4 4 (va_up (va_up (va_up (va_up (fun _ => none) (0 : Int32).toNatClampNeg (some (x + 8))) (1 : Int32).toNatClampNeg (some (x + 12))) (2 : Int32).toNatClampNeg (some (x + 16))) (3 : Int32).toNatClampNeg (some (x + 20))))) (hc7_ : Φ (x + 7) = some (aq_ G 4 4 (va_up (va_up (va_up (va_up (fun _ => none) (0 : Int32).toNatClampNeg (some (x + 10))) (1 : Int32).toNatClampNeg (some (x + 14))) (2 : Int32).toNatClampNeg (some (x + 18))) (3 : Int32).toNatClampNeg (some (x + 22))))) (hc8_ : Φ (x + 8) = some (o_ 12 [.ref (x + 9), .int 9, .int 511, .int 29])) (hc9_ : Φ (x + 9) = some (ai_ G 9 (upd (upd (upd (upd (upd (upd (upd (upd (upd (fun _ => 0) (0 : Int32).toNatClampNeg 0) (1 : Int32).toNatClampNeg 1) (2 : Int32).toNatClampNeg 2) (3 : Int32).toNatClampNeg 3) (4 : Int32).toNatClampNeg 4) (5 : Int32).toNatClampNeg 5) (6 : Int32).toNatClampNeg 6) (7 : Int32).toNatClampNeg 7) (8 : Int32).toNatClampNeg 8))) (hc10_ : Φ (x + 10) = some (o_ 12 [.ref (x + 11), .int 9, .int 511, .int 29])) (hc11_ : Φ (x + 11) = some (ai_ G 9 (upd (upd (upd (upd (upd (upd (upd (upd (upd (fun _ => 0) (0 : Int32).toNatClampNeg 0) (1 : Int32).toNatClampNeg 1) (2 : Int32).toNatClampNeg 2) (3 : Int32).toNatClampNeg 3) (4 : Int32).toNatClampNeg 4) (5 : Int32).toNatClampNeg 5) (6 : Int32).toNatClampNeg 6) (7 : Int32).toNatClampNeg 7) (8 : Int32).toNatClampNeg 8))) (hc12_ : Φ (x + 12) = some (o_ 12 [.ref (x + 13), .int 0, .int 0, .int 0])) (hc14_ : Φ (x + 14) = some (o_ 12 [.ref (x + 15), .int 0, .int 0, .int 0])) (hc16_ : Φ (x + 16) = some (o_ 12 [.ref (x + 17), .int 0, .int 0, .int 0])) (hc18_ : Φ (x + 18) = some (o_ 12 [.ref (x + 19), .int 0, .int 0, .int 0])) (hc20_ : Φ (x + 20) = some (o_ 12 [.ref (x + 21), .int 0, .int 0, .int 0])) (hc22_ : Φ (x + 22) = some (o_ 12 [.ref (x + 23), .int 0, .int 0, .int 0])) (hc74_ : Φ (x + 74) = some (o_ 10 [.ref (x + 3), .ref (x + 46), .ref (x + 75), .ref (x + 77), .int 0, .ref (x + 78), .ref (x + 79), .int 0, .long 0, .int 0])) (hc78_ : Φ (x + 78) = some (ai_ G 4 (fun _ => 0))) (hco : Φ o = some (al_ G 1 gg)) (hna : G.2.2.2 ≤ x) (ho : x + 149 ≤ o) : Ct G l yL_setSupport wsL_setSupport ({ frames := 4, cells := 0, slots := 0, locals := 90 }) 0 0 [.ref x, .int 5, .int 0, .ref o] Φ sz (fun v Φ1 sz1 => v = some (.int 0) ∧ (∀ b9 : Nat, x + 149 ≤ b9 → b9 ≠ o → Φ1 b9 = Φ b9) ∧ ∃ g1 : Nat → Int64, Φ1 o = some (al_ G 1 g1) ∧ g1 0 = 1) := by
  refine Ct.ofH (cc := cL_setSupport) (maxL := 5) (ret := (some .int)) (by decide) rfl (Nat.le_of_ble_eq_true rfl) ?_
  intro p9 e9 s9 m9 w9 t9 k9 B htab9
  show Z p9 l e9 _ s9 m9 _ w9 t9 k9 _ G 5 0 [(0, .ref x), (1, .int 5), (2, .int 0), (3, .ref o)] [] Φ sz 0 0
  refine z_aload_n B dL_setSupport_0 rfl 3 rfl ?_
  refine z_iconst (v := 0) B dL_setSupport_1 rfl ?_
  refine z_aload_n B dL_setSupport_2 rfl 0 rfl ?_
  refine z_iload_n B dL_setSupport_3 rfl 1 rfl ?_
  refine z_iload_n B dL_setSupport_4 rfl 2 rfl ?_
  refine z_callV (As := [.int 5, .int 0]) (rest := [.int 0, .ref o]) B (f_X11_setSupport_5_0 G l Φ sz x hc0_ hc3_ hc6_ hc7_ hc8_ hc9_ hc10_ hc11_ hc12_ hc14_ hc16_ hc18_ hc20_ hc22_ hc74_ hc78_ hna) (cwV 2 B.1.2.2.2.2 gL_setSupport_X11_setSupport rfl rfl rfl (by decide +kernel) ⟨Nat.le_of_ble_eq_true rfl, Nat.le_of_ble_eq_true rfl⟩) hc0_ rfl rfl rfl rfl (Nat.le_of_ble_eq_true rfl) dL_setSupport_5 ⟨Nat.le_of_ble_eq_true rfl, Nat.le_of_ble_eq_true rfl⟩ (fun v1 Φ1 sz1 st1 hp1 hs1 => ?_)
  obtain ⟨rfl, fr1⟩ := hp1
  replace hs1 : st1 = [.int 1, .int 0, .ref o] := hs1
  subst st1
  refine z_if_eq (tgt := 15) B dL_setSupport_8 rfl (fun h9 => absurd h9 (by decide)) (fun c_1 => ?_)
  refine z_lconst (v := 1) B dL_setSupport_11 rfl ?_
  refine z_goto (tgt := 16) B dL_setSupport_12 rfl ?_
  have h_1 : Φ1 o = some (al_ G 1 gg) := ((fr1 o ho).trans hco)
  refine z_last B h_1 (Nat.le_trans hna (Nat.le_trans (Nat.le_add_right x 149) ho)) (vin rfl) dL_setSupport_16 (fun Φ2 hΦ1 => ?_)
  have h_2 : Φ2 o = some (al_ G 1 (vp_updL gg (0 : Int32).toNatClampNeg 1)) := fset_at hΦ1
  refine z_goto (tgt := 24) B dL_setSupport_17 rfl ?_
  refine z_iconst (v := 0) B dL_setSupport_24 rfl ?_
  exact z_ret_i B dL_setSupport_25 ⟨rfl, (fun b9 h9 h8 => ((fset_fr hΦ1 h8).trans ((fr1 b9 h9).trans rfl))), _, h_2, rfl⟩

set_option maxHeartbeats 4000000 in
set_option maxRecDepth 100000 in
theorem w_setSupport_5_1 (G : EnvG) (l : Launch) (Φ : Hm) (sz : Nat) (x : Nat) (o : Nat) (gg : Nat → Int64) (hc0_ : Φ x = some (o_ 13 [.ref (x + 1), .ref (x + 3), .ref (x + 24), .ref (x + 46), .ref (x + 74), .ref (x + 80), .ref (x + 132), .ref (x + 121)])) (hc3_ : Φ (x + 3) = some (o_ 3 [.ref (x + 4), .ref (x + 5), .ref (x + 6), .ref (x + 7), .int 1, .int 511])) (hco : Φ o = some (al_ G 1 gg)) (hna : G.2.2.2 ≤ x) (ho : x + 149 ≤ o) : Ct G l yL_setSupport wsL_setSupport ({ frames := 1, cells := 0, slots := 0, locals := 23 }) 0 0 [.ref x, .int 5, .int 1, .ref o] Φ sz (fun v Φ1 sz1 => v = some (.int 0) ∧ (∀ b9 : Nat, x + 149 ≤ b9 → b9 ≠ o → Φ1 b9 = Φ b9) ∧ ∃ g1 : Nat → Int64, Φ1 o = some (al_ G 1 g1) ∧ g1 0 = 1) := by
  refine Ct.ofH (cc := cL_setSupport) (maxL := 5) (ret := (some .int)) (by decide) rfl (Nat.le_of_ble_eq_true rfl) ?_
  intro p9 e9 s9 m9 w9 t9 k9 B htab9
  show Z p9 l e9 _ s9 m9 _ w9 t9 k9 _ G 5 0 [(0, .ref x), (1, .int 5), (2, .int 1), (3, .ref o)] [] Φ sz 0 0
  refine z_aload_n B dL_setSupport_0 rfl 3 rfl ?_
  refine z_iconst (v := 0) B dL_setSupport_1 rfl ?_
  refine z_aload_n B dL_setSupport_2 rfl 0 rfl ?_
  refine z_iload_n B dL_setSupport_3 rfl 1 rfl ?_
  refine z_iload_n B dL_setSupport_4 rfl 2 rfl ?_
  refine z_callV (As := [.int 5, .int 1]) (rest := [.int 0, .ref o]) B (f_X11_setSupport_5_1 G l Φ sz x hc0_ hc3_) (cwV 2 B.1.2.2.2.2 gL_setSupport_X11_setSupport rfl rfl rfl (by decide +kernel) ⟨Nat.le_of_ble_eq_true rfl, Nat.le_of_ble_eq_true rfl⟩) hc0_ rfl rfl rfl rfl (Nat.le_of_ble_eq_true rfl) dL_setSupport_5 ⟨Nat.le_of_ble_eq_true rfl, Nat.le_of_ble_eq_true rfl⟩ (fun v1 Φ1 sz1 st1 hp1 hs1 => ?_)
  obtain ⟨rfl, fr1⟩ := hp1
  replace hs1 : st1 = [.int 1, .int 0, .ref o] := hs1
  subst st1
  refine z_if_eq (tgt := 15) B dL_setSupport_8 rfl (fun h9 => absurd h9 (by decide)) (fun c_1 => ?_)
  refine z_lconst (v := 1) B dL_setSupport_11 rfl ?_
  refine z_goto (tgt := 16) B dL_setSupport_12 rfl ?_
  have h_1 : Φ1 o = some (al_ G 1 gg) := ((fr1 o ho).trans hco)
  refine z_last B h_1 (Nat.le_trans hna (Nat.le_trans (Nat.le_add_right x 149) ho)) (vin rfl) dL_setSupport_16 (fun Φ2 hΦ1 => ?_)
  have h_2 : Φ2 o = some (al_ G 1 (vp_updL gg (0 : Int32).toNatClampNeg 1)) := fset_at hΦ1
  refine z_goto (tgt := 24) B dL_setSupport_17 rfl ?_
  refine z_iconst (v := 0) B dL_setSupport_24 rfl ?_
  exact z_ret_i B dL_setSupport_25 ⟨rfl, (fun b9 h9 h8 => ((fset_fr hΦ1 h8).trans ((fr1 b9 h9).trans rfl))), _, h_2, rfl⟩

set_option maxHeartbeats 4000000 in
set_option maxRecDepth 100000 in
theorem w_setSupport_6_0 (G : EnvG) (l : Launch) (Φ : Hm) (sz : Nat) (x : Nat) (o : Nat) (gg : Nat → Int64) (hc0_ : Φ x = some (o_ 13 [.ref (x + 1), .ref (x + 3), .ref (x + 24), .ref (x + 46), .ref (x + 74), .ref (x + 80), .ref (x + 132), .ref (x + 121)])) (hc3_ : Φ (x + 3) = some (o_ 3 [.ref (x + 4), .ref (x + 5), .ref (x + 6), .ref (x + 7), .int 1, .int 511])) (hc6_ : Φ (x + 6) = some (aq_ G 4 4 (va_up (va_up (va_up (va_up (fun _ => none) (0 : Int32).toNatClampNeg (some (x + 8))) (1 : Int32).toNatClampNeg (some (x + 12))) (2 : Int32).toNatClampNeg (some (x + 16))) (3 : Int32).toNatClampNeg (some (x + 20))))) (hc7_ : Φ (x + 7) = some (aq_ G 4 4 (va_up (va_up (va_up (va_up (fun _ => none) (0 : Int32).toNatClampNeg (some (x + 10))) (1 : Int32).toNatClampNeg (some (x + 14))) (2 : Int32).toNatClampNeg (some (x + 18))) (3 : Int32).toNatClampNeg (some (x + 22))))) (hc8_ : Φ (x + 8) = some (o_ 12 [.ref (x + 9), .int 9, .int 511, .int 29])) (hc9_ : Φ (x + 9) = some (ai_ G 9 (upd (upd (upd (upd (upd (upd (upd (upd (upd (fun _ => 0) (0 : Int32).toNatClampNeg 0) (1 : Int32).toNatClampNeg 1) (2 : Int32).toNatClampNeg 2) (3 : Int32).toNatClampNeg 3) (4 : Int32).toNatClampNeg 4) (5 : Int32).toNatClampNeg 5) (6 : Int32).toNatClampNeg 6) (7 : Int32).toNatClampNeg 7) (8 : Int32).toNatClampNeg 8))) (hc10_ : Φ (x + 10) = some (o_ 12 [.ref (x + 11), .int 9, .int 511, .int 29])) (hc11_ : Φ (x + 11) = some (ai_ G 9 (upd (upd (upd (upd (upd (upd (upd (upd (upd (fun _ => 0) (0 : Int32).toNatClampNeg 0) (1 : Int32).toNatClampNeg 1) (2 : Int32).toNatClampNeg 2) (3 : Int32).toNatClampNeg 3) (4 : Int32).toNatClampNeg 4) (5 : Int32).toNatClampNeg 5) (6 : Int32).toNatClampNeg 6) (7 : Int32).toNatClampNeg 7) (8 : Int32).toNatClampNeg 8))) (hc12_ : Φ (x + 12) = some (o_ 12 [.ref (x + 13), .int 0, .int 0, .int 0])) (hc14_ : Φ (x + 14) = some (o_ 12 [.ref (x + 15), .int 0, .int 0, .int 0])) (hc16_ : Φ (x + 16) = some (o_ 12 [.ref (x + 17), .int 0, .int 0, .int 0])) (hc18_ : Φ (x + 18) = some (o_ 12 [.ref (x + 19), .int 0, .int 0, .int 0])) (hc20_ : Φ (x + 20) = some (o_ 12 [.ref (x + 21), .int 0, .int 0, .int 0])) (hc22_ : Φ (x + 22) = some (o_ 12 [.ref (x + 23), .int 0, .int 0, .int 0])) (hc74_ : Φ (x + 74) = some (o_ 10 [.ref (x + 3), .ref (x + 46), .ref (x + 75), .ref (x + 77), .int 0, .ref (x + 78), .ref (x + 79), .int 0, .long 0, .int 0])) (hc78_ : Φ (x + 78) = some (ai_ G 4 (fun _ => 0))) (hco : Φ o = some (al_ G 1 gg)) (hna : G.2.2.2 ≤ x) (ho : x + 149 ≤ o) : Ct G l yL_setSupport wsL_setSupport ({ frames := 4, cells := 0, slots := 0, locals := 90 }) 0 0 [.ref x, .int 6, .int 0, .ref o] Φ sz (fun v Φ1 sz1 => v = some (.int 0) ∧ (∀ b9 : Nat, x + 149 ≤ b9 → b9 ≠ o → Φ1 b9 = Φ b9) ∧ ∃ g1 : Nat → Int64, Φ1 o = some (al_ G 1 g1) ∧ g1 0 = 1) := by
  refine Ct.ofH (cc := cL_setSupport) (maxL := 5) (ret := (some .int)) (by decide) rfl (Nat.le_of_ble_eq_true rfl) ?_
  intro p9 e9 s9 m9 w9 t9 k9 B htab9
  show Z p9 l e9 _ s9 m9 _ w9 t9 k9 _ G 5 0 [(0, .ref x), (1, .int 6), (2, .int 0), (3, .ref o)] [] Φ sz 0 0
  refine z_aload_n B dL_setSupport_0 rfl 3 rfl ?_
  refine z_iconst (v := 0) B dL_setSupport_1 rfl ?_
  refine z_aload_n B dL_setSupport_2 rfl 0 rfl ?_
  refine z_iload_n B dL_setSupport_3 rfl 1 rfl ?_
  refine z_iload_n B dL_setSupport_4 rfl 2 rfl ?_
  refine z_callV (As := [.int 6, .int 0]) (rest := [.int 0, .ref o]) B (f_X11_setSupport_6_0 G l Φ sz x hc0_ hc3_ hc6_ hc7_ hc8_ hc9_ hc10_ hc11_ hc12_ hc14_ hc16_ hc18_ hc20_ hc22_ hc74_ hc78_ hna) (cwV 2 B.1.2.2.2.2 gL_setSupport_X11_setSupport rfl rfl rfl (by decide +kernel) ⟨Nat.le_of_ble_eq_true rfl, Nat.le_of_ble_eq_true rfl⟩) hc0_ rfl rfl rfl rfl (Nat.le_of_ble_eq_true rfl) dL_setSupport_5 ⟨Nat.le_of_ble_eq_true rfl, Nat.le_of_ble_eq_true rfl⟩ (fun v1 Φ1 sz1 st1 hp1 hs1 => ?_)
  obtain ⟨rfl, fr1⟩ := hp1
  replace hs1 : st1 = [.int 1, .int 0, .ref o] := hs1
  subst st1
  refine z_if_eq (tgt := 15) B dL_setSupport_8 rfl (fun h9 => absurd h9 (by decide)) (fun c_1 => ?_)
  refine z_lconst (v := 1) B dL_setSupport_11 rfl ?_
  refine z_goto (tgt := 16) B dL_setSupport_12 rfl ?_
  have h_1 : Φ1 o = some (al_ G 1 gg) := ((fr1 o ho).trans hco)
  refine z_last B h_1 (Nat.le_trans hna (Nat.le_trans (Nat.le_add_right x 149) ho)) (vin rfl) dL_setSupport_16 (fun Φ2 hΦ1 => ?_)
  have h_2 : Φ2 o = some (al_ G 1 (vp_updL gg (0 : Int32).toNatClampNeg 1)) := fset_at hΦ1
  refine z_goto (tgt := 24) B dL_setSupport_17 rfl ?_
  refine z_iconst (v := 0) B dL_setSupport_24 rfl ?_
  exact z_ret_i B dL_setSupport_25 ⟨rfl, (fun b9 h9 h8 => ((fset_fr hΦ1 h8).trans ((fr1 b9 h9).trans rfl))), _, h_2, rfl⟩

set_option maxHeartbeats 4000000 in
set_option maxRecDepth 100000 in
theorem w_setSupport_6_1 (G : EnvG) (l : Launch) (Φ : Hm) (sz : Nat) (x : Nat) (o : Nat) (gg : Nat → Int64) (hc0_ : Φ x = some (o_ 13 [.ref (x + 1), .ref (x + 3), .ref (x + 24), .ref (x + 46), .ref (x + 74), .ref (x + 80), .ref (x + 132), .ref (x + 121)])) (hc3_ : Φ (x + 3) = some (o_ 3 [.ref (x + 4), .ref (x + 5), .ref (x + 6), .ref (x + 7), .int 1, .int 511])) (hco : Φ o = some (al_ G 1 gg)) (hna : G.2.2.2 ≤ x) (ho : x + 149 ≤ o) : Ct G l yL_setSupport wsL_setSupport ({ frames := 1, cells := 0, slots := 0, locals := 23 }) 0 0 [.ref x, .int 6, .int 1, .ref o] Φ sz (fun v Φ1 sz1 => v = some (.int 0) ∧ (∀ b9 : Nat, x + 149 ≤ b9 → b9 ≠ o → Φ1 b9 = Φ b9) ∧ ∃ g1 : Nat → Int64, Φ1 o = some (al_ G 1 g1) ∧ g1 0 = 1) := by
  refine Ct.ofH (cc := cL_setSupport) (maxL := 5) (ret := (some .int)) (by decide) rfl (Nat.le_of_ble_eq_true rfl) ?_
  intro p9 e9 s9 m9 w9 t9 k9 B htab9
  show Z p9 l e9 _ s9 m9 _ w9 t9 k9 _ G 5 0 [(0, .ref x), (1, .int 6), (2, .int 1), (3, .ref o)] [] Φ sz 0 0
  refine z_aload_n B dL_setSupport_0 rfl 3 rfl ?_
  refine z_iconst (v := 0) B dL_setSupport_1 rfl ?_
  refine z_aload_n B dL_setSupport_2 rfl 0 rfl ?_
  refine z_iload_n B dL_setSupport_3 rfl 1 rfl ?_
  refine z_iload_n B dL_setSupport_4 rfl 2 rfl ?_
  refine z_callV (As := [.int 6, .int 1]) (rest := [.int 0, .ref o]) B (f_X11_setSupport_6_1 G l Φ sz x hc0_ hc3_) (cwV 2 B.1.2.2.2.2 gL_setSupport_X11_setSupport rfl rfl rfl (by decide +kernel) ⟨Nat.le_of_ble_eq_true rfl, Nat.le_of_ble_eq_true rfl⟩) hc0_ rfl rfl rfl rfl (Nat.le_of_ble_eq_true rfl) dL_setSupport_5 ⟨Nat.le_of_ble_eq_true rfl, Nat.le_of_ble_eq_true rfl⟩ (fun v1 Φ1 sz1 st1 hp1 hs1 => ?_)
  obtain ⟨rfl, fr1⟩ := hp1
  replace hs1 : st1 = [.int 1, .int 0, .ref o] := hs1
  subst st1
  refine z_if_eq (tgt := 15) B dL_setSupport_8 rfl (fun h9 => absurd h9 (by decide)) (fun c_1 => ?_)
  refine z_lconst (v := 1) B dL_setSupport_11 rfl ?_
  refine z_goto (tgt := 16) B dL_setSupport_12 rfl ?_
  have h_1 : Φ1 o = some (al_ G 1 gg) := ((fr1 o ho).trans hco)
  refine z_last B h_1 (Nat.le_trans hna (Nat.le_trans (Nat.le_add_right x 149) ho)) (vin rfl) dL_setSupport_16 (fun Φ2 hΦ1 => ?_)
  have h_2 : Φ2 o = some (al_ G 1 (vp_updL gg (0 : Int32).toNatClampNeg 1)) := fset_at hΦ1
  refine z_goto (tgt := 24) B dL_setSupport_17 rfl ?_
  refine z_iconst (v := 0) B dL_setSupport_24 rfl ?_
  exact z_ret_i B dL_setSupport_25 ⟨rfl, (fun b9 h9 h8 => ((fset_fr hΦ1 h8).trans ((fr1 b9 h9).trans rfl))), _, h_2, rfl⟩

set_option maxHeartbeats 4000000 in
set_option maxRecDepth 100000 in
theorem w_setSupport_7_0 (G : EnvG) (l : Launch) (Φ : Hm) (sz : Nat) (x : Nat) (o : Nat) (gg : Nat → Int64) (hc0_ : Φ x = some (o_ 13 [.ref (x + 1), .ref (x + 3), .ref (x + 24), .ref (x + 46), .ref (x + 74), .ref (x + 80), .ref (x + 132), .ref (x + 121)])) (hc3_ : Φ (x + 3) = some (o_ 3 [.ref (x + 4), .ref (x + 5), .ref (x + 6), .ref (x + 7), .int 1, .int 511])) (hc6_ : Φ (x + 6) = some (aq_ G 4 4 (va_up (va_up (va_up (va_up (fun _ => none) (0 : Int32).toNatClampNeg (some (x + 8))) (1 : Int32).toNatClampNeg (some (x + 12))) (2 : Int32).toNatClampNeg (some (x + 16))) (3 : Int32).toNatClampNeg (some (x + 20))))) (hc7_ : Φ (x + 7) = some (aq_ G 4 4 (va_up (va_up (va_up (va_up (fun _ => none) (0 : Int32).toNatClampNeg (some (x + 10))) (1 : Int32).toNatClampNeg (some (x + 14))) (2 : Int32).toNatClampNeg (some (x + 18))) (3 : Int32).toNatClampNeg (some (x + 22))))) (hc8_ : Φ (x + 8) = some (o_ 12 [.ref (x + 9), .int 9, .int 511, .int 29])) (hc9_ : Φ (x + 9) = some (ai_ G 9 (upd (upd (upd (upd (upd (upd (upd (upd (upd (fun _ => 0) (0 : Int32).toNatClampNeg 0) (1 : Int32).toNatClampNeg 1) (2 : Int32).toNatClampNeg 2) (3 : Int32).toNatClampNeg 3) (4 : Int32).toNatClampNeg 4) (5 : Int32).toNatClampNeg 5) (6 : Int32).toNatClampNeg 6) (7 : Int32).toNatClampNeg 7) (8 : Int32).toNatClampNeg 8))) (hc10_ : Φ (x + 10) = some (o_ 12 [.ref (x + 11), .int 9, .int 511, .int 29])) (hc11_ : Φ (x + 11) = some (ai_ G 9 (upd (upd (upd (upd (upd (upd (upd (upd (upd (fun _ => 0) (0 : Int32).toNatClampNeg 0) (1 : Int32).toNatClampNeg 1) (2 : Int32).toNatClampNeg 2) (3 : Int32).toNatClampNeg 3) (4 : Int32).toNatClampNeg 4) (5 : Int32).toNatClampNeg 5) (6 : Int32).toNatClampNeg 6) (7 : Int32).toNatClampNeg 7) (8 : Int32).toNatClampNeg 8))) (hc12_ : Φ (x + 12) = some (o_ 12 [.ref (x + 13), .int 0, .int 0, .int 0])) (hc14_ : Φ (x + 14) = some (o_ 12 [.ref (x + 15), .int 0, .int 0, .int 0])) (hc16_ : Φ (x + 16) = some (o_ 12 [.ref (x + 17), .int 0, .int 0, .int 0])) (hc18_ : Φ (x + 18) = some (o_ 12 [.ref (x + 19), .int 0, .int 0, .int 0])) (hc20_ : Φ (x + 20) = some (o_ 12 [.ref (x + 21), .int 0, .int 0, .int 0])) (hc22_ : Φ (x + 22) = some (o_ 12 [.ref (x + 23), .int 0, .int 0, .int 0])) (hc74_ : Φ (x + 74) = some (o_ 10 [.ref (x + 3), .ref (x + 46), .ref (x + 75), .ref (x + 77), .int 0, .ref (x + 78), .ref (x + 79), .int 0, .long 0, .int 0])) (hc78_ : Φ (x + 78) = some (ai_ G 4 (fun _ => 0))) (hco : Φ o = some (al_ G 1 gg)) (hna : G.2.2.2 ≤ x) (ho : x + 149 ≤ o) : Ct G l yL_setSupport wsL_setSupport ({ frames := 4, cells := 0, slots := 0, locals := 90 }) 0 0 [.ref x, .int 7, .int 0, .ref o] Φ sz (fun v Φ1 sz1 => v = some (.int 0) ∧ (∀ b9 : Nat, x + 149 ≤ b9 → b9 ≠ o → Φ1 b9 = Φ b9) ∧ ∃ g1 : Nat → Int64, Φ1 o = some (al_ G 1 g1) ∧ g1 0 = 1) := by
  refine Ct.ofH (cc := cL_setSupport) (maxL := 5) (ret := (some .int)) (by decide) rfl (Nat.le_of_ble_eq_true rfl) ?_
  intro p9 e9 s9 m9 w9 t9 k9 B htab9
  show Z p9 l e9 _ s9 m9 _ w9 t9 k9 _ G 5 0 [(0, .ref x), (1, .int 7), (2, .int 0), (3, .ref o)] [] Φ sz 0 0
  refine z_aload_n B dL_setSupport_0 rfl 3 rfl ?_
  refine z_iconst (v := 0) B dL_setSupport_1 rfl ?_
  refine z_aload_n B dL_setSupport_2 rfl 0 rfl ?_
  refine z_iload_n B dL_setSupport_3 rfl 1 rfl ?_
  refine z_iload_n B dL_setSupport_4 rfl 2 rfl ?_
  refine z_callV (As := [.int 7, .int 0]) (rest := [.int 0, .ref o]) B (f_X11_setSupport_7_0 G l Φ sz x hc0_ hc3_ hc6_ hc7_ hc8_ hc9_ hc10_ hc11_ hc12_ hc14_ hc16_ hc18_ hc20_ hc22_ hc74_ hc78_ hna) (cwV 2 B.1.2.2.2.2 gL_setSupport_X11_setSupport rfl rfl rfl (by decide +kernel) ⟨Nat.le_of_ble_eq_true rfl, Nat.le_of_ble_eq_true rfl⟩) hc0_ rfl rfl rfl rfl (Nat.le_of_ble_eq_true rfl) dL_setSupport_5 ⟨Nat.le_of_ble_eq_true rfl, Nat.le_of_ble_eq_true rfl⟩ (fun v1 Φ1 sz1 st1 hp1 hs1 => ?_)
  obtain ⟨rfl, fr1⟩ := hp1
  replace hs1 : st1 = [.int 1, .int 0, .ref o] := hs1
  subst st1
  refine z_if_eq (tgt := 15) B dL_setSupport_8 rfl (fun h9 => absurd h9 (by decide)) (fun c_1 => ?_)
  refine z_lconst (v := 1) B dL_setSupport_11 rfl ?_
  refine z_goto (tgt := 16) B dL_setSupport_12 rfl ?_
  have h_1 : Φ1 o = some (al_ G 1 gg) := ((fr1 o ho).trans hco)
  refine z_last B h_1 (Nat.le_trans hna (Nat.le_trans (Nat.le_add_right x 149) ho)) (vin rfl) dL_setSupport_16 (fun Φ2 hΦ1 => ?_)
  have h_2 : Φ2 o = some (al_ G 1 (vp_updL gg (0 : Int32).toNatClampNeg 1)) := fset_at hΦ1
  refine z_goto (tgt := 24) B dL_setSupport_17 rfl ?_
  refine z_iconst (v := 0) B dL_setSupport_24 rfl ?_
  exact z_ret_i B dL_setSupport_25 ⟨rfl, (fun b9 h9 h8 => ((fset_fr hΦ1 h8).trans ((fr1 b9 h9).trans rfl))), _, h_2, rfl⟩

set_option maxHeartbeats 4000000 in
set_option maxRecDepth 100000 in
theorem w_setSupport_7_1 (G : EnvG) (l : Launch) (Φ : Hm) (sz : Nat) (x : Nat) (o : Nat) (gg : Nat → Int64) (hc0_ : Φ x = some (o_ 13 [.ref (x + 1), .ref (x + 3), .ref (x + 24), .ref (x + 46), .ref (x + 74), .ref (x + 80), .ref (x + 132), .ref (x + 121)])) (hc3_ : Φ (x + 3) = some (o_ 3 [.ref (x + 4), .ref (x + 5), .ref (x + 6), .ref (x + 7), .int 1, .int 511])) (hco : Φ o = some (al_ G 1 gg)) (hna : G.2.2.2 ≤ x) (ho : x + 149 ≤ o) : Ct G l yL_setSupport wsL_setSupport ({ frames := 1, cells := 0, slots := 0, locals := 23 }) 0 0 [.ref x, .int 7, .int 1, .ref o] Φ sz (fun v Φ1 sz1 => v = some (.int 0) ∧ (∀ b9 : Nat, x + 149 ≤ b9 → b9 ≠ o → Φ1 b9 = Φ b9) ∧ ∃ g1 : Nat → Int64, Φ1 o = some (al_ G 1 g1) ∧ g1 0 = 1) := by
  refine Ct.ofH (cc := cL_setSupport) (maxL := 5) (ret := (some .int)) (by decide) rfl (Nat.le_of_ble_eq_true rfl) ?_
  intro p9 e9 s9 m9 w9 t9 k9 B htab9
  show Z p9 l e9 _ s9 m9 _ w9 t9 k9 _ G 5 0 [(0, .ref x), (1, .int 7), (2, .int 1), (3, .ref o)] [] Φ sz 0 0
  refine z_aload_n B dL_setSupport_0 rfl 3 rfl ?_
  refine z_iconst (v := 0) B dL_setSupport_1 rfl ?_
  refine z_aload_n B dL_setSupport_2 rfl 0 rfl ?_
  refine z_iload_n B dL_setSupport_3 rfl 1 rfl ?_
  refine z_iload_n B dL_setSupport_4 rfl 2 rfl ?_
  refine z_callV (As := [.int 7, .int 1]) (rest := [.int 0, .ref o]) B (f_X11_setSupport_7_1 G l Φ sz x hc0_ hc3_) (cwV 2 B.1.2.2.2.2 gL_setSupport_X11_setSupport rfl rfl rfl (by decide +kernel) ⟨Nat.le_of_ble_eq_true rfl, Nat.le_of_ble_eq_true rfl⟩) hc0_ rfl rfl rfl rfl (Nat.le_of_ble_eq_true rfl) dL_setSupport_5 ⟨Nat.le_of_ble_eq_true rfl, Nat.le_of_ble_eq_true rfl⟩ (fun v1 Φ1 sz1 st1 hp1 hs1 => ?_)
  obtain ⟨rfl, fr1⟩ := hp1
  replace hs1 : st1 = [.int 1, .int 0, .ref o] := hs1
  subst st1
  refine z_if_eq (tgt := 15) B dL_setSupport_8 rfl (fun h9 => absurd h9 (by decide)) (fun c_1 => ?_)
  refine z_lconst (v := 1) B dL_setSupport_11 rfl ?_
  refine z_goto (tgt := 16) B dL_setSupport_12 rfl ?_
  have h_1 : Φ1 o = some (al_ G 1 gg) := ((fr1 o ho).trans hco)
  refine z_last B h_1 (Nat.le_trans hna (Nat.le_trans (Nat.le_add_right x 149) ho)) (vin rfl) dL_setSupport_16 (fun Φ2 hΦ1 => ?_)
  have h_2 : Φ2 o = some (al_ G 1 (vp_updL gg (0 : Int32).toNatClampNeg 1)) := fset_at hΦ1
  refine z_goto (tgt := 24) B dL_setSupport_17 rfl ?_
  refine z_iconst (v := 0) B dL_setSupport_24 rfl ?_
  exact z_ret_i B dL_setSupport_25 ⟨rfl, (fun b9 h9 h8 => ((fset_fr hΦ1 h8).trans ((fr1 b9 h9).trans rfl))), _, h_2, rfl⟩

set_option maxHeartbeats 4000000 in
set_option maxRecDepth 100000 in
theorem w_setSupport_8_0 (G : EnvG) (l : Launch) (Φ : Hm) (sz : Nat) (x : Nat) (o : Nat) (gg : Nat → Int64) (hc0_ : Φ x = some (o_ 13 [.ref (x + 1), .ref (x + 3), .ref (x + 24), .ref (x + 46), .ref (x + 74), .ref (x + 80), .ref (x + 132), .ref (x + 121)])) (hc3_ : Φ (x + 3) = some (o_ 3 [.ref (x + 4), .ref (x + 5), .ref (x + 6), .ref (x + 7), .int 1, .int 511])) (hc6_ : Φ (x + 6) = some (aq_ G 4 4 (va_up (va_up (va_up (va_up (fun _ => none) (0 : Int32).toNatClampNeg (some (x + 8))) (1 : Int32).toNatClampNeg (some (x + 12))) (2 : Int32).toNatClampNeg (some (x + 16))) (3 : Int32).toNatClampNeg (some (x + 20))))) (hc7_ : Φ (x + 7) = some (aq_ G 4 4 (va_up (va_up (va_up (va_up (fun _ => none) (0 : Int32).toNatClampNeg (some (x + 10))) (1 : Int32).toNatClampNeg (some (x + 14))) (2 : Int32).toNatClampNeg (some (x + 18))) (3 : Int32).toNatClampNeg (some (x + 22))))) (hc8_ : Φ (x + 8) = some (o_ 12 [.ref (x + 9), .int 9, .int 511, .int 29])) (hc9_ : Φ (x + 9) = some (ai_ G 9 (upd (upd (upd (upd (upd (upd (upd (upd (upd (fun _ => 0) (0 : Int32).toNatClampNeg 0) (1 : Int32).toNatClampNeg 1) (2 : Int32).toNatClampNeg 2) (3 : Int32).toNatClampNeg 3) (4 : Int32).toNatClampNeg 4) (5 : Int32).toNatClampNeg 5) (6 : Int32).toNatClampNeg 6) (7 : Int32).toNatClampNeg 7) (8 : Int32).toNatClampNeg 8))) (hc10_ : Φ (x + 10) = some (o_ 12 [.ref (x + 11), .int 9, .int 511, .int 29])) (hc11_ : Φ (x + 11) = some (ai_ G 9 (upd (upd (upd (upd (upd (upd (upd (upd (upd (fun _ => 0) (0 : Int32).toNatClampNeg 0) (1 : Int32).toNatClampNeg 1) (2 : Int32).toNatClampNeg 2) (3 : Int32).toNatClampNeg 3) (4 : Int32).toNatClampNeg 4) (5 : Int32).toNatClampNeg 5) (6 : Int32).toNatClampNeg 6) (7 : Int32).toNatClampNeg 7) (8 : Int32).toNatClampNeg 8))) (hc12_ : Φ (x + 12) = some (o_ 12 [.ref (x + 13), .int 0, .int 0, .int 0])) (hc14_ : Φ (x + 14) = some (o_ 12 [.ref (x + 15), .int 0, .int 0, .int 0])) (hc16_ : Φ (x + 16) = some (o_ 12 [.ref (x + 17), .int 0, .int 0, .int 0])) (hc18_ : Φ (x + 18) = some (o_ 12 [.ref (x + 19), .int 0, .int 0, .int 0])) (hc20_ : Φ (x + 20) = some (o_ 12 [.ref (x + 21), .int 0, .int 0, .int 0])) (hc22_ : Φ (x + 22) = some (o_ 12 [.ref (x + 23), .int 0, .int 0, .int 0])) (hc74_ : Φ (x + 74) = some (o_ 10 [.ref (x + 3), .ref (x + 46), .ref (x + 75), .ref (x + 77), .int 0, .ref (x + 78), .ref (x + 79), .int 0, .long 0, .int 0])) (hc78_ : Φ (x + 78) = some (ai_ G 4 (fun _ => 0))) (hco : Φ o = some (al_ G 1 gg)) (hna : G.2.2.2 ≤ x) (ho : x + 149 ≤ o) : Ct G l yL_setSupport wsL_setSupport ({ frames := 4, cells := 0, slots := 0, locals := 90 }) 0 0 [.ref x, .int 8, .int 0, .ref o] Φ sz (fun v Φ1 sz1 => v = some (.int 0) ∧ (∀ b9 : Nat, x + 149 ≤ b9 → b9 ≠ o → Φ1 b9 = Φ b9) ∧ ∃ g1 : Nat → Int64, Φ1 o = some (al_ G 1 g1) ∧ g1 0 = 1) := by
  refine Ct.ofH (cc := cL_setSupport) (maxL := 5) (ret := (some .int)) (by decide) rfl (Nat.le_of_ble_eq_true rfl) ?_
  intro p9 e9 s9 m9 w9 t9 k9 B htab9
  show Z p9 l e9 _ s9 m9 _ w9 t9 k9 _ G 5 0 [(0, .ref x), (1, .int 8), (2, .int 0), (3, .ref o)] [] Φ sz 0 0
  refine z_aload_n B dL_setSupport_0 rfl 3 rfl ?_
  refine z_iconst (v := 0) B dL_setSupport_1 rfl ?_
  refine z_aload_n B dL_setSupport_2 rfl 0 rfl ?_
  refine z_iload_n B dL_setSupport_3 rfl 1 rfl ?_
  refine z_iload_n B dL_setSupport_4 rfl 2 rfl ?_
  refine z_callV (As := [.int 8, .int 0]) (rest := [.int 0, .ref o]) B (f_X11_setSupport_8_0 G l Φ sz x hc0_ hc3_ hc6_ hc7_ hc8_ hc9_ hc10_ hc11_ hc12_ hc14_ hc16_ hc18_ hc20_ hc22_ hc74_ hc78_ hna) (cwV 2 B.1.2.2.2.2 gL_setSupport_X11_setSupport rfl rfl rfl (by decide +kernel) ⟨Nat.le_of_ble_eq_true rfl, Nat.le_of_ble_eq_true rfl⟩) hc0_ rfl rfl rfl rfl (Nat.le_of_ble_eq_true rfl) dL_setSupport_5 ⟨Nat.le_of_ble_eq_true rfl, Nat.le_of_ble_eq_true rfl⟩ (fun v1 Φ1 sz1 st1 hp1 hs1 => ?_)
  obtain ⟨rfl, fr1⟩ := hp1
  replace hs1 : st1 = [.int 1, .int 0, .ref o] := hs1
  subst st1
  refine z_if_eq (tgt := 15) B dL_setSupport_8 rfl (fun h9 => absurd h9 (by decide)) (fun c_1 => ?_)
  refine z_lconst (v := 1) B dL_setSupport_11 rfl ?_
  refine z_goto (tgt := 16) B dL_setSupport_12 rfl ?_
  have h_1 : Φ1 o = some (al_ G 1 gg) := ((fr1 o ho).trans hco)
  refine z_last B h_1 (Nat.le_trans hna (Nat.le_trans (Nat.le_add_right x 149) ho)) (vin rfl) dL_setSupport_16 (fun Φ2 hΦ1 => ?_)
  have h_2 : Φ2 o = some (al_ G 1 (vp_updL gg (0 : Int32).toNatClampNeg 1)) := fset_at hΦ1
  refine z_goto (tgt := 24) B dL_setSupport_17 rfl ?_
  refine z_iconst (v := 0) B dL_setSupport_24 rfl ?_
  exact z_ret_i B dL_setSupport_25 ⟨rfl, (fun b9 h9 h8 => ((fset_fr hΦ1 h8).trans ((fr1 b9 h9).trans rfl))), _, h_2, rfl⟩

set_option maxHeartbeats 4000000 in
set_option maxRecDepth 100000 in
theorem w_setSupport_8_1 (G : EnvG) (l : Launch) (Φ : Hm) (sz : Nat) (x : Nat) (o : Nat) (gg : Nat → Int64) (hc0_ : Φ x = some (o_ 13 [.ref (x + 1), .ref (x + 3), .ref (x + 24), .ref (x + 46), .ref (x + 74), .ref (x + 80), .ref (x + 132), .ref (x + 121)])) (hc3_ : Φ (x + 3) = some (o_ 3 [.ref (x + 4), .ref (x + 5), .ref (x + 6), .ref (x + 7), .int 1, .int 511])) (hco : Φ o = some (al_ G 1 gg)) (hna : G.2.2.2 ≤ x) (ho : x + 149 ≤ o) : Ct G l yL_setSupport wsL_setSupport ({ frames := 1, cells := 0, slots := 0, locals := 23 }) 0 0 [.ref x, .int 8, .int 1, .ref o] Φ sz (fun v Φ1 sz1 => v = some (.int 0) ∧ (∀ b9 : Nat, x + 149 ≤ b9 → b9 ≠ o → Φ1 b9 = Φ b9) ∧ ∃ g1 : Nat → Int64, Φ1 o = some (al_ G 1 g1) ∧ g1 0 = 1) := by
  refine Ct.ofH (cc := cL_setSupport) (maxL := 5) (ret := (some .int)) (by decide) rfl (Nat.le_of_ble_eq_true rfl) ?_
  intro p9 e9 s9 m9 w9 t9 k9 B htab9
  show Z p9 l e9 _ s9 m9 _ w9 t9 k9 _ G 5 0 [(0, .ref x), (1, .int 8), (2, .int 1), (3, .ref o)] [] Φ sz 0 0
  refine z_aload_n B dL_setSupport_0 rfl 3 rfl ?_
  refine z_iconst (v := 0) B dL_setSupport_1 rfl ?_
  refine z_aload_n B dL_setSupport_2 rfl 0 rfl ?_
  refine z_iload_n B dL_setSupport_3 rfl 1 rfl ?_
  refine z_iload_n B dL_setSupport_4 rfl 2 rfl ?_
  refine z_callV (As := [.int 8, .int 1]) (rest := [.int 0, .ref o]) B (f_X11_setSupport_8_1 G l Φ sz x hc0_ hc3_) (cwV 2 B.1.2.2.2.2 gL_setSupport_X11_setSupport rfl rfl rfl (by decide +kernel) ⟨Nat.le_of_ble_eq_true rfl, Nat.le_of_ble_eq_true rfl⟩) hc0_ rfl rfl rfl rfl (Nat.le_of_ble_eq_true rfl) dL_setSupport_5 ⟨Nat.le_of_ble_eq_true rfl, Nat.le_of_ble_eq_true rfl⟩ (fun v1 Φ1 sz1 st1 hp1 hs1 => ?_)
  obtain ⟨rfl, fr1⟩ := hp1
  replace hs1 : st1 = [.int 1, .int 0, .ref o] := hs1
  subst st1
  refine z_if_eq (tgt := 15) B dL_setSupport_8 rfl (fun h9 => absurd h9 (by decide)) (fun c_1 => ?_)
  refine z_lconst (v := 1) B dL_setSupport_11 rfl ?_
  refine z_goto (tgt := 16) B dL_setSupport_12 rfl ?_
  have h_1 : Φ1 o = some (al_ G 1 gg) := ((fr1 o ho).trans hco)
  refine z_last B h_1 (Nat.le_trans hna (Nat.le_trans (Nat.le_add_right x 149) ho)) (vin rfl) dL_setSupport_16 (fun Φ2 hΦ1 => ?_)
  have h_2 : Φ2 o = some (al_ G 1 (vp_updL gg (0 : Int32).toNatClampNeg 1)) := fset_at hΦ1
  refine z_goto (tgt := 24) B dL_setSupport_17 rfl ?_
  refine z_iconst (v := 0) B dL_setSupport_24 rfl ?_
  exact z_ret_i B dL_setSupport_25 ⟨rfl, (fun b9 h9 h8 => ((fset_fr hΦ1 h8).trans ((fr1 b9 h9).trans rfl))), _, h_2, rfl⟩

set_option maxHeartbeats 4000000 in
set_option maxRecDepth 100000 in
theorem w_setSupport_x (G : EnvG) (l : Launch) (hl9 : l.stackTraces = false) (Φ : Hm) (sz : Nat) (x : Nat) (o : Nat) (a : Int32) (s : Int32) (hc0_ : Φ x = some (o_ 13 [.ref (x + 1), .ref (x + 3), .ref (x + 24), .ref (x + 46), .ref (x + 74), .ref (x + 80), .ref (x + 132), .ref (x + 121)])) (ha : ¬ (¬ a < 0 ∧ a < 9)) : Ct G l yL_setSupport wsL_setSupport ({ frames := 7, cells := 1, slots := 6, locals := 104 }) 1 6 [.ref x, .int a, .int s, .ref o] Φ sz (fun v Φ1 sz1 => v = some (.int 1) ∧ Φ1 = Φ) := by
  refine Ct.ofH (cc := cL_setSupport) (maxL := 5) (ret := (some .int)) (by decide) rfl (Nat.le_of_ble_eq_true rfl) ?_
  intro p9 e9 s9 m9 w9 t9 k9 B htab9
  show Z p9 l e9 _ s9 m9 _ w9 t9 k9 _ G 5 0 [(0, .ref x), (1, .int a), (2, .int s), (3, .ref o)] [] Φ sz 0 0
  refine z_aload_n B dL_setSupport_0 rfl 3 rfl ?_
  refine z_iconst (v := 0) B dL_setSupport_1 rfl ?_
  refine z_aload_n B dL_setSupport_2 rfl 0 rfl ?_
  refine z_iload_n B dL_setSupport_3 rfl 1 rfl ?_
  refine z_iload_n B dL_setSupport_4 rfl 2 rfl ?_
  refine z_callVC (As := [.int a, .int s]) (rest := [.int 0, .ref o]) B (f_X11_setSupport_x G l hl9 Φ sz x a s ha) (cwV 2 B.1.2.2.2.2 gL_setSupport_X11_setSupport rfl rfl rfl (by decide +kernel) ⟨Nat.le_of_ble_eq_true rfl, Nat.le_of_ble_eq_true rfl⟩) hc0_ rfl rfl rfl rfl (Nat.le_of_ble_eq_true rfl) dL_setSupport_5 ⟨Nat.le_of_ble_eq_true rfl, Nat.le_of_ble_eq_true rfl⟩ [] ⟨0, 17, 20, 13⟩ [] (htab9.trans rfl) (fun z9 hz9 => absurd hz9 (List.not_mem_nil)) (by decide) (by decide) (by decide +kernel) (by decide) (fun q9 sz9 => ?_)
  refine z_astore (lv' := [(4, .ref q9), (0, .ref x), (1, .int a), (2, .int s), (3, .ref o)]) B dL_setSupport_20 (Nat.le_of_ble_eq_true rfl) rfl ?_
  refine z_iconst (v := 1) B dL_setSupport_22 rfl ?_
  exact z_ret_i B dL_setSupport_23 ⟨rfl, rfl⟩

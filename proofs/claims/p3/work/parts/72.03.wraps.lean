set_option maxHeartbeats 4000000 in
set_option maxRecDepth 100000 in
theorem w_observe (G : EnvG) (l : Launch) (hl9 : l.stackTraces = false) (Φ : Hm) (sz x ca : Nat) (a : Int32) (b : Int32) (d : Int32) (f : Int32) (g : Int32) (o : Nat) (fo : Nat → Int64) (hx : G.2.2.2 ≤ x) (hno : G.2.2.2 ≤ o) (ho : ∀ j, j < 149 → o ≠ x + j) (hI : In G x ca Φ) (hc : Φ o = some (al_ G 1 fo))  : Ct G l yL_observe wsL_observe ({ frames := 8, cells := 1, slots := 6, locals := 178 }) 1 6 [.ref x, .int a, .int b, .int d, .int f, .int g, .ref o] Φ sz (fun v Φ1 sz1 => (∃ r : Int32, v = some (.int r)) ∧ WpL G x (ca) o Φ Φ1) := by
  refine Ct.ofH (cc := cL_observe) (maxL := 8) (ret := (some .int)) (by decide) rfl (Nat.le_of_ble_eq_true rfl) ?_
  intro p9 e9 s9 m9 w9 t9 k9 B htab9
  show Z p9 l e9 _ s9 m9 _ w9 t9 k9 _ G 8 0 [(0, .ref x), (1, .int a), (2, .int b), (3, .int d), (4, .int f), (5, .int g), (6, .ref o)] [] Φ sz 0 0
  refine z_aload B dL_observe_0 6 rfl ?_
  refine z_iconst (v := 0) B dL_observe_2 rfl ?_
  refine z_aload_n B dL_observe_3 rfl 0 rfl ?_
  refine z_iload_n B dL_observe_4 rfl 1 rfl ?_
  refine z_iload_n B dL_observe_5 rfl 2 rfl ?_
  refine z_iload_n B dL_observe_6 rfl 3 rfl ?_
  refine z_iload B dL_observe_7 4 rfl ?_
  refine z_iload B dL_observe_9 5 rfl ?_
  have h0 : Φ x = some (o_ 13 [.ref (x + 1), .ref (x + 3), .ref (x + 24), .ref (x + 46), .ref (x + 74), .ref (x + 80), .ref (x + 132), .ref (x + 121)]) := in0 (k := 0) hI rfl
  refine zb_callC (As := [.int a, .int b, .int d, .int f, .int g]) (rest := [.int 0, .ref o]) B (s_X11_observe G l hl9 Φ sz x ca a b d f g hx hI ) (cwV 5 B.1.2.2.2.2 gL_observe_X11_observe rfl rfl rfl (by decide +kernel) ⟨Nat.le_of_ble_eq_true rfl, Nat.le_of_ble_eq_true rfl⟩) h0 rfl rfl rfl rfl (Nat.le_of_ble_eq_true rfl) dL_observe_11 ⟨Nat.le_of_ble_eq_true rfl, Nat.le_of_ble_eq_true rfl⟩ (fun v1 Φ1 sz1 st1 hp1 hs1 => ?_) (fun E9 hE9 => ?_)
  · obtain ⟨⟨r1, rfl, hb1⟩, hz1, hI1, hF1⟩ := hp1
    subst sz1
    replace hs1 : st1 = [.int r1, .int 0, .ref o] := hs1
    subst st1
    have hc1 : Φ1 o = some (al_ G 1 fo) := (Fr.at hF1 ho).trans hc
    refine z_if_eq (tgt := 21) B dL_observe_14 rfl (fun c_1 => ?_) (fun c_1 => ?_)
    · refine z_lconst (v := 0) B dL_observe_21 rfl ?_
      refine z_last B hc1 hno (vin rfl) dL_observe_22 (fun Φ2 hΦ2 => ?_)
      refine z_goto (tgt := 30) B dL_observe_23 rfl ?_
      refine z_iconst (v := 0) B dL_observe_30 rfl ?_
      exact z_ret_i B dL_observe_31 ⟨⟨_, rfl⟩, In.out hI1 ho hΦ2, ⟨_, fset_at hΦ2⟩, fun b9 h9 h8 => (fset_fr hΦ2 h8).trans (hF1 b9 (fun j9 q9 hj => h9 j9 hj q9))⟩
    · refine z_lconst (v := 1) B dL_observe_17 rfl ?_
      refine z_goto (tgt := 22) B dL_observe_18 rfl ?_
      refine z_last B hc1 hno (vin rfl) dL_observe_22 (fun Φ2 hΦ2 => ?_)
      refine z_goto (tgt := 30) B dL_observe_23 rfl ?_
      refine z_iconst (v := 0) B dL_observe_30 rfl ?_
      exact z_ret_i B dL_observe_31 ⟨⟨_, rfl⟩, In.out hI1 ho hΦ2, ⟨_, fset_at hΦ2⟩, fun b9 h9 h8 => (fset_fr hΦ2 h8).trans (hF1 b9 (fun j9 q9 hj => h9 j9 hj q9))⟩
  · obtain rfl : E9 = xIA := List.mem_singleton.mp hE9
    refine ⟨26, ⟨[], ⟨0, 23, 26, 13⟩, [], htab9.trans rfl, (fun z9 hz9 => absurd hz9 List.not_mem_nil), by decide, by decide, by decide +kernel, by decide, rfl⟩, fun q9 sz9 Φ9 hP9 => ?_⟩
    refine z_astore (lv' := [(7, .ref q9), (0, .ref x), (1, .int a), (2, .int b), (3, .int d), (4, .int f), (5, .int g), (6, .ref o)]) B dL_observe_26 (Nat.le_of_ble_eq_true rfl) rfl ?_
    refine z_iconst (v := 1) B dL_observe_28 rfl ?_
    exact z_ret_i B dL_observe_29 ⟨⟨_, rfl⟩, In.mono hP9.1 (by omega), ⟨_, (Fr.at0 hP9.2).trans hc⟩, fun b9 _ _ => Fr.at0 hP9.2⟩

set_option maxHeartbeats 4000000 in
set_option maxRecDepth 100000 in
theorem w_observeMany (G : EnvG) (l : Launch) (hl9 : l.stackTraces = false) (Φ : Hm) (sz x ca : Nat) (a : Int32) (b : Int32) (d : Int32) (f : Int32) (g : Int32) (h : Int32) (o : Nat) (fo : Nat → Int64) (hx : G.2.2.2 ≤ x) (hno : G.2.2.2 ≤ o) (ho : ∀ j, j < 149 → o ≠ x + j) (hI : In G x ca Φ) (hc : Φ o = some (al_ G 1 fo))  : Ct G l yL_observeMany wsL_observeMany ({ frames := 8, cells := 1, slots := 6, locals := 179 }) 1 6 [.ref x, .int a, .int b, .int d, .int f, .int g, .int h, .ref o] Φ sz (fun v Φ1 sz1 => (∃ r : Int32, v = some (.int r)) ∧ WpL G x (ca) o Φ Φ1) := by
  refine Ct.ofH (cc := cL_observeMany) (maxL := 9) (ret := (some .int)) (by decide) rfl (Nat.le_of_ble_eq_true rfl) ?_
  intro p9 e9 s9 m9 w9 t9 k9 B htab9
  show Z p9 l e9 _ s9 m9 _ w9 t9 k9 _ G 9 0 [(0, .ref x), (1, .int a), (2, .int b), (3, .int d), (4, .int f), (5, .int g), (6, .int h), (7, .ref o)] [] Φ sz 0 0
  refine z_aload B dL_observeMany_0 7 rfl ?_
  refine z_iconst (v := 0) B dL_observeMany_2 rfl ?_
  refine z_aload_n B dL_observeMany_3 rfl 0 rfl ?_
  refine z_iload_n B dL_observeMany_4 rfl 1 rfl ?_
  refine z_iload_n B dL_observeMany_5 rfl 2 rfl ?_
  refine z_iload_n B dL_observeMany_6 rfl 3 rfl ?_
  refine z_iload B dL_observeMany_7 4 rfl ?_
  refine z_iload B dL_observeMany_9 5 rfl ?_
  refine z_iload B dL_observeMany_11 6 rfl ?_
  have h0 : Φ x = some (o_ 13 [.ref (x + 1), .ref (x + 3), .ref (x + 24), .ref (x + 46), .ref (x + 74), .ref (x + 80), .ref (x + 132), .ref (x + 121)]) := in0 (k := 0) hI rfl
  refine zb_callC (As := [.int a, .int b, .int d, .int f, .int g, .int h]) (rest := [.int 0, .ref o]) B (s_X11_observeMany G l hl9 Φ sz x ca a b d f g h hx hI ) (cwV 6 B.1.2.2.2.2 gL_observeMany_X11_observeMany rfl rfl rfl (by decide +kernel) ⟨Nat.le_of_ble_eq_true rfl, Nat.le_of_ble_eq_true rfl⟩) h0 rfl rfl rfl rfl (Nat.le_of_ble_eq_true rfl) dL_observeMany_13 ⟨Nat.le_of_ble_eq_true rfl, Nat.le_of_ble_eq_true rfl⟩ (fun v1 Φ1 sz1 st1 hp1 hs1 => ?_) (fun E9 hE9 => ?_)
  · obtain ⟨⟨r1, rfl⟩, hz1, hI1, hF1⟩ := hp1
    subst sz1
    replace hs1 : st1 = [.int r1, .int 0, .ref o] := hs1
    subst st1
    have hc1 : Φ1 o = some (al_ G 1 fo) := (Fr.at hF1 ho).trans hc
    refine z_i2l (v := (r1).toInt64) B dL_observeMany_16 rfl ?_
    refine z_last B hc1 hno (vin rfl) dL_observeMany_17 (fun Φ2 hΦ2 => ?_)
    refine z_goto (tgt := 25) B dL_observeMany_18 rfl ?_
    refine z_iconst (v := 0) B dL_observeMany_25 rfl ?_
    exact z_ret_i B dL_observeMany_26 ⟨⟨_, rfl⟩, In.out hI1 ho hΦ2, ⟨_, fset_at hΦ2⟩, fun b9 h9 h8 => (fset_fr hΦ2 h8).trans (hF1 b9 (fun j9 q9 hj => h9 j9 hj q9))⟩
  · obtain rfl : E9 = xIA := List.mem_singleton.mp hE9
    refine ⟨21, ⟨[], ⟨0, 18, 21, 13⟩, [], htab9.trans rfl, (fun z9 hz9 => absurd hz9 List.not_mem_nil), by decide, by decide, by decide +kernel, by decide, rfl⟩, fun q9 sz9 Φ9 hP9 => ?_⟩
    refine z_astore (lv' := [(8, .ref q9), (0, .ref x), (1, .int a), (2, .int b), (3, .int d), (4, .int f), (5, .int g), (6, .int h), (7, .ref o)]) B dL_observeMany_21 (Nat.le_of_ble_eq_true rfl) rfl ?_
    refine z_iconst (v := 1) B dL_observeMany_23 rfl ?_
    exact z_ret_i B dL_observeMany_24 ⟨⟨_, rfl⟩, In.mono hP9.1 (by omega), ⟨_, (Fr.at0 hP9.2).trans hc⟩, fun b9 _ _ => Fr.at0 hP9.2⟩

set_option maxHeartbeats 4000000 in
set_option maxRecDepth 100000 in
theorem w_advance (G : EnvG) (l : Launch) (hl9 : l.stackTraces = false) (Φ : Hm) (sz x ca : Nat) (a : Int32) (o : Nat) (fo : Nat → Int64) (hx : G.2.2.2 ≤ x) (hno : G.2.2.2 ≤ o) (ho : ∀ j, j < 149 → o ≠ x + j) (hI : In G x ca Φ) (hc : Φ o = some (al_ G 1 fo))  : Ct G l yL_advance wsL_advance ({ frames := 7, cells := 1, slots := 6, locals := 169 }) 1 6 [.ref x, .int a, .ref o] Φ sz (fun v Φ1 sz1 => (∃ r : Int32, v = some (.int r)) ∧ WpL G x (ca) o Φ Φ1) := by
  refine Ct.ofH (cc := cL_advance) (maxL := 4) (ret := (some .int)) (by decide) rfl (Nat.le_of_ble_eq_true rfl) ?_
  intro p9 e9 s9 m9 w9 t9 k9 B htab9
  show Z p9 l e9 _ s9 m9 _ w9 t9 k9 _ G 4 0 [(0, .ref x), (1, .int a), (2, .ref o)] [] Φ sz 0 0
  refine z_aload_n B dL_advance_0 rfl 2 rfl ?_
  refine z_iconst (v := 0) B dL_advance_1 rfl ?_
  refine z_aload_n B dL_advance_2 rfl 0 rfl ?_
  refine z_iload_n B dL_advance_3 rfl 1 rfl ?_
  have h0 : Φ x = some (o_ 13 [.ref (x + 1), .ref (x + 3), .ref (x + 24), .ref (x + 46), .ref (x + 74), .ref (x + 80), .ref (x + 132), .ref (x + 121)]) := in0 (k := 0) hI rfl
  refine zb_callC (As := [.int a]) (rest := [.int 0, .ref o]) B (s_X11_advance G l hl9 Φ sz x ca a hx hI ) (cwV 1 B.1.2.2.2.2 gL_advance_X11_advance rfl rfl rfl (by decide +kernel) ⟨Nat.le_of_ble_eq_true rfl, Nat.le_of_ble_eq_true rfl⟩) h0 rfl rfl rfl rfl (Nat.le_of_ble_eq_true rfl) dL_advance_4 ⟨Nat.le_of_ble_eq_true rfl, Nat.le_of_ble_eq_true rfl⟩ (fun v1 Φ1 sz1 st1 hp1 hs1 => ?_) (fun E9 hE9 => ?_)
  · obtain ⟨⟨r1, rfl⟩, hz1, hI1, hF1⟩ := hp1
    subst sz1
    replace hs1 : st1 = [.int r1, .int 0, .ref o] := hs1
    subst st1
    have hc1 : Φ1 o = some (al_ G 1 fo) := (Fr.at hF1 ho).trans hc
    refine z_i2l (v := (r1).toInt64) B dL_advance_7 rfl ?_
    refine z_last B hc1 hno (vin rfl) dL_advance_8 (fun Φ2 hΦ2 => ?_)
    refine z_goto (tgt := 18) B dL_advance_9 rfl ?_
    refine z_iconst (v := 0) B dL_advance_18 rfl ?_
    exact z_ret_i B dL_advance_19 ⟨⟨_, rfl⟩, In.out hI1 ho hΦ2, ⟨_, fset_at hΦ2⟩, fun b9 h9 h8 => (fset_fr hΦ2 h8).trans (hF1 b9 (fun j9 q9 hj => h9 j9 hj q9))⟩
  · rcases List.mem_cons.mp hE9 with h9 | h9
    · subst h9
      refine ⟨12, ⟨[], ⟨0, 9, 12, 13⟩, [⟨0, 9, 15, 23⟩], htab9.trans rfl, (fun z9 hz9 => absurd hz9 List.not_mem_nil), by decide, by decide, by decide +kernel, by decide, rfl⟩, fun q9 sz9 Φ9 hP9 => ?_⟩
      refine z_astore_n (lv' := [(3, .ref q9), (0, .ref x), (1, .int a), (2, .ref o)]) B dL_advance_12 rfl (Nat.le_of_ble_eq_true rfl) rfl ?_
      refine z_iconst (v := 1) B dL_advance_13 rfl ?_
      exact z_ret_i B dL_advance_14 ⟨⟨_, rfl⟩, In.mono hP9.1 (by omega), ⟨_, (Fr.at0 hP9.2).trans hc⟩, fun b9 _ _ => Fr.at0 hP9.2⟩
    · obtain rfl := List.mem_singleton.mp h9
      refine ⟨15, ⟨[⟨0, 9, 12, 13⟩], ⟨0, 9, 15, 23⟩, [], htab9.trans rfl, (fun z9 hz9 => by obtain rfl := List.mem_singleton.mp hz9; exact Or.inr ⟨by decide, xIA, by decide +kernel, by decide⟩), by decide, by decide, by decide +kernel, by decide, rfl⟩, fun q9 sz9 Φ9 hP9 => ?_⟩
      refine z_astore_n (lv' := [(3, .ref q9), (0, .ref x), (1, .int a), (2, .ref o)]) B dL_advance_15 rfl (Nat.le_of_ble_eq_true rfl) rfl ?_
      refine z_iconst (v := 2) B dL_advance_16 rfl ?_
      exact z_ret_i B dL_advance_17 ⟨⟨_, rfl⟩, In.mono hP9.1 (by omega), ⟨_, (Fr.at0 hP9.2).trans hc⟩, fun b9 _ _ => Fr.at0 hP9.2⟩

set_option maxHeartbeats 4000000 in
set_option maxRecDepth 100000 in
theorem w_cached (G : EnvG) (l : Launch) (hl9 : l.stackTraces = false) (Φ : Hm) (sz x ca : Nat) (a : Int32) (b : Int32) (o : Nat) (fo : Nat → Int64) (hx : G.2.2.2 ≤ x) (hno : G.2.2.2 ≤ o) (ho : ∀ j, j < 149 → o ≠ x + j) (hI : In G x ca Φ) (hc : Φ o = some (al_ G 1 fo))  : Ct G l yL_cached wsL_cached ({ frames := 7, cells := 1, slots := 6, locals := 103 }) 1 6 [.ref x, .int a, .int b, .ref o] Φ sz (fun v Φ1 sz1 => (∃ r : Int32, v = some (.int r)) ∧ WpL G x (ca) o Φ Φ1) := by
  refine Ct.ofH (cc := cL_cached) (maxL := 5) (ret := (some .int)) (by decide) rfl (Nat.le_of_ble_eq_true rfl) ?_
  intro p9 e9 s9 m9 w9 t9 k9 B htab9
  show Z p9 l e9 _ s9 m9 _ w9 t9 k9 _ G 5 0 [(0, .ref x), (1, .int a), (2, .int b), (3, .ref o)] [] Φ sz 0 0
  refine z_aload_n B dL_cached_0 rfl 3 rfl ?_
  refine z_iconst (v := 0) B dL_cached_1 rfl ?_
  refine z_aload_n B dL_cached_2 rfl 0 rfl ?_
  refine z_iload_n B dL_cached_3 rfl 1 rfl ?_
  refine z_iload_n B dL_cached_4 rfl 2 rfl ?_
  have h0 : Φ x = some (o_ 13 [.ref (x + 1), .ref (x + 3), .ref (x + 24), .ref (x + 46), .ref (x + 74), .ref (x + 80), .ref (x + 132), .ref (x + 121)]) := in0 (k := 0) hI rfl
  refine zb_callC (As := [.int a, .int b]) (rest := [.int 0, .ref o]) B (s_X11_cached G l hl9 Φ sz x ca a b hx hI ) (cwV 2 B.1.2.2.2.2 gL_cached_X11_cached rfl rfl rfl (by decide +kernel) ⟨Nat.le_of_ble_eq_true rfl, Nat.le_of_ble_eq_true rfl⟩) h0 rfl rfl rfl rfl (Nat.le_of_ble_eq_true rfl) dL_cached_5 ⟨Nat.le_of_ble_eq_true rfl, Nat.le_of_ble_eq_true rfl⟩ (fun v1 Φ1 sz1 st1 hp1 hs1 => ?_) (fun E9 hE9 => ?_)
  · obtain ⟨⟨r1, rfl⟩, hz1, hI1, hF1⟩ := hp1
    subst sz1
    replace hs1 : st1 = [.long r1, .int 0, .ref o] := hs1
    subst st1
    have hc1 : Φ1 o = some (al_ G 1 fo) := (Fr.at hF1 ho).trans hc
    refine z_last B hc1 hno (vin rfl) dL_cached_8 (fun Φ2 hΦ2 => ?_)
    refine z_goto (tgt := 20) B dL_cached_9 rfl ?_
    refine z_iconst (v := 0) B dL_cached_20 rfl ?_
    exact z_ret_i B dL_cached_21 ⟨⟨_, rfl⟩, In.out hI1 ho hΦ2, ⟨_, fset_at hΦ2⟩, fun b9 h9 h8 => (fset_fr hΦ2 h8).trans (hF1 b9 (fun j9 q9 hj => h9 j9 hj q9))⟩
  · rcases List.mem_cons.mp hE9 with h9 | h9
    · subst h9
      refine ⟨12, ⟨[], ⟨0, 9, 12, 29⟩, [⟨0, 9, 16, 13⟩], htab9.trans rfl, (fun z9 hz9 => absurd hz9 List.not_mem_nil), by decide, by decide, by decide +kernel, by decide, rfl⟩, fun q9 sz9 Φ9 hP9 => ?_⟩
      refine z_astore (lv' := [(4, .ref q9), (0, .ref x), (1, .int a), (2, .int b), (3, .ref o)]) B dL_cached_12 (Nat.le_of_ble_eq_true rfl) rfl ?_
      refine z_iconst (v := 1) B dL_cached_14 rfl ?_
      exact z_ret_i B dL_cached_15 ⟨⟨_, rfl⟩, In.mono hP9.1 (by omega), ⟨_, (Fr.at0 hP9.2).trans hc⟩, fun b9 _ _ => Fr.at0 hP9.2⟩
    · obtain rfl := List.mem_singleton.mp h9
      refine ⟨16, ⟨[⟨0, 9, 12, 29⟩], ⟨0, 9, 16, 13⟩, [], htab9.trans rfl, (fun z9 hz9 => by obtain rfl := List.mem_singleton.mp hz9; exact Or.inr ⟨by decide, xIO, by decide +kernel, by decide⟩), by decide, by decide, by decide +kernel, by decide, rfl⟩, fun q9 sz9 Φ9 hP9 => ?_⟩
      refine z_astore (lv' := [(4, .ref q9), (0, .ref x), (1, .int a), (2, .int b), (3, .ref o)]) B dL_cached_16 (Nat.le_of_ble_eq_true rfl) rfl ?_
      refine z_iconst (v := 2) B dL_cached_18 rfl ?_
      exact z_ret_i B dL_cached_19 ⟨⟨_, rfl⟩, In.mono hP9.1 (by omega), ⟨_, (Fr.at0 hP9.2).trans hc⟩, fun b9 _ _ => Fr.at0 hP9.2⟩

set_option maxHeartbeats 4000000 in
set_option maxRecDepth 100000 in
theorem w_templateFields (G : EnvG) (l : Launch) (hl9 : l.stackTraces = false) (Φ : Hm) (sz x ca : Nat) (a : Int32) (o : Nat) (fo : Nat → Int64) (hx : G.2.2.2 ≤ x) (hno : G.2.2.2 ≤ o) (ho : ∀ j, j < 149 → o ≠ x + j) (hI : In G x ca Φ) (hc : Φ o = some (al_ G 1 fo))  : Ct G l yL_templateFields wsL_templateFields ({ frames := 8, cells := 1, slots := 6, locals := 123 }) 1 6 [.ref x, .int a, .ref o] Φ sz (fun v Φ1 sz1 => (∃ r : Int32, v = some (.int r)) ∧ WpL G x (ca) o Φ Φ1) := by
  refine Ct.ofH (cc := cL_templateFields) (maxL := 4) (ret := (some .int)) (by decide) rfl (Nat.le_of_ble_eq_true rfl) ?_
  intro p9 e9 s9 m9 w9 t9 k9 B htab9
  show Z p9 l e9 _ s9 m9 _ w9 t9 k9 _ G 4 0 [(0, .ref x), (1, .int a), (2, .ref o)] [] Φ sz 0 0
  refine z_aload_n B dL_templateFields_0 rfl 2 rfl ?_
  refine z_iconst (v := 0) B dL_templateFields_1 rfl ?_
  refine z_aload_n B dL_templateFields_2 rfl 0 rfl ?_
  refine z_iload_n B dL_templateFields_3 rfl 1 rfl ?_
  have h0 : Φ x = some (o_ 13 [.ref (x + 1), .ref (x + 3), .ref (x + 24), .ref (x + 46), .ref (x + 74), .ref (x + 80), .ref (x + 132), .ref (x + 121)]) := in0 (k := 0) hI rfl
  refine zb_callC (As := [.int a]) (rest := [.int 0, .ref o]) B (s_X11_templateFields G l hl9 Φ sz x ca a hx hI ) (cwV 1 B.1.2.2.2.2 gL_templateFields_X11_templateFields rfl rfl rfl (by decide +kernel) ⟨Nat.le_of_ble_eq_true rfl, Nat.le_of_ble_eq_true rfl⟩) h0 rfl rfl rfl rfl (Nat.le_of_ble_eq_true rfl) dL_templateFields_4 ⟨Nat.le_of_ble_eq_true rfl, Nat.le_of_ble_eq_true rfl⟩ (fun v1 Φ1 sz1 st1 hp1 hs1 => ?_) (fun E9 hE9 => ?_)
  · obtain ⟨⟨r1, rfl⟩, hz1, hI1, hF1⟩ := hp1
    subst sz1
    replace hs1 : st1 = [.int r1, .int 0, .ref o] := hs1
    subst st1
    have hc1 : Φ1 o = some (al_ G 1 fo) := (Fr.at hF1 ho).trans hc
    refine z_i2l (v := (r1).toInt64) B dL_templateFields_7 rfl ?_
    refine z_last B hc1 hno (vin rfl) dL_templateFields_8 (fun Φ2 hΦ2 => ?_)
    refine z_goto (tgt := 15) B dL_templateFields_9 rfl ?_
    refine z_iconst (v := 0) B dL_templateFields_15 rfl ?_
    exact z_ret_i B dL_templateFields_16 ⟨⟨_, rfl⟩, In.out hI1 ho hΦ2, ⟨_, fset_at hΦ2⟩, fun b9 h9 h8 => (fset_fr hΦ2 h8).trans (hF1 b9 (fun j9 q9 hj => h9 j9 hj q9))⟩
  · obtain rfl : E9 = xIO := List.mem_singleton.mp hE9
    refine ⟨12, ⟨[], ⟨0, 9, 12, 29⟩, [], htab9.trans rfl, (fun z9 hz9 => absurd hz9 List.not_mem_nil), by decide, by decide, by decide +kernel, by decide, rfl⟩, fun q9 sz9 Φ9 hP9 => ?_⟩
    refine z_astore_n (lv' := [(3, .ref q9), (0, .ref x), (1, .int a), (2, .ref o)]) B dL_templateFields_12 rfl (Nat.le_of_ble_eq_true rfl) rfl ?_
    refine z_iconst (v := 1) B dL_templateFields_13 rfl ?_
    exact z_ret_i B dL_templateFields_14 ⟨⟨_, rfl⟩, In.mono hP9.1 (by omega), ⟨_, (Fr.at0 hP9.2).trans hc⟩, fun b9 _ _ => Fr.at0 hP9.2⟩

set_option maxHeartbeats 4000000 in
set_option maxRecDepth 100000 in
theorem w_effectiveFields (G : EnvG) (l : Launch) (hl9 : l.stackTraces = false) (Φ : Hm) (sz x ca : Nat) (a : Int32) (o : Nat) (fo : Nat → Int64) (hx : G.2.2.2 ≤ x) (hno : G.2.2.2 ≤ o) (ho : ∀ j, j < 149 → o ≠ x + j) (hI : In G x ca Φ) (hc : Φ o = some (al_ G 1 fo))  : Ct G l yL_effectiveFields wsL_effectiveFields ({ frames := 8, cells := 1, slots := 6, locals := 123 }) 1 6 [.ref x, .int a, .ref o] Φ sz (fun v Φ1 sz1 => (∃ r : Int32, v = some (.int r)) ∧ WpL G x (ca) o Φ Φ1) := by
  refine Ct.ofH (cc := cL_effectiveFields) (maxL := 4) (ret := (some .int)) (by decide) rfl (Nat.le_of_ble_eq_true rfl) ?_
  intro p9 e9 s9 m9 w9 t9 k9 B htab9
  show Z p9 l e9 _ s9 m9 _ w9 t9 k9 _ G 4 0 [(0, .ref x), (1, .int a), (2, .ref o)] [] Φ sz 0 0
  refine z_aload_n B dL_effectiveFields_0 rfl 2 rfl ?_
  refine z_iconst (v := 0) B dL_effectiveFields_1 rfl ?_
  refine z_aload_n B dL_effectiveFields_2 rfl 0 rfl ?_
  refine z_iload_n B dL_effectiveFields_3 rfl 1 rfl ?_
  have h0 : Φ x = some (o_ 13 [.ref (x + 1), .ref (x + 3), .ref (x + 24), .ref (x + 46), .ref (x + 74), .ref (x + 80), .ref (x + 132), .ref (x + 121)]) := in0 (k := 0) hI rfl
  refine zb_callC (As := [.int a]) (rest := [.int 0, .ref o]) B (s_X11_effectiveFields G l hl9 Φ sz x ca a hx hI ) (cwV 1 B.1.2.2.2.2 gL_effectiveFields_X11_effectiveFields rfl rfl rfl (by decide +kernel) ⟨Nat.le_of_ble_eq_true rfl, Nat.le_of_ble_eq_true rfl⟩) h0 rfl rfl rfl rfl (Nat.le_of_ble_eq_true rfl) dL_effectiveFields_4 ⟨Nat.le_of_ble_eq_true rfl, Nat.le_of_ble_eq_true rfl⟩ (fun v1 Φ1 sz1 st1 hp1 hs1 => ?_) (fun E9 hE9 => ?_)
  · obtain ⟨⟨r1, rfl⟩, hz1, hI1, hF1⟩ := hp1
    subst sz1
    replace hs1 : st1 = [.int r1, .int 0, .ref o] := hs1
    subst st1
    have hc1 : Φ1 o = some (al_ G 1 fo) := (Fr.at hF1 ho).trans hc
    refine z_i2l (v := (r1).toInt64) B dL_effectiveFields_7 rfl ?_
    refine z_last B hc1 hno (vin rfl) dL_effectiveFields_8 (fun Φ2 hΦ2 => ?_)
    refine z_goto (tgt := 15) B dL_effectiveFields_9 rfl ?_
    refine z_iconst (v := 0) B dL_effectiveFields_15 rfl ?_
    exact z_ret_i B dL_effectiveFields_16 ⟨⟨_, rfl⟩, In.out hI1 ho hΦ2, ⟨_, fset_at hΦ2⟩, fun b9 h9 h8 => (fset_fr hΦ2 h8).trans (hF1 b9 (fun j9 q9 hj => h9 j9 hj q9))⟩
  · obtain rfl : E9 = xIO := List.mem_singleton.mp hE9
    refine ⟨12, ⟨[], ⟨0, 9, 12, 29⟩, [], htab9.trans rfl, (fun z9 hz9 => absurd hz9 List.not_mem_nil), by decide, by decide, by decide +kernel, by decide, rfl⟩, fun q9 sz9 Φ9 hP9 => ?_⟩
    refine z_astore_n (lv' := [(3, .ref q9), (0, .ref x), (1, .int a), (2, .ref o)]) B dL_effectiveFields_12 rfl (Nat.le_of_ble_eq_true rfl) rfl ?_
    refine z_iconst (v := 1) B dL_effectiveFields_13 rfl ?_
    exact z_ret_i B dL_effectiveFields_14 ⟨⟨_, rfl⟩, In.mono hP9.1 (by omega), ⟨_, (Fr.at0 hP9.2).trans hc⟩, fun b9 _ _ => Fr.at0 hP9.2⟩

set_option maxHeartbeats 4000000 in
set_option maxRecDepth 100000 in
theorem w_fieldAt (G : EnvG) (l : Launch) (hl9 : l.stackTraces = false) (Φ : Hm) (sz x ca : Nat) (a : Int32) (b : Int32) (o : Nat) (fo : Nat → Int64) (hx : G.2.2.2 ≤ x) (hno : G.2.2.2 ≤ o) (ho : ∀ j, j < 149 → o ≠ x + j) (hI : In G x ca Φ) (hc : Φ o = some (al_ G 1 fo))  : Ct G l yL_fieldAt wsL_fieldAt ({ frames := 8, cells := 1, slots := 6, locals := 124 }) 1 6 [.ref x, .int a, .int b, .ref o] Φ sz (fun v Φ1 sz1 => (∃ r : Int32, v = some (.int r)) ∧ WpL G x (ca) o Φ Φ1) := by
  refine Ct.ofH (cc := cL_fieldAt) (maxL := 5) (ret := (some .int)) (by decide) rfl (Nat.le_of_ble_eq_true rfl) ?_
  intro p9 e9 s9 m9 w9 t9 k9 B htab9
  show Z p9 l e9 _ s9 m9 _ w9 t9 k9 _ G 5 0 [(0, .ref x), (1, .int a), (2, .int b), (3, .ref o)] [] Φ sz 0 0
  refine z_aload_n B dL_fieldAt_0 rfl 3 rfl ?_
  refine z_iconst (v := 0) B dL_fieldAt_1 rfl ?_
  refine z_aload_n B dL_fieldAt_2 rfl 0 rfl ?_
  refine z_iload_n B dL_fieldAt_3 rfl 1 rfl ?_
  refine z_iload_n B dL_fieldAt_4 rfl 2 rfl ?_
  have h0 : Φ x = some (o_ 13 [.ref (x + 1), .ref (x + 3), .ref (x + 24), .ref (x + 46), .ref (x + 74), .ref (x + 80), .ref (x + 132), .ref (x + 121)]) := in0 (k := 0) hI rfl
  refine zb_callC (As := [.int a, .int b]) (rest := [.int 0, .ref o]) B (s_X11_fieldAt G l hl9 Φ sz x ca a b hx hI ) (cwV 2 B.1.2.2.2.2 gL_fieldAt_X11_fieldAt rfl rfl rfl (by decide +kernel) ⟨Nat.le_of_ble_eq_true rfl, Nat.le_of_ble_eq_true rfl⟩) h0 rfl rfl rfl rfl (Nat.le_of_ble_eq_true rfl) dL_fieldAt_5 ⟨Nat.le_of_ble_eq_true rfl, Nat.le_of_ble_eq_true rfl⟩ (fun v1 Φ1 sz1 st1 hp1 hs1 => ?_) (fun E9 hE9 => ?_)
  · obtain ⟨⟨r1, rfl⟩, hz1, hI1, hF1⟩ := hp1
    subst sz1
    replace hs1 : st1 = [.int r1, .int 0, .ref o] := hs1
    subst st1
    have hc1 : Φ1 o = some (al_ G 1 fo) := (Fr.at hF1 ho).trans hc
    refine z_i2l (v := (r1).toInt64) B dL_fieldAt_8 rfl ?_
    refine z_last B hc1 hno (vin rfl) dL_fieldAt_9 (fun Φ2 hΦ2 => ?_)
    refine z_goto (tgt := 17) B dL_fieldAt_10 rfl ?_
    refine z_iconst (v := 0) B dL_fieldAt_17 rfl ?_
    exact z_ret_i B dL_fieldAt_18 ⟨⟨_, rfl⟩, In.out hI1 ho hΦ2, ⟨_, fset_at hΦ2⟩, fun b9 h9 h8 => (fset_fr hΦ2 h8).trans (hF1 b9 (fun j9 q9 hj => h9 j9 hj q9))⟩
  · obtain rfl : E9 = xIO := List.mem_singleton.mp hE9
    refine ⟨13, ⟨[], ⟨0, 10, 13, 29⟩, [], htab9.trans rfl, (fun z9 hz9 => absurd hz9 List.not_mem_nil), by decide, by decide, by decide +kernel, by decide, rfl⟩, fun q9 sz9 Φ9 hP9 => ?_⟩
    refine z_astore (lv' := [(4, .ref q9), (0, .ref x), (1, .int a), (2, .int b), (3, .ref o)]) B dL_fieldAt_13 (Nat.le_of_ble_eq_true rfl) rfl ?_
    refine z_iconst (v := 1) B dL_fieldAt_15 rfl ?_
    exact z_ret_i B dL_fieldAt_16 ⟨⟨_, rfl⟩, In.mono hP9.1 (by omega), ⟨_, (Fr.at0 hP9.2).trans hc⟩, fun b9 _ _ => Fr.at0 hP9.2⟩

set_option maxHeartbeats 4000000 in
set_option maxRecDepth 100000 in
theorem w_recordLength (G : EnvG) (l : Launch) (hl9 : l.stackTraces = false) (Φ : Hm) (sz x ca : Nat) (a : Int32) (o : Nat) (fo : Nat → Int64) (hx : G.2.2.2 ≤ x) (hno : G.2.2.2 ≤ o) (ho : ∀ j, j < 149 → o ≠ x + j) (hI : In G x ca Φ) (hc : Φ o = some (al_ G 1 fo))  : Ct G l yL_recordLength wsL_recordLength ({ frames := 8, cells := 1, slots := 6, locals := 123 }) 1 6 [.ref x, .int a, .ref o] Φ sz (fun v Φ1 sz1 => (∃ r : Int32, v = some (.int r)) ∧ WpL G x (ca) o Φ Φ1) := by
  refine Ct.ofH (cc := cL_recordLength) (maxL := 4) (ret := (some .int)) (by decide) rfl (Nat.le_of_ble_eq_true rfl) ?_
  intro p9 e9 s9 m9 w9 t9 k9 B htab9
  show Z p9 l e9 _ s9 m9 _ w9 t9 k9 _ G 4 0 [(0, .ref x), (1, .int a), (2, .ref o)] [] Φ sz 0 0
  refine z_aload_n B dL_recordLength_0 rfl 2 rfl ?_
  refine z_iconst (v := 0) B dL_recordLength_1 rfl ?_
  refine z_aload_n B dL_recordLength_2 rfl 0 rfl ?_
  refine z_iload_n B dL_recordLength_3 rfl 1 rfl ?_
  have h0 : Φ x = some (o_ 13 [.ref (x + 1), .ref (x + 3), .ref (x + 24), .ref (x + 46), .ref (x + 74), .ref (x + 80), .ref (x + 132), .ref (x + 121)]) := in0 (k := 0) hI rfl
  refine zb_callC (As := [.int a]) (rest := [.int 0, .ref o]) B (s_X11_recordLength G l hl9 Φ sz x ca a hx hI ) (cwV 1 B.1.2.2.2.2 gL_recordLength_X11_recordLength rfl rfl rfl (by decide +kernel) ⟨Nat.le_of_ble_eq_true rfl, Nat.le_of_ble_eq_true rfl⟩) h0 rfl rfl rfl rfl (Nat.le_of_ble_eq_true rfl) dL_recordLength_4 ⟨Nat.le_of_ble_eq_true rfl, Nat.le_of_ble_eq_true rfl⟩ (fun v1 Φ1 sz1 st1 hp1 hs1 => ?_) (fun E9 hE9 => ?_)
  · obtain ⟨⟨r1, rfl⟩, hz1, hI1, hF1⟩ := hp1
    subst sz1
    replace hs1 : st1 = [.int r1, .int 0, .ref o] := hs1
    subst st1
    have hc1 : Φ1 o = some (al_ G 1 fo) := (Fr.at hF1 ho).trans hc
    refine z_i2l (v := (r1).toInt64) B dL_recordLength_7 rfl ?_
    refine z_last B hc1 hno (vin rfl) dL_recordLength_8 (fun Φ2 hΦ2 => ?_)
    refine z_goto (tgt := 15) B dL_recordLength_9 rfl ?_
    refine z_iconst (v := 0) B dL_recordLength_15 rfl ?_
    exact z_ret_i B dL_recordLength_16 ⟨⟨_, rfl⟩, In.out hI1 ho hΦ2, ⟨_, fset_at hΦ2⟩, fun b9 h9 h8 => (fset_fr hΦ2 h8).trans (hF1 b9 (fun j9 q9 hj => h9 j9 hj q9))⟩
  · obtain rfl : E9 = xIO := List.mem_singleton.mp hE9
    refine ⟨12, ⟨[], ⟨0, 9, 12, 29⟩, [], htab9.trans rfl, (fun z9 hz9 => absurd hz9 List.not_mem_nil), by decide, by decide, by decide +kernel, by decide, rfl⟩, fun q9 sz9 Φ9 hP9 => ?_⟩
    refine z_astore_n (lv' := [(3, .ref q9), (0, .ref x), (1, .int a), (2, .ref o)]) B dL_recordLength_12 rfl (Nat.le_of_ble_eq_true rfl) rfl ?_
    refine z_iconst (v := 1) B dL_recordLength_13 rfl ?_
    exact z_ret_i B dL_recordLength_14 ⟨⟨_, rfl⟩, In.mono hP9.1 (by omega), ⟨_, (Fr.at0 hP9.2).trans hc⟩, fun b9 _ _ => Fr.at0 hP9.2⟩

set_option maxHeartbeats 4000000 in
set_option maxRecDepth 100000 in
theorem w_setSupport (G : EnvG) (l : Launch) (hl9 : l.stackTraces = false) (Φ : Hm) (sz x ca : Nat) (a : Int32) (b : Int32) (o : Nat) (fo : Nat → Int64) (hx : G.2.2.2 ≤ x) (hno : G.2.2.2 ≤ o) (ho : ∀ j, j < 149 → o ≠ x + j) (hI : In G x ca Φ) (hc : Φ o = some (al_ G 1 fo)) (hy_hb : b = 0 ∨ b = 1) : Ct G l yL_setSupport wsL_setSupport ({ frames := 7, cells := 1, slots := 6, locals := 104 }) 1 6 [.ref x, .int a, .int b, .ref o] Φ sz (fun v Φ1 sz1 => (∃ r : Int32, v = some (.int r)) ∧ WpL G x (ca) o Φ Φ1) := by
  refine Ct.ofH (cc := cL_setSupport) (maxL := 5) (ret := (some .int)) (by decide) rfl (Nat.le_of_ble_eq_true rfl) ?_
  intro p9 e9 s9 m9 w9 t9 k9 B htab9
  show Z p9 l e9 _ s9 m9 _ w9 t9 k9 _ G 5 0 [(0, .ref x), (1, .int a), (2, .int b), (3, .ref o)] [] Φ sz 0 0
  refine z_aload_n B dL_setSupport_0 rfl 3 rfl ?_
  refine z_iconst (v := 0) B dL_setSupport_1 rfl ?_
  refine z_aload_n B dL_setSupport_2 rfl 0 rfl ?_
  refine z_iload_n B dL_setSupport_3 rfl 1 rfl ?_
  refine z_iload_n B dL_setSupport_4 rfl 2 rfl ?_
  have h0 : Φ x = some (o_ 13 [.ref (x + 1), .ref (x + 3), .ref (x + 24), .ref (x + 46), .ref (x + 74), .ref (x + 80), .ref (x + 132), .ref (x + 121)]) := in0 (k := 0) hI rfl
  refine zb_callC (As := [.int a, .int b]) (rest := [.int 0, .ref o]) B (s_X11_setSupport G l hl9 Φ sz x ca a b hx hI hy_hb) (cwV 2 B.1.2.2.2.2 gL_setSupport_X11_setSupport rfl rfl rfl (by decide +kernel) ⟨Nat.le_of_ble_eq_true rfl, Nat.le_of_ble_eq_true rfl⟩) h0 rfl rfl rfl rfl (Nat.le_of_ble_eq_true rfl) dL_setSupport_5 ⟨Nat.le_of_ble_eq_true rfl, Nat.le_of_ble_eq_true rfl⟩ (fun v1 Φ1 sz1 st1 hp1 hs1 => ?_) (fun E9 hE9 => ?_)
  · obtain ⟨⟨r1, rfl, hb1⟩, hz1, hI1, hF1⟩ := hp1
    subst sz1
    replace hs1 : st1 = [.int r1, .int 0, .ref o] := hs1
    subst st1
    have hc1 : Φ1 o = some (al_ G 1 fo) := (Fr.at hF1 ho).trans hc
    refine z_if_eq (tgt := 15) B dL_setSupport_8 rfl (fun c_1 => ?_) (fun c_1 => ?_)
    · refine z_lconst (v := 0) B dL_setSupport_15 rfl ?_
      refine z_last B hc1 hno (vin rfl) dL_setSupport_16 (fun Φ2 hΦ2 => ?_)
      refine z_goto (tgt := 24) B dL_setSupport_17 rfl ?_
      refine z_iconst (v := 0) B dL_setSupport_24 rfl ?_
      exact z_ret_i B dL_setSupport_25 ⟨⟨_, rfl⟩, In.out hI1 ho hΦ2, ⟨_, fset_at hΦ2⟩, fun b9 h9 h8 => (fset_fr hΦ2 h8).trans (hF1 b9 (fun j9 q9 hj => h9 j9 hj q9))⟩
    · refine z_lconst (v := 1) B dL_setSupport_11 rfl ?_
      refine z_goto (tgt := 16) B dL_setSupport_12 rfl ?_
      refine z_last B hc1 hno (vin rfl) dL_setSupport_16 (fun Φ2 hΦ2 => ?_)
      refine z_goto (tgt := 24) B dL_setSupport_17 rfl ?_
      refine z_iconst (v := 0) B dL_setSupport_24 rfl ?_
      exact z_ret_i B dL_setSupport_25 ⟨⟨_, rfl⟩, In.out hI1 ho hΦ2, ⟨_, fset_at hΦ2⟩, fun b9 h9 h8 => (fset_fr hΦ2 h8).trans (hF1 b9 (fun j9 q9 hj => h9 j9 hj q9))⟩
  · obtain rfl : E9 = xIA := List.mem_singleton.mp hE9
    refine ⟨20, ⟨[], ⟨0, 17, 20, 13⟩, [], htab9.trans rfl, (fun z9 hz9 => absurd hz9 List.not_mem_nil), by decide, by decide, by decide +kernel, by decide, rfl⟩, fun q9 sz9 Φ9 hP9 => ?_⟩
    refine z_astore (lv' := [(4, .ref q9), (0, .ref x), (1, .int a), (2, .int b), (3, .ref o)]) B dL_setSupport_20 (Nat.le_of_ble_eq_true rfl) rfl ?_
    refine z_iconst (v := 1) B dL_setSupport_22 rfl ?_
    exact z_ret_i B dL_setSupport_23 ⟨⟨_, rfl⟩, In.mono hP9.1 (by omega), ⟨_, (Fr.at0 hP9.2).trans hc⟩, fun b9 _ _ => Fr.at0 hP9.2⟩

set_option maxHeartbeats 4000000 in
set_option maxRecDepth 100000 in
theorem w_isDue (G : EnvG) (l : Launch) (hl9 : l.stackTraces = false) (Φ : Hm) (sz x ca : Nat) (a : Int32) (o : Nat) (fo : Nat → Int64) (hx : G.2.2.2 ≤ x) (hno : G.2.2.2 ≤ o) (ho : ∀ j, j < 149 → o ≠ x + j) (hI : In G x ca Φ) (hc : Φ o = some (al_ G 1 fo))  : Ct G l yL_isDue wsL_isDue ({ frames := 8, cells := 1, slots := 6, locals := 123 }) 1 6 [.ref x, .int a, .ref o] Φ sz (fun v Φ1 sz1 => (∃ r : Int32, v = some (.int r)) ∧ WpL G x (ca) o Φ Φ1) := by
  refine Ct.ofH (cc := cL_isDue) (maxL := 4) (ret := (some .int)) (by decide) rfl (Nat.le_of_ble_eq_true rfl) ?_
  intro p9 e9 s9 m9 w9 t9 k9 B htab9
  show Z p9 l e9 _ s9 m9 _ w9 t9 k9 _ G 4 0 [(0, .ref x), (1, .int a), (2, .ref o)] [] Φ sz 0 0
  refine z_aload_n B dL_isDue_0 rfl 2 rfl ?_
  refine z_iconst (v := 0) B dL_isDue_1 rfl ?_
  refine z_aload_n B dL_isDue_2 rfl 0 rfl ?_
  refine z_iload_n B dL_isDue_3 rfl 1 rfl ?_
  have h0 : Φ x = some (o_ 13 [.ref (x + 1), .ref (x + 3), .ref (x + 24), .ref (x + 46), .ref (x + 74), .ref (x + 80), .ref (x + 132), .ref (x + 121)]) := in0 (k := 0) hI rfl
  refine zb_callC (As := [.int a]) (rest := [.int 0, .ref o]) B (s_X11_isDue G l hl9 Φ sz x ca a hx hI ) (cwV 1 B.1.2.2.2.2 gL_isDue_X11_isDue rfl rfl rfl (by decide +kernel) ⟨Nat.le_of_ble_eq_true rfl, Nat.le_of_ble_eq_true rfl⟩) h0 rfl rfl rfl rfl (Nat.le_of_ble_eq_true rfl) dL_isDue_4 ⟨Nat.le_of_ble_eq_true rfl, Nat.le_of_ble_eq_true rfl⟩ (fun v1 Φ1 sz1 st1 hp1 hs1 => ?_) (fun E9 hE9 => ?_)
  · obtain ⟨⟨r1, rfl, hb1⟩, hz1, hI1, hF1⟩ := hp1
    subst sz1
    replace hs1 : st1 = [.int r1, .int 0, .ref o] := hs1
    subst st1
    have hc1 : Φ1 o = some (al_ G 1 fo) := (Fr.at hF1 ho).trans hc
    refine z_if_eq (tgt := 14) B dL_isDue_7 rfl (fun c_1 => ?_) (fun c_1 => ?_)
    · refine z_lconst (v := 0) B dL_isDue_14 rfl ?_
      refine z_last B hc1 hno (vin rfl) dL_isDue_15 (fun Φ2 hΦ2 => ?_)
      refine z_goto (tgt := 22) B dL_isDue_16 rfl ?_
      refine z_iconst (v := 0) B dL_isDue_22 rfl ?_
      exact z_ret_i B dL_isDue_23 ⟨⟨_, rfl⟩, In.out hI1 ho hΦ2, ⟨_, fset_at hΦ2⟩, fun b9 h9 h8 => (fset_fr hΦ2 h8).trans (hF1 b9 (fun j9 q9 hj => h9 j9 hj q9))⟩
    · refine z_lconst (v := 1) B dL_isDue_10 rfl ?_
      refine z_goto (tgt := 15) B dL_isDue_11 rfl ?_
      refine z_last B hc1 hno (vin rfl) dL_isDue_15 (fun Φ2 hΦ2 => ?_)
      refine z_goto (tgt := 22) B dL_isDue_16 rfl ?_
      refine z_iconst (v := 0) B dL_isDue_22 rfl ?_
      exact z_ret_i B dL_isDue_23 ⟨⟨_, rfl⟩, In.out hI1 ho hΦ2, ⟨_, fset_at hΦ2⟩, fun b9 h9 h8 => (fset_fr hΦ2 h8).trans (hF1 b9 (fun j9 q9 hj => h9 j9 hj q9))⟩
  · obtain rfl : E9 = xIO := List.mem_singleton.mp hE9
    refine ⟨19, ⟨[], ⟨0, 16, 19, 29⟩, [], htab9.trans rfl, (fun z9 hz9 => absurd hz9 List.not_mem_nil), by decide, by decide, by decide +kernel, by decide, rfl⟩, fun q9 sz9 Φ9 hP9 => ?_⟩
    refine z_astore_n (lv' := [(3, .ref q9), (0, .ref x), (1, .int a), (2, .ref o)]) B dL_isDue_19 rfl (Nat.le_of_ble_eq_true rfl) rfl ?_
    refine z_iconst (v := 1) B dL_isDue_20 rfl ?_
    exact z_ret_i B dL_isDue_21 ⟨⟨_, rfl⟩, In.mono hP9.1 (by omega), ⟨_, (Fr.at0 hP9.2).trans hc⟩, fun b9 _ _ => Fr.at0 hP9.2⟩

set_option maxHeartbeats 4000000 in
set_option maxRecDepth 100000 in
theorem w_messageLength (G : EnvG) (l : Launch) (hl9 : l.stackTraces = false) (Φ : Hm) (sz x ca : Nat) (a : Int32) (o : Nat) (fo : Nat → Int64) (hx : G.2.2.2 ≤ x) (hno : G.2.2.2 ≤ o) (ho : ∀ j, j < 149 → o ≠ x + j) (hI : In G x ca Φ) (hc : Φ o = some (al_ G 1 fo))  : Ct G l yL_messageLength wsL_messageLength ({ frames := 8, cells := 1, slots := 6, locals := 123 }) 1 6 [.ref x, .int a, .ref o] Φ sz (fun v Φ1 sz1 => (∃ r : Int32, v = some (.int r)) ∧ WpL G x (ca) o Φ Φ1) := by
  refine Ct.ofH (cc := cL_messageLength) (maxL := 4) (ret := (some .int)) (by decide) rfl (Nat.le_of_ble_eq_true rfl) ?_
  intro p9 e9 s9 m9 w9 t9 k9 B htab9
  show Z p9 l e9 _ s9 m9 _ w9 t9 k9 _ G 4 0 [(0, .ref x), (1, .int a), (2, .ref o)] [] Φ sz 0 0
  refine z_aload_n B dL_messageLength_0 rfl 2 rfl ?_
  refine z_iconst (v := 0) B dL_messageLength_1 rfl ?_
  refine z_aload_n B dL_messageLength_2 rfl 0 rfl ?_
  refine z_iload_n B dL_messageLength_3 rfl 1 rfl ?_
  have h0 : Φ x = some (o_ 13 [.ref (x + 1), .ref (x + 3), .ref (x + 24), .ref (x + 46), .ref (x + 74), .ref (x + 80), .ref (x + 132), .ref (x + 121)]) := in0 (k := 0) hI rfl
  refine zb_callC (As := [.int a]) (rest := [.int 0, .ref o]) B (s_X11_messageLength G l hl9 Φ sz x ca a hx hI ) (cwV 1 B.1.2.2.2.2 gL_messageLength_X11_messageLength rfl rfl rfl (by decide +kernel) ⟨Nat.le_of_ble_eq_true rfl, Nat.le_of_ble_eq_true rfl⟩) h0 rfl rfl rfl rfl (Nat.le_of_ble_eq_true rfl) dL_messageLength_4 ⟨Nat.le_of_ble_eq_true rfl, Nat.le_of_ble_eq_true rfl⟩ (fun v1 Φ1 sz1 st1 hp1 hs1 => ?_) (fun E9 hE9 => ?_)
  · obtain ⟨⟨r1, rfl⟩, hz1, hI1, hF1⟩ := hp1
    subst sz1
    replace hs1 : st1 = [.int r1, .int 0, .ref o] := hs1
    subst st1
    have hc1 : Φ1 o = some (al_ G 1 fo) := (Fr.at hF1 ho).trans hc
    refine z_i2l (v := (r1).toInt64) B dL_messageLength_7 rfl ?_
    refine z_last B hc1 hno (vin rfl) dL_messageLength_8 (fun Φ2 hΦ2 => ?_)
    refine z_goto (tgt := 15) B dL_messageLength_9 rfl ?_
    refine z_iconst (v := 0) B dL_messageLength_15 rfl ?_
    exact z_ret_i B dL_messageLength_16 ⟨⟨_, rfl⟩, In.out hI1 ho hΦ2, ⟨_, fset_at hΦ2⟩, fun b9 h9 h8 => (fset_fr hΦ2 h8).trans (hF1 b9 (fun j9 q9 hj => h9 j9 hj q9))⟩
  · obtain rfl : E9 = xIO := List.mem_singleton.mp hE9
    refine ⟨12, ⟨[], ⟨0, 9, 12, 29⟩, [], htab9.trans rfl, (fun z9 hz9 => absurd hz9 List.not_mem_nil), by decide, by decide, by decide +kernel, by decide, rfl⟩, fun q9 sz9 Φ9 hP9 => ?_⟩
    refine z_astore_n (lv' := [(3, .ref q9), (0, .ref x), (1, .int a), (2, .ref o)]) B dL_messageLength_12 rfl (Nat.le_of_ble_eq_true rfl) rfl ?_
    refine z_iconst (v := 1) B dL_messageLength_13 rfl ?_
    exact z_ret_i B dL_messageLength_14 ⟨⟨_, rfl⟩, In.mono hP9.1 (by omega), ⟨_, (Fr.at0 hP9.2).trans hc⟩, fun b9 _ _ => Fr.at0 hP9.2⟩

set_option maxHeartbeats 4000000 in
set_option maxRecDepth 100000 in
theorem w_messageByte (G : EnvG) (l : Launch) (hl9 : l.stackTraces = false) (Φ : Hm) (sz x ca : Nat) (a : Int32) (b : Int32) (o : Nat) (fo : Nat → Int64) (hx : G.2.2.2 ≤ x) (hno : G.2.2.2 ≤ o) (ho : ∀ j, j < 149 → o ≠ x + j) (hI : In G x ca Φ) (hc : Φ o = some (al_ G 1 fo))  : Ct G l yL_messageByte wsL_messageByte ({ frames := 8, cells := 1, slots := 6, locals := 124 }) 1 6 [.ref x, .int a, .int b, .ref o] Φ sz (fun v Φ1 sz1 => (∃ r : Int32, v = some (.int r)) ∧ WpL G x (ca) o Φ Φ1) := by
  refine Ct.ofH (cc := cL_messageByte) (maxL := 5) (ret := (some .int)) (by decide) rfl (Nat.le_of_ble_eq_true rfl) ?_
  intro p9 e9 s9 m9 w9 t9 k9 B htab9
  show Z p9 l e9 _ s9 m9 _ w9 t9 k9 _ G 5 0 [(0, .ref x), (1, .int a), (2, .int b), (3, .ref o)] [] Φ sz 0 0
  refine z_aload_n B dL_messageByte_0 rfl 3 rfl ?_
  refine z_iconst (v := 0) B dL_messageByte_1 rfl ?_
  refine z_aload_n B dL_messageByte_2 rfl 0 rfl ?_
  refine z_iload_n B dL_messageByte_3 rfl 1 rfl ?_
  refine z_iload_n B dL_messageByte_4 rfl 2 rfl ?_
  have h0 : Φ x = some (o_ 13 [.ref (x + 1), .ref (x + 3), .ref (x + 24), .ref (x + 46), .ref (x + 74), .ref (x + 80), .ref (x + 132), .ref (x + 121)]) := in0 (k := 0) hI rfl
  refine zb_callC (As := [.int a, .int b]) (rest := [.int 0, .ref o]) B (s_X11_messageByte G l hl9 Φ sz x ca a b hx hI ) (cwV 2 B.1.2.2.2.2 gL_messageByte_X11_messageByte rfl rfl rfl (by decide +kernel) ⟨Nat.le_of_ble_eq_true rfl, Nat.le_of_ble_eq_true rfl⟩) h0 rfl rfl rfl rfl (Nat.le_of_ble_eq_true rfl) dL_messageByte_5 ⟨Nat.le_of_ble_eq_true rfl, Nat.le_of_ble_eq_true rfl⟩ (fun v1 Φ1 sz1 st1 hp1 hs1 => ?_) (fun E9 hE9 => ?_)
  · obtain ⟨⟨r1, rfl⟩, hz1, hI1, hF1⟩ := hp1
    subst sz1
    replace hs1 : st1 = [.int r1, .int 0, .ref o] := hs1
    subst st1
    have hc1 : Φ1 o = some (al_ G 1 fo) := (Fr.at hF1 ho).trans hc
    refine z_i2l (v := (r1).toInt64) B dL_messageByte_8 rfl ?_
    refine z_last B hc1 hno (vin rfl) dL_messageByte_9 (fun Φ2 hΦ2 => ?_)
    refine z_goto (tgt := 17) B dL_messageByte_10 rfl ?_
    refine z_iconst (v := 0) B dL_messageByte_17 rfl ?_
    exact z_ret_i B dL_messageByte_18 ⟨⟨_, rfl⟩, In.out hI1 ho hΦ2, ⟨_, fset_at hΦ2⟩, fun b9 h9 h8 => (fset_fr hΦ2 h8).trans (hF1 b9 (fun j9 q9 hj => h9 j9 hj q9))⟩
  · obtain rfl : E9 = xIO := List.mem_singleton.mp hE9
    refine ⟨13, ⟨[], ⟨0, 10, 13, 29⟩, [], htab9.trans rfl, (fun z9 hz9 => absurd hz9 List.not_mem_nil), by decide, by decide, by decide +kernel, by decide, rfl⟩, fun q9 sz9 Φ9 hP9 => ?_⟩
    refine z_astore (lv' := [(4, .ref q9), (0, .ref x), (1, .int a), (2, .int b), (3, .ref o)]) B dL_messageByte_13 (Nat.le_of_ble_eq_true rfl) rfl ?_
    refine z_iconst (v := 1) B dL_messageByte_15 rfl ?_
    exact z_ret_i B dL_messageByte_16 ⟨⟨_, rfl⟩, In.mono hP9.1 (by omega), ⟨_, (Fr.at0 hP9.2).trans hc⟩, fun b9 _ _ => Fr.at0 hP9.2⟩

set_option maxHeartbeats 4000000 in
set_option maxRecDepth 100000 in
theorem w_deliver (G : EnvG) (l : Launch) (hl9 : l.stackTraces = false) (Φ : Hm) (sz x ca : Nat) (a : Int32) (o : Nat) (fo : Nat → Int64) (hx : G.2.2.2 ≤ x) (hno : G.2.2.2 ≤ o) (ho : ∀ j, j < 149 → o ≠ x + j) (hI : In G x ca Φ) (hc : Φ o = some (al_ G 1 fo)) (hy_hca : ca < 1000000) : Ct G l yL_deliver wsL_deliver ({ frames := 8, cells := 1, slots := 6, locals := 177 }) 1 6 [.ref x, .int a, .ref o] Φ sz (fun v Φ1 sz1 => (∃ r : Int32, v = some (.int r)) ∧ WpL G x (ca + 1) o Φ Φ1) := by
  refine Ct.ofH (cc := cL_deliver) (maxL := 4) (ret := (some .int)) (by decide) rfl (Nat.le_of_ble_eq_true rfl) ?_
  intro p9 e9 s9 m9 w9 t9 k9 B htab9
  show Z p9 l e9 _ s9 m9 _ w9 t9 k9 _ G 4 0 [(0, .ref x), (1, .int a), (2, .ref o)] [] Φ sz 0 0
  refine z_aload_n B dL_deliver_0 rfl 2 rfl ?_
  refine z_iconst (v := 0) B dL_deliver_1 rfl ?_
  refine z_aload_n B dL_deliver_2 rfl 0 rfl ?_
  refine z_iload_n B dL_deliver_3 rfl 1 rfl ?_
  have h0 : Φ x = some (o_ 13 [.ref (x + 1), .ref (x + 3), .ref (x + 24), .ref (x + 46), .ref (x + 74), .ref (x + 80), .ref (x + 132), .ref (x + 121)]) := in0 (k := 0) hI rfl
  refine zb_callC (As := [.int a]) (rest := [.int 0, .ref o]) B (s_X11_deliver G l hl9 Φ sz x ca a hx hI hy_hca) (cwV 1 B.1.2.2.2.2 gL_deliver_X11_deliver rfl rfl rfl (by decide +kernel) ⟨Nat.le_of_ble_eq_true rfl, Nat.le_of_ble_eq_true rfl⟩) h0 rfl rfl rfl rfl (Nat.le_of_ble_eq_true rfl) dL_deliver_4 ⟨Nat.le_of_ble_eq_true rfl, Nat.le_of_ble_eq_true rfl⟩ (fun v1 Φ1 sz1 st1 hp1 hs1 => ?_) (fun E9 hE9 => ?_)
  · obtain ⟨⟨r1, rfl⟩, hz1, hI1, hF1⟩ := hp1
    subst sz1
    replace hs1 : st1 = [.int r1, .int 0, .ref o] := hs1
    subst st1
    have hc1 : Φ1 o = some (al_ G 1 fo) := (Fr.at hF1 ho).trans hc
    refine z_i2l (v := (r1).toInt64) B dL_deliver_7 rfl ?_
    refine z_last B hc1 hno (vin rfl) dL_deliver_8 (fun Φ2 hΦ2 => ?_)
    refine z_goto (tgt := 15) B dL_deliver_9 rfl ?_
    refine z_iconst (v := 0) B dL_deliver_15 rfl ?_
    exact z_ret_i B dL_deliver_16 ⟨⟨_, rfl⟩, In.out hI1 ho hΦ2, ⟨_, fset_at hΦ2⟩, fun b9 h9 h8 => (fset_fr hΦ2 h8).trans (hF1 b9 (fun j9 q9 hj => h9 j9 hj q9))⟩
  · obtain rfl : E9 = xIO := List.mem_singleton.mp hE9
    refine ⟨12, ⟨[], ⟨0, 9, 12, 29⟩, [], htab9.trans rfl, (fun z9 hz9 => absurd hz9 List.not_mem_nil), by decide, by decide, by decide +kernel, by decide, rfl⟩, fun q9 sz9 Φ9 hP9 => ?_⟩
    refine z_astore_n (lv' := [(3, .ref q9), (0, .ref x), (1, .int a), (2, .ref o)]) B dL_deliver_12 rfl (Nat.le_of_ble_eq_true rfl) rfl ?_
    refine z_iconst (v := 1) B dL_deliver_13 rfl ?_
    exact z_ret_i B dL_deliver_14 ⟨⟨_, rfl⟩, In.mono hP9.1 (by omega), ⟨_, (Fr.at0 hP9.2).trans hc⟩, fun b9 _ _ => Fr.at0 hP9.2⟩

set_option maxHeartbeats 4000000 in
set_option maxRecDepth 100000 in
theorem w_lose (G : EnvG) (l : Launch) (hl9 : l.stackTraces = false) (Φ : Hm) (sz x ca : Nat) (a : Int32) (o : Nat) (fo : Nat → Int64) (hx : G.2.2.2 ≤ x) (hno : G.2.2.2 ≤ o) (ho : ∀ j, j < 149 → o ≠ x + j) (hI : In G x ca Φ) (hc : Φ o = some (al_ G 1 fo))  : Ct G l yL_lose wsL_lose ({ frames := 8, cells := 1, slots := 6, locals := 123 }) 1 6 [.ref x, .int a, .ref o] Φ sz (fun v Φ1 sz1 => (∃ r : Int32, v = some (.int r)) ∧ WpL G x (ca) o Φ Φ1) := by
  refine Ct.ofH (cc := cL_lose) (maxL := 4) (ret := (some .int)) (by decide) rfl (Nat.le_of_ble_eq_true rfl) ?_
  intro p9 e9 s9 m9 w9 t9 k9 B htab9
  show Z p9 l e9 _ s9 m9 _ w9 t9 k9 _ G 4 0 [(0, .ref x), (1, .int a), (2, .ref o)] [] Φ sz 0 0
  refine z_aload_n B dL_lose_0 rfl 2 rfl ?_
  refine z_iconst (v := 0) B dL_lose_1 rfl ?_
  refine z_aload_n B dL_lose_2 rfl 0 rfl ?_
  refine z_iload_n B dL_lose_3 rfl 1 rfl ?_
  have h0 : Φ x = some (o_ 13 [.ref (x + 1), .ref (x + 3), .ref (x + 24), .ref (x + 46), .ref (x + 74), .ref (x + 80), .ref (x + 132), .ref (x + 121)]) := in0 (k := 0) hI rfl
  refine zb_callC (As := [.int a]) (rest := [.int 0, .ref o]) B (s_X11_lose G l hl9 Φ sz x ca a hx hI ) (cwV 1 B.1.2.2.2.2 gL_lose_X11_lose rfl rfl rfl (by decide +kernel) ⟨Nat.le_of_ble_eq_true rfl, Nat.le_of_ble_eq_true rfl⟩) h0 rfl rfl rfl rfl (Nat.le_of_ble_eq_true rfl) dL_lose_4 ⟨Nat.le_of_ble_eq_true rfl, Nat.le_of_ble_eq_true rfl⟩ (fun v1 Φ1 sz1 st1 hp1 hs1 => ?_) (fun E9 hE9 => ?_)
  · obtain ⟨⟨r1, rfl⟩, hz1, hI1, hF1⟩ := hp1
    subst sz1
    replace hs1 : st1 = [.int r1, .int 0, .ref o] := hs1
    subst st1
    have hc1 : Φ1 o = some (al_ G 1 fo) := (Fr.at hF1 ho).trans hc
    refine z_i2l (v := (r1).toInt64) B dL_lose_7 rfl ?_
    refine z_last B hc1 hno (vin rfl) dL_lose_8 (fun Φ2 hΦ2 => ?_)
    refine z_goto (tgt := 15) B dL_lose_9 rfl ?_
    refine z_iconst (v := 0) B dL_lose_15 rfl ?_
    exact z_ret_i B dL_lose_16 ⟨⟨_, rfl⟩, In.out hI1 ho hΦ2, ⟨_, fset_at hΦ2⟩, fun b9 h9 h8 => (fset_fr hΦ2 h8).trans (hF1 b9 (fun j9 q9 hj => h9 j9 hj q9))⟩
  · obtain rfl : E9 = xIO := List.mem_singleton.mp hE9
    refine ⟨12, ⟨[], ⟨0, 9, 12, 29⟩, [], htab9.trans rfl, (fun z9 hz9 => absurd hz9 List.not_mem_nil), by decide, by decide, by decide +kernel, by decide, rfl⟩, fun q9 sz9 Φ9 hP9 => ?_⟩
    refine z_astore_n (lv' := [(3, .ref q9), (0, .ref x), (1, .int a), (2, .ref o)]) B dL_lose_12 rfl (Nat.le_of_ble_eq_true rfl) rfl ?_
    refine z_iconst (v := 1) B dL_lose_13 rfl ?_
    exact z_ret_i B dL_lose_14 ⟨⟨_, rfl⟩, In.mono hP9.1 (by omega), ⟨_, (Fr.at0 hP9.2).trans hc⟩, fun b9 _ _ => Fr.at0 hP9.2⟩

set_option maxHeartbeats 4000000 in
set_option maxRecDepth 100000 in
theorem w_duplicate (G : EnvG) (l : Launch) (hl9 : l.stackTraces = false) (Φ : Hm) (sz x ca : Nat) (a : Int32) (o : Nat) (fo : Nat → Int64) (hx : G.2.2.2 ≤ x) (hno : G.2.2.2 ≤ o) (ho : ∀ j, j < 149 → o ≠ x + j) (hI : In G x ca Φ) (hc : Φ o = some (al_ G 1 fo))  : Ct G l yL_duplicate wsL_duplicate ({ frames := 8, cells := 1, slots := 6, locals := 124 }) 1 6 [.ref x, .int a, .ref o] Φ sz (fun v Φ1 sz1 => (∃ r : Int32, v = some (.int r)) ∧ WpL G x (ca) o Φ Φ1) := by
  refine Ct.ofH (cc := cL_duplicate) (maxL := 4) (ret := (some .int)) (by decide) rfl (Nat.le_of_ble_eq_true rfl) ?_
  intro p9 e9 s9 m9 w9 t9 k9 B htab9
  show Z p9 l e9 _ s9 m9 _ w9 t9 k9 _ G 4 0 [(0, .ref x), (1, .int a), (2, .ref o)] [] Φ sz 0 0
  refine z_aload_n B dL_duplicate_0 rfl 2 rfl ?_
  refine z_iconst (v := 0) B dL_duplicate_1 rfl ?_
  refine z_aload_n B dL_duplicate_2 rfl 0 rfl ?_
  refine z_iload_n B dL_duplicate_3 rfl 1 rfl ?_
  have h0 : Φ x = some (o_ 13 [.ref (x + 1), .ref (x + 3), .ref (x + 24), .ref (x + 46), .ref (x + 74), .ref (x + 80), .ref (x + 132), .ref (x + 121)]) := in0 (k := 0) hI rfl
  refine zb_callC (As := [.int a]) (rest := [.int 0, .ref o]) B (s_X11_duplicate G l hl9 Φ sz x ca a hx hI ) (cwV 1 B.1.2.2.2.2 gL_duplicate_X11_duplicate rfl rfl rfl (by decide +kernel) ⟨Nat.le_of_ble_eq_true rfl, Nat.le_of_ble_eq_true rfl⟩) h0 rfl rfl rfl rfl (Nat.le_of_ble_eq_true rfl) dL_duplicate_4 ⟨Nat.le_of_ble_eq_true rfl, Nat.le_of_ble_eq_true rfl⟩ (fun v1 Φ1 sz1 st1 hp1 hs1 => ?_) (fun E9 hE9 => ?_)
  · obtain ⟨⟨r1, rfl, hb1⟩, hz1, hI1, hF1⟩ := hp1
    subst sz1
    replace hs1 : st1 = [.int r1, .int 0, .ref o] := hs1
    subst st1
    have hc1 : Φ1 o = some (al_ G 1 fo) := (Fr.at hF1 ho).trans hc
    refine z_if_eq (tgt := 14) B dL_duplicate_7 rfl (fun c_1 => ?_) (fun c_1 => ?_)
    · refine z_lconst (v := 0) B dL_duplicate_14 rfl ?_
      refine z_last B hc1 hno (vin rfl) dL_duplicate_15 (fun Φ2 hΦ2 => ?_)
      refine z_goto (tgt := 22) B dL_duplicate_16 rfl ?_
      refine z_iconst (v := 0) B dL_duplicate_22 rfl ?_
      exact z_ret_i B dL_duplicate_23 ⟨⟨_, rfl⟩, In.out hI1 ho hΦ2, ⟨_, fset_at hΦ2⟩, fun b9 h9 h8 => (fset_fr hΦ2 h8).trans (hF1 b9 (fun j9 q9 hj => h9 j9 hj q9))⟩
    · refine z_lconst (v := 1) B dL_duplicate_10 rfl ?_
      refine z_goto (tgt := 15) B dL_duplicate_11 rfl ?_
      refine z_last B hc1 hno (vin rfl) dL_duplicate_15 (fun Φ2 hΦ2 => ?_)
      refine z_goto (tgt := 22) B dL_duplicate_16 rfl ?_
      refine z_iconst (v := 0) B dL_duplicate_22 rfl ?_
      exact z_ret_i B dL_duplicate_23 ⟨⟨_, rfl⟩, In.out hI1 ho hΦ2, ⟨_, fset_at hΦ2⟩, fun b9 h9 h8 => (fset_fr hΦ2 h8).trans (hF1 b9 (fun j9 q9 hj => h9 j9 hj q9))⟩
  · obtain rfl : E9 = xIO := List.mem_singleton.mp hE9
    refine ⟨19, ⟨[], ⟨0, 16, 19, 29⟩, [], htab9.trans rfl, (fun z9 hz9 => absurd hz9 List.not_mem_nil), by decide, by decide, by decide +kernel, by decide, rfl⟩, fun q9 sz9 Φ9 hP9 => ?_⟩
    refine z_astore_n (lv' := [(3, .ref q9), (0, .ref x), (1, .int a), (2, .ref o)]) B dL_duplicate_19 rfl (Nat.le_of_ble_eq_true rfl) rfl ?_
    refine z_iconst (v := 1) B dL_duplicate_20 rfl ?_
    exact z_ret_i B dL_duplicate_21 ⟨⟨_, rfl⟩, In.mono hP9.1 (by omega), ⟨_, (Fr.at0 hP9.2).trans hc⟩, fun b9 _ _ => Fr.at0 hP9.2⟩

set_option maxHeartbeats 4000000 in
set_option maxRecDepth 100000 in
theorem w_exchange (G : EnvG) (l : Launch) (hl9 : l.stackTraces = false) (Φ : Hm) (sz x ca : Nat) (a : Int32) (b : Int32) (o : Nat) (fo : Nat → Int64) (hx : G.2.2.2 ≤ x) (hno : G.2.2.2 ≤ o) (ho : ∀ j, j < 149 → o ≠ x + j) (hI : In G x ca Φ) (hc : Φ o = some (al_ G 1 fo))  : Ct G l yL_exchange wsL_exchange ({ frames := 8, cells := 2, slots := 12, locals := 124 }) 2 12 [.ref x, .int a, .int b, .ref o] Φ sz (fun v Φ1 sz1 => (∃ r : Int32, v = some (.int r)) ∧ WpL G x (ca) o Φ Φ1) := by
  refine Ct.ofH (cc := cL_exchange) (maxL := 5) (ret := (some .int)) (by decide) rfl (Nat.le_of_ble_eq_true rfl) ?_
  intro p9 e9 s9 m9 w9 t9 k9 B htab9
  show Z p9 l e9 _ s9 m9 _ w9 t9 k9 _ G 5 0 [(0, .ref x), (1, .int a), (2, .int b), (3, .ref o)] [] Φ sz 0 0
  refine z_aload_n B dL_exchange_0 rfl 3 rfl ?_
  refine z_iconst (v := 0) B dL_exchange_1 rfl ?_
  refine z_aload_n B dL_exchange_2 rfl 0 rfl ?_
  refine z_iload_n B dL_exchange_3 rfl 1 rfl ?_
  refine z_iload_n B dL_exchange_4 rfl 2 rfl ?_
  have h0 : Φ x = some (o_ 13 [.ref (x + 1), .ref (x + 3), .ref (x + 24), .ref (x + 46), .ref (x + 74), .ref (x + 80), .ref (x + 132), .ref (x + 121)]) := in0 (k := 0) hI rfl
  refine zb_callC (As := [.int a, .int b]) (rest := [.int 0, .ref o]) B (s_X11_exchange G l hl9 Φ sz x ca a b hx hI ) (cwV 2 B.1.2.2.2.2 gL_exchange_X11_exchange rfl rfl rfl (by decide +kernel) ⟨Nat.le_of_ble_eq_true rfl, Nat.le_of_ble_eq_true rfl⟩) h0 rfl rfl rfl rfl (Nat.le_of_ble_eq_true rfl) dL_exchange_5 ⟨Nat.le_of_ble_eq_true rfl, Nat.le_of_ble_eq_true rfl⟩ (fun v1 Φ1 sz1 st1 hp1 hs1 => ?_) (fun E9 hE9 => ?_)
  · obtain ⟨⟨r1, rfl, hb1⟩, hz1, hI1, hF1⟩ := hp1
    subst sz1
    replace hs1 : st1 = [.int r1, .int 0, .ref o] := hs1
    subst st1
    have hc1 : Φ1 o = some (al_ G 1 fo) := (Fr.at hF1 ho).trans hc
    refine z_if_eq (tgt := 15) B dL_exchange_8 rfl (fun c_1 => ?_) (fun c_1 => ?_)
    · refine z_lconst (v := 0) B dL_exchange_15 rfl ?_
      refine z_last B hc1 hno (vin rfl) dL_exchange_16 (fun Φ2 hΦ2 => ?_)
      refine z_goto (tgt := 24) B dL_exchange_17 rfl ?_
      refine z_iconst (v := 0) B dL_exchange_24 rfl ?_
      exact z_ret_i B dL_exchange_25 ⟨⟨_, rfl⟩, In.out hI1 ho hΦ2, ⟨_, fset_at hΦ2⟩, fun b9 h9 h8 => (fset_fr hΦ2 h8).trans (hF1 b9 (fun j9 q9 hj => h9 j9 hj q9))⟩
    · refine z_lconst (v := 1) B dL_exchange_11 rfl ?_
      refine z_goto (tgt := 16) B dL_exchange_12 rfl ?_
      refine z_last B hc1 hno (vin rfl) dL_exchange_16 (fun Φ2 hΦ2 => ?_)
      refine z_goto (tgt := 24) B dL_exchange_17 rfl ?_
      refine z_iconst (v := 0) B dL_exchange_24 rfl ?_
      exact z_ret_i B dL_exchange_25 ⟨⟨_, rfl⟩, In.out hI1 ho hΦ2, ⟨_, fset_at hΦ2⟩, fun b9 h9 h8 => (fset_fr hΦ2 h8).trans (hF1 b9 (fun j9 q9 hj => h9 j9 hj q9))⟩
  · obtain rfl : E9 = xIO := List.mem_singleton.mp hE9
    refine ⟨20, ⟨[], ⟨0, 17, 20, 29⟩, [], htab9.trans rfl, (fun z9 hz9 => absurd hz9 List.not_mem_nil), by decide, by decide, by decide +kernel, by decide, rfl⟩, fun q9 sz9 Φ9 hP9 => ?_⟩
    refine z_astore (lv' := [(4, .ref q9), (0, .ref x), (1, .int a), (2, .int b), (3, .ref o)]) B dL_exchange_20 (Nat.le_of_ble_eq_true rfl) rfl ?_
    refine z_iconst (v := 1) B dL_exchange_22 rfl ?_
    exact z_ret_i B dL_exchange_23 ⟨⟨_, rfl⟩, In.mono hP9.1 (by omega), ⟨_, (Fr.at0 hP9.2).trans hc⟩, fun b9 _ _ => Fr.at0 hP9.2⟩

set_option maxHeartbeats 4000000 in
set_option maxRecDepth 100000 in
theorem w_templateAge (G : EnvG) (l : Launch) (hl9 : l.stackTraces = false) (Φ : Hm) (sz x ca : Nat) (a : Int32) (o : Nat) (fo : Nat → Int64) (hx : G.2.2.2 ≤ x) (hno : G.2.2.2 ≤ o) (ho : ∀ j, j < 149 → o ≠ x + j) (hI : In G x ca Φ) (hc : Φ o = some (al_ G 1 fo))  : Ct G l yL_templateAge wsL_templateAge ({ frames := 7, cells := 1, slots := 6, locals := 102 }) 1 6 [.ref x, .int a, .ref o] Φ sz (fun v Φ1 sz1 => (∃ r : Int32, v = some (.int r)) ∧ WpL G x (ca) o Φ Φ1) := by
  refine Ct.ofH (cc := cL_templateAge) (maxL := 4) (ret := (some .int)) (by decide) rfl (Nat.le_of_ble_eq_true rfl) ?_
  intro p9 e9 s9 m9 w9 t9 k9 B htab9
  show Z p9 l e9 _ s9 m9 _ w9 t9 k9 _ G 4 0 [(0, .ref x), (1, .int a), (2, .ref o)] [] Φ sz 0 0
  refine z_aload_n B dL_templateAge_0 rfl 2 rfl ?_
  refine z_iconst (v := 0) B dL_templateAge_1 rfl ?_
  refine z_aload_n B dL_templateAge_2 rfl 0 rfl ?_
  refine z_iload_n B dL_templateAge_3 rfl 1 rfl ?_
  have h0 : Φ x = some (o_ 13 [.ref (x + 1), .ref (x + 3), .ref (x + 24), .ref (x + 46), .ref (x + 74), .ref (x + 80), .ref (x + 132), .ref (x + 121)]) := in0 (k := 0) hI rfl
  refine zb_callC (As := [.int a]) (rest := [.int 0, .ref o]) B (s_X11_templateAge G l hl9 Φ sz x ca a hx hI ) (cwV 1 B.1.2.2.2.2 gL_templateAge_X11_templateAge rfl rfl rfl (by decide +kernel) ⟨Nat.le_of_ble_eq_true rfl, Nat.le_of_ble_eq_true rfl⟩) h0 rfl rfl rfl rfl (Nat.le_of_ble_eq_true rfl) dL_templateAge_4 ⟨Nat.le_of_ble_eq_true rfl, Nat.le_of_ble_eq_true rfl⟩ (fun v1 Φ1 sz1 st1 hp1 hs1 => ?_) (fun E9 hE9 => ?_)
  · obtain ⟨⟨r1, rfl⟩, hz1, hI1, hF1⟩ := hp1
    subst sz1
    replace hs1 : st1 = [.int r1, .int 0, .ref o] := hs1
    subst st1
    have hc1 : Φ1 o = some (al_ G 1 fo) := (Fr.at hF1 ho).trans hc
    refine z_i2l (v := (r1).toInt64) B dL_templateAge_7 rfl ?_
    refine z_last B hc1 hno (vin rfl) dL_templateAge_8 (fun Φ2 hΦ2 => ?_)
    refine z_goto (tgt := 15) B dL_templateAge_9 rfl ?_
    refine z_iconst (v := 0) B dL_templateAge_15 rfl ?_
    exact z_ret_i B dL_templateAge_16 ⟨⟨_, rfl⟩, In.out hI1 ho hΦ2, ⟨_, fset_at hΦ2⟩, fun b9 h9 h8 => (fset_fr hΦ2 h8).trans (hF1 b9 (fun j9 q9 hj => h9 j9 hj q9))⟩
  · obtain rfl : E9 = xIA := List.mem_singleton.mp hE9
    refine ⟨12, ⟨[], ⟨0, 9, 12, 13⟩, [], htab9.trans rfl, (fun z9 hz9 => absurd hz9 List.not_mem_nil), by decide, by decide, by decide +kernel, by decide, rfl⟩, fun q9 sz9 Φ9 hP9 => ?_⟩
    refine z_astore_n (lv' := [(3, .ref q9), (0, .ref x), (1, .int a), (2, .ref o)]) B dL_templateAge_12 rfl (Nat.le_of_ble_eq_true rfl) rfl ?_
    refine z_iconst (v := 1) B dL_templateAge_13 rfl ?_
    exact z_ret_i B dL_templateAge_14 ⟨⟨_, rfl⟩, In.mono hP9.1 (by omega), ⟨_, (Fr.at0 hP9.2).trans hc⟩, fun b9 _ _ => Fr.at0 hP9.2⟩

set_option maxHeartbeats 4000000 in
set_option maxRecDepth 100000 in
theorem w_counter (G : EnvG) (l : Launch) (hl9 : l.stackTraces = false) (Φ : Hm) (sz x ca : Nat) (a : Int32) (o : Nat) (fo : Nat → Int64) (hx : G.2.2.2 ≤ x) (hno : G.2.2.2 ≤ o) (ho : ∀ j, j < 149 → o ≠ x + j) (hI : In G x ca Φ) (hc : Φ o = some (al_ G 1 fo))  : Ct G l yL_counter wsL_counter ({ frames := 7, cells := 1, slots := 6, locals := 102 }) 1 6 [.ref x, .int a, .ref o] Φ sz (fun v Φ1 sz1 => (∃ r : Int32, v = some (.int r)) ∧ WpL G x (ca) o Φ Φ1) := by
  refine Ct.ofH (cc := cL_counter) (maxL := 4) (ret := (some .int)) (by decide) rfl (Nat.le_of_ble_eq_true rfl) ?_
  intro p9 e9 s9 m9 w9 t9 k9 B htab9
  show Z p9 l e9 _ s9 m9 _ w9 t9 k9 _ G 4 0 [(0, .ref x), (1, .int a), (2, .ref o)] [] Φ sz 0 0
  refine z_aload_n B dL_counter_0 rfl 2 rfl ?_
  refine z_iconst (v := 0) B dL_counter_1 rfl ?_
  refine z_aload_n B dL_counter_2 rfl 0 rfl ?_
  refine z_iload_n B dL_counter_3 rfl 1 rfl ?_
  have h0 : Φ x = some (o_ 13 [.ref (x + 1), .ref (x + 3), .ref (x + 24), .ref (x + 46), .ref (x + 74), .ref (x + 80), .ref (x + 132), .ref (x + 121)]) := in0 (k := 0) hI rfl
  refine zb_callC (As := [.int a]) (rest := [.int 0, .ref o]) B (s_X11_counter G l hl9 Φ sz x ca a hx hI ) (cwV 1 B.1.2.2.2.2 gL_counter_X11_counter rfl rfl rfl (by decide +kernel) ⟨Nat.le_of_ble_eq_true rfl, Nat.le_of_ble_eq_true rfl⟩) h0 rfl rfl rfl rfl (Nat.le_of_ble_eq_true rfl) dL_counter_4 ⟨Nat.le_of_ble_eq_true rfl, Nat.le_of_ble_eq_true rfl⟩ (fun v1 Φ1 sz1 st1 hp1 hs1 => ?_) (fun E9 hE9 => ?_)
  · obtain ⟨⟨r1, rfl⟩, hz1, hI1, hF1⟩ := hp1
    subst sz1
    replace hs1 : st1 = [.long r1, .int 0, .ref o] := hs1
    subst st1
    have hc1 : Φ1 o = some (al_ G 1 fo) := (Fr.at hF1 ho).trans hc
    refine z_last B hc1 hno (vin rfl) dL_counter_7 (fun Φ2 hΦ2 => ?_)
    refine z_goto (tgt := 14) B dL_counter_8 rfl ?_
    refine z_iconst (v := 0) B dL_counter_14 rfl ?_
    exact z_ret_i B dL_counter_15 ⟨⟨_, rfl⟩, In.out hI1 ho hΦ2, ⟨_, fset_at hΦ2⟩, fun b9 h9 h8 => (fset_fr hΦ2 h8).trans (hF1 b9 (fun j9 q9 hj => h9 j9 hj q9))⟩
  · obtain rfl : E9 = xIA := List.mem_singleton.mp hE9
    refine ⟨11, ⟨[], ⟨0, 8, 11, 13⟩, [], htab9.trans rfl, (fun z9 hz9 => absurd hz9 List.not_mem_nil), by decide, by decide, by decide +kernel, by decide, rfl⟩, fun q9 sz9 Φ9 hP9 => ?_⟩
    refine z_astore_n (lv' := [(3, .ref q9), (0, .ref x), (1, .int a), (2, .ref o)]) B dL_counter_11 rfl (Nat.le_of_ble_eq_true rfl) rfl ?_
    refine z_iconst (v := 1) B dL_counter_12 rfl ?_
    exact z_ret_i B dL_counter_13 ⟨⟨_, rfl⟩, In.mono hP9.1 (by omega), ⟨_, (Fr.at0 hP9.2).trans hc⟩, fun b9 _ _ => Fr.at0 hP9.2⟩

set_option maxHeartbeats 4000000 in
set_option maxRecDepth 100000 in
theorem w_lossRate (G : EnvG) (l : Launch) (hl9 : l.stackTraces = false) (Φ : Hm) (sz x ca : Nat)  (o : Nat) (fo : Nat → UInt64) (hx : G.2.2.2 ≤ x) (hno : G.2.2.2 ≤ o) (ho : ∀ j, j < 149 → o ≠ x + j) (hI : In G x ca Φ) (hc : Φ o = some (ad_ G 1 fo))  : Ct G l yL_lossRate wsL_lossRate ({ frames := 7, cells := 1, slots := 6, locals := 105 }) 1 6 [.ref x, .ref o] Φ sz (fun v Φ1 sz1 => (∃ r : Int32, v = some (.int r)) ∧ WpD G x (ca) o Φ Φ1) := by
  refine Ct.ofH (cc := cL_lossRate) (maxL := 3) (ret := (some .int)) (by decide) rfl (Nat.le_of_ble_eq_true rfl) ?_
  intro p9 e9 s9 m9 w9 t9 k9 B htab9
  show Z p9 l e9 _ s9 m9 _ w9 t9 k9 _ G 3 0 [(0, .ref x), (1, .ref o)] [] Φ sz 0 0
  refine z_aload_n B dL_lossRate_0 rfl 1 rfl ?_
  refine z_iconst (v := 0) B dL_lossRate_1 rfl ?_
  refine z_aload_n B dL_lossRate_2 rfl 0 rfl ?_
  have h0 : Φ x = some (o_ 13 [.ref (x + 1), .ref (x + 3), .ref (x + 24), .ref (x + 46), .ref (x + 74), .ref (x + 80), .ref (x + 132), .ref (x + 121)]) := in0 (k := 0) hI rfl
  refine zb_callC (As := []) (rest := [.int 0, .ref o]) B (s_X11_lossRate G l hl9 Φ sz x ca  hx hI ) (cwV 0 B.1.2.2.2.2 gL_lossRate_X11_lossRate rfl rfl rfl (by decide +kernel) ⟨Nat.le_of_ble_eq_true rfl, Nat.le_of_ble_eq_true rfl⟩) h0 rfl rfl rfl rfl (Nat.le_of_ble_eq_true rfl) dL_lossRate_3 ⟨Nat.le_of_ble_eq_true rfl, Nat.le_of_ble_eq_true rfl⟩ (fun v1 Φ1 sz1 st1 hp1 hs1 => ?_) (fun E9 hE9 => ?_)
  · obtain ⟨⟨r1, rfl, hb1⟩, hz1, hI1, hF1⟩ := hp1
    subst sz1
    replace hs1 : st1 = [.double r1, .int 0, .ref o] := hs1
    subst st1
    have hc1 : Φ1 o = some (ad_ G 1 fo) := (Fr.at hF1 ho).trans hc
    refine z_dast B hc1 hno (vin rfl) dL_lossRate_6 (fun Φ2 hΦ2 => ?_)
    refine z_goto (tgt := 13) B dL_lossRate_7 rfl ?_
    refine z_iconst (v := 0) B dL_lossRate_13 rfl ?_
    exact z_ret_i B dL_lossRate_14 ⟨⟨_, rfl⟩, In.out hI1 ho hΦ2, ⟨_, fset_at hΦ2⟩, fun b9 h9 h8 => (fset_fr hΦ2 h8).trans (hF1 b9 (fun j9 q9 hj => h9 j9 hj q9))⟩
  · obtain rfl : E9 = xAE := List.mem_singleton.mp hE9
    refine ⟨10, ⟨[], ⟨0, 7, 10, 82⟩, [], htab9.trans rfl, (fun z9 hz9 => absurd hz9 List.not_mem_nil), by decide, by decide, by decide +kernel, by decide, rfl⟩, fun q9 sz9 Φ9 hP9 => ?_⟩
    refine z_astore_n (lv' := [(2, .ref q9), (0, .ref x), (1, .ref o)]) B dL_lossRate_10 rfl (Nat.le_of_ble_eq_true rfl) rfl ?_
    refine z_iconst (v := 1) B dL_lossRate_11 rfl ?_
    exact z_ret_i B dL_lossRate_12 ⟨⟨_, rfl⟩, In.mono hP9.1 (by omega), ⟨_, (Fr.at0 hP9.2).trans hc⟩, fun b9 _ _ => Fr.at0 hP9.2⟩

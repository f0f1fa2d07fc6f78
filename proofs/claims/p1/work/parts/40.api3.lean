def kOf (a b c d : Int32) : Int64 := if a < 0 then -1 else if 255 < a then -1 else if b < 0 then -1 else if b ≤ 255 then (if c < 0 then -1 else if 65535 < c then -1 else if d < 0 then -1 else if d ≤ 255 then (((a.toInt64 <<< ((32 : Int32).toInt64 &&& 63)) ||| (b.toInt64 <<< ((24 : Int32).toInt64 &&& 63))) ||| (c.toInt64 <<< ((8 : Int32).toInt64 &&& 63))) ||| d.toInt64 else -1) else -1

set_option maxHeartbeats 4000000 in
set_option maxRecDepth 100000 in
theorem c_X3_keyOf (G : EnvG) (l : Launch) (Φ : Hm) (sz : Nat) (a : Int32) (b : Int32) (c : Int32) (d : Int32)  : Ct G l yX3_keyOf wsX3_keyOf ({ frames := 0, cells := 0, slots := 0, locals := 0 }) 0 0 [.int a, .int b, .int c, .int d] Φ sz (fun v Φ1 sz1 => v = some (.long (kOf a b c d)) ∧ sz1 = sz ∧ (∀ b9 : Nat, Φ1 b9 = Φ b9)) := by
  refine Ct.of (cc := cX3_keyOf) (maxL := 4) (ret := (some .long)) (by decide) rfl (Nat.le_of_ble_eq_true rfl) ?_
  intro p9 e9 s9 m9 w9 t9 k9 B
  show Z p9 l e9 _ s9 m9 _ w9 t9 k9 _ G 4 0 [(0, .int a), (1, .int b), (2, .int c), (3, .int d)] [] Φ (sz) 0 0
  refine z_iload_n B dX3_keyOf_0 rfl 0 rfl ?_
  refine z_if_lt (tgt := 22) B dX3_keyOf_1 rfl (fun c_1 => ?_) (fun c_1 => ?_)
  · refine z_ldc2 (v := (-1)) B (by decide +kernel) dX3_keyOf_22 ?_
    exact z_ret_l B dX3_keyOf_25 ⟨(by simp [kOf, c_1]), rfl, fun _ => rfl⟩
  · refine z_iload_n B dX3_keyOf_4 rfl 0 rfl ?_
    refine z_sipush (v := 255) B dX3_keyOf_5 rfl ?_
    refine z_icmp_gt (tgt := 22) B dX3_keyOf_8 rfl (fun c_2 => ?_) (fun c_2 => ?_)
    · refine z_ldc2 (v := (-1)) B (by decide +kernel) dX3_keyOf_22 ?_
      exact z_ret_l B dX3_keyOf_25 ⟨(by simp [kOf, c_1, c_2]), rfl, fun _ => rfl⟩
    · refine z_iload_n B dX3_keyOf_11 rfl 1 rfl ?_
      refine z_if_lt (tgt := 22) B dX3_keyOf_12 rfl (fun c_3 => ?_) (fun c_3 => ?_)
      · refine z_ldc2 (v := (-1)) B (by decide +kernel) dX3_keyOf_22 ?_
        exact z_ret_l B dX3_keyOf_25 ⟨(by simp [kOf, c_1, c_2, c_3]), rfl, fun _ => rfl⟩
      · refine z_iload_n B dX3_keyOf_15 rfl 1 rfl ?_
        refine z_sipush (v := 255) B dX3_keyOf_16 rfl ?_
        refine z_icmp_le (tgt := 26) B dX3_keyOf_19 rfl (fun c_4 => ?_) (fun c_4 => ?_)
        · refine z_iload_n B dX3_keyOf_26 rfl 2 rfl ?_
          refine z_if_lt (tgt := 47) B dX3_keyOf_27 rfl (fun c_5 => ?_) (fun c_5 => ?_)
          · refine z_ldc2 (v := (-1)) B (by decide +kernel) dX3_keyOf_47 ?_
            exact z_ret_l B dX3_keyOf_50 ⟨(by simp [kOf, c_1, c_2, c_3, c_4, c_5]), rfl, fun _ => rfl⟩
          · refine z_iload_n B dX3_keyOf_30 rfl 2 rfl ?_
            refine z_ldc (v := 65535) B (by decide +kernel) dX3_keyOf_31 ?_
            refine z_icmp_gt (tgt := 47) B dX3_keyOf_33 rfl (fun c_6 => ?_) (fun c_6 => ?_)
            · refine z_ldc2 (v := (-1)) B (by decide +kernel) dX3_keyOf_47 ?_
              exact z_ret_l B dX3_keyOf_50 ⟨(by simp [kOf, c_1, c_2, c_3, c_4, c_5, c_6]), rfl, fun _ => rfl⟩
            · refine z_iload_n B dX3_keyOf_36 rfl 3 rfl ?_
              refine z_if_lt (tgt := 47) B dX3_keyOf_37 rfl (fun c_7 => ?_) (fun c_7 => ?_)
              · refine z_ldc2 (v := (-1)) B (by decide +kernel) dX3_keyOf_47 ?_
                exact z_ret_l B dX3_keyOf_50 ⟨(by simp [kOf, c_1, c_2, c_3, c_4, c_5, c_6, c_7]), rfl, fun _ => rfl⟩
              · refine z_iload_n B dX3_keyOf_40 rfl 3 rfl ?_
                refine z_sipush (v := 255) B dX3_keyOf_41 rfl ?_
                refine z_icmp_le (tgt := 51) B dX3_keyOf_44 rfl (fun c_8 => ?_) (fun c_8 => ?_)
                · refine z_iload_n B dX3_keyOf_51 rfl 0 rfl ?_
                  refine z_i2l (v := a.toInt64) B dX3_keyOf_52 rfl ?_
                  refine z_bipush (v := 32) B dX3_keyOf_53 rfl ?_
                  refine z_lshl (v := a.toInt64 <<< ((32 : Int32).toInt64 &&& 63)) B dX3_keyOf_55 rfl ?_
                  refine z_iload_n B dX3_keyOf_56 rfl 1 rfl ?_
                  refine z_i2l (v := b.toInt64) B dX3_keyOf_57 rfl ?_
                  refine z_bipush (v := 24) B dX3_keyOf_58 rfl ?_
                  refine z_lshl (v := b.toInt64 <<< ((24 : Int32).toInt64 &&& 63)) B dX3_keyOf_60 rfl ?_
                  refine z_lor B dX3_keyOf_61 ?_
                  refine z_iload_n B dX3_keyOf_62 rfl 2 rfl ?_
                  refine z_i2l (v := c.toInt64) B dX3_keyOf_63 rfl ?_
                  refine z_bipush (v := 8) B dX3_keyOf_64 rfl ?_
                  refine z_lshl (v := c.toInt64 <<< ((8 : Int32).toInt64 &&& 63)) B dX3_keyOf_66 rfl ?_
                  refine z_lor B dX3_keyOf_67 ?_
                  refine z_iload_n B dX3_keyOf_68 rfl 3 rfl ?_
                  refine z_i2l (v := d.toInt64) B dX3_keyOf_69 rfl ?_
                  refine z_lor B dX3_keyOf_70 ?_
                  exact z_ret_l B dX3_keyOf_71 ⟨(by simp [kOf, c_1, c_2, c_3, c_4, c_5, c_6, c_7, c_8]), rfl, fun _ => rfl⟩
                · refine z_ldc2 (v := (-1)) B (by decide +kernel) dX3_keyOf_47 ?_
                  exact z_ret_l B dX3_keyOf_50 ⟨(by simp [kOf, c_1, c_2, c_3, c_4, c_5, c_6, c_7, c_8]), rfl, fun _ => rfl⟩
        · refine z_ldc2 (v := (-1)) B (by decide +kernel) dX3_keyOf_22 ?_
          exact z_ret_l B dX3_keyOf_25 ⟨(by simp [kOf, c_1, c_2, c_3, c_4]), rfl, fun _ => rfl⟩

set_option maxHeartbeats 4000000 in
set_option maxRecDepth 100000 in
theorem f_X9_indexOf (G : EnvG) (l : Launch) (Φ : Hm) (sz : Nat) (x : Nat) (k : Int64) (hc121_ : Φ (x + 121) = some (o_ 11 [.ref (x + 122), .ref (x + 123), .ref (x + 126), .ref (x + 129), .int 0])) : Ct G l yX9_indexOf wsX9_indexOf ({ frames := 0, cells := 0, slots := 0, locals := 0 }) 0 0 [.ref (x + 121), .long k] Φ sz (fun v Φ1 sz1 => v = some (.int (-1)) ∧ sz1 = sz ∧ (∀ b9 : Nat, Φ1 b9 = Φ b9)) := by
  refine Ct.of (cc := cX9_indexOf) (maxL := 4) (ret := (some .int)) (by decide) rfl (Nat.le_of_ble_eq_true rfl) ?_
  intro p9 e9 s9 m9 w9 t9 k9 B
  show Z p9 l e9 _ s9 m9 _ w9 t9 k9 _ G 4 0 [(0, .ref (x + 121)), (1, .long k)] [] Φ sz 0 0
  refine z_iconst (v := 0) B dX9_indexOf_0 rfl ?_
  refine z_istore_n (lv' := [(3, .int 0), (0, .ref (x + 121)), (1, .long k)]) B dX9_indexOf_1 rfl (Nat.le_of_ble_eq_true rfl) rfl ?_
  refine z_iload_n B dX9_indexOf_2 rfl 0 rfl ?_
  refine z_aload_n B dX9_indexOf_3 rfl 1 rfl ?_
  refine z_get (ref := "FlowExporter$Sums") (C := RX9) (T := TX9) (N := 5) (ci := 11) (v := .int 0) B (by decide +kernel) rfl 4 (by decide) (by decide +kernel) rfl hc121_ rfl dX9_indexOf_4 ?_
  refine z_icmp_ge (tgt := 29) B dX9_indexOf_7 rfl (fun c_1 => ?_) (fun h9 => absurd (by decide) h9)
  refine z_iconst (v := (-1)) B dX9_indexOf_29 rfl ?_
  exact z_ret_i B dX9_indexOf_30 ⟨rfl, rfl, (fun b9 => rfl)⟩

set_option maxHeartbeats 4000000 in
set_option maxRecDepth 100000 in
theorem f_X4_indexOf_t (G : EnvG) (l : Launch) (Φ : Hm) (sz : Nat) (x : Nat) (k : Int64) (hc95_ : Φ (x + 95) = some (o_ 6 [.ref (x + 96), .int 0])) : Ct G l yX4_indexOf wsX4_indexOf ({ frames := 0, cells := 0, slots := 0, locals := 0 }) 0 0 [.ref (x + 95), .long k] Φ sz (fun v Φ1 sz1 => v = some (.int (-1)) ∧ sz1 = sz ∧ (∀ b9 : Nat, Φ1 b9 = Φ b9)) := by
  refine Ct.of (cc := cX4_indexOf) (maxL := 4) (ret := (some .int)) (by decide) rfl (Nat.le_of_ble_eq_true rfl) ?_
  intro p9 e9 s9 m9 w9 t9 k9 B
  show Z p9 l e9 _ s9 m9 _ w9 t9 k9 _ G 4 0 [(0, .ref (x + 95)), (1, .long k)] [] Φ sz 0 0
  refine z_iconst (v := 0) B dX4_indexOf_0 rfl ?_
  refine z_istore_n (lv' := [(3, .int 0), (0, .ref (x + 95)), (1, .long k)]) B dX4_indexOf_1 rfl (Nat.le_of_ble_eq_true rfl) rfl ?_
  refine z_iload_n B dX4_indexOf_2 rfl 0 rfl ?_
  refine z_aload_n B dX4_indexOf_3 rfl 1 rfl ?_
  refine z_get (ref := "FlowExporter$FlowTable") (C := RX4) (T := TX4) (N := 2) (ci := 6) (v := .int 0) B (by decide +kernel) rfl 1 (by decide) (by decide +kernel) rfl hc95_ rfl dX4_indexOf_4 ?_
  refine z_icmp_ge (tgt := 32) B dX4_indexOf_7 rfl (fun c_1 => ?_) (fun h9 => absurd (by decide) h9)
  refine z_iconst (v := (-1)) B dX4_indexOf_32 rfl ?_
  exact z_ret_i B dX4_indexOf_33 ⟨rfl, rfl, (fun b9 => rfl)⟩

set_option maxHeartbeats 4000000 in
set_option maxRecDepth 100000 in
theorem f_X4_indexOf_c (G : EnvG) (l : Launch) (Φ : Hm) (sz : Nat) (x : Nat) (k : Int64) (hc81_ : Φ (x + 81) = some (o_ 6 [.ref (x + 82), .int 0])) : Ct G l yX4_indexOf wsX4_indexOf ({ frames := 0, cells := 0, slots := 0, locals := 0 }) 0 0 [.ref (x + 81), .long k] Φ sz (fun v Φ1 sz1 => v = some (.int (-1)) ∧ sz1 = sz ∧ (∀ b9 : Nat, Φ1 b9 = Φ b9)) := by
  refine Ct.of (cc := cX4_indexOf) (maxL := 4) (ret := (some .int)) (by decide) rfl (Nat.le_of_ble_eq_true rfl) ?_
  intro p9 e9 s9 m9 w9 t9 k9 B
  show Z p9 l e9 _ s9 m9 _ w9 t9 k9 _ G 4 0 [(0, .ref (x + 81)), (1, .long k)] [] Φ sz 0 0
  refine z_iconst (v := 0) B dX4_indexOf_0 rfl ?_
  refine z_istore_n (lv' := [(3, .int 0), (0, .ref (x + 81)), (1, .long k)]) B dX4_indexOf_1 rfl (Nat.le_of_ble_eq_true rfl) rfl ?_
  refine z_iload_n B dX4_indexOf_2 rfl 0 rfl ?_
  refine z_aload_n B dX4_indexOf_3 rfl 1 rfl ?_
  refine z_get (ref := "FlowExporter$FlowTable") (C := RX4) (T := TX4) (N := 2) (ci := 6) (v := .int 0) B (by decide +kernel) rfl 1 (by decide) (by decide +kernel) rfl hc81_ rfl dX4_indexOf_4 ?_
  refine z_icmp_ge (tgt := 32) B dX4_indexOf_7 rfl (fun c_1 => ?_) (fun h9 => absurd (by decide) h9)
  refine z_iconst (v := (-1)) B dX4_indexOf_32 rfl ?_
  exact z_ret_i B dX4_indexOf_33 ⟨rfl, rfl, (fun b9 => rfl)⟩

set_option maxHeartbeats 4000000 in
set_option maxRecDepth 100000 in
theorem f_X2_trueValue (G : EnvG) (l : Launch) (Φ : Hm) (sz : Nat) (x : Nat) (k : Int64) (w : Int32) (hc80_ : Φ (x + 80) = some (o_ 4 [.ref (x + 3), .ref (x + 74), .ref (x + 81), .ref (x + 95), .int 0, .int 1, .int 1, .int 0, .int 0, .int 0, .long 0, .long 0, .long 0])) (hc95_ : Φ (x + 95) = some (o_ 6 [.ref (x + 96), .int 0])) : Ct G l yX2_trueValue wsX2_trueValue ({ frames := 1, cells := 0, slots := 0, locals := 23 }) 0 0 [.ref (x + 80), .long k, .int w] Φ sz (fun v Φ1 sz1 => v = some (.long 0) ∧ sz1 = sz ∧ (∀ b9 : Nat, Φ1 b9 = Φ b9)) := by
  refine Ct.of (cc := cX2_trueValue) (maxL := 5) (ret := (some .long)) (by decide) rfl (Nat.le_of_ble_eq_true rfl) ?_
  intro p9 e9 s9 m9 w9 t9 k9 B
  show Z p9 l e9 _ s9 m9 _ w9 t9 k9 _ G 5 0 [(0, .ref (x + 80)), (1, .long k), (3, .int w)] [] Φ sz 0 0
  refine z_aload_n B dX2_trueValue_0 rfl 0 rfl ?_
  refine z_get (ref := "FlowExporter$Exporter") (C := RX2) (T := TX2) (N := 13) (ci := 4) (v := .ref (x + 95)) B (by decide +kernel) rfl 3 (by decide) (by decide +kernel) rfl hc80_ rfl dX2_trueValue_1 ?_
  refine z_lload_n B dX2_trueValue_4 rfl 1 rfl ?_
  refine z_callV (As := [.long k]) (rest := []) B (f_X4_indexOf_t G l Φ sz x k hc95_) (cwV 1 B.1.2.2.2.2 gX2_trueValue_X4_indexOf rfl rfl rfl (by decide +kernel) ⟨Nat.le_of_ble_eq_true rfl, Nat.le_of_ble_eq_true rfl⟩) hc95_ rfl rfl rfl rfl (Nat.le_of_ble_eq_true rfl) dX2_trueValue_5 ⟨Nat.le_of_ble_eq_true rfl, Nat.le_of_ble_eq_true rfl⟩ (fun v1 Φ1 sz1 st1 hp1 hs1 => ?_)
  obtain ⟨rfl, hq1, fr1⟩ := hp1
  replace hq1 : sz1 = sz := hq1
  subst sz1
  replace hs1 : st1 = [.int (-1)] := hs1
  subst st1
  refine z_istore (lv' := [(4, .int (-1)), (0, .ref (x + 80)), (1, .long k), (3, .int w)]) B dX2_trueValue_8 (Nat.le_of_ble_eq_true rfl) rfl ?_
  refine z_iload B dX2_trueValue_10 0 rfl ?_
  refine z_iconst (v := (-1)) B dX2_trueValue_12 rfl ?_
  refine z_icmp_ne (tgt := 20) B dX2_trueValue_13 rfl (fun h9 => absurd (by decide) h9) (fun c_1 => ?_)
  refine z_lconst (v := 0) B dX2_trueValue_16 rfl ?_
  refine z_goto (tgt := 41) B dX2_trueValue_17 rfl ?_
  exact z_ret_l B dX2_trueValue_41 ⟨rfl, rfl, (fun b9 => ((fr1 b9).trans rfl))⟩

set_option maxHeartbeats 4000000 in
set_option maxRecDepth 100000 in
theorem f_X11_find (G : EnvG) (l : Launch) (Φ : Hm) (sz : Nat) (x : Nat) (a : Int32) (b : Int32) (c : Int32) (d : Int32) (hc0_ : Φ x = some (o_ 13 [.ref (x + 1), .ref (x + 3), .ref (x + 24), .ref (x + 46), .ref (x + 74), .ref (x + 80), .ref (x + 132), .ref (x + 121)])) (hc121_ : Φ (x + 121) = some (o_ 11 [.ref (x + 122), .ref (x + 123), .ref (x + 126), .ref (x + 129), .int 0])) : Ct G l yX11_find wsX11_find ({ frames := 1, cells := 0, slots := 0, locals := 23 }) 0 0 [.ref x, .int a, .int b, .int c, .int d] Φ sz (fun v Φ1 sz1 => v = some (.int (-1)) ∧ ∀ b9 : Nat, x + 149 ≤ b9 → Φ1 b9 = Φ b9) := by
  refine Ct.of (cc := cX11_find) (maxL := 5) (ret := (some .int)) (by decide) rfl (Nat.le_of_ble_eq_true rfl) ?_
  intro p9 e9 s9 m9 w9 t9 k9 B
  show Z p9 l e9 _ s9 m9 _ w9 t9 k9 _ G 5 0 [(0, .ref x), (1, .int a), (2, .int b), (3, .int c), (4, .int d)] [] Φ sz 0 0
  refine z_aload_n B dX11_find_0 rfl 0 rfl ?_
  refine z_get (ref := "FlowExporter") (C := RX11) (T := TX11) (N := 8) (ci := 13) (v := .ref (x + 121)) B (by decide +kernel) rfl 7 (by decide) (by decide +kernel) rfl hc0_ rfl dX11_find_1 ?_
  refine z_iload_n B dX11_find_4 rfl 1 rfl ?_
  refine z_iload_n B dX11_find_5 rfl 2 rfl ?_
  refine z_iload_n B dX11_find_6 rfl 3 rfl ?_
  refine z_iload B dX11_find_7 4 rfl ?_
  refine z_callS (As := [.int a, .int b, .int c, .int d]) (rest := [.ref (x + 121)]) B (c_X3_keyOf G l Φ sz a b c d ) (va_cwS 4 B.1.2.2.2.2 gX11_find_X3_keyOf rfl rfl rfl (by decide +kernel) ⟨Nat.le_of_ble_eq_true rfl, Nat.le_of_ble_eq_true rfl⟩) rfl rfl (Nat.le_of_ble_eq_true rfl) dX11_find_9 ⟨Nat.le_of_ble_eq_true rfl, Nat.le_of_ble_eq_true rfl⟩ (fun v1 Φ1 sz1 st1 hp1 hs1 => ?_)
  obtain ⟨rfl, hq1, fr1⟩ := hp1
  replace hq1 : sz1 = sz := hq1
  subst sz1
  replace hs1 : st1 = [.long (kOf a b c d), .ref (x + 121)] := hs1
  subst st1
  have h_1 : Φ1 (x + 121) = some (o_ 11 [.ref (x + 122), .ref (x + 123), .ref (x + 126), .ref (x + 129), .int 0]) := ((fr1 (x + 121)).trans hc121_)
  refine z_callV (As := [.long (kOf a b c d)]) (rest := []) B (f_X9_indexOf G l Φ1 sz x (kOf a b c d) h_1) (cwV 1 B.1.2.2.2.2 gX11_find_X9_indexOf rfl rfl rfl (by decide +kernel) ⟨Nat.le_of_ble_eq_true rfl, Nat.le_of_ble_eq_true rfl⟩) h_1 rfl rfl rfl rfl (Nat.le_of_ble_eq_true rfl) dX11_find_12 ⟨Nat.le_of_ble_eq_true rfl, Nat.le_of_ble_eq_true rfl⟩ (fun v2 Φ2 sz2 st2 hp2 hs2 => ?_)
  obtain ⟨rfl, hq2, fr2⟩ := hp2
  replace hq2 : sz2 = sz := hq2
  subst sz2
  replace hs2 : st2 = [.int (-1)] := hs2
  subst st2
  exact z_ret_i B dX11_find_15 ⟨rfl, fun b9 h9 => ((fr2 b9).trans ((fr1 b9).trans rfl))⟩

theorem i_in {a : Int32} {n : Nat} {N : Int32} (h : ¬ a < 0) (h2 : a < N) (hN : N.toInt = n) : vp_in a n := vp_in_iff.mpr (by rw [Int32.lt_iff_toInt_lt] at h h2; simp at h; omega)

set_option maxHeartbeats 4000000 in
set_option maxRecDepth 100000 in
theorem f_X11_counter (G : EnvG) (l : Launch) (Φ : Hm) (sz : Nat) (x : Nat) (a : Int32) (hc0_ : Φ x = some (o_ 13 [.ref (x + 1), .ref (x + 3), .ref (x + 24), .ref (x + 46), .ref (x + 74), .ref (x + 80), .ref (x + 132), .ref (x + 121)])) (hc132_ : Φ (x + 132) = some (o_ 2 [.ref (x + 3), .ref (x + 121), .ref (x + 133), .ref (x + 134), .ref (x + 135), .ref (x + 137), .ref (x + 138), .ref (x + 139), .ref (x + 140), .int 0, .int 0, .int 0])) (hc139_ : Φ (x + 139) = some (al_ G 9 (fun _ => 0))) (h1 : ¬ a < 0) (h2 : a < 9) : Ct G l yX11_counter wsX11_counter ({ frames := 0, cells := 0, slots := 0, locals := 0 }) 0 0 [.ref x, .int a] Φ sz (fun v Φ1 sz1 => v = some (.long 0) ∧ ∀ b9 : Nat, x + 149 ≤ b9 → Φ1 b9 = Φ b9) := by
  refine Ct.of (cc := cX11_counter) (maxL := 2) (ret := (some .long)) (by decide) rfl (Nat.le_of_ble_eq_true rfl) ?_
  intro p9 e9 s9 m9 w9 t9 k9 B
  show Z p9 l e9 _ s9 m9 _ w9 t9 k9 _ G 2 0 [(0, .ref x), (1, .int a)] [] Φ sz 0 0
  refine z_iload_n B dX11_counter_0 rfl 1 rfl ?_
  refine z_if_lt (tgt := 10) B dX11_counter_1 rfl (fun h9 => absurd h9 h1) (fun c_1 => ?_)
  refine z_iload_n B dX11_counter_4 rfl 1 rfl ?_
  refine z_bipush (v := 9) B dX11_counter_5 rfl ?_
  refine z_icmp_lt (tgt := 18) B dX11_counter_7 rfl (fun c_2 => ?_) (fun h9 => absurd h2 h9)
  refine z_aload_n B dX11_counter_18 rfl 0 rfl ?_
  refine z_get (ref := "FlowExporter") (C := RX11) (T := TX11) (N := 8) (ci := 13) (v := .ref (x + 132)) B (by decide +kernel) rfl 6 (by decide) (by decide +kernel) rfl hc0_ rfl dX11_counter_19 ?_
  refine z_get (ref := "FlowExporter$Collector") (C := RX0) (T := TX0) (N := 12) (ci := 2) (v := .ref (x + 139)) B (by decide +kernel) rfl 7 (by decide) (by decide +kernel) rfl hc132_ rfl dX11_counter_22 ?_
  refine z_iload_n B dX11_counter_25 rfl 1 rfl ?_
  refine z_lald B hc139_ (i_in (n := 9) h1 h2 (by decide)) dX11_counter_26 ?_
  refine z_top (st1 := [.long 0]) rfl ?_
  exact z_ret_l B dX11_counter_27 ⟨rfl, fun b9 h9 => rfl⟩

set_option maxHeartbeats 4000000 in
set_option maxRecDepth 100000 in
theorem f_X11_counter_x (G : EnvG) (l : Launch) (hl9 : l.stackTraces = false) (Φ : Hm) (sz : Nat) (x : Nat) (a : Int32) (ha : ¬ (¬ a < 0 ∧ a < 9)) : CtX G l yX11_counter wsX11_counter ({ frames := 6, cells := 1, slots := 6, locals := 81 }) 1 6 [.ref x, .int a] Φ sz xIA := by
  refine CtX.of (cc := cX11_counter) (maxL := 2) (ret := (some .long)) (by decide) rfl (Nat.le_of_ble_eq_true rfl) ?_
  intro p9 e9 s9 m9 w9 t9 k9 B htab9
  show Z p9 l e9 _ s9 m9 _ w9 t9 k9 _ G 2 0 [(0, .ref x), (1, .int a)] [] Φ sz 0 0
  refine z_iload_n B dX11_counter_0 rfl 1 rfl ?_
  refine z_if_lt (tgt := 10) B dX11_counter_1 rfl (fun c_1 => ?_) (fun c_1 => ?_)
  · exact z_throw (cls := xIA) (ik := 116) (ic := 118) B hl9 htab9 (by decide) (by decide +kernel) (by decide +kernel) (by decide +kernel) (by decide +kernel) (by decide +kernel) (by decide +kernel) (by decide +kernel) dX11_counter_10 dX11_counter_13 dX11_counter_14 dX11_counter_17 ⟨Nat.le_of_ble_eq_true rfl, Nat.le_of_ble_eq_true rfl, Nat.le_of_ble_eq_true rfl, Nat.le_of_ble_eq_true rfl⟩ ⟨Nat.le_of_ble_eq_true rfl, Nat.le_of_ble_eq_true rfl⟩
  · refine z_iload_n B dX11_counter_4 rfl 1 rfl ?_
    refine z_bipush (v := 9) B dX11_counter_5 rfl ?_
    refine z_icmp_lt (tgt := 18) B dX11_counter_7 rfl (fun h9 => absurd h9 (fun h8 => ha ⟨c_1, h8⟩)) (fun c_2 => ?_)
    exact z_throw (cls := xIA) (ik := 116) (ic := 118) B hl9 htab9 (by decide) (by decide +kernel) (by decide +kernel) (by decide +kernel) (by decide +kernel) (by decide +kernel) (by decide +kernel) (by decide +kernel) dX11_counter_10 dX11_counter_13 dX11_counter_14 dX11_counter_17 ⟨Nat.le_of_ble_eq_true rfl, Nat.le_of_ble_eq_true rfl, Nat.le_of_ble_eq_true rfl, Nat.le_of_ble_eq_true rfl⟩ ⟨Nat.le_of_ble_eq_true rfl, Nat.le_of_ble_eq_true rfl⟩

set_option maxHeartbeats 4000000 in
set_option maxRecDepth 100000 in
theorem f_X11_templateAge_x (G : EnvG) (l : Launch) (hl9 : l.stackTraces = false) (Φ : Hm) (sz : Nat) (x : Nat) (a : Int32) (ha : ¬ (¬ a < 0 ∧ a < 4)) : CtX G l yX11_templateAge wsX11_templateAge ({ frames := 6, cells := 1, slots := 6, locals := 81 }) 1 6 [.ref x, .int a] Φ sz xIA := by
  refine CtX.of (cc := cX11_templateAge) (maxL := 2) (ret := (some .int)) (by decide) rfl (Nat.le_of_ble_eq_true rfl) ?_
  intro p9 e9 s9 m9 w9 t9 k9 B htab9
  show Z p9 l e9 _ s9 m9 _ w9 t9 k9 _ G 2 0 [(0, .ref x), (1, .int a)] [] Φ sz 0 0
  refine z_iload_n B dX11_templateAge_0 rfl 1 rfl ?_
  refine z_if_lt (tgt := 9) B dX11_templateAge_1 rfl (fun c_1 => ?_) (fun c_1 => ?_)
  · exact z_throw (cls := xIA) (ik := 116) (ic := 118) B hl9 htab9 (by decide) (by decide +kernel) (by decide +kernel) (by decide +kernel) (by decide +kernel) (by decide +kernel) (by decide +kernel) (by decide +kernel) dX11_templateAge_9 dX11_templateAge_12 dX11_templateAge_13 dX11_templateAge_16 ⟨Nat.le_of_ble_eq_true rfl, Nat.le_of_ble_eq_true rfl, Nat.le_of_ble_eq_true rfl, Nat.le_of_ble_eq_true rfl⟩ ⟨Nat.le_of_ble_eq_true rfl, Nat.le_of_ble_eq_true rfl⟩
  · refine z_iload_n B dX11_templateAge_4 rfl 1 rfl ?_
    refine z_iconst (v := 4) B dX11_templateAge_5 rfl ?_
    refine z_icmp_lt (tgt := 17) B dX11_templateAge_6 rfl (fun h9 => absurd h9 (fun h8 => ha ⟨c_1, h8⟩)) (fun c_2 => ?_)
    exact z_throw (cls := xIA) (ik := 116) (ic := 118) B hl9 htab9 (by decide) (by decide +kernel) (by decide +kernel) (by decide +kernel) (by decide +kernel) (by decide +kernel) (by decide +kernel) (by decide +kernel) dX11_templateAge_9 dX11_templateAge_12 dX11_templateAge_13 dX11_templateAge_16 ⟨Nat.le_of_ble_eq_true rfl, Nat.le_of_ble_eq_true rfl, Nat.le_of_ble_eq_true rfl, Nat.le_of_ble_eq_true rfl⟩ ⟨Nat.le_of_ble_eq_true rfl, Nat.le_of_ble_eq_true rfl⟩

set_option maxHeartbeats 4000000 in
set_option maxRecDepth 100000 in
theorem f_X11_requireWhat_x (G : EnvG) (l : Launch) (hl9 : l.stackTraces = false) (Φ : Hm) (sz : Nat) (x : Nat) (w : Int32) (hw : ¬ (w = 0 ∨ w = 1)) : CtX G l yX11_requireWhat wsX11_requireWhat ({ frames := 6, cells := 1, slots := 6, locals := 81 }) 1 6 [.int w] Φ sz xIA := by
  refine CtX.of (cc := cX11_requireWhat) (maxL := 1) (ret := none) (by decide) rfl (Nat.le_of_ble_eq_true rfl) ?_
  intro p9 e9 s9 m9 w9 t9 k9 B htab9
  show Z p9 l e9 _ s9 m9 _ w9 t9 k9 _ G 1 0 [(0, .int w)] [] Φ sz 0 0
  refine z_iload_n B dX11_requireWhat_0 rfl 0 rfl ?_
  refine z_if_eq (tgt := 17) B dX11_requireWhat_1 rfl (fun h9 => absurd h9 (fun h8 => hw (Or.inl h8))) (fun c_1 => ?_)
  refine z_iload_n B dX11_requireWhat_4 rfl 0 rfl ?_
  refine z_iconst (v := 1) B dX11_requireWhat_5 rfl ?_
  refine z_icmp_eq (tgt := 17) B dX11_requireWhat_6 rfl (fun h9 => absurd h9 (fun h8 => hw (Or.inr h8))) (fun c_2 => ?_)
  exact z_throw (cls := xIA) (ik := 116) (ic := 118) B hl9 htab9 (by decide) (by decide +kernel) (by decide +kernel) (by decide +kernel) (by decide +kernel) (by decide +kernel) (by decide +kernel) (by decide +kernel) dX11_requireWhat_9 dX11_requireWhat_12 dX11_requireWhat_13 dX11_requireWhat_16 ⟨Nat.le_of_ble_eq_true rfl, Nat.le_of_ble_eq_true rfl, Nat.le_of_ble_eq_true rfl, Nat.le_of_ble_eq_true rfl⟩ ⟨Nat.le_of_ble_eq_true rfl, Nat.le_of_ble_eq_true rfl⟩

set_option maxHeartbeats 4000000 in
set_option maxRecDepth 100000 in
theorem f_X11_requireWhat_0 (G : EnvG) (l : Launch) (Φ : Hm) (sz : Nat) (x : Nat)  : Ct G l yX11_requireWhat wsX11_requireWhat ({ frames := 0, cells := 0, slots := 0, locals := 0 }) 0 0 [.int 0] Φ sz (fun v Φ1 sz1 => v = none ∧ sz1 = sz ∧ (∀ b9 : Nat, Φ1 b9 = Φ b9)) := by
  refine Ct.of (cc := cX11_requireWhat) (maxL := 1) (ret := none) (by decide) rfl (Nat.le_of_ble_eq_true rfl) ?_
  intro p9 e9 s9 m9 w9 t9 k9 B
  show Z p9 l e9 _ s9 m9 _ w9 t9 k9 _ G 1 0 [(0, .int 0)] [] Φ sz 0 0
  refine z_iload_n B dX11_requireWhat_0 rfl 0 rfl ?_
  refine z_if_eq (tgt := 17) B dX11_requireWhat_1 rfl (fun c_1 => ?_) (fun h9 => absurd (by decide) h9)
  exact z_ret_v B dX11_requireWhat_17 ⟨rfl, rfl, (fun b9 => rfl)⟩

set_option maxHeartbeats 4000000 in
set_option maxRecDepth 100000 in
theorem f_X11_requireWhat_1 (G : EnvG) (l : Launch) (Φ : Hm) (sz : Nat) (x : Nat)  : Ct G l yX11_requireWhat wsX11_requireWhat ({ frames := 0, cells := 0, slots := 0, locals := 0 }) 0 0 [.int 1] Φ sz (fun v Φ1 sz1 => v = none ∧ sz1 = sz ∧ (∀ b9 : Nat, Φ1 b9 = Φ b9)) := by
  refine Ct.of (cc := cX11_requireWhat) (maxL := 1) (ret := none) (by decide) rfl (Nat.le_of_ble_eq_true rfl) ?_
  intro p9 e9 s9 m9 w9 t9 k9 B
  show Z p9 l e9 _ s9 m9 _ w9 t9 k9 _ G 1 0 [(0, .int 1)] [] Φ sz 0 0
  refine z_iload_n B dX11_requireWhat_0 rfl 0 rfl ?_
  refine z_if_eq (tgt := 17) B dX11_requireWhat_1 rfl (fun h9 => absurd h9 (by decide)) (fun c_1 => ?_)
  refine z_iload_n B dX11_requireWhat_4 rfl 0 rfl ?_
  refine z_iconst (v := 1) B dX11_requireWhat_5 rfl ?_
  refine z_icmp_eq (tgt := 17) B dX11_requireWhat_6 rfl (fun c_2 => ?_) (fun h9 => absurd (by decide) h9)
  exact z_ret_v B dX11_requireWhat_17 ⟨rfl, rfl, (fun b9 => rfl)⟩

set_option maxHeartbeats 4000000 in
set_option maxRecDepth 100000 in
theorem f_X9_root_0 (G : EnvG) (l : Launch) (Φ : Hm) (sz : Nat) (x : Nat)  : Ct G l yX9_root wsX9_root ({ frames := 0, cells := 0, slots := 0, locals := 0 }) 0 0 [.double FP.dconst0] Φ sz (fun v Φ1 sz1 => v = some (.double FP.dconst0) ∧ sz1 = sz ∧ (∀ b9 : Nat, Φ1 b9 = Φ b9)) := by
  refine Ct.of (cc := cX9_root) (maxL := 6) (ret := (some .double)) (by decide) rfl (Nat.le_of_ble_eq_true rfl) ?_
  intro p9 e9 s9 m9 w9 t9 k9 B
  show Z p9 l e9 _ s9 m9 _ w9 t9 k9 _ G 6 0 [(0, .double FP.dconst0)] [] Φ sz 0 0
  refine z_dload_n B dX9_root_0 rfl 0 rfl ?_
  refine z_dconst0 B dX9_root_1 ?_
  refine z_dcmp B dX9_root_2 ?_
  refine z_if_gt (tgt := 8) B dX9_root_3 rfl (fun h9 => absurd h9 (by decide +kernel)) (fun c_1 => ?_)
  refine z_dconst0 B dX9_root_6 ?_
  exact z_ret_d B dX9_root_7 ⟨rfl, rfl, (fun b9 => rfl)⟩

set_option maxHeartbeats 4000000 in
set_option maxRecDepth 100000 in
theorem f_X9_margin_0 (G : EnvG) (l : Launch) (Φ : Hm) (sz : Nat) (x : Nat)  : Ct G l yX9_margin wsX9_margin ({ frames := 1, cells := 0, slots := 0, locals := 25 }) 0 0 [.double FP.dconst0] Φ sz (fun v Φ1 sz1 => v = some (.double (FP.dmul 4611505874442293084 FP.dconst0)) ∧ sz1 = sz ∧ (∀ b9 : Nat, Φ1 b9 = Φ b9)) := by
  refine Ct.of (cc := cX9_margin) (maxL := 2) (ret := (some .double)) (by decide) rfl (Nat.le_of_ble_eq_true rfl) ?_
  intro p9 e9 s9 m9 w9 t9 k9 B
  show Z p9 l e9 _ s9 m9 _ w9 t9 k9 _ G 2 0 [(0, .double FP.dconst0)] [] Φ sz 0 0
  refine z_ldc2d (v := 4611505874442293084) B (by decide +kernel) dX9_margin_0 ?_
  refine z_dload_n B dX9_margin_3 rfl 0 rfl ?_
  refine z_callS (As := [.double FP.dconst0]) (rest := [.double 4611505874442293084]) B (f_X9_root_0 G l Φ sz x ) (va_cwS 1 B.1.2.2.2.2 gX9_margin_X9_root rfl rfl rfl (by decide +kernel) ⟨Nat.le_of_ble_eq_true rfl, Nat.le_of_ble_eq_true rfl⟩) rfl rfl (Nat.le_of_ble_eq_true rfl) dX9_margin_4 ⟨Nat.le_of_ble_eq_true rfl, Nat.le_of_ble_eq_true rfl⟩ (fun v1 Φ1 sz1 st1 hp1 hs1 => ?_)
  obtain ⟨rfl, hq1, fr1⟩ := hp1
  replace hq1 : sz1 = sz := hq1
  subst sz1
  replace hs1 : st1 = [.double FP.dconst0, .double 4611505874442293084] := hs1
  subst st1
  refine z_dmul B dX9_margin_7 (by unfold vf_n64; decide +kernel) ?_
  exact z_ret_d B dX9_margin_8 ⟨rfl, rfl, (fun b9 => ((fr1 b9).trans rfl))⟩

set_option maxHeartbeats 4000000 in
set_option maxRecDepth 100000 in
theorem f_X9_estimateOfAll (G : EnvG) (l : Launch) (Φ : Hm) (sz : Nat) (x : Nat) (w : Int32) (hc121_ : Φ (x + 121) = some (o_ 11 [.ref (x + 122), .ref (x + 123), .ref (x + 126), .ref (x + 129), .int 0])) : Ct G l yX9_estimateOfAll wsX9_estimateOfAll ({ frames := 0, cells := 0, slots := 0, locals := 0 }) 0 0 [.ref (x + 121), .int w] Φ sz (fun v Φ1 sz1 => v = some (.long 0) ∧ sz1 = sz ∧ (∀ b9 : Nat, Φ1 b9 = Φ b9)) := by
  refine Ct.of (cc := cX9_estimateOfAll) (maxL := 5) (ret := (some .long)) (by decide) rfl (Nat.le_of_ble_eq_true rfl) ?_
  intro p9 e9 s9 m9 w9 t9 k9 B
  show Z p9 l e9 _ s9 m9 _ w9 t9 k9 _ G 5 0 [(0, .ref (x + 121)), (1, .int w)] [] Φ sz 0 0
  refine z_lconst (v := 0) B dX9_estimateOfAll_0 rfl ?_
  refine z_lstore_n (lv' := [(2, .long 0), (0, .ref (x + 121)), (1, .int w)]) B dX9_estimateOfAll_1 rfl (Nat.le_of_ble_eq_true rfl) rfl ?_
  refine z_iconst (v := 0) B dX9_estimateOfAll_2 rfl ?_
  refine z_istore (lv' := [(4, .int 0), (2, .long 0), (0, .ref (x + 121)), (1, .int w)]) B dX9_estimateOfAll_3 (Nat.le_of_ble_eq_true rfl) rfl ?_
  refine z_iload B dX9_estimateOfAll_5 0 rfl ?_
  refine z_aload_n B dX9_estimateOfAll_7 rfl 2 rfl ?_
  refine z_get (ref := "FlowExporter$Sums") (C := RX9) (T := TX9) (N := 5) (ci := 11) (v := .int 0) B (by decide +kernel) rfl 4 (by decide) (by decide +kernel) rfl hc121_ rfl dX9_estimateOfAll_8 ?_
  refine z_icmp_ge (tgt := 32) B dX9_estimateOfAll_11 rfl (fun c_1 => ?_) (fun h9 => absurd (by decide) h9)
  refine z_lload_n B dX9_estimateOfAll_32 rfl 1 rfl ?_
  exact z_ret_l B dX9_estimateOfAll_33 ⟨rfl, rfl, (fun b9 => rfl)⟩

set_option maxHeartbeats 4000000 in
set_option maxRecDepth 100000 in
theorem f_X9_marginOfAll (G : EnvG) (l : Launch) (Φ : Hm) (sz : Nat) (x : Nat) (w : Int32) (hc121_ : Φ (x + 121) = some (o_ 11 [.ref (x + 122), .ref (x + 123), .ref (x + 126), .ref (x + 129), .int 0])) : Ct G l yX9_marginOfAll wsX9_marginOfAll ({ frames := 2, cells := 0, slots := 0, locals := 46 }) 0 0 [.ref (x + 121), .int w] Φ sz (fun v Φ1 sz1 => v = some (.double (FP.dmul 4611505874442293084 FP.dconst0)) ∧ sz1 = sz ∧ (∀ b9 : Nat, Φ1 b9 = Φ b9)) := by
  refine Ct.of (cc := cX9_marginOfAll) (maxL := 5) (ret := (some .double)) (by decide) rfl (Nat.le_of_ble_eq_true rfl) ?_
  intro p9 e9 s9 m9 w9 t9 k9 B
  show Z p9 l e9 _ s9 m9 _ w9 t9 k9 _ G 5 0 [(0, .ref (x + 121)), (1, .int w)] [] Φ sz 0 0
  refine z_dconst0 B dX9_marginOfAll_0 ?_
  refine z_dstore_n (lv' := [(2, .double FP.dconst0), (0, .ref (x + 121)), (1, .int w)]) B dX9_marginOfAll_1 rfl (Nat.le_of_ble_eq_true rfl) rfl ?_
  refine z_iconst (v := 0) B dX9_marginOfAll_2 rfl ?_
  refine z_istore (lv' := [(4, .int 0), (2, .double FP.dconst0), (0, .ref (x + 121)), (1, .int w)]) B dX9_marginOfAll_3 (Nat.le_of_ble_eq_true rfl) rfl ?_
  refine z_iload B dX9_marginOfAll_5 0 rfl ?_
  refine z_aload_n B dX9_marginOfAll_7 rfl 2 rfl ?_
  refine z_get (ref := "FlowExporter$Sums") (C := RX9) (T := TX9) (N := 5) (ci := 11) (v := .int 0) B (by decide +kernel) rfl 4 (by decide) (by decide +kernel) rfl hc121_ rfl dX9_marginOfAll_8 ?_
  refine z_icmp_ge (tgt := 32) B dX9_marginOfAll_11 rfl (fun c_1 => ?_) (fun h9 => absurd (by decide) h9)
  refine z_dload_n B dX9_marginOfAll_32 rfl 1 rfl ?_
  refine z_callS (As := [.double FP.dconst0]) (rest := []) B (f_X9_margin_0 G l Φ sz x ) (va_cwS 1 B.1.2.2.2.2 gX9_marginOfAll_X9_margin rfl rfl rfl (by decide +kernel) ⟨Nat.le_of_ble_eq_true rfl, Nat.le_of_ble_eq_true rfl⟩) rfl rfl (Nat.le_of_ble_eq_true rfl) dX9_marginOfAll_33 ⟨Nat.le_of_ble_eq_true rfl, Nat.le_of_ble_eq_true rfl⟩ (fun v1 Φ1 sz1 st1 hp1 hs1 => ?_)
  obtain ⟨rfl, hq1, fr1⟩ := hp1
  replace hq1 : sz1 = sz := hq1
  subst sz1
  replace hs1 : st1 = [.double (FP.dmul 4611505874442293084 FP.dconst0)] := hs1
  subst st1
  exact z_ret_d B dX9_marginOfAll_36 ⟨rfl, rfl, (fun b9 => ((fr1 b9).trans rfl))⟩

set_option maxHeartbeats 4000000 in
set_option maxRecDepth 100000 in
theorem f_X9_indexWithRank (G : EnvG) (l : Launch) (Φ : Hm) (sz : Nat) (x : Nat) (a : Int32) (w : Int32) (hc121_ : Φ (x + 121) = some (o_ 11 [.ref (x + 122), .ref (x + 123), .ref (x + 126), .ref (x + 129), .int 0])) : Ct G l yX9_indexWithRank wsX9_indexWithRank ({ frames := 0, cells := 0, slots := 0, locals := 0 }) 0 0 [.ref (x + 121), .int a, .int w] Φ sz (fun v Φ1 sz1 => v = some (.int (-1)) ∧ sz1 = sz ∧ (∀ b9 : Nat, Φ1 b9 = Φ b9)) := by
  refine Ct.of (cc := cX9_indexWithRank) (maxL := 4) (ret := (some .int)) (by decide) rfl (Nat.le_of_ble_eq_true rfl) ?_
  intro p9 e9 s9 m9 w9 t9 k9 B
  show Z p9 l e9 _ s9 m9 _ w9 t9 k9 _ G 4 0 [(0, .ref (x + 121)), (1, .int a), (2, .int w)] [] Φ sz 0 0
  refine z_iconst (v := 0) B dX9_indexWithRank_0 rfl ?_
  refine z_istore_n (lv' := [(3, .int 0), (0, .ref (x + 121)), (1, .int a), (2, .int w)]) B dX9_indexWithRank_1 rfl (Nat.le_of_ble_eq_true rfl) rfl ?_
  refine z_iload_n B dX9_indexWithRank_2 rfl 0 rfl ?_
  refine z_aload_n B dX9_indexWithRank_3 rfl 1 rfl ?_
  refine z_get (ref := "FlowExporter$Sums") (C := RX9) (T := TX9) (N := 5) (ci := 11) (v := .int 0) B (by decide +kernel) rfl 4 (by decide) (by decide +kernel) rfl hc121_ rfl dX9_indexWithRank_4 ?_
  refine z_icmp_ge (tgt := 28) B dX9_indexWithRank_7 rfl (fun c_1 => ?_) (fun h9 => absurd (by decide) h9)
  refine z_iconst (v := (-1)) B dX9_indexWithRank_28 rfl ?_
  exact z_ret_i B dX9_indexWithRank_29 ⟨rfl, rfl, (fun b9 => rfl)⟩

set_option maxHeartbeats 4000000 in
set_option maxRecDepth 100000 in
theorem f_X11_truth_0 (G : EnvG) (l : Launch) (Φ : Hm) (sz : Nat) (x : Nat) (a : Int32) (b : Int32) (c : Int32) (d : Int32) (hc0_ : Φ x = some (o_ 13 [.ref (x + 1), .ref (x + 3), .ref (x + 24), .ref (x + 46), .ref (x + 74), .ref (x + 80), .ref (x + 132), .ref (x + 121)])) (hc80_ : Φ (x + 80) = some (o_ 4 [.ref (x + 3), .ref (x + 74), .ref (x + 81), .ref (x + 95), .int 0, .int 1, .int 1, .int 0, .int 0, .int 0, .long 0, .long 0, .long 0])) (hc95_ : Φ (x + 95) = some (o_ 6 [.ref (x + 96), .int 0])) : Ct G l yX11_truth wsX11_truth ({ frames := 2, cells := 0, slots := 0, locals := 47 }) 0 0 [.ref x, .int a, .int b, .int c, .int d, .int 0] Φ sz (fun v Φ1 sz1 => v = some (.long 0) ∧ ∀ b9 : Nat, x + 149 ≤ b9 → Φ1 b9 = Φ b9) := by
  refine Ct.of (cc := cX11_truth) (maxL := 6) (ret := (some .long)) (by decide) rfl (Nat.le_of_ble_eq_true rfl) ?_
  intro p9 e9 s9 m9 w9 t9 k9 B
  show Z p9 l e9 _ s9 m9 _ w9 t9 k9 _ G 6 0 [(0, .ref x), (1, .int a), (2, .int b), (3, .int c), (4, .int d), (5, .int 0)] [] Φ sz 0 0
  refine z_iload B dX11_truth_0 5 rfl ?_
  refine z_callS (As := [.int 0]) (rest := []) B (f_X11_requireWhat_0 G l Φ sz x ) (va_cwS 1 B.1.2.2.2.2 gX11_truth_X11_requireWhat rfl rfl rfl (by decide +kernel) ⟨Nat.le_of_ble_eq_true rfl, Nat.le_of_ble_eq_true rfl⟩) rfl rfl (Nat.le_of_ble_eq_true rfl) dX11_truth_2 ⟨Nat.le_of_ble_eq_true rfl, Nat.le_of_ble_eq_true rfl⟩ (fun v1 Φ1 sz1 st1 hp1 hs1 => ?_)
  obtain ⟨rfl, hq1, fr1⟩ := hp1
  replace hq1 : sz1 = sz := hq1
  subst sz1
  replace hs1 : st1 = [] := hs1
  subst st1
  refine z_aload_n B dX11_truth_5 rfl 0 rfl ?_
  have h_1 : Φ1 x = some (o_ 13 [.ref (x + 1), .ref (x + 3), .ref (x + 24), .ref (x + 46), .ref (x + 74), .ref (x + 80), .ref (x + 132), .ref (x + 121)]) := ((fr1 x).trans hc0_)
  refine z_get (ref := "FlowExporter") (C := RX11) (T := TX11) (N := 8) (ci := 13) (v := .ref (x + 80)) B (by decide +kernel) rfl 5 (by decide) (by decide +kernel) rfl h_1 rfl dX11_truth_6 ?_
  refine z_iload_n B dX11_truth_9 rfl 1 rfl ?_
  refine z_iload_n B dX11_truth_10 rfl 2 rfl ?_
  refine z_iload_n B dX11_truth_11 rfl 3 rfl ?_
  refine z_iload B dX11_truth_12 4 rfl ?_
  refine z_callS (As := [.int a, .int b, .int c, .int d]) (rest := [.ref (x + 80)]) B (c_X3_keyOf G l Φ1 sz a b c d ) (va_cwS 4 B.1.2.2.2.2 gX11_truth_X3_keyOf rfl rfl rfl (by decide +kernel) ⟨Nat.le_of_ble_eq_true rfl, Nat.le_of_ble_eq_true rfl⟩) rfl rfl (Nat.le_of_ble_eq_true rfl) dX11_truth_14 ⟨Nat.le_of_ble_eq_true rfl, Nat.le_of_ble_eq_true rfl⟩ (fun v2 Φ2 sz2 st2 hp2 hs2 => ?_)
  obtain ⟨rfl, hq2, fr2⟩ := hp2
  replace hq2 : sz2 = sz := hq2
  subst sz2
  replace hs2 : st2 = [.long (kOf a b c d), .ref (x + 80)] := hs2
  subst st2
  refine z_iload B dX11_truth_17 5 rfl ?_
  have h_2 : Φ2 (x + 80) = some (o_ 4 [.ref (x + 3), .ref (x + 74), .ref (x + 81), .ref (x + 95), .int 0, .int 1, .int 1, .int 0, .int 0, .int 0, .long 0, .long 0, .long 0]) := ((fr2 (x + 80)).trans ((fr1 (x + 80)).trans hc80_))
  have h_3 : Φ2 (x + 95) = some (o_ 6 [.ref (x + 96), .int 0]) := ((fr2 (x + 95)).trans ((fr1 (x + 95)).trans hc95_))
  refine z_callV (As := [.long (kOf a b c d), .int 0]) (rest := []) B (f_X2_trueValue G l Φ2 sz x (kOf a b c d) 0 h_2 h_3) (cwV 2 B.1.2.2.2.2 gX11_truth_X2_trueValue rfl rfl rfl (by decide +kernel) ⟨Nat.le_of_ble_eq_true rfl, Nat.le_of_ble_eq_true rfl⟩) h_2 rfl rfl rfl rfl (Nat.le_of_ble_eq_true rfl) dX11_truth_19 ⟨Nat.le_of_ble_eq_true rfl, Nat.le_of_ble_eq_true rfl⟩ (fun v3 Φ3 sz3 st3 hp3 hs3 => ?_)
  obtain ⟨rfl, hq3, fr3⟩ := hp3
  replace hq3 : sz3 = sz := hq3
  subst sz3
  replace hs3 : st3 = [.long 0] := hs3
  subst st3
  exact z_ret_l B dX11_truth_22 ⟨rfl, fun b9 h9 => ((fr3 b9).trans ((fr2 b9).trans ((fr1 b9).trans rfl)))⟩

set_option maxHeartbeats 4000000 in
set_option maxRecDepth 100000 in
theorem f_X11_truth_1 (G : EnvG) (l : Launch) (Φ : Hm) (sz : Nat) (x : Nat) (a : Int32) (b : Int32) (c : Int32) (d : Int32) (hc0_ : Φ x = some (o_ 13 [.ref (x + 1), .ref (x + 3), .ref (x + 24), .ref (x + 46), .ref (x + 74), .ref (x + 80), .ref (x + 132), .ref (x + 121)])) (hc80_ : Φ (x + 80) = some (o_ 4 [.ref (x + 3), .ref (x + 74), .ref (x + 81), .ref (x + 95), .int 0, .int 1, .int 1, .int 0, .int 0, .int 0, .long 0, .long 0, .long 0])) (hc95_ : Φ (x + 95) = some (o_ 6 [.ref (x + 96), .int 0])) : Ct G l yX11_truth wsX11_truth ({ frames := 2, cells := 0, slots := 0, locals := 47 }) 0 0 [.ref x, .int a, .int b, .int c, .int d, .int 1] Φ sz (fun v Φ1 sz1 => v = some (.long 0) ∧ ∀ b9 : Nat, x + 149 ≤ b9 → Φ1 b9 = Φ b9) := by
  refine Ct.of (cc := cX11_truth) (maxL := 6) (ret := (some .long)) (by decide) rfl (Nat.le_of_ble_eq_true rfl) ?_
  intro p9 e9 s9 m9 w9 t9 k9 B
  show Z p9 l e9 _ s9 m9 _ w9 t9 k9 _ G 6 0 [(0, .ref x), (1, .int a), (2, .int b), (3, .int c), (4, .int d), (5, .int 1)] [] Φ sz 0 0
  refine z_iload B dX11_truth_0 5 rfl ?_
  refine z_callS (As := [.int 1]) (rest := []) B (f_X11_requireWhat_1 G l Φ sz x ) (va_cwS 1 B.1.2.2.2.2 gX11_truth_X11_requireWhat rfl rfl rfl (by decide +kernel) ⟨Nat.le_of_ble_eq_true rfl, Nat.le_of_ble_eq_true rfl⟩) rfl rfl (Nat.le_of_ble_eq_true rfl) dX11_truth_2 ⟨Nat.le_of_ble_eq_true rfl, Nat.le_of_ble_eq_true rfl⟩ (fun v1 Φ1 sz1 st1 hp1 hs1 => ?_)
  obtain ⟨rfl, hq1, fr1⟩ := hp1
  replace hq1 : sz1 = sz := hq1
  subst sz1
  replace hs1 : st1 = [] := hs1
  subst st1
  refine z_aload_n B dX11_truth_5 rfl 0 rfl ?_
  have h_1 : Φ1 x = some (o_ 13 [.ref (x + 1), .ref (x + 3), .ref (x + 24), .ref (x + 46), .ref (x + 74), .ref (x + 80), .ref (x + 132), .ref (x + 121)]) := ((fr1 x).trans hc0_)
  refine z_get (ref := "FlowExporter") (C := RX11) (T := TX11) (N := 8) (ci := 13) (v := .ref (x + 80)) B (by decide +kernel) rfl 5 (by decide) (by decide +kernel) rfl h_1 rfl dX11_truth_6 ?_
  refine z_iload_n B dX11_truth_9 rfl 1 rfl ?_
  refine z_iload_n B dX11_truth_10 rfl 2 rfl ?_
  refine z_iload_n B dX11_truth_11 rfl 3 rfl ?_
  refine z_iload B dX11_truth_12 4 rfl ?_
  refine z_callS (As := [.int a, .int b, .int c, .int d]) (rest := [.ref (x + 80)]) B (c_X3_keyOf G l Φ1 sz a b c d ) (va_cwS 4 B.1.2.2.2.2 gX11_truth_X3_keyOf rfl rfl rfl (by decide +kernel) ⟨Nat.le_of_ble_eq_true rfl, Nat.le_of_ble_eq_true rfl⟩) rfl rfl (Nat.le_of_ble_eq_true rfl) dX11_truth_14 ⟨Nat.le_of_ble_eq_true rfl, Nat.le_of_ble_eq_true rfl⟩ (fun v2 Φ2 sz2 st2 hp2 hs2 => ?_)
  obtain ⟨rfl, hq2, fr2⟩ := hp2
  replace hq2 : sz2 = sz := hq2
  subst sz2
  replace hs2 : st2 = [.long (kOf a b c d), .ref (x + 80)] := hs2
  subst st2
  refine z_iload B dX11_truth_17 5 rfl ?_
  have h_2 : Φ2 (x + 80) = some (o_ 4 [.ref (x + 3), .ref (x + 74), .ref (x + 81), .ref (x + 95), .int 0, .int 1, .int 1, .int 0, .int 0, .int 0, .long 0, .long 0, .long 0]) := ((fr2 (x + 80)).trans ((fr1 (x + 80)).trans hc80_))
  have h_3 : Φ2 (x + 95) = some (o_ 6 [.ref (x + 96), .int 0]) := ((fr2 (x + 95)).trans ((fr1 (x + 95)).trans hc95_))
  refine z_callV (As := [.long (kOf a b c d), .int 1]) (rest := []) B (f_X2_trueValue G l Φ2 sz x (kOf a b c d) 1 h_2 h_3) (cwV 2 B.1.2.2.2.2 gX11_truth_X2_trueValue rfl rfl rfl (by decide +kernel) ⟨Nat.le_of_ble_eq_true rfl, Nat.le_of_ble_eq_true rfl⟩) h_2 rfl rfl rfl rfl (Nat.le_of_ble_eq_true rfl) dX11_truth_19 ⟨Nat.le_of_ble_eq_true rfl, Nat.le_of_ble_eq_true rfl⟩ (fun v3 Φ3 sz3 st3 hp3 hs3 => ?_)
  obtain ⟨rfl, hq3, fr3⟩ := hp3
  replace hq3 : sz3 = sz := hq3
  subst sz3
  replace hs3 : st3 = [.long 0] := hs3
  subst st3
  exact z_ret_l B dX11_truth_22 ⟨rfl, fun b9 h9 => ((fr3 b9).trans ((fr2 b9).trans ((fr1 b9).trans rfl)))⟩

set_option maxHeartbeats 4000000 in
set_option maxRecDepth 100000 in
theorem f_X11_truth_x (G : EnvG) (l : Launch) (hl9 : l.stackTraces = false) (Φ : Hm) (sz : Nat) (x : Nat) (a : Int32) (b : Int32) (c : Int32) (d : Int32) (w : Int32) (hw : ¬ (w = 0 ∨ w = 1)) : CtX G l yX11_truth wsX11_truth ({ frames := 7, cells := 1, slots := 6, locals := 101 }) 1 6 [.ref x, .int a, .int b, .int c, .int d, .int w] Φ sz xIA := by
  refine CtX.of (cc := cX11_truth) (maxL := 6) (ret := (some .long)) (by decide) rfl (Nat.le_of_ble_eq_true rfl) ?_
  intro p9 e9 s9 m9 w9 t9 k9 B htab9
  show Z p9 l e9 _ s9 m9 _ w9 t9 k9 _ G 6 0 [(0, .ref x), (1, .int a), (2, .int b), (3, .int c), (4, .int d), (5, .int w)] [] Φ sz 0 0
  refine z_iload B dX11_truth_0 5 rfl ?_
  exact z_callSX (As := [.int w]) (rest := []) B htab9 (f_X11_requireWhat_x G l hl9 Φ sz x w hw) (va_cwS 1 B.1.2.2.2.2 gX11_truth_X11_requireWhat rfl rfl rfl (by decide +kernel) ⟨Nat.le_of_ble_eq_true rfl, Nat.le_of_ble_eq_true rfl⟩) rfl rfl (Nat.le_of_ble_eq_true rfl) dX11_truth_2 ⟨Nat.le_of_ble_eq_true rfl, Nat.le_of_ble_eq_true rfl⟩ ⟨Nat.le_of_ble_eq_true rfl, Nat.le_of_ble_eq_true rfl⟩

set_option maxHeartbeats 4000000 in
set_option maxRecDepth 100000 in
theorem f_X11_covered_0 (G : EnvG) (l : Launch) (Φ : Hm) (sz : Nat) (x : Nat) (hc0_ : Φ x = some (o_ 13 [.ref (x + 1), .ref (x + 3), .ref (x + 24), .ref (x + 46), .ref (x + 74), .ref (x + 80), .ref (x + 132), .ref (x + 121)])) (hc121_ : Φ (x + 121) = some (o_ 11 [.ref (x + 122), .ref (x + 123), .ref (x + 126), .ref (x + 129), .int 0])) : Ct G l yX11_covered wsX11_covered ({ frames := 1, cells := 0, slots := 0, locals := 20 }) 0 0 [.ref x, .int 0] Φ sz (fun v Φ1 sz1 => v = some (.int 0) ∧ ∀ b9 : Nat, x + 149 ≤ b9 → Φ1 b9 = Φ b9) := by
  refine Ct.of (cc := cX11_covered) (maxL := 6) (ret := (some .int)) (by decide) rfl (Nat.le_of_ble_eq_true rfl) ?_
  intro p9 e9 s9 m9 w9 t9 k9 B
  show Z p9 l e9 _ s9 m9 _ w9 t9 k9 _ G 6 0 [(0, .ref x), (1, .int 0)] [] Φ sz 0 0
  refine z_iload_n B dX11_covered_0 rfl 1 rfl ?_
  refine z_callS (As := [.int 0]) (rest := []) B (f_X11_requireWhat_0 G l Φ sz x ) (va_cwS 1 B.1.2.2.2.2 gX11_covered_X11_requireWhat rfl rfl rfl (by decide +kernel) ⟨Nat.le_of_ble_eq_true rfl, Nat.le_of_ble_eq_true rfl⟩) rfl rfl (Nat.le_of_ble_eq_true rfl) dX11_covered_1 ⟨Nat.le_of_ble_eq_true rfl, Nat.le_of_ble_eq_true rfl⟩ (fun v1 Φ1 sz1 st1 hp1 hs1 => ?_)
  obtain ⟨rfl, hq1, fr1⟩ := hp1
  replace hq1 : sz1 = sz := hq1
  subst sz1
  replace hs1 : st1 = [] := hs1
  subst st1
  refine z_iconst (v := 0) B dX11_covered_4 rfl ?_
  refine z_istore_n (lv' := [(2, .int 0), (0, .ref x), (1, .int 0)]) B dX11_covered_5 rfl (Nat.le_of_ble_eq_true rfl) rfl ?_
  refine z_iconst (v := 0) B dX11_covered_6 rfl ?_
  refine z_istore_n (lv' := [(3, .int 0), (2, .int 0), (0, .ref x), (1, .int 0)]) B dX11_covered_7 rfl (Nat.le_of_ble_eq_true rfl) rfl ?_
  refine z_iload_n B dX11_covered_8 rfl 0 rfl ?_
  refine z_aload_n B dX11_covered_9 rfl 2 rfl ?_
  have h_1 : Φ1 x = some (o_ 13 [.ref (x + 1), .ref (x + 3), .ref (x + 24), .ref (x + 46), .ref (x + 74), .ref (x + 80), .ref (x + 132), .ref (x + 121)]) := ((fr1 x).trans hc0_)
  refine z_get (ref := "FlowExporter") (C := RX11) (T := TX11) (N := 8) (ci := 13) (v := .ref (x + 121)) B (by decide +kernel) rfl 7 (by decide) (by decide +kernel) rfl h_1 rfl dX11_covered_10 ?_
  have h_2 : Φ1 (x + 121) = some (o_ 11 [.ref (x + 122), .ref (x + 123), .ref (x + 126), .ref (x + 129), .int 0]) := ((fr1 (x + 121)).trans hc121_)
  refine z_get (ref := "FlowExporter$Sums") (C := RX9) (T := TX9) (N := 5) (ci := 11) (v := .int 0) B (by decide +kernel) rfl 4 (by decide) (by decide +kernel) rfl h_2 rfl dX11_covered_13 ?_
  refine z_icmp_ge (tgt := 78) B dX11_covered_16 rfl (fun c_1 => ?_) (fun h9 => absurd (by decide) h9)
  refine z_iload_n B dX11_covered_78 rfl 1 rfl ?_
  exact z_ret_i B dX11_covered_79 ⟨rfl, fun b9 h9 => ((fr1 b9).trans rfl)⟩

set_option maxHeartbeats 4000000 in
set_option maxRecDepth 100000 in
theorem f_X11_covered_1 (G : EnvG) (l : Launch) (Φ : Hm) (sz : Nat) (x : Nat) (hc0_ : Φ x = some (o_ 13 [.ref (x + 1), .ref (x + 3), .ref (x + 24), .ref (x + 46), .ref (x + 74), .ref (x + 80), .ref (x + 132), .ref (x + 121)])) (hc121_ : Φ (x + 121) = some (o_ 11 [.ref (x + 122), .ref (x + 123), .ref (x + 126), .ref (x + 129), .int 0])) : Ct G l yX11_covered wsX11_covered ({ frames := 1, cells := 0, slots := 0, locals := 20 }) 0 0 [.ref x, .int 1] Φ sz (fun v Φ1 sz1 => v = some (.int 0) ∧ ∀ b9 : Nat, x + 149 ≤ b9 → Φ1 b9 = Φ b9) := by
  refine Ct.of (cc := cX11_covered) (maxL := 6) (ret := (some .int)) (by decide) rfl (Nat.le_of_ble_eq_true rfl) ?_
  intro p9 e9 s9 m9 w9 t9 k9 B
  show Z p9 l e9 _ s9 m9 _ w9 t9 k9 _ G 6 0 [(0, .ref x), (1, .int 1)] [] Φ sz 0 0
  refine z_iload_n B dX11_covered_0 rfl 1 rfl ?_
  refine z_callS (As := [.int 1]) (rest := []) B (f_X11_requireWhat_1 G l Φ sz x ) (va_cwS 1 B.1.2.2.2.2 gX11_covered_X11_requireWhat rfl rfl rfl (by decide +kernel) ⟨Nat.le_of_ble_eq_true rfl, Nat.le_of_ble_eq_true rfl⟩) rfl rfl (Nat.le_of_ble_eq_true rfl) dX11_covered_1 ⟨Nat.le_of_ble_eq_true rfl, Nat.le_of_ble_eq_true rfl⟩ (fun v1 Φ1 sz1 st1 hp1 hs1 => ?_)
  obtain ⟨rfl, hq1, fr1⟩ := hp1
  replace hq1 : sz1 = sz := hq1
  subst sz1
  replace hs1 : st1 = [] := hs1
  subst st1
  refine z_iconst (v := 0) B dX11_covered_4 rfl ?_
  refine z_istore_n (lv' := [(2, .int 0), (0, .ref x), (1, .int 1)]) B dX11_covered_5 rfl (Nat.le_of_ble_eq_true rfl) rfl ?_
  refine z_iconst (v := 0) B dX11_covered_6 rfl ?_
  refine z_istore_n (lv' := [(3, .int 0), (2, .int 0), (0, .ref x), (1, .int 1)]) B dX11_covered_7 rfl (Nat.le_of_ble_eq_true rfl) rfl ?_
  refine z_iload_n B dX11_covered_8 rfl 0 rfl ?_
  refine z_aload_n B dX11_covered_9 rfl 2 rfl ?_
  have h_1 : Φ1 x = some (o_ 13 [.ref (x + 1), .ref (x + 3), .ref (x + 24), .ref (x + 46), .ref (x + 74), .ref (x + 80), .ref (x + 132), .ref (x + 121)]) := ((fr1 x).trans hc0_)
  refine z_get (ref := "FlowExporter") (C := RX11) (T := TX11) (N := 8) (ci := 13) (v := .ref (x + 121)) B (by decide +kernel) rfl 7 (by decide) (by decide +kernel) rfl h_1 rfl dX11_covered_10 ?_
  have h_2 : Φ1 (x + 121) = some (o_ 11 [.ref (x + 122), .ref (x + 123), .ref (x + 126), .ref (x + 129), .int 0]) := ((fr1 (x + 121)).trans hc121_)
  refine z_get (ref := "FlowExporter$Sums") (C := RX9) (T := TX9) (N := 5) (ci := 11) (v := .int 0) B (by decide +kernel) rfl 4 (by decide) (by decide +kernel) rfl h_2 rfl dX11_covered_13 ?_
  refine z_icmp_ge (tgt := 78) B dX11_covered_16 rfl (fun c_1 => ?_) (fun h9 => absurd (by decide) h9)
  refine z_iload_n B dX11_covered_78 rfl 1 rfl ?_
  exact z_ret_i B dX11_covered_79 ⟨rfl, fun b9 h9 => ((fr1 b9).trans rfl)⟩

set_option maxHeartbeats 4000000 in
set_option maxRecDepth 100000 in
theorem f_X11_covered_x (G : EnvG) (l : Launch) (hl9 : l.stackTraces = false) (Φ : Hm) (sz : Nat) (x : Nat) (w : Int32) (hw : ¬ (w = 0 ∨ w = 1)) : CtX G l yX11_covered wsX11_covered ({ frames := 7, cells := 1, slots := 6, locals := 101 }) 1 6 [.ref x, .int w] Φ sz xIA := by
  refine CtX.of (cc := cX11_covered) (maxL := 6) (ret := (some .int)) (by decide) rfl (Nat.le_of_ble_eq_true rfl) ?_
  intro p9 e9 s9 m9 w9 t9 k9 B htab9
  show Z p9 l e9 _ s9 m9 _ w9 t9 k9 _ G 6 0 [(0, .ref x), (1, .int w)] [] Φ sz 0 0
  refine z_iload_n B dX11_covered_0 rfl 1 rfl ?_
  exact z_callSX (As := [.int w]) (rest := []) B htab9 (f_X11_requireWhat_x G l hl9 Φ sz x w hw) (va_cwS 1 B.1.2.2.2.2 gX11_covered_X11_requireWhat rfl rfl rfl (by decide +kernel) ⟨Nat.le_of_ble_eq_true rfl, Nat.le_of_ble_eq_true rfl⟩) rfl rfl (Nat.le_of_ble_eq_true rfl) dX11_covered_1 ⟨Nat.le_of_ble_eq_true rfl, Nat.le_of_ble_eq_true rfl⟩ ⟨Nat.le_of_ble_eq_true rfl, Nat.le_of_ble_eq_true rfl⟩

set_option maxHeartbeats 4000000 in
set_option maxRecDepth 100000 in
theorem f_X11_totalEstimate_0 (G : EnvG) (l : Launch) (Φ : Hm) (sz : Nat) (x : Nat) (hc0_ : Φ x = some (o_ 13 [.ref (x + 1), .ref (x + 3), .ref (x + 24), .ref (x + 46), .ref (x + 74), .ref (x + 80), .ref (x + 132), .ref (x + 121)])) (hc121_ : Φ (x + 121) = some (o_ 11 [.ref (x + 122), .ref (x + 123), .ref (x + 126), .ref (x + 129), .int 0])) : Ct G l yX11_totalEstimate wsX11_totalEstimate ({ frames := 1, cells := 0, slots := 0, locals := 24 }) 0 0 [.ref x, .int 0] Φ sz (fun v Φ1 sz1 => v = some (.long 0) ∧ ∀ b9 : Nat, x + 149 ≤ b9 → Φ1 b9 = Φ b9) := by
  refine Ct.of (cc := cX11_totalEstimate) (maxL := 2) (ret := (some .long)) (by decide) rfl (Nat.le_of_ble_eq_true rfl) ?_
  intro p9 e9 s9 m9 w9 t9 k9 B
  show Z p9 l e9 _ s9 m9 _ w9 t9 k9 _ G 2 0 [(0, .ref x), (1, .int 0)] [] Φ sz 0 0
  refine z_iload_n B dX11_totalEstimate_0 rfl 1 rfl ?_
  refine z_callS (As := [.int 0]) (rest := []) B (f_X11_requireWhat_0 G l Φ sz x ) (va_cwS 1 B.1.2.2.2.2 gX11_totalEstimate_X11_requireWhat rfl rfl rfl (by decide +kernel) ⟨Nat.le_of_ble_eq_true rfl, Nat.le_of_ble_eq_true rfl⟩) rfl rfl (Nat.le_of_ble_eq_true rfl) dX11_totalEstimate_1 ⟨Nat.le_of_ble_eq_true rfl, Nat.le_of_ble_eq_true rfl⟩ (fun v1 Φ1 sz1 st1 hp1 hs1 => ?_)
  obtain ⟨rfl, hq1, fr1⟩ := hp1
  replace hq1 : sz1 = sz := hq1
  subst sz1
  replace hs1 : st1 = [] := hs1
  subst st1
  refine z_aload_n B dX11_totalEstimate_4 rfl 0 rfl ?_
  have h_1 : Φ1 x = some (o_ 13 [.ref (x + 1), .ref (x + 3), .ref (x + 24), .ref (x + 46), .ref (x + 74), .ref (x + 80), .ref (x + 132), .ref (x + 121)]) := ((fr1 x).trans hc0_)
  refine z_get (ref := "FlowExporter") (C := RX11) (T := TX11) (N := 8) (ci := 13) (v := .ref (x + 121)) B (by decide +kernel) rfl 7 (by decide) (by decide +kernel) rfl h_1 rfl dX11_totalEstimate_5 ?_
  refine z_iload_n B dX11_totalEstimate_8 rfl 1 rfl ?_
  have h_2 : Φ1 (x + 121) = some (o_ 11 [.ref (x + 122), .ref (x + 123), .ref (x + 126), .ref (x + 129), .int 0]) := ((fr1 (x + 121)).trans hc121_)
  refine z_callV (As := [.int 0]) (rest := []) B (f_X9_estimateOfAll G l Φ1 sz x 0 h_2) (cwV 1 B.1.2.2.2.2 gX11_totalEstimate_X9_estimateOfAll rfl rfl rfl (by decide +kernel) ⟨Nat.le_of_ble_eq_true rfl, Nat.le_of_ble_eq_true rfl⟩) h_2 rfl rfl rfl rfl (Nat.le_of_ble_eq_true rfl) dX11_totalEstimate_9 ⟨Nat.le_of_ble_eq_true rfl, Nat.le_of_ble_eq_true rfl⟩ (fun v2 Φ2 sz2 st2 hp2 hs2 => ?_)
  obtain ⟨rfl, hq2, fr2⟩ := hp2
  replace hq2 : sz2 = sz := hq2
  subst sz2
  replace hs2 : st2 = [.long 0] := hs2
  subst st2
  exact z_ret_l B dX11_totalEstimate_12 ⟨rfl, fun b9 h9 => ((fr2 b9).trans ((fr1 b9).trans rfl))⟩

set_option maxHeartbeats 4000000 in
set_option maxRecDepth 100000 in
theorem f_X11_totalEstimate_1 (G : EnvG) (l : Launch) (Φ : Hm) (sz : Nat) (x : Nat) (hc0_ : Φ x = some (o_ 13 [.ref (x + 1), .ref (x + 3), .ref (x + 24), .ref (x + 46), .ref (x + 74), .ref (x + 80), .ref (x + 132), .ref (x + 121)])) (hc121_ : Φ (x + 121) = some (o_ 11 [.ref (x + 122), .ref (x + 123), .ref (x + 126), .ref (x + 129), .int 0])) : Ct G l yX11_totalEstimate wsX11_totalEstimate ({ frames := 1, cells := 0, slots := 0, locals := 24 }) 0 0 [.ref x, .int 1] Φ sz (fun v Φ1 sz1 => v = some (.long 0) ∧ ∀ b9 : Nat, x + 149 ≤ b9 → Φ1 b9 = Φ b9) := by
  refine Ct.of (cc := cX11_totalEstimate) (maxL := 2) (ret := (some .long)) (by decide) rfl (Nat.le_of_ble_eq_true rfl) ?_
  intro p9 e9 s9 m9 w9 t9 k9 B
  show Z p9 l e9 _ s9 m9 _ w9 t9 k9 _ G 2 0 [(0, .ref x), (1, .int 1)] [] Φ sz 0 0
  refine z_iload_n B dX11_totalEstimate_0 rfl 1 rfl ?_
  refine z_callS (As := [.int 1]) (rest := []) B (f_X11_requireWhat_1 G l Φ sz x ) (va_cwS 1 B.1.2.2.2.2 gX11_totalEstimate_X11_requireWhat rfl rfl rfl (by decide +kernel) ⟨Nat.le_of_ble_eq_true rfl, Nat.le_of_ble_eq_true rfl⟩) rfl rfl (Nat.le_of_ble_eq_true rfl) dX11_totalEstimate_1 ⟨Nat.le_of_ble_eq_true rfl, Nat.le_of_ble_eq_true rfl⟩ (fun v1 Φ1 sz1 st1 hp1 hs1 => ?_)
  obtain ⟨rfl, hq1, fr1⟩ := hp1
  replace hq1 : sz1 = sz := hq1
  subst sz1
  replace hs1 : st1 = [] := hs1
  subst st1
  refine z_aload_n B dX11_totalEstimate_4 rfl 0 rfl ?_
  have h_1 : Φ1 x = some (o_ 13 [.ref (x + 1), .ref (x + 3), .ref (x + 24), .ref (x + 46), .ref (x + 74), .ref (x + 80), .ref (x + 132), .ref (x + 121)]) := ((fr1 x).trans hc0_)
  refine z_get (ref := "FlowExporter") (C := RX11) (T := TX11) (N := 8) (ci := 13) (v := .ref (x + 121)) B (by decide +kernel) rfl 7 (by decide) (by decide +kernel) rfl h_1 rfl dX11_totalEstimate_5 ?_
  refine z_iload_n B dX11_totalEstimate_8 rfl 1 rfl ?_
  have h_2 : Φ1 (x + 121) = some (o_ 11 [.ref (x + 122), .ref (x + 123), .ref (x + 126), .ref (x + 129), .int 0]) := ((fr1 (x + 121)).trans hc121_)
  refine z_callV (As := [.int 1]) (rest := []) B (f_X9_estimateOfAll G l Φ1 sz x 1 h_2) (cwV 1 B.1.2.2.2.2 gX11_totalEstimate_X9_estimateOfAll rfl rfl rfl (by decide +kernel) ⟨Nat.le_of_ble_eq_true rfl, Nat.le_of_ble_eq_true rfl⟩) h_2 rfl rfl rfl rfl (Nat.le_of_ble_eq_true rfl) dX11_totalEstimate_9 ⟨Nat.le_of_ble_eq_true rfl, Nat.le_of_ble_eq_true rfl⟩ (fun v2 Φ2 sz2 st2 hp2 hs2 => ?_)
  obtain ⟨rfl, hq2, fr2⟩ := hp2
  replace hq2 : sz2 = sz := hq2
  subst sz2
  replace hs2 : st2 = [.long 0] := hs2
  subst st2
  exact z_ret_l B dX11_totalEstimate_12 ⟨rfl, fun b9 h9 => ((fr2 b9).trans ((fr1 b9).trans rfl))⟩

set_option maxHeartbeats 4000000 in
set_option maxRecDepth 100000 in
theorem f_X11_totalEstimate_x (G : EnvG) (l : Launch) (hl9 : l.stackTraces = false) (Φ : Hm) (sz : Nat) (x : Nat) (w : Int32) (hw : ¬ (w = 0 ∨ w = 1)) : CtX G l yX11_totalEstimate wsX11_totalEstimate ({ frames := 7, cells := 1, slots := 6, locals := 101 }) 1 6 [.ref x, .int w] Φ sz xIA := by
  refine CtX.of (cc := cX11_totalEstimate) (maxL := 2) (ret := (some .long)) (by decide) rfl (Nat.le_of_ble_eq_true rfl) ?_
  intro p9 e9 s9 m9 w9 t9 k9 B htab9
  show Z p9 l e9 _ s9 m9 _ w9 t9 k9 _ G 2 0 [(0, .ref x), (1, .int w)] [] Φ sz 0 0
  refine z_iload_n B dX11_totalEstimate_0 rfl 1 rfl ?_
  exact z_callSX (As := [.int w]) (rest := []) B htab9 (f_X11_requireWhat_x G l hl9 Φ sz x w hw) (va_cwS 1 B.1.2.2.2.2 gX11_totalEstimate_X11_requireWhat rfl rfl rfl (by decide +kernel) ⟨Nat.le_of_ble_eq_true rfl, Nat.le_of_ble_eq_true rfl⟩) rfl rfl (Nat.le_of_ble_eq_true rfl) dX11_totalEstimate_1 ⟨Nat.le_of_ble_eq_true rfl, Nat.le_of_ble_eq_true rfl⟩ ⟨Nat.le_of_ble_eq_true rfl, Nat.le_of_ble_eq_true rfl⟩

set_option maxHeartbeats 4000000 in
set_option maxRecDepth 100000 in
theorem f_X11_totalMargin_0 (G : EnvG) (l : Launch) (Φ : Hm) (sz : Nat) (x : Nat) (hc0_ : Φ x = some (o_ 13 [.ref (x + 1), .ref (x + 3), .ref (x + 24), .ref (x + 46), .ref (x + 74), .ref (x + 80), .ref (x + 132), .ref (x + 121)])) (hc121_ : Φ (x + 121) = some (o_ 11 [.ref (x + 122), .ref (x + 123), .ref (x + 126), .ref (x + 129), .int 0])) : Ct G l yX11_totalMargin wsX11_totalMargin ({ frames := 3, cells := 0, slots := 0, locals := 70 }) 0 0 [.ref x, .int 0] Φ sz (fun v Φ1 sz1 => v = some (.double (FP.dmul 4611505874442293084 FP.dconst0)) ∧ ∀ b9 : Nat, x + 149 ≤ b9 → Φ1 b9 = Φ b9) := by
  refine Ct.of (cc := cX11_totalMargin) (maxL := 2) (ret := (some .double)) (by decide) rfl (Nat.le_of_ble_eq_true rfl) ?_
  intro p9 e9 s9 m9 w9 t9 k9 B
  show Z p9 l e9 _ s9 m9 _ w9 t9 k9 _ G 2 0 [(0, .ref x), (1, .int 0)] [] Φ sz 0 0
  refine z_iload_n B dX11_totalMargin_0 rfl 1 rfl ?_
  refine z_callS (As := [.int 0]) (rest := []) B (f_X11_requireWhat_0 G l Φ sz x ) (va_cwS 1 B.1.2.2.2.2 gX11_totalMargin_X11_requireWhat rfl rfl rfl (by decide +kernel) ⟨Nat.le_of_ble_eq_true rfl, Nat.le_of_ble_eq_true rfl⟩) rfl rfl (Nat.le_of_ble_eq_true rfl) dX11_totalMargin_1 ⟨Nat.le_of_ble_eq_true rfl, Nat.le_of_ble_eq_true rfl⟩ (fun v1 Φ1 sz1 st1 hp1 hs1 => ?_)
  obtain ⟨rfl, hq1, fr1⟩ := hp1
  replace hq1 : sz1 = sz := hq1
  subst sz1
  replace hs1 : st1 = [] := hs1
  subst st1
  refine z_aload_n B dX11_totalMargin_4 rfl 0 rfl ?_
  have h_1 : Φ1 x = some (o_ 13 [.ref (x + 1), .ref (x + 3), .ref (x + 24), .ref (x + 46), .ref (x + 74), .ref (x + 80), .ref (x + 132), .ref (x + 121)]) := ((fr1 x).trans hc0_)
  refine z_get (ref := "FlowExporter") (C := RX11) (T := TX11) (N := 8) (ci := 13) (v := .ref (x + 121)) B (by decide +kernel) rfl 7 (by decide) (by decide +kernel) rfl h_1 rfl dX11_totalMargin_5 ?_
  refine z_iload_n B dX11_totalMargin_8 rfl 1 rfl ?_
  have h_2 : Φ1 (x + 121) = some (o_ 11 [.ref (x + 122), .ref (x + 123), .ref (x + 126), .ref (x + 129), .int 0]) := ((fr1 (x + 121)).trans hc121_)
  refine z_callV (As := [.int 0]) (rest := []) B (f_X9_marginOfAll G l Φ1 sz x 0 h_2) (cwV 1 B.1.2.2.2.2 gX11_totalMargin_X9_marginOfAll rfl rfl rfl (by decide +kernel) ⟨Nat.le_of_ble_eq_true rfl, Nat.le_of_ble_eq_true rfl⟩) h_2 rfl rfl rfl rfl (Nat.le_of_ble_eq_true rfl) dX11_totalMargin_9 ⟨Nat.le_of_ble_eq_true rfl, Nat.le_of_ble_eq_true rfl⟩ (fun v2 Φ2 sz2 st2 hp2 hs2 => ?_)
  obtain ⟨rfl, hq2, fr2⟩ := hp2
  replace hq2 : sz2 = sz := hq2
  subst sz2
  replace hs2 : st2 = [.double (FP.dmul 4611505874442293084 FP.dconst0)] := hs2
  subst st2
  exact z_ret_d B dX11_totalMargin_12 ⟨rfl, fun b9 h9 => ((fr2 b9).trans ((fr1 b9).trans rfl))⟩

set_option maxHeartbeats 4000000 in
set_option maxRecDepth 100000 in
theorem f_X11_totalMargin_1 (G : EnvG) (l : Launch) (Φ : Hm) (sz : Nat) (x : Nat) (hc0_ : Φ x = some (o_ 13 [.ref (x + 1), .ref (x + 3), .ref (x + 24), .ref (x + 46), .ref (x + 74), .ref (x + 80), .ref (x + 132), .ref (x + 121)])) (hc121_ : Φ (x + 121) = some (o_ 11 [.ref (x + 122), .ref (x + 123), .ref (x + 126), .ref (x + 129), .int 0])) : Ct G l yX11_totalMargin wsX11_totalMargin ({ frames := 3, cells := 0, slots := 0, locals := 70 }) 0 0 [.ref x, .int 1] Φ sz (fun v Φ1 sz1 => v = some (.double (FP.dmul 4611505874442293084 FP.dconst0)) ∧ ∀ b9 : Nat, x + 149 ≤ b9 → Φ1 b9 = Φ b9) := by
  refine Ct.of (cc := cX11_totalMargin) (maxL := 2) (ret := (some .double)) (by decide) rfl (Nat.le_of_ble_eq_true rfl) ?_
  intro p9 e9 s9 m9 w9 t9 k9 B
  show Z p9 l e9 _ s9 m9 _ w9 t9 k9 _ G 2 0 [(0, .ref x), (1, .int 1)] [] Φ sz 0 0
  refine z_iload_n B dX11_totalMargin_0 rfl 1 rfl ?_
  refine z_callS (As := [.int 1]) (rest := []) B (f_X11_requireWhat_1 G l Φ sz x ) (va_cwS 1 B.1.2.2.2.2 gX11_totalMargin_X11_requireWhat rfl rfl rfl (by decide +kernel) ⟨Nat.le_of_ble_eq_true rfl, Nat.le_of_ble_eq_true rfl⟩) rfl rfl (Nat.le_of_ble_eq_true rfl) dX11_totalMargin_1 ⟨Nat.le_of_ble_eq_true rfl, Nat.le_of_ble_eq_true rfl⟩ (fun v1 Φ1 sz1 st1 hp1 hs1 => ?_)
  obtain ⟨rfl, hq1, fr1⟩ := hp1
  replace hq1 : sz1 = sz := hq1
  subst sz1
  replace hs1 : st1 = [] := hs1
  subst st1
  refine z_aload_n B dX11_totalMargin_4 rfl 0 rfl ?_
  have h_1 : Φ1 x = some (o_ 13 [.ref (x + 1), .ref (x + 3), .ref (x + 24), .ref (x + 46), .ref (x + 74), .ref (x + 80), .ref (x + 132), .ref (x + 121)]) := ((fr1 x).trans hc0_)
  refine z_get (ref := "FlowExporter") (C := RX11) (T := TX11) (N := 8) (ci := 13) (v := .ref (x + 121)) B (by decide +kernel) rfl 7 (by decide) (by decide +kernel) rfl h_1 rfl dX11_totalMargin_5 ?_
  refine z_iload_n B dX11_totalMargin_8 rfl 1 rfl ?_
  have h_2 : Φ1 (x + 121) = some (o_ 11 [.ref (x + 122), .ref (x + 123), .ref (x + 126), .ref (x + 129), .int 0]) := ((fr1 (x + 121)).trans hc121_)
  refine z_callV (As := [.int 1]) (rest := []) B (f_X9_marginOfAll G l Φ1 sz x 1 h_2) (cwV 1 B.1.2.2.2.2 gX11_totalMargin_X9_marginOfAll rfl rfl rfl (by decide +kernel) ⟨Nat.le_of_ble_eq_true rfl, Nat.le_of_ble_eq_true rfl⟩) h_2 rfl rfl rfl rfl (Nat.le_of_ble_eq_true rfl) dX11_totalMargin_9 ⟨Nat.le_of_ble_eq_true rfl, Nat.le_of_ble_eq_true rfl⟩ (fun v2 Φ2 sz2 st2 hp2 hs2 => ?_)
  obtain ⟨rfl, hq2, fr2⟩ := hp2
  replace hq2 : sz2 = sz := hq2
  subst sz2
  replace hs2 : st2 = [.double (FP.dmul 4611505874442293084 FP.dconst0)] := hs2
  subst st2
  exact z_ret_d B dX11_totalMargin_12 ⟨rfl, fun b9 h9 => ((fr2 b9).trans ((fr1 b9).trans rfl))⟩

set_option maxHeartbeats 4000000 in
set_option maxRecDepth 100000 in
theorem f_X11_totalMargin_x (G : EnvG) (l : Launch) (hl9 : l.stackTraces = false) (Φ : Hm) (sz : Nat) (x : Nat) (w : Int32) (hw : ¬ (w = 0 ∨ w = 1)) : CtX G l yX11_totalMargin wsX11_totalMargin ({ frames := 7, cells := 1, slots := 6, locals := 101 }) 1 6 [.ref x, .int w] Φ sz xIA := by
  refine CtX.of (cc := cX11_totalMargin) (maxL := 2) (ret := (some .double)) (by decide) rfl (Nat.le_of_ble_eq_true rfl) ?_
  intro p9 e9 s9 m9 w9 t9 k9 B htab9
  show Z p9 l e9 _ s9 m9 _ w9 t9 k9 _ G 2 0 [(0, .ref x), (1, .int w)] [] Φ sz 0 0
  refine z_iload_n B dX11_totalMargin_0 rfl 1 rfl ?_
  exact z_callSX (As := [.int w]) (rest := []) B htab9 (f_X11_requireWhat_x G l hl9 Φ sz x w hw) (va_cwS 1 B.1.2.2.2.2 gX11_totalMargin_X11_requireWhat rfl rfl rfl (by decide +kernel) ⟨Nat.le_of_ble_eq_true rfl, Nat.le_of_ble_eq_true rfl⟩) rfl rfl (Nat.le_of_ble_eq_true rfl) dX11_totalMargin_1 ⟨Nat.le_of_ble_eq_true rfl, Nat.le_of_ble_eq_true rfl⟩ ⟨Nat.le_of_ble_eq_true rfl, Nat.le_of_ble_eq_true rfl⟩

set_option maxHeartbeats 4000000 in
set_option maxRecDepth 100000 in
theorem f_X11_ranked_0 (G : EnvG) (l : Launch) (Φ : Hm) (sz : Nat) (x : Nat) (a : Int32) (hc0_ : Φ x = some (o_ 13 [.ref (x + 1), .ref (x + 3), .ref (x + 24), .ref (x + 46), .ref (x + 74), .ref (x + 80), .ref (x + 132), .ref (x + 121)])) (hc121_ : Φ (x + 121) = some (o_ 11 [.ref (x + 122), .ref (x + 123), .ref (x + 126), .ref (x + 129), .int 0])) : Ct G l yX11_ranked wsX11_ranked ({ frames := 1, cells := 0, slots := 0, locals := 23 }) 0 0 [.ref x, .int a, .int 0] Φ sz (fun v Φ1 sz1 => v = some (.int (-1)) ∧ ∀ b9 : Nat, x + 149 ≤ b9 → Φ1 b9 = Φ b9) := by
  refine Ct.of (cc := cX11_ranked) (maxL := 3) (ret := (some .int)) (by decide) rfl (Nat.le_of_ble_eq_true rfl) ?_
  intro p9 e9 s9 m9 w9 t9 k9 B
  show Z p9 l e9 _ s9 m9 _ w9 t9 k9 _ G 3 0 [(0, .ref x), (1, .int a), (2, .int 0)] [] Φ sz 0 0
  refine z_iload_n B dX11_ranked_0 rfl 2 rfl ?_
  refine z_callS (As := [.int 0]) (rest := []) B (f_X11_requireWhat_0 G l Φ sz x ) (va_cwS 1 B.1.2.2.2.2 gX11_ranked_X11_requireWhat rfl rfl rfl (by decide +kernel) ⟨Nat.le_of_ble_eq_true rfl, Nat.le_of_ble_eq_true rfl⟩) rfl rfl (Nat.le_of_ble_eq_true rfl) dX11_ranked_1 ⟨Nat.le_of_ble_eq_true rfl, Nat.le_of_ble_eq_true rfl⟩ (fun v1 Φ1 sz1 st1 hp1 hs1 => ?_)
  obtain ⟨rfl, hq1, fr1⟩ := hp1
  replace hq1 : sz1 = sz := hq1
  subst sz1
  replace hs1 : st1 = [] := hs1
  subst st1
  refine z_aload_n B dX11_ranked_4 rfl 0 rfl ?_
  have h_1 : Φ1 x = some (o_ 13 [.ref (x + 1), .ref (x + 3), .ref (x + 24), .ref (x + 46), .ref (x + 74), .ref (x + 80), .ref (x + 132), .ref (x + 121)]) := ((fr1 x).trans hc0_)
  refine z_get (ref := "FlowExporter") (C := RX11) (T := TX11) (N := 8) (ci := 13) (v := .ref (x + 121)) B (by decide +kernel) rfl 7 (by decide) (by decide +kernel) rfl h_1 rfl dX11_ranked_5 ?_
  refine z_iload_n B dX11_ranked_8 rfl 1 rfl ?_
  refine z_iload_n B dX11_ranked_9 rfl 2 rfl ?_
  have h_2 : Φ1 (x + 121) = some (o_ 11 [.ref (x + 122), .ref (x + 123), .ref (x + 126), .ref (x + 129), .int 0]) := ((fr1 (x + 121)).trans hc121_)
  refine z_callV (As := [.int a, .int 0]) (rest := []) B (f_X9_indexWithRank G l Φ1 sz x a 0 h_2) (cwV 2 B.1.2.2.2.2 gX11_ranked_X9_indexWithRank rfl rfl rfl (by decide +kernel) ⟨Nat.le_of_ble_eq_true rfl, Nat.le_of_ble_eq_true rfl⟩) h_2 rfl rfl rfl rfl (Nat.le_of_ble_eq_true rfl) dX11_ranked_10 ⟨Nat.le_of_ble_eq_true rfl, Nat.le_of_ble_eq_true rfl⟩ (fun v2 Φ2 sz2 st2 hp2 hs2 => ?_)
  obtain ⟨rfl, hq2, fr2⟩ := hp2
  replace hq2 : sz2 = sz := hq2
  subst sz2
  replace hs2 : st2 = [.int (-1)] := hs2
  subst st2
  exact z_ret_i B dX11_ranked_13 ⟨rfl, fun b9 h9 => ((fr2 b9).trans ((fr1 b9).trans rfl))⟩

set_option maxHeartbeats 4000000 in
set_option maxRecDepth 100000 in
theorem f_X11_ranked_1 (G : EnvG) (l : Launch) (Φ : Hm) (sz : Nat) (x : Nat) (a : Int32) (hc0_ : Φ x = some (o_ 13 [.ref (x + 1), .ref (x + 3), .ref (x + 24), .ref (x + 46), .ref (x + 74), .ref (x + 80), .ref (x + 132), .ref (x + 121)])) (hc121_ : Φ (x + 121) = some (o_ 11 [.ref (x + 122), .ref (x + 123), .ref (x + 126), .ref (x + 129), .int 0])) : Ct G l yX11_ranked wsX11_ranked ({ frames := 1, cells := 0, slots := 0, locals := 23 }) 0 0 [.ref x, .int a, .int 1] Φ sz (fun v Φ1 sz1 => v = some (.int (-1)) ∧ ∀ b9 : Nat, x + 149 ≤ b9 → Φ1 b9 = Φ b9) := by
  refine Ct.of (cc := cX11_ranked) (maxL := 3) (ret := (some .int)) (by decide) rfl (Nat.le_of_ble_eq_true rfl) ?_
  intro p9 e9 s9 m9 w9 t9 k9 B
  show Z p9 l e9 _ s9 m9 _ w9 t9 k9 _ G 3 0 [(0, .ref x), (1, .int a), (2, .int 1)] [] Φ sz 0 0
  refine z_iload_n B dX11_ranked_0 rfl 2 rfl ?_
  refine z_callS (As := [.int 1]) (rest := []) B (f_X11_requireWhat_1 G l Φ sz x ) (va_cwS 1 B.1.2.2.2.2 gX11_ranked_X11_requireWhat rfl rfl rfl (by decide +kernel) ⟨Nat.le_of_ble_eq_true rfl, Nat.le_of_ble_eq_true rfl⟩) rfl rfl (Nat.le_of_ble_eq_true rfl) dX11_ranked_1 ⟨Nat.le_of_ble_eq_true rfl, Nat.le_of_ble_eq_true rfl⟩ (fun v1 Φ1 sz1 st1 hp1 hs1 => ?_)
  obtain ⟨rfl, hq1, fr1⟩ := hp1
  replace hq1 : sz1 = sz := hq1
  subst sz1
  replace hs1 : st1 = [] := hs1
  subst st1
  refine z_aload_n B dX11_ranked_4 rfl 0 rfl ?_
  have h_1 : Φ1 x = some (o_ 13 [.ref (x + 1), .ref (x + 3), .ref (x + 24), .ref (x + 46), .ref (x + 74), .ref (x + 80), .ref (x + 132), .ref (x + 121)]) := ((fr1 x).trans hc0_)
  refine z_get (ref := "FlowExporter") (C := RX11) (T := TX11) (N := 8) (ci := 13) (v := .ref (x + 121)) B (by decide +kernel) rfl 7 (by decide) (by decide +kernel) rfl h_1 rfl dX11_ranked_5 ?_
  refine z_iload_n B dX11_ranked_8 rfl 1 rfl ?_
  refine z_iload_n B dX11_ranked_9 rfl 2 rfl ?_
  have h_2 : Φ1 (x + 121) = some (o_ 11 [.ref (x + 122), .ref (x + 123), .ref (x + 126), .ref (x + 129), .int 0]) := ((fr1 (x + 121)).trans hc121_)
  refine z_callV (As := [.int a, .int 1]) (rest := []) B (f_X9_indexWithRank G l Φ1 sz x a 1 h_2) (cwV 2 B.1.2.2.2.2 gX11_ranked_X9_indexWithRank rfl rfl rfl (by decide +kernel) ⟨Nat.le_of_ble_eq_true rfl, Nat.le_of_ble_eq_true rfl⟩) h_2 rfl rfl rfl rfl (Nat.le_of_ble_eq_true rfl) dX11_ranked_10 ⟨Nat.le_of_ble_eq_true rfl, Nat.le_of_ble_eq_true rfl⟩ (fun v2 Φ2 sz2 st2 hp2 hs2 => ?_)
  obtain ⟨rfl, hq2, fr2⟩ := hp2
  replace hq2 : sz2 = sz := hq2
  subst sz2
  replace hs2 : st2 = [.int (-1)] := hs2
  subst st2
  exact z_ret_i B dX11_ranked_13 ⟨rfl, fun b9 h9 => ((fr2 b9).trans ((fr1 b9).trans rfl))⟩

set_option maxHeartbeats 4000000 in
set_option maxRecDepth 100000 in
theorem f_X11_ranked_x (G : EnvG) (l : Launch) (hl9 : l.stackTraces = false) (Φ : Hm) (sz : Nat) (x : Nat) (a : Int32) (w : Int32) (hw : ¬ (w = 0 ∨ w = 1)) : CtX G l yX11_ranked wsX11_ranked ({ frames := 7, cells := 1, slots := 6, locals := 101 }) 1 6 [.ref x, .int a, .int w] Φ sz xIA := by
  refine CtX.of (cc := cX11_ranked) (maxL := 3) (ret := (some .int)) (by decide) rfl (Nat.le_of_ble_eq_true rfl) ?_
  intro p9 e9 s9 m9 w9 t9 k9 B htab9
  show Z p9 l e9 _ s9 m9 _ w9 t9 k9 _ G 3 0 [(0, .ref x), (1, .int a), (2, .int w)] [] Φ sz 0 0
  refine z_iload_n B dX11_ranked_0 rfl 2 rfl ?_
  exact z_callSX (As := [.int w]) (rest := []) B htab9 (f_X11_requireWhat_x G l hl9 Φ sz x w hw) (va_cwS 1 B.1.2.2.2.2 gX11_ranked_X11_requireWhat rfl rfl rfl (by decide +kernel) ⟨Nat.le_of_ble_eq_true rfl, Nat.le_of_ble_eq_true rfl⟩) rfl rfl (Nat.le_of_ble_eq_true rfl) dX11_ranked_1 ⟨Nat.le_of_ble_eq_true rfl, Nat.le_of_ble_eq_true rfl⟩ ⟨Nat.le_of_ble_eq_true rfl, Nat.le_of_ble_eq_true rfl⟩

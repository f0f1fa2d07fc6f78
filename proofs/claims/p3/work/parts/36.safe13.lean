set_option maxHeartbeats 4000000 in
set_option maxRecDepth 100000 in
theorem s_X6_wordIn (G : EnvG) (l : Launch) (Φ : Hm) (sz x ca : Nat) (i : Nat) (hx : G.2.2.2 ≤ x) (hI : In G x ca Φ) (hi : i < 2) : Ct G l yX6_wordIn wsX6_wordIn ({ frames := 5, cells := 0, slots := 0, locals := 109 }) 0 0 [.ref (x + 24), .ref (G.2.2.1 (6 + i))] Φ sz (fun v Φ1 sz1 => (∃ r9 : Int32, v = some (.int r9)) ∧ sz1 = sz ∧ In G x (ca) Φ1 ∧ Fr x (fun j9 => False) Φ Φ1) := by
  refine Ct.of (cc := cX6_wordIn) (maxL := 5) (ret := (some .int)) (by decide) rfl (Nat.le_of_ble_eq_true rfl) ?_
  intro p9 e9 s9 m9 w9 t9 k9 B
  show Z p9 l e9 _ s9 m9 _ w9 t9 k9 _ G 5 0 [(0, .ref (x + 24)), (1, .ref (G.2.2.1 (6 + i)))] [] Φ sz 0 0
  refine z_aload_n B dX6_wordIn_0 rfl 0 rfl ?_
  obtain ⟨v_1, v_2, v_3, v_4, v_5, v_6, h_1⟩ := in10 (k := 24) hI rfl
  have h_2 : Φ (x + 24) = some (o_ 8 [.ref (x + 25), .int v_1, .int v_2, .ref (x + 1), .int v_3, .int v_4, .int v_5, .int v_6]) := h_1
  refine z_get (ref := "FlowExporter$Parser") (C := RX6) (T := TX6) (N := 8) (ci := 8) (v := .int v_4) B (by decide +kernel) rfl 5 (by decide) (by decide +kernel) rfl h_2 rfl dX6_wordIn_1 ?_
  refine z_iconst (v := 2) B dX6_wordIn_4 rfl ?_
  refine z_icmp_eq (tgt := 10) B dX6_wordIn_5 rfl (fun c_1 => ?_) (fun c_1 => ?_)
  · refine z_iconst (v := 0) B dX6_wordIn_10 rfl ?_
    refine z_istore_n (lv' := [(2, .int 0), (0, .ref (x + 24)), (1, .ref (G.2.2.1 (6 + i)))]) B dX6_wordIn_11 rfl (Nat.le_of_ble_eq_true rfl) rfl ?_
    refine z_iconst (v := 0) B dX6_wordIn_12 rfl ?_
    refine z_istore_n (lv' := [(3, .int 0), (2, .int 0), (0, .ref (x + 24)), (1, .ref (G.2.2.1 (6 + i)))]) B dX6_wordIn_13 rfl (Nat.le_of_ble_eq_true rfl) rfl ?_
    refine z_iconst (v := 0) B dX6_wordIn_14 rfl ?_
    refine z_istore (lv' := [(4, .int 0), (3, .int 0), (2, .int 0), (0, .ref (x + 24)), (1, .ref (G.2.2.1 (6 + i)))]) B dX6_wordIn_15 (Nat.le_of_ble_eq_true rfl) rfl ?_
    refine z_lv [0, 1, 2, 3, 4] rfl ?_
    refine z_loop (α := Nat × Nat × Int32) (fun (a9 : Nat × Nat × Int32) Φi => In G x (ca) Φi ∧ Fr x (fun j9 => False) Φ Φi ∧ (a9.1 ≤ 101) ∧ (a9.2.1 ≤ 101) ∧ (a9.2.1 ≤ a9.1) ∧ True) (fun a9 => [(4, .int (nI (a9.1))), (3, .int (nI (a9.2.1))), (2, .int a9.2.2), (0, .ref (x + 24)), (1, .ref (G.2.2.1 (6 + i)))]) (fun a9 => 102 - a9.1) ?_ (0, 0, 0) ⟨hI, fun _ _ => rfl, (show 0 ≤ 101 by omega), (show 0 ≤ 101 by omega), (show 0 ≤ 0 by omega), trivial⟩
    rintro ⟨i_1, i_2, i_3⟩ Φl1 ⟨hI1, hF1, b_1, b_2, b_3, -⟩ ih1
    replace hI1 : In G x (ca) Φl1 := hI1
    replace b_1 : i_1 ≤ 101 := b_1
    replace b_2 : i_2 ≤ 101 := b_2
    replace b_3 : i_2 ≤ i_1 := b_3
    show Z p9 l e9 _ s9 m9 _ w9 t9 k9 _ G 5 17 [(4, .int (nI i_1)), (3, .int (nI i_2)), (2, .int i_3), (0, .ref (x + 24)), (1, .ref (G.2.2.1 (6 + i)))] [] Φl1 _ _ _
    refine z_iload B dX6_wordIn_17 0 rfl ?_
    refine z_aload_n B dX6_wordIn_19 rfl 4 rfl ?_
    have b_4 := lenS_le i
    refine z_callVS (i := i) (As := []) (rest := [.int (nI i_1)]) B (show i < 2 by omega) (c_J0_length G l Φl1 sz i (show i < 2 by omega) (fun v8 Φ8 sz8 => v8 = some (.int (nI (lenS.getD i 0))) ∧ sz8 = sz ∧ In G x (ca) Φ8 ∧ Fr x (fun j9 => False) Φl1 Φ8) ⟨rfl, rfl, hI1, fun _ _ => rfl⟩) (cwV 0 B.1.2.2.2.2 gX6_wordIn_J0_length_8abf5 rfl rfl rfl (by decide +kernel) ⟨Nat.le_of_ble_eq_true rfl, Nat.le_of_ble_eq_true rfl⟩) rfl rfl (Nat.le_of_ble_eq_true rfl) dX6_wordIn_20 ⟨Nat.le_of_ble_eq_true rfl, Nat.le_of_ble_eq_true rfl⟩ (fun r_1 Φ1 sz1 st1 hp1 hs1 => ?_)
    obtain ⟨rfl, hq1, hI2, hF2⟩ := hp1
    subst sz1
    replace hs1 : st1 = [.int (nI (lenS.getD i 0)), .int (nI i_1)] := hs1
    subst st1
    refine z_icmp_gt (tgt := 73) B dX6_wordIn_23 rfl (fun c_2 => ?_) (fun c_2 => ?_)
    · have e_1 : lenS.getD i 0 < i_1 := (nI_ltI (a := lenS.getD i 0) (b := i_1) (by omega) (by omega)).mp c_2
      refine z_iconst (v := (-1)) B dX6_wordIn_73 rfl ?_
      exact z_ret_i B dX6_wordIn_74 ⟨⟨_, rfl⟩, rfl, hI2, (fun b9 h9 => ((hF2 b9 (fun j9 h8 h7 => (show False from h7).elim)).trans ((hF1 b9 (fun j9 h8 h7 => (show False from h7).elim)).trans rfl)))⟩
    · have e_2 : ¬ (lenS.getD i 0 < i_1) := fun h9 => c_2 ((nI_ltI (a := lenS.getD i 0) (b := i_1) (by omega) (by omega)).mpr h9)
      refine z_iload B dX6_wordIn_26 0 rfl ?_
      refine z_aload_n B dX6_wordIn_28 rfl 4 rfl ?_
      have b_5 := lenS_le i
      refine z_callVS (i := i) (As := []) (rest := [.int (nI i_1)]) B (show i < 2 by omega) (c_J0_length G l Φ1 sz i (show i < 2 by omega) (fun v8 Φ8 sz8 => v8 = some (.int (nI (lenS.getD i 0))) ∧ sz8 = sz ∧ In G x (ca) Φ8 ∧ Fr x (fun j9 => False) Φ1 Φ8) ⟨rfl, rfl, hI2, fun _ _ => rfl⟩) (cwV 0 B.1.2.2.2.2 gX6_wordIn_J0_length_8abf5 rfl rfl rfl (by decide +kernel) ⟨Nat.le_of_ble_eq_true rfl, Nat.le_of_ble_eq_true rfl⟩) rfl rfl (Nat.le_of_ble_eq_true rfl) dX6_wordIn_29 ⟨Nat.le_of_ble_eq_true rfl, Nat.le_of_ble_eq_true rfl⟩ (fun r_2 Φ2 sz2 st2 hp2 hs2 => ?_)
      obtain ⟨rfl, hq2, hI3, hF3⟩ := hp2
      subst sz2
      replace hs2 : st2 = [.int (nI (lenS.getD i 0)), .int (nI i_1)] := hs2
      subst st2
      refine z_icmp_eq (tgt := 46) B dX6_wordIn_32 rfl (fun c_3 => ?_) (fun c_3 => ?_)
      · have e_3 : i_1 = lenS.getD i 0 := (nI_eq (a := i_1) (b := lenS.getD i 0) (by omega) (by omega)).mp c_3
        refine z_aload_n B dX6_wordIn_46 rfl 3 rfl ?_
        refine z_aload_n B dX6_wordIn_47 rfl 4 rfl ?_
        refine z_iload_n B dX6_wordIn_48 rfl 1 rfl ?_
        refine z_iload B dX6_wordIn_49 0 rfl ?_
        have h_3 : Φ2 (x + 24) = some (o_ 8 [.ref (x + 25), .int v_1, .int v_2, .ref (x + 1), .int v_3, .int v_4, .int v_5, .int v_6]) := ((hF3 (x + 24) (fun j9 h8 h7 => (show False from h7).elim)).trans ((hF2 (x + 24) (fun j9 h8 h7 => (show False from h7).elim)).trans ((hF1 (x + 24) (fun j9 h8 h7 => (show False from h7).elim)).trans h_2)))
        refine z_callV (As := [.ref (G.2.2.1 (6 + i)), .int (nI i_2), .int (nI i_1)]) (rest := []) B (s_X6_isToken G l Φ2 sz x (ca) i i_2 i_1 hx hI3 (show i < 2 by omega) (show i_2 ≤ 101 by omega) (show i_1 ≤ 100 by omega)) (cwV 3 B.1.2.2.2.2 gX6_wordIn_X6_isToken rfl rfl rfl (by decide +kernel) ⟨Nat.le_of_ble_eq_true rfl, Nat.le_of_ble_eq_true rfl⟩) h_3 rfl rfl rfl rfl (Nat.le_of_ble_eq_true rfl) dX6_wordIn_51 ⟨Nat.le_of_ble_eq_true rfl, Nat.le_of_ble_eq_true rfl⟩ (fun r_3 Φ3 sz3 st3 hp3 hs3 => ?_)
        obtain ⟨⟨v_7, rfl, b_6⟩, hq3, hI4, hF4⟩ := hp3
        subst sz3
        replace hs3 : st3 = [.int v_7] := hs3
        subst st3
        replace hI4 : In G x (ca) Φ3 := hI4
        refine z_if_eq (tgt := 59) B dX6_wordIn_54 rfl (fun c_4 => ?_) (fun c_4 => ?_)
        · refine z_iinc (k := 2) (v := i_3 + 1) (lv' := [(2, .int (i_3 + 1)), (4, .int (nI i_1)), (3, .int (nI i_2)), (0, .ref (x + 24)), (1, .ref (G.2.2.1 (6 + i)))]) B dX6_wordIn_59 rfl rfl (Nat.le_of_ble_eq_true rfl) rfl ?_
          refine z_iload B dX6_wordIn_62 1 rfl ?_
          refine z_iconst (v := 1) B dX6_wordIn_64 rfl ?_
          refine z_iadd B dX6_wordIn_65 ?_
          refine z_top (st1 := [.int (nI (i_1 + 1))]) (congrArg (fun w9 : Int32 => ([.int w9] : List Value)) (nI_add i_1 1)) ?_
          refine z_istore_n (lv' := [(3, .int (nI (i_1 + 1))), (2, .int (i_3 + 1)), (4, .int (nI i_1)), (0, .ref (x + 24)), (1, .ref (G.2.2.1 (6 + i)))]) B dX6_wordIn_66 rfl (Nat.le_of_ble_eq_true rfl) rfl ?_
          refine z_iinc (k := 2) (v := nI (i_1 + 1)) (lv' := [(4, .int (nI (i_1 + 1))), (3, .int (nI (i_1 + 1))), (2, .int (i_3 + 1)), (0, .ref (x + 24)), (1, .ref (G.2.2.1 (6 + i)))]) B dX6_wordIn_67 rfl (nI_add i_1 1) (Nat.le_of_ble_eq_true rfl) rfl ?_
          refine z_goto (tgt := 17) B dX6_wordIn_70 rfl ?_
          refine z_lv [0, 1, 2, 3, 4] rfl ?_
          exact ih1 (i_1 + 1, i_1 + 1, i_3 + 1) Φ3 (show 102 - (i_1 + 1) < 102 - i_1 by omega) ⟨hI4, (fun b9 h9 => ((hF4 b9 (fun j9 h8 h7 => (show False from h7).elim)).trans ((hF3 b9 (fun j9 h8 h7 => (show False from h7).elim)).trans ((hF2 b9 (fun j9 h8 h7 => (show False from h7).elim)).trans ((hF1 b9 (fun j9 h8 h7 => (show False from h7).elim)).trans rfl))))), (show (i_1 + 1) ≤ 101 by omega), (show (i_1 + 1) ≤ 101 by omega), (show (i_1 + 1) ≤ (i_1 + 1) by omega), trivial⟩
        · refine z_iload_n B dX6_wordIn_57 rfl 2 rfl ?_
          exact z_ret_i B dX6_wordIn_58 ⟨⟨_, rfl⟩, rfl, hI4, (fun b9 h9 => ((hF4 b9 (fun j9 h8 h7 => (show False from h7).elim)).trans ((hF3 b9 (fun j9 h8 h7 => (show False from h7).elim)).trans ((hF2 b9 (fun j9 h8 h7 => (show False from h7).elim)).trans ((hF1 b9 (fun j9 h8 h7 => (show False from h7).elim)).trans rfl)))))⟩
      · have e_4 : ¬ (i_1 = lenS.getD i 0) := fun h9 => c_3 ((nI_eq (a := i_1) (b := lenS.getD i 0) (by omega) (by omega)).mpr h9)
        refine z_aload_n B dX6_wordIn_35 rfl 4 rfl ?_
        refine z_iload B dX6_wordIn_36 0 rfl ?_
        have b_7 := lenS_le i
        refine z_callVS (i := i) (As := [.int (nI i_1)]) (rest := []) B (show i < 2 by omega) (c_J0_charAt G l Φ2 sz i i_1 (show i < 2 by omega) (show i_1 < lenS.getD i 0 by omega) (fun v8 Φ8 sz8 => v8 = some (.int ((bytS.getD i []).getD i_1 0)) ∧ sz8 = sz ∧ In G x (ca) Φ8 ∧ Fr x (fun j9 => False) Φ2 Φ8) ⟨rfl, rfl, hI3, fun _ _ => rfl⟩) (cwV 1 B.1.2.2.2.2 gX6_wordIn_J0_charAt_5068e rfl rfl rfl (by decide +kernel) ⟨Nat.le_of_ble_eq_true rfl, Nat.le_of_ble_eq_true rfl⟩) rfl rfl (Nat.le_of_ble_eq_true rfl) dX6_wordIn_38 ⟨Nat.le_of_ble_eq_true rfl, Nat.le_of_ble_eq_true rfl⟩ (fun r_4 Φ4 sz4 st4 hp4 hs4 => ?_)
        obtain ⟨rfl, hq4, hI5, hF5⟩ := hp4
        subst sz4
        replace hs4 : st4 = [.int ((bytS.getD i []).getD i_1 0)] := hs4
        subst st4
        refine z_fi (fun v_8 => ?_)
        refine z_bipush (v := 32) B dX6_wordIn_41 rfl ?_
        refine z_icmp_ne (tgt := 67) B dX6_wordIn_43 rfl (fun c_5 => ?_) (fun c_5 => ?_)
        · refine z_iinc (k := 0) (v := nI (i_1 + 1)) (lv' := [(4, .int (nI (i_1 + 1))), (3, .int (nI i_2)), (2, .int i_3), (0, .ref (x + 24)), (1, .ref (G.2.2.1 (6 + i)))]) B dX6_wordIn_67 rfl (nI_add i_1 1) (Nat.le_of_ble_eq_true rfl) rfl ?_
          refine z_goto (tgt := 17) B dX6_wordIn_70 rfl ?_
          refine z_lv [0, 1, 2, 3, 4] rfl ?_
          exact ih1 (i_1 + 1, i_2, i_3) Φ4 (show 102 - (i_1 + 1) < 102 - i_1 by omega) ⟨hI5, (fun b9 h9 => ((hF5 b9 (fun j9 h8 h7 => (show False from h7).elim)).trans ((hF3 b9 (fun j9 h8 h7 => (show False from h7).elim)).trans ((hF2 b9 (fun j9 h8 h7 => (show False from h7).elim)).trans ((hF1 b9 (fun j9 h8 h7 => (show False from h7).elim)).trans rfl))))), (show (i_1 + 1) ≤ 101 by omega), (show i_2 ≤ 101 by omega), (show i_2 ≤ (i_1 + 1) by omega), trivial⟩
        · refine z_aload_n B dX6_wordIn_46 rfl 3 rfl ?_
          refine z_aload_n B dX6_wordIn_47 rfl 4 rfl ?_
          refine z_iload_n B dX6_wordIn_48 rfl 1 rfl ?_
          refine z_iload B dX6_wordIn_49 0 rfl ?_
          have h_4 : Φ4 (x + 24) = some (o_ 8 [.ref (x + 25), .int v_1, .int v_2, .ref (x + 1), .int v_3, .int v_4, .int v_5, .int v_6]) := ((hF5 (x + 24) (fun j9 h8 h7 => (show False from h7).elim)).trans ((hF3 (x + 24) (fun j9 h8 h7 => (show False from h7).elim)).trans ((hF2 (x + 24) (fun j9 h8 h7 => (show False from h7).elim)).trans ((hF1 (x + 24) (fun j9 h8 h7 => (show False from h7).elim)).trans h_2))))
          refine z_callV (As := [.ref (G.2.2.1 (6 + i)), .int (nI i_2), .int (nI i_1)]) (rest := []) B (s_X6_isToken G l Φ4 sz x (ca) i i_2 i_1 hx hI5 (show i < 2 by omega) (show i_2 ≤ 101 by omega) (show i_1 ≤ 100 by omega)) (cwV 3 B.1.2.2.2.2 gX6_wordIn_X6_isToken rfl rfl rfl (by decide +kernel) ⟨Nat.le_of_ble_eq_true rfl, Nat.le_of_ble_eq_true rfl⟩) h_4 rfl rfl rfl rfl (Nat.le_of_ble_eq_true rfl) dX6_wordIn_51 ⟨Nat.le_of_ble_eq_true rfl, Nat.le_of_ble_eq_true rfl⟩ (fun r_5 Φ5 sz5 st5 hp5 hs5 => ?_)
          obtain ⟨⟨v_9, rfl, b_8⟩, hq5, hI6, hF6⟩ := hp5
          subst sz5
          replace hs5 : st5 = [.int v_9] := hs5
          subst st5
          replace hI6 : In G x (ca) Φ5 := hI6
          refine z_if_eq (tgt := 59) B dX6_wordIn_54 rfl (fun c_6 => ?_) (fun c_6 => ?_)
          · refine z_iinc (k := 2) (v := i_3 + 1) (lv' := [(2, .int (i_3 + 1)), (4, .int (nI i_1)), (3, .int (nI i_2)), (0, .ref (x + 24)), (1, .ref (G.2.2.1 (6 + i)))]) B dX6_wordIn_59 rfl rfl (Nat.le_of_ble_eq_true rfl) rfl ?_
            refine z_iload B dX6_wordIn_62 1 rfl ?_
            refine z_iconst (v := 1) B dX6_wordIn_64 rfl ?_
            refine z_iadd B dX6_wordIn_65 ?_
            refine z_top (st1 := [.int (nI (i_1 + 1))]) (congrArg (fun w9 : Int32 => ([.int w9] : List Value)) (nI_add i_1 1)) ?_
            refine z_istore_n (lv' := [(3, .int (nI (i_1 + 1))), (2, .int (i_3 + 1)), (4, .int (nI i_1)), (0, .ref (x + 24)), (1, .ref (G.2.2.1 (6 + i)))]) B dX6_wordIn_66 rfl (Nat.le_of_ble_eq_true rfl) rfl ?_
            refine z_iinc (k := 2) (v := nI (i_1 + 1)) (lv' := [(4, .int (nI (i_1 + 1))), (3, .int (nI (i_1 + 1))), (2, .int (i_3 + 1)), (0, .ref (x + 24)), (1, .ref (G.2.2.1 (6 + i)))]) B dX6_wordIn_67 rfl (nI_add i_1 1) (Nat.le_of_ble_eq_true rfl) rfl ?_
            refine z_goto (tgt := 17) B dX6_wordIn_70 rfl ?_
            refine z_lv [0, 1, 2, 3, 4] rfl ?_
            exact ih1 (i_1 + 1, i_1 + 1, i_3 + 1) Φ5 (show 102 - (i_1 + 1) < 102 - i_1 by omega) ⟨hI6, (fun b9 h9 => ((hF6 b9 (fun j9 h8 h7 => (show False from h7).elim)).trans ((hF5 b9 (fun j9 h8 h7 => (show False from h7).elim)).trans ((hF3 b9 (fun j9 h8 h7 => (show False from h7).elim)).trans ((hF2 b9 (fun j9 h8 h7 => (show False from h7).elim)).trans ((hF1 b9 (fun j9 h8 h7 => (show False from h7).elim)).trans rfl)))))), (show (i_1 + 1) ≤ 101 by omega), (show (i_1 + 1) ≤ 101 by omega), (show (i_1 + 1) ≤ (i_1 + 1) by omega), trivial⟩
          · refine z_iload_n B dX6_wordIn_57 rfl 2 rfl ?_
            exact z_ret_i B dX6_wordIn_58 ⟨⟨_, rfl⟩, rfl, hI6, (fun b9 h9 => ((hF6 b9 (fun j9 h8 h7 => (show False from h7).elim)).trans ((hF5 b9 (fun j9 h8 h7 => (show False from h7).elim)).trans ((hF3 b9 (fun j9 h8 h7 => (show False from h7).elim)).trans ((hF2 b9 (fun j9 h8 h7 => (show False from h7).elim)).trans ((hF1 b9 (fun j9 h8 h7 => (show False from h7).elim)).trans rfl))))))⟩
  · refine z_iconst (v := (-1)) B dX6_wordIn_8 rfl ?_
    exact z_ret_i B dX6_wordIn_9 ⟨⟨_, rfl⟩, rfl, hI, (fun b9 h9 => rfl)⟩

set_option maxHeartbeats 4000000 in
set_option maxRecDepth 100000 in
theorem s_X6_readSetting (G : EnvG) (l : Launch) (Φ : Hm) (sz x ca : Nat) (a : Int32) (hx : G.2.2.2 ≤ x) (hI : In G x ca Φ)  : Ct G l yX6_readSetting wsX6_readSetting ({ frames := 3, cells := 0, slots := 0, locals := 65 }) 0 0 [.ref (x + 24), .int a] Φ sz (fun v Φ1 sz1 => (∃ r9 : Int32, v = some (.int r9) ∧ (r9 = 0 ∨ r9 = 1)) ∧ sz1 = sz ∧ In G x (ca) Φ1 ∧ Fr x (fun j9 => 24 ≤ j9 ∧ j9 < 46) Φ Φ1) := by
  refine Ct.of (cc := cX6_readSetting) (maxL := 2) (ret := (some .boolean)) (by decide) rfl (Nat.le_of_ble_eq_true rfl) ?_
  intro p9 e9 s9 m9 w9 t9 k9 B
  show Z p9 l e9 _ s9 m9 _ w9 t9 k9 _ G 2 0 [(0, .ref (x + 24)), (1, .int a)] [] Φ sz 0 0
  refine z_iload_n B dX6_readSetting_0 rfl 1 rfl ?_
  refine z_if_lt (tgt := 20) B dX6_readSetting_1 rfl (fun c_1 => ?_) (fun c_1 => ?_)
  · refine z_aload_n B dX6_readSetting_20 rfl 0 rfl ?_
    refine z_iconst (v := 1) B dX6_readSetting_21 rfl ?_
    obtain ⟨v_1, v_2, v_3, v_4, v_5, v_6, h_1⟩ := in10 (k := 24) hI rfl
    have h_2 : Φ (x + 24) = some (o_ 8 [.ref (x + 25), .int v_1, .int v_2, .ref (x + 1), .int v_3, .int v_4, .int v_5, .int v_6]) := h_1
    refine z_callV (As := [.int 1]) (rest := []) B (s_X6_fail G l Φ sz x (ca) 1 hx hI ) (cwV 1 B.1.2.2.2.2 gX6_readSetting_X6_fail rfl rfl rfl (by decide +kernel) ⟨Nat.le_of_ble_eq_true rfl, Nat.le_of_ble_eq_true rfl⟩) h_2 rfl rfl rfl rfl (Nat.le_of_ble_eq_true rfl) dX6_readSetting_22 ⟨Nat.le_of_ble_eq_true rfl, Nat.le_of_ble_eq_true rfl⟩ (fun r_1 Φ1 sz1 st1 hp1 hs1 => ?_)
    obtain ⟨rfl, hq1, hI1, hF1⟩ := hp1
    subst sz1
    replace hs1 : st1 = [.int 0] := hs1
    subst st1
    replace hI1 : In G x (ca) Φ1 := hI1
    exact z_ret_z B dX6_readSetting_25 (by decide) ⟨⟨_, rfl, by decide⟩, rfl, hI1, (fun b9 h9 => ((hF1 b9 (fun j9 h8 h7 => h9 j9 h8 (show 24 ≤ j9 ∧ j9 < 46 by have h6 : j9 = 24 := h7; omega))).trans rfl))⟩
  · obtain ⟨n_1, e_1, rfl⟩ := nI_of c_1
    refine z_iload_n B dX6_readSetting_4 rfl 1 rfl ?_
    refine z_staN (n := "LEAST") B B.2.2.2.2.2.1.1.2.2.1 (by decide +kernel) dX6_readSetting_5 ?_
    refine z_slen (v := 9) B B.2.2.2.2.2.1.2.2.2.1.2.2.1 (B.2.2.2.2.2.1.2.2.2.2 2 (by decide)) rfl dX6_readSetting_8 ?_
    refine z_icmp_ge (tgt := 20) B dX6_readSetting_9 rfl (fun c_2 => ?_) (fun c_2 => ?_)
    · have e_2 : 9 ≤ n_1 := (nI_leI (a := 9) (b := n_1) (by omega) (by omega)).mp c_2
      refine z_aload_n B dX6_readSetting_20 rfl 0 rfl ?_
      refine z_iconst (v := 1) B dX6_readSetting_21 rfl ?_
      obtain ⟨v_7, v_8, v_9, v_10, v_11, v_12, h_3⟩ := in10 (k := 24) hI rfl
      have h_4 : Φ (x + 24) = some (o_ 8 [.ref (x + 25), .int v_7, .int v_8, .ref (x + 1), .int v_9, .int v_10, .int v_11, .int v_12]) := h_3
      refine z_callV (As := [.int 1]) (rest := []) B (s_X6_fail G l Φ sz x (ca) 1 hx hI ) (cwV 1 B.1.2.2.2.2 gX6_readSetting_X6_fail rfl rfl rfl (by decide +kernel) ⟨Nat.le_of_ble_eq_true rfl, Nat.le_of_ble_eq_true rfl⟩) h_4 rfl rfl rfl rfl (Nat.le_of_ble_eq_true rfl) dX6_readSetting_22 ⟨Nat.le_of_ble_eq_true rfl, Nat.le_of_ble_eq_true rfl⟩ (fun r_2 Φ2 sz2 st2 hp2 hs2 => ?_)
      obtain ⟨rfl, hq2, hI2, hF2⟩ := hp2
      subst sz2
      replace hs2 : st2 = [.int 0] := hs2
      subst st2
      replace hI2 : In G x (ca) Φ2 := hI2
      exact z_ret_z B dX6_readSetting_25 (by decide) ⟨⟨_, rfl, by decide⟩, rfl, hI2, (fun b9 h9 => ((hF2 b9 (fun j9 h8 h7 => h9 j9 h8 (show 24 ≤ j9 ∧ j9 < 46 by have h6 : j9 = 24 := h7; omega))).trans rfl))⟩
    · have e_3 : ¬ (9 ≤ n_1) := fun h9 => c_2 ((nI_leI (a := 9) (b := n_1) (by omega) (by omega)).mpr h9)
      refine z_iload_n B dX6_readSetting_12 rfl 1 rfl ?_
      refine z_staN (n := "MOST") B B.2.2.2.2.2.1.1.2.2.2.1 (by decide +kernel) dX6_readSetting_13 ?_
      refine z_slen (v := 9) B B.2.2.2.2.2.1.2.2.2.1.2.2.2.1 (B.2.2.2.2.2.1.2.2.2.2 3 (by decide)) rfl dX6_readSetting_16 ?_
      refine z_icmp_lt (tgt := 26) B dX6_readSetting_17 rfl (fun c_3 => ?_) (fun c_3 => ?_)
      · have e_4 : n_1 < 9 := (nI_ltI (a := n_1) (b := 9) (by omega) (by omega)).mp c_3
        refine z_aload_n B dX6_readSetting_26 rfl 0 rfl ?_
        refine z_staN (n := "LEAST") B B.2.2.2.2.2.1.1.2.2.1 (by decide +kernel) dX6_readSetting_27 ?_
        refine z_iload_n B dX6_readSetting_30 rfl 1 rfl ?_
        refine z_sald B B.2.2.2.2.2.1.2.2.2.1.2.2.1 (B.2.2.2.2.2.1.2.2.2.2 2 (by decide)) (vp_in_nI (by omega) (by omega)) dX6_readSetting_31 ?_
        refine z_fiq (P := fun w9 => 0 ≤ w9) (leT_nn _) (fun v_13 q_1 => ?_)
        refine z_staN (n := "MOST") B B.2.2.2.2.2.1.1.2.2.2.1 (by decide +kernel) dX6_readSetting_32 ?_
        refine z_iload_n B dX6_readSetting_35 rfl 1 rfl ?_
        refine z_sald B B.2.2.2.2.2.1.2.2.2.1.2.2.2.1 (B.2.2.2.2.2.1.2.2.2.2 3 (by decide)) (vp_in_nI (by omega) (by omega)) dX6_readSetting_36 ?_
        refine z_fi (fun v_14 => ?_)
        obtain ⟨v_15, v_16, v_17, v_18, v_19, v_20, h_5⟩ := in10 (k := 24) hI rfl
        have h_6 : Φ (x + 24) = some (o_ 8 [.ref (x + 25), .int v_15, .int v_16, .ref (x + 1), .int v_17, .int v_18, .int v_19, .int v_20]) := h_5
        refine z_callV (As := [.int v_13, .int v_14]) (rest := []) B (s_X6_readNumber G l Φ sz x (ca) v_13 v_14 hx hI ) (cwV 2 B.1.2.2.2.2 gX6_readSetting_X6_readNumber rfl rfl rfl (by decide +kernel) ⟨Nat.le_of_ble_eq_true rfl, Nat.le_of_ble_eq_true rfl⟩) h_6 rfl rfl rfl rfl (Nat.le_of_ble_eq_true rfl) dX6_readSetting_37 ⟨Nat.le_of_ble_eq_true rfl, Nat.le_of_ble_eq_true rfl⟩ (fun r_3 Φ3 sz3 st3 hp3 hs3 => ?_)
        obtain ⟨⟨v_21, rfl, b_1⟩, hq3, hI3, hF3⟩ := hp3
        subst sz3
        replace hs3 : st3 = [.int v_21] := hs3
        subst st3
        replace hI3 : In G x (ca) Φ3 := hI3
        refine z_if_ne (tgt := 45) B dX6_readSetting_40 rfl (fun c_4 => ?_) (fun c_4 => ?_)
        · obtain ⟨-, v_22, v_23, v_24, v_25, v_26, v_27, h_7, b_2⟩ := Or.resolve_left b_1 c_4
          refine z_aload_n B dX6_readSetting_45 rfl 0 rfl ?_
          refine z_get (ref := "FlowExporter$Parser") (C := RX6) (T := TX6) (N := 8) (ci := 8) (v := .ref (x + 25)) B (by decide +kernel) rfl 0 (by decide) (by decide +kernel) rfl h_7 rfl dX6_readSetting_46 ?_
          refine z_iload_n B dX6_readSetting_49 rfl 1 rfl ?_
          refine z_aload_n B dX6_readSetting_50 rfl 0 rfl ?_
          refine z_get (ref := "FlowExporter$Parser") (C := RX6) (T := TX6) (N := 8) (ci := 8) (v := .int v_27) B (by decide +kernel) rfl 7 (by decide) (by decide +kernel) rfl h_7 rfl dX6_readSetting_51 ?_
          obtain ⟨n_2, e_5, rfl⟩ := nI_of (not_lt_of_le0 q_1 b_2)
          obtain ⟨v_28, v_29, h_8⟩ := in3 (k := 25) hI3 rfl
          have h_9 : Φ3 (x + 25) = some (o_ 3 [.ref (x + 26), .ref (x + 27), .ref (x + 28), .ref (x + 29), .int v_28, .int v_29]) := h_8
          refine z_callV (As := [.int (nI n_1), .int (nI n_2)]) (rest := []) B (s_X1_set G l Φ3 sz x (ca) 25 (nI n_1) n_2 hx hI3 rfl (show n_2 < 2 ^ 31 by omega)) (cwV 2 B.1.2.2.2.2 gX6_readSetting_X1_set rfl rfl rfl (by decide +kernel) ⟨Nat.le_of_ble_eq_true rfl, Nat.le_of_ble_eq_true rfl⟩) h_9 rfl rfl rfl rfl (Nat.le_of_ble_eq_true rfl) dX6_readSetting_54 ⟨Nat.le_of_ble_eq_true rfl, Nat.le_of_ble_eq_true rfl⟩ (fun r_4 Φ4 sz4 st4 hp4 hs4 => ?_)
          obtain ⟨rfl, hq4, hI4, hF4⟩ := hp4
          subst sz4
          replace hs4 : st4 = [] := hs4
          subst st4
          replace hI4 : In G x (ca) Φ4 := hI4
          refine z_iconst (v := 1) B dX6_readSetting_57 rfl ?_
          exact z_ret_z B dX6_readSetting_58 (by decide) ⟨⟨_, rfl, by decide⟩, rfl, hI4, (fun b9 h9 => ((hF4 b9 (fun j9 h8 h7 => h9 j9 h8 (show 24 ≤ j9 ∧ j9 < 46 by have h6 : j9 = 25 + 1 := h7; omega))).trans ((hF3 b9 (fun j9 h8 h7 => h9 j9 h8 (show 24 ≤ j9 ∧ j9 < 46 by have h6 : j9 = 24 := h7; omega))).trans rfl)))⟩
        · refine z_iconst (v := 0) B dX6_readSetting_43 rfl ?_
          exact z_ret_z B dX6_readSetting_44 (by decide) ⟨⟨_, rfl, by decide⟩, rfl, hI3, (fun b9 h9 => ((hF3 b9 (fun j9 h8 h7 => h9 j9 h8 (show 24 ≤ j9 ∧ j9 < 46 by have h6 : j9 = 24 := h7; omega))).trans rfl))⟩
      · have e_6 : ¬ (n_1 < 9) := fun h9 => c_3 ((nI_ltI (a := n_1) (b := 9) (by omega) (by omega)).mpr h9)
        refine z_aload_n B dX6_readSetting_20 rfl 0 rfl ?_
        refine z_iconst (v := 1) B dX6_readSetting_21 rfl ?_
        obtain ⟨v_30, v_31, v_32, v_33, v_34, v_35, h_10⟩ := in10 (k := 24) hI rfl
        have h_11 : Φ (x + 24) = some (o_ 8 [.ref (x + 25), .int v_30, .int v_31, .ref (x + 1), .int v_32, .int v_33, .int v_34, .int v_35]) := h_10
        refine z_callV (As := [.int 1]) (rest := []) B (s_X6_fail G l Φ sz x (ca) 1 hx hI ) (cwV 1 B.1.2.2.2.2 gX6_readSetting_X6_fail rfl rfl rfl (by decide +kernel) ⟨Nat.le_of_ble_eq_true rfl, Nat.le_of_ble_eq_true rfl⟩) h_11 rfl rfl rfl rfl (Nat.le_of_ble_eq_true rfl) dX6_readSetting_22 ⟨Nat.le_of_ble_eq_true rfl, Nat.le_of_ble_eq_true rfl⟩ (fun r_5 Φ5 sz5 st5 hp5 hs5 => ?_)
        obtain ⟨rfl, hq5, hI5, hF5⟩ := hp5
        subst sz5
        replace hs5 : st5 = [.int 0] := hs5
        subst st5
        replace hI5 : In G x (ca) Φ5 := hI5
        exact z_ret_z B dX6_readSetting_25 (by decide) ⟨⟨_, rfl, by decide⟩, rfl, hI5, (fun b9 h9 => ((hF5 b9 (fun j9 h8 h7 => h9 j9 h8 (show 24 ≤ j9 ∧ j9 < 46 by have h6 : j9 = 24 := h7; omega))).trans rfl))⟩

set_option maxHeartbeats 4000000 in
set_option maxRecDepth 100000 in
theorem s_X6_readTemplate (G : EnvG) (l : Launch) (Φ : Hm) (sz x ca : Nat)  (hx : G.2.2.2 ≤ x) (hI : In G x ca Φ)  : Ct G l yX6_readTemplate wsX6_readTemplate ({ frames := 6, cells := 0, slots := 0, locals := 133 }) 0 0 [.ref (x + 24)] Φ sz (fun v Φ1 sz1 => (∃ r9 : Int32, v = some (.int r9) ∧ (r9 = 0 ∨ r9 = 1)) ∧ sz1 = sz ∧ In G x (ca) Φ1 ∧ Fr x (fun j9 => 24 ≤ j9 ∧ j9 < 46) Φ Φ1) := by
  refine Ct.of (cc := cX6_readTemplate) (maxL := 4) (ret := (some .boolean)) (by decide) rfl (Nat.le_of_ble_eq_true rfl) ?_
  intro p9 e9 s9 m9 w9 t9 k9 B
  show Z p9 l e9 _ s9 m9 _ w9 t9 k9 _ G 4 0 [(0, .ref (x + 24))] [] Φ sz 0 0
  refine z_aload_n B dX6_readTemplate_0 rfl 0 rfl ?_
  obtain ⟨v_1, v_2, v_3, v_4, v_5, v_6, h_1⟩ := in10 (k := 24) hI rfl
  have h_2 : Φ (x + 24) = some (o_ 8 [.ref (x + 25), .int v_1, .int v_2, .ref (x + 1), .int v_3, .int v_4, .int v_5, .int v_6]) := h_1
  refine z_get (ref := "FlowExporter$Parser") (C := RX6) (T := TX6) (N := 8) (ci := 8) (v := .ref (x + 25)) B (by decide +kernel) rfl 0 (by decide) (by decide +kernel) rfl h_2 rfl dX6_readTemplate_1 ?_
  obtain ⟨v_7, v_8, h_3⟩ := in3 (k := 25) hI rfl
  have h_4 : Φ (x + 25) = some (o_ 3 [.ref (x + 26), .ref (x + 27), .ref (x + 28), .ref (x + 29), .int v_7, .int v_8]) := h_3
  refine z_get (ref := "FlowExporter$Config") (C := RX1) (T := TX1) (N := 6) (ci := 3) (v := .int v_7) B (by decide +kernel) rfl 4 (by decide) (by decide +kernel) rfl h_4 rfl dX6_readTemplate_4 ?_
  refine z_iconst (v := 4) B dX6_readTemplate_7 rfl ?_
  refine z_icmp_lt (tgt := 17) B dX6_readTemplate_8 rfl (fun c_1 => ?_) (fun c_1 => ?_)
  · refine z_aload_n B dX6_readTemplate_17 rfl 0 rfl ?_
    refine z_get (ref := "FlowExporter$Parser") (C := RX6) (T := TX6) (N := 8) (ci := 8) (v := .ref (x + 25)) B (by decide +kernel) rfl 0 (by decide) (by decide +kernel) rfl h_2 rfl dX6_readTemplate_18 ?_
    refine z_aload_n B dX6_readTemplate_21 rfl 0 rfl ?_
    refine z_get (ref := "FlowExporter$Parser") (C := RX6) (T := TX6) (N := 8) (ci := 8) (v := .ref (x + 25)) B (by decide +kernel) rfl 0 (by decide) (by decide +kernel) rfl h_2 rfl dX6_readTemplate_22 ?_
    refine z_get (ref := "FlowExporter$Config") (C := RX1) (T := TX1) (N := 6) (ci := 3) (v := .int v_7) B (by decide +kernel) rfl 4 (by decide) (by decide +kernel) rfl h_4 rfl dX6_readTemplate_25 ?_
    refine z_callV (As := [.int v_7]) (rest := []) B (s_X1_template G l Φ sz x (ca) 25 v_7 hx hI rfl) (cwV 1 B.1.2.2.2.2 gX6_readTemplate_X1_template rfl rfl rfl (by decide +kernel) ⟨Nat.le_of_ble_eq_true rfl, Nat.le_of_ble_eq_true rfl⟩) h_4 rfl rfl rfl rfl (Nat.le_of_ble_eq_true rfl) dX6_readTemplate_28 ⟨Nat.le_of_ble_eq_true rfl, Nat.le_of_ble_eq_true rfl⟩ (fun r_1 Φ1 sz1 st1 hp1 hs1 => ?_)
    obtain ⟨⟨m_1, hm_1, rfl⟩, hq1, hI1, hF1⟩ := hp1
    subst sz1
    replace hs1 : st1 = [.ref (x + (25 + 5 + 4 * m_1))] := hs1
    subst st1
    replace hI1 : In G x (ca) Φ1 := hI1
    replace hm_1 : m_1 < 4 := hm_1
    refine z_astore_n (lv' := [(1, .ref (x + (25 + 5 + 4 * m_1))), (0, .ref (x + 24))]) B dX6_readTemplate_31 rfl (Nat.le_of_ble_eq_true rfl) rfl ?_
    refine z_iconst (v := 0) B dX6_readTemplate_32 rfl ?_
    refine z_istore_n (lv' := [(2, .int 0), (1, .ref (x + (25 + 5 + 4 * m_1))), (0, .ref (x + 24))]) B dX6_readTemplate_33 rfl (Nat.le_of_ble_eq_true rfl) rfl ?_
    refine z_lv [0, 1, 2] rfl ?_
    refine z_loop (α := Nat) (fun (a9 : Nat) Φi => In G x (ca) Φi ∧ Fr x (fun j9 => 24 ≤ j9 ∧ j9 < 46) Φ1 Φi ∧ (a9 ≤ 10) ∧ True) (fun a9 => [(2, .int (nI a9)), (1, .ref (x + (25 + 5 + 4 * m_1))), (0, .ref (x + 24))]) (fun a9 => 10 - a9) ?_ (0) ⟨hI1, fun _ _ => rfl, (show 0 ≤ 10 by omega), trivial⟩
    rintro i_1 Φl1 ⟨hI2, hF2, b_1, -⟩ ih1
    replace hI2 : In G x (ca) Φl1 := hI2
    replace b_1 : i_1 ≤ 10 := b_1
    show Z p9 l e9 _ s9 m9 _ w9 t9 k9 _ G 4 34 [(2, .int (nI i_1)), (1, .ref (x + (25 + 5 + 4 * m_1))), (0, .ref (x + 24))] [] Φl1 _ _ _
    refine z_iload_n B dX6_readTemplate_34 rfl 0 rfl ?_
    refine z_bipush (v := 9) B dX6_readTemplate_35 rfl ?_
    refine z_icmp_gt (tgt := 114) B dX6_readTemplate_37 rfl (fun c_2 => ?_) (fun c_2 => ?_)
    · have e_1 : 9 < i_1 := (nI_ltI (a := 9) (b := i_1) (by omega) (by omega)).mp c_2
      refine z_aload_n B dX6_readTemplate_114 rfl 2 rfl ?_
      refine z_iconst (v := 1) B dX6_readTemplate_115 rfl ?_
      obtain ⟨v_9, v_10, v_11, v_12, v_13, v_14, h_5⟩ := in10 (k := 24) hI2 rfl
      have h_6 : Φl1 (x + 24) = some (o_ 8 [.ref (x + 25), .int v_9, .int v_10, .ref (x + 1), .int v_11, .int v_12, .int v_13, .int v_14]) := h_5
      refine z_callV (As := [.int 1]) (rest := []) B (s_X6_fail G l Φl1 sz x (ca) 1 hx hI2 ) (cwV 1 B.1.2.2.2.2 gX6_readTemplate_X6_fail rfl rfl rfl (by decide +kernel) ⟨Nat.le_of_ble_eq_true rfl, Nat.le_of_ble_eq_true rfl⟩) h_6 rfl rfl rfl rfl (Nat.le_of_ble_eq_true rfl) dX6_readTemplate_116 ⟨Nat.le_of_ble_eq_true rfl, Nat.le_of_ble_eq_true rfl⟩ (fun r_2 Φ2 sz2 st2 hp2 hs2 => ?_)
      obtain ⟨rfl, hq2, hI3, hF3⟩ := hp2
      subst sz2
      replace hs2 : st2 = [.int 0] := hs2
      subst st2
      replace hI3 : In G x (ca) Φ2 := hI3
      exact z_ret_z B dX6_readTemplate_119 (by decide) ⟨⟨_, rfl, by decide⟩, rfl, hI3, (fun b9 h9 => ((hF3 b9 (fun j9 h8 h7 => h9 j9 h8 (show 24 ≤ j9 ∧ j9 < 46 by have h6 : j9 = 24 := h7; omega))).trans ((hF2 b9 (fun j9 h8 h7 => h9 j9 h8 (show 24 ≤ j9 ∧ j9 < 46 by have h6 : 24 ≤ j9 ∧ j9 < 46 := h7; omega))).trans ((hF1 b9 (fun j9 h8 h7 => (show False from h7).elim)).trans rfl))))⟩
    · have e_2 : ¬ (9 < i_1) := fun h9 => c_2 ((nI_ltI (a := 9) (b := i_1) (by omega) (by omega)).mpr h9)
      refine z_aload_n B dX6_readTemplate_40 rfl 2 rfl ?_
      obtain ⟨v_15, v_16, v_17, v_18, v_19, v_20, h_7⟩ := in10 (k := 24) hI2 rfl
      have h_8 : Φl1 (x + 24) = some (o_ 8 [.ref (x + 25), .int v_15, .int v_16, .ref (x + 1), .int v_17, .int v_18, .int v_19, .int v_20]) := h_7
      refine z_callV (As := []) (rest := []) B (s_X6_nextToken G l Φl1 sz x (ca)  hx hI2 ) (cwV 0 B.1.2.2.2.2 gX6_readTemplate_X6_nextToken rfl rfl rfl (by decide +kernel) ⟨Nat.le_of_ble_eq_true rfl, Nat.le_of_ble_eq_true rfl⟩) h_8 rfl rfl rfl rfl (Nat.le_of_ble_eq_true rfl) dX6_readTemplate_41 ⟨Nat.le_of_ble_eq_true rfl, Nat.le_of_ble_eq_true rfl⟩ (fun r_3 Φ3 sz3 st3 hp3 hs3 => ?_)
      obtain ⟨rfl, hq3, hI4, hF4⟩ := hp3
      subst sz3
      replace hs3 : st3 = [] := hs3
      subst st3
      replace hI4 : In G x (ca) Φ3 := hI4
      refine z_iload_n B dX6_readTemplate_44 rfl 0 rfl ?_
      refine z_if_le (tgt := 71) B dX6_readTemplate_45 rfl (fun c_3 => ?_) (fun c_3 => ?_)
      · have e_3 : i_1 ≤ 0 := (nI_leI (a := i_1) (b := 0) (by omega) (by omega)).mp c_3
        refine z_aload_n B dX6_readTemplate_71 rfl 2 rfl ?_
        refine z_ldcS (q := G.2.2.1 (6 + 1)) B B.2.2.2.2.1.2.2.2.2.2.2.2.2.2.2 dX6_readTemplate_72 ?_
        obtain ⟨v_21, v_22, v_23, v_24, v_25, v_26, h_9⟩ := in10 (k := 24) hI4 rfl
        have h_10 : Φ3 (x + 24) = some (o_ 8 [.ref (x + 25), .int v_21, .int v_22, .ref (x + 1), .int v_23, .int v_24, .int v_25, .int v_26]) := h_9
        refine z_callV (As := [.ref (G.2.2.1 (6 + 1))]) (rest := []) B (s_X6_wordIn G l Φ3 sz x (ca) 1 hx hI4 (show 1 < 2 by omega)) (cwV 1 B.1.2.2.2.2 gX6_readTemplate_X6_wordIn rfl rfl rfl (by decide +kernel) ⟨Nat.le_of_ble_eq_true rfl, Nat.le_of_ble_eq_true rfl⟩) h_10 rfl rfl rfl rfl (Nat.le_of_ble_eq_true rfl) dX6_readTemplate_74 ⟨Nat.le_of_ble_eq_true rfl, Nat.le_of_ble_eq_true rfl⟩ (fun r_4 Φ4 sz4 st4 hp4 hs4 => ?_)
        obtain ⟨⟨v_27, rfl⟩, hq4, hI5, hF5⟩ := hp4
        subst sz4
        replace hs4 : st4 = [.int v_27] := hs4
        subst st4
        replace hI5 : In G x (ca) Φ4 := hI5
        refine z_istore_n (lv' := [(3, .int v_27), (2, .int (nI i_1)), (1, .ref (x + (25 + 5 + 4 * m_1))), (0, .ref (x + 24))]) B dX6_readTemplate_77 rfl (Nat.le_of_ble_eq_true rfl) rfl ?_
        refine z_iload_n B dX6_readTemplate_78 rfl 0 rfl ?_
        refine z_iconst (v := (-1)) B dX6_readTemplate_79 rfl ?_
        refine z_icmp_ne (tgt := 89) B dX6_readTemplate_80 rfl (fun c_4 => ?_) (fun c_4 => ?_)
        · refine z_aload_n B dX6_readTemplate_89 rfl 2 rfl ?_
          refine z_iload_n B dX6_readTemplate_90 rfl 0 rfl ?_
          obtain ⟨n_1, v_28, v_29, h_11, b_2⟩ := in8 (k := 25 + 5 + 4 * m_1) hI5 (kd_w (kd_s rfl).2.2.1 hm_1)
          have h_12 : Φ4 (x + (25 + 5 + 4 * m_1)) = some (o_ 12 [.ref (x + (25 + 5 + 4 * m_1 + 1)), .int (nI n_1), .int v_28, .int v_29]) := h_11
          refine z_callV (As := [.int v_27]) (rest := []) B (s_X10_has G l Φ4 sz x (ca) (25 + 5 + 4 * m_1) v_27 hx hI5 (kd_w (kd_s rfl).2.2.1 hm_1)) (cwV 1 B.1.2.2.2.2 gX6_readTemplate_X10_has rfl rfl rfl (by decide +kernel) ⟨Nat.le_of_ble_eq_true rfl, Nat.le_of_ble_eq_true rfl⟩) h_12 rfl rfl rfl rfl (Nat.le_of_ble_eq_true rfl) dX6_readTemplate_91 ⟨Nat.le_of_ble_eq_true rfl, Nat.le_of_ble_eq_true rfl⟩ (fun r_5 Φ5 sz5 st5 hp5 hs5 => ?_)
          obtain ⟨⟨v_30, rfl, b_3⟩, hq5, hI6, hF6⟩ := hp5
          subst sz5
          replace hs5 : st5 = [.int v_30] := hs5
          subst st5
          replace hI6 : In G x (ca) Φ5 := hI6
          refine z_if_eq (tgt := 103) B dX6_readTemplate_94 rfl (fun c_5 => ?_) (fun c_5 => ?_)
          · refine z_aload_n B dX6_readTemplate_103 rfl 2 rfl ?_
            refine z_iload_n B dX6_readTemplate_104 rfl 0 rfl ?_
            have h_13 : Φ5 (x + (25 + 5 + 4 * m_1)) = some (o_ 12 [.ref (x + (25 + 5 + 4 * m_1 + 1)), .int (nI n_1), .int v_28, .int v_29]) := ((hF6 (x + (25 + 5 + 4 * m_1)) (fun j9 h8 h7 => (show False from h7).elim)).trans h_12)
            refine z_callV (As := [.int v_27]) (rest := []) B (s_X10_addField G l Φ5 sz x (ca) (25 + 5 + 4 * m_1) v_27 hx hI6 (kd_w (kd_s rfl).2.2.1 hm_1)) (cwV 1 B.1.2.2.2.2 gX6_readTemplate_X10_addField rfl rfl rfl (by decide +kernel) ⟨Nat.le_of_ble_eq_true rfl, Nat.le_of_ble_eq_true rfl⟩) h_13 rfl rfl rfl rfl (Nat.le_of_ble_eq_true rfl) dX6_readTemplate_105 ⟨Nat.le_of_ble_eq_true rfl, Nat.le_of_ble_eq_true rfl⟩ (fun r_6 Φ6 sz6 st6 hp6 hs6 => ?_)
            obtain ⟨rfl, hq6, hI7, hF7⟩ := hp6
            subst sz6
            replace hs6 : st6 = [] := hs6
            subst st6
            replace hI7 : In G x (ca) Φ6 := hI7
            refine z_iinc (k := 1) (v := nI (i_1 + 1)) (lv' := [(2, .int (nI (i_1 + 1))), (3, .int v_27), (1, .ref (x + (25 + 5 + 4 * m_1))), (0, .ref (x + 24))]) B dX6_readTemplate_108 rfl (nI_add i_1 1) (Nat.le_of_ble_eq_true rfl) rfl ?_
            refine z_goto (tgt := 34) B dX6_readTemplate_111 rfl ?_
            refine z_lv [0, 2, 3] rfl ?_
            exact ih1 (i_1 + 1) Φ6 (show 10 - (i_1 + 1) < 10 - i_1 by omega) ⟨hI7, (fun b9 h9 => ((hF7 b9 (fun j9 h8 h7 => h9 j9 h8 (show 24 ≤ j9 ∧ j9 < 46 by have h6 : j9 = (25 + 5 + 4 * m_1) ∨ j9 = (25 + 5 + 4 * m_1) + 1 := h7; omega))).trans ((hF6 b9 (fun j9 h8 h7 => (show False from h7).elim)).trans ((hF5 b9 (fun j9 h8 h7 => (show False from h7).elim)).trans ((hF4 b9 (fun j9 h8 h7 => h9 j9 h8 (show 24 ≤ j9 ∧ j9 < 46 by have h6 : j9 = 24 := h7; omega))).trans ((hF2 b9 (fun j9 h8 h7 => h9 j9 h8 (show 24 ≤ j9 ∧ j9 < 46 by have h6 : 24 ≤ j9 ∧ j9 < 46 := h7; omega))).trans rfl)))))), (show (i_1 + 1) ≤ 10 by omega), trivial⟩
          · refine z_aload_n B dX6_readTemplate_97 rfl 3 rfl ?_
            refine z_iconst (v := 3) B dX6_readTemplate_98 rfl ?_
            have h_14 : Φ5 (x + 24) = some (o_ 8 [.ref (x + 25), .int v_21, .int v_22, .ref (x + 1), .int v_23, .int v_24, .int v_25, .int v_26]) := ((hF6 (x + 24) (fun j9 h8 h7 => (show False from h7).elim)).trans ((hF5 (x + 24) (fun j9 h8 h7 => (show False from h7).elim)).trans h_10))
            refine z_callV (As := [.int 3]) (rest := []) B (s_X6_fail G l Φ5 sz x (ca) 3 hx hI6 ) (cwV 1 B.1.2.2.2.2 gX6_readTemplate_X6_fail rfl rfl rfl (by decide +kernel) ⟨Nat.le_of_ble_eq_true rfl, Nat.le_of_ble_eq_true rfl⟩) h_14 rfl rfl rfl rfl (Nat.le_of_ble_eq_true rfl) dX6_readTemplate_99 ⟨Nat.le_of_ble_eq_true rfl, Nat.le_of_ble_eq_true rfl⟩ (fun r_7 Φ7 sz7 st7 hp7 hs7 => ?_)
            obtain ⟨rfl, hq7, hI8, hF8⟩ := hp7
            subst sz7
            replace hs7 : st7 = [.int 0] := hs7
            subst st7
            replace hI8 : In G x (ca) Φ7 := hI8
            exact z_ret_z B dX6_readTemplate_102 (by decide) ⟨⟨_, rfl, by decide⟩, rfl, hI8, (fun b9 h9 => ((hF8 b9 (fun j9 h8 h7 => h9 j9 h8 (show 24 ≤ j9 ∧ j9 < 46 by have h6 : j9 = 24 := h7; omega))).trans ((hF6 b9 (fun j9 h8 h7 => (show False from h7).elim)).trans ((hF5 b9 (fun j9 h8 h7 => (show False from h7).elim)).trans ((hF4 b9 (fun j9 h8 h7 => h9 j9 h8 (show 24 ≤ j9 ∧ j9 < 46 by have h6 : j9 = 24 := h7; omega))).trans ((hF2 b9 (fun j9 h8 h7 => h9 j9 h8 (show 24 ≤ j9 ∧ j9 < 46 by have h6 : 24 ≤ j9 ∧ j9 < 46 := h7; omega))).trans ((hF1 b9 (fun j9 h8 h7 => (show False from h7).elim)).trans rfl)))))))⟩
        · refine z_aload_n B dX6_readTemplate_83 rfl 3 rfl ?_
          refine z_iconst (v := 1) B dX6_readTemplate_84 rfl ?_
          have h_15 : Φ4 (x + 24) = some (o_ 8 [.ref (x + 25), .int v_21, .int v_22, .ref (x + 1), .int v_23, .int v_24, .int v_25, .int v_26]) := ((hF5 (x + 24) (fun j9 h8 h7 => (show False from h7).elim)).trans h_10)
          refine z_callV (As := [.int 1]) (rest := []) B (s_X6_fail G l Φ4 sz x (ca) 1 hx hI5 ) (cwV 1 B.1.2.2.2.2 gX6_readTemplate_X6_fail rfl rfl rfl (by decide +kernel) ⟨Nat.le_of_ble_eq_true rfl, Nat.le_of_ble_eq_true rfl⟩) h_15 rfl rfl rfl rfl (Nat.le_of_ble_eq_true rfl) dX6_readTemplate_85 ⟨Nat.le_of_ble_eq_true rfl, Nat.le_of_ble_eq_true rfl⟩ (fun r_8 Φ8 sz8 st8 hp8 hs8 => ?_)
          obtain ⟨rfl, hq8, hI9, hF9⟩ := hp8
          subst sz8
          replace hs8 : st8 = [.int 0] := hs8
          subst st8
          replace hI9 : In G x (ca) Φ8 := hI9
          exact z_ret_z B dX6_readTemplate_88 (by decide) ⟨⟨_, rfl, by decide⟩, rfl, hI9, (fun b9 h9 => ((hF9 b9 (fun j9 h8 h7 => h9 j9 h8 (show 24 ≤ j9 ∧ j9 < 46 by have h6 : j9 = 24 := h7; omega))).trans ((hF5 b9 (fun j9 h8 h7 => (show False from h7).elim)).trans ((hF4 b9 (fun j9 h8 h7 => h9 j9 h8 (show 24 ≤ j9 ∧ j9 < 46 by have h6 : j9 = 24 := h7; omega))).trans ((hF2 b9 (fun j9 h8 h7 => h9 j9 h8 (show 24 ≤ j9 ∧ j9 < 46 by have h6 : 24 ≤ j9 ∧ j9 < 46 := h7; omega))).trans ((hF1 b9 (fun j9 h8 h7 => (show False from h7).elim)).trans rfl))))))⟩
      · have e_4 : ¬ (i_1 ≤ 0) := fun h9 => c_3 ((nI_leI (a := i_1) (b := 0) (by omega) (by omega)).mpr h9)
        refine z_aload_n B dX6_readTemplate_48 rfl 2 rfl ?_
        obtain ⟨v_31, v_32, v_33, v_34, v_35, v_36, h_16⟩ := in10 (k := 24) hI4 rfl
        have h_17 : Φ3 (x + 24) = some (o_ 8 [.ref (x + 25), .int v_31, .int v_32, .ref (x + 1), .int v_33, .int v_34, .int v_35, .int v_36]) := h_16
        refine z_get (ref := "FlowExporter$Parser") (C := RX6) (T := TX6) (N := 8) (ci := 8) (v := .int v_34) B (by decide +kernel) rfl 5 (by decide) (by decide +kernel) rfl h_17 rfl dX6_readTemplate_49 ?_
        refine z_iconst (v := 4) B dX6_readTemplate_52 rfl ?_
        refine z_icmp_ne (tgt := 71) B dX6_readTemplate_53 rfl (fun c_6 => ?_) (fun c_6 => ?_)
        · refine z_aload_n B dX6_readTemplate_71 rfl 2 rfl ?_
          refine z_ldcS (q := G.2.2.1 (6 + 1)) B B.2.2.2.2.1.2.2.2.2.2.2.2.2.2.2 dX6_readTemplate_72 ?_
          refine z_callV (As := [.ref (G.2.2.1 (6 + 1))]) (rest := []) B (s_X6_wordIn G l Φ3 sz x (ca) 1 hx hI4 (show 1 < 2 by omega)) (cwV 1 B.1.2.2.2.2 gX6_readTemplate_X6_wordIn rfl rfl rfl (by decide +kernel) ⟨Nat.le_of_ble_eq_true rfl, Nat.le_of_ble_eq_true rfl⟩) h_17 rfl rfl rfl rfl (Nat.le_of_ble_eq_true rfl) dX6_readTemplate_74 ⟨Nat.le_of_ble_eq_true rfl, Nat.le_of_ble_eq_true rfl⟩ (fun r_9 Φ9 sz9 st9 hp9 hs9 => ?_)
          obtain ⟨⟨v_37, rfl⟩, hq9, hI10, hF10⟩ := hp9
          subst sz9
          replace hs9 : st9 = [.int v_37] := hs9
          subst st9
          replace hI10 : In G x (ca) Φ9 := hI10
          refine z_istore_n (lv' := [(3, .int v_37), (2, .int (nI i_1)), (1, .ref (x + (25 + 5 + 4 * m_1))), (0, .ref (x + 24))]) B dX6_readTemplate_77 rfl (Nat.le_of_ble_eq_true rfl) rfl ?_
          refine z_iload_n B dX6_readTemplate_78 rfl 0 rfl ?_
          refine z_iconst (v := (-1)) B dX6_readTemplate_79 rfl ?_
          refine z_icmp_ne (tgt := 89) B dX6_readTemplate_80 rfl (fun c_7 => ?_) (fun c_7 => ?_)
          · refine z_aload_n B dX6_readTemplate_89 rfl 2 rfl ?_
            refine z_iload_n B dX6_readTemplate_90 rfl 0 rfl ?_
            obtain ⟨n_2, v_38, v_39, h_18, b_4⟩ := in8 (k := 25 + 5 + 4 * m_1) hI10 (kd_w (kd_s rfl).2.2.1 hm_1)
            have h_19 : Φ9 (x + (25 + 5 + 4 * m_1)) = some (o_ 12 [.ref (x + (25 + 5 + 4 * m_1 + 1)), .int (nI n_2), .int v_38, .int v_39]) := h_18
            refine z_callV (As := [.int v_37]) (rest := []) B (s_X10_has G l Φ9 sz x (ca) (25 + 5 + 4 * m_1) v_37 hx hI10 (kd_w (kd_s rfl).2.2.1 hm_1)) (cwV 1 B.1.2.2.2.2 gX6_readTemplate_X10_has rfl rfl rfl (by decide +kernel) ⟨Nat.le_of_ble_eq_true rfl, Nat.le_of_ble_eq_true rfl⟩) h_19 rfl rfl rfl rfl (Nat.le_of_ble_eq_true rfl) dX6_readTemplate_91 ⟨Nat.le_of_ble_eq_true rfl, Nat.le_of_ble_eq_true rfl⟩ (fun r_10 Φ10 sz10 st10 hp10 hs10 => ?_)
            obtain ⟨⟨v_40, rfl, b_5⟩, hq10, hI11, hF11⟩ := hp10
            subst sz10
            replace hs10 : st10 = [.int v_40] := hs10
            subst st10
            replace hI11 : In G x (ca) Φ10 := hI11
            refine z_if_eq (tgt := 103) B dX6_readTemplate_94 rfl (fun c_8 => ?_) (fun c_8 => ?_)
            · refine z_aload_n B dX6_readTemplate_103 rfl 2 rfl ?_
              refine z_iload_n B dX6_readTemplate_104 rfl 0 rfl ?_
              have h_20 : Φ10 (x + (25 + 5 + 4 * m_1)) = some (o_ 12 [.ref (x + (25 + 5 + 4 * m_1 + 1)), .int (nI n_2), .int v_38, .int v_39]) := ((hF11 (x + (25 + 5 + 4 * m_1)) (fun j9 h8 h7 => (show False from h7).elim)).trans h_19)
              refine z_callV (As := [.int v_37]) (rest := []) B (s_X10_addField G l Φ10 sz x (ca) (25 + 5 + 4 * m_1) v_37 hx hI11 (kd_w (kd_s rfl).2.2.1 hm_1)) (cwV 1 B.1.2.2.2.2 gX6_readTemplate_X10_addField rfl rfl rfl (by decide +kernel) ⟨Nat.le_of_ble_eq_true rfl, Nat.le_of_ble_eq_true rfl⟩) h_20 rfl rfl rfl rfl (Nat.le_of_ble_eq_true rfl) dX6_readTemplate_105 ⟨Nat.le_of_ble_eq_true rfl, Nat.le_of_ble_eq_true rfl⟩ (fun r_11 Φ11 sz11 st11 hp11 hs11 => ?_)
              obtain ⟨rfl, hq11, hI12, hF12⟩ := hp11
              subst sz11
              replace hs11 : st11 = [] := hs11
              subst st11
              replace hI12 : In G x (ca) Φ11 := hI12
              refine z_iinc (k := 1) (v := nI (i_1 + 1)) (lv' := [(2, .int (nI (i_1 + 1))), (3, .int v_37), (1, .ref (x + (25 + 5 + 4 * m_1))), (0, .ref (x + 24))]) B dX6_readTemplate_108 rfl (nI_add i_1 1) (Nat.le_of_ble_eq_true rfl) rfl ?_
              refine z_goto (tgt := 34) B dX6_readTemplate_111 rfl ?_
              refine z_lv [0, 2, 3] rfl ?_
              exact ih1 (i_1 + 1) Φ11 (show 10 - (i_1 + 1) < 10 - i_1 by omega) ⟨hI12, (fun b9 h9 => ((hF12 b9 (fun j9 h8 h7 => h9 j9 h8 (show 24 ≤ j9 ∧ j9 < 46 by have h6 : j9 = (25 + 5 + 4 * m_1) ∨ j9 = (25 + 5 + 4 * m_1) + 1 := h7; omega))).trans ((hF11 b9 (fun j9 h8 h7 => (show False from h7).elim)).trans ((hF10 b9 (fun j9 h8 h7 => (show False from h7).elim)).trans ((hF4 b9 (fun j9 h8 h7 => h9 j9 h8 (show 24 ≤ j9 ∧ j9 < 46 by have h6 : j9 = 24 := h7; omega))).trans ((hF2 b9 (fun j9 h8 h7 => h9 j9 h8 (show 24 ≤ j9 ∧ j9 < 46 by have h6 : 24 ≤ j9 ∧ j9 < 46 := h7; omega))).trans rfl)))))), (show (i_1 + 1) ≤ 10 by omega), trivial⟩
            · refine z_aload_n B dX6_readTemplate_97 rfl 3 rfl ?_
              refine z_iconst (v := 3) B dX6_readTemplate_98 rfl ?_
              have h_21 : Φ10 (x + 24) = some (o_ 8 [.ref (x + 25), .int v_31, .int v_32, .ref (x + 1), .int v_33, .int v_34, .int v_35, .int v_36]) := ((hF11 (x + 24) (fun j9 h8 h7 => (show False from h7).elim)).trans ((hF10 (x + 24) (fun j9 h8 h7 => (show False from h7).elim)).trans h_17))
              refine z_callV (As := [.int 3]) (rest := []) B (s_X6_fail G l Φ10 sz x (ca) 3 hx hI11 ) (cwV 1 B.1.2.2.2.2 gX6_readTemplate_X6_fail rfl rfl rfl (by decide +kernel) ⟨Nat.le_of_ble_eq_true rfl, Nat.le_of_ble_eq_true rfl⟩) h_21 rfl rfl rfl rfl (Nat.le_of_ble_eq_true rfl) dX6_readTemplate_99 ⟨Nat.le_of_ble_eq_true rfl, Nat.le_of_ble_eq_true rfl⟩ (fun r_12 Φ12 sz12 st12 hp12 hs12 => ?_)
              obtain ⟨rfl, hq12, hI13, hF13⟩ := hp12
              subst sz12
              replace hs12 : st12 = [.int 0] := hs12
              subst st12
              replace hI13 : In G x (ca) Φ12 := hI13
              exact z_ret_z B dX6_readTemplate_102 (by decide) ⟨⟨_, rfl, by decide⟩, rfl, hI13, (fun b9 h9 => ((hF13 b9 (fun j9 h8 h7 => h9 j9 h8 (show 24 ≤ j9 ∧ j9 < 46 by have h6 : j9 = 24 := h7; omega))).trans ((hF11 b9 (fun j9 h8 h7 => (show False from h7).elim)).trans ((hF10 b9 (fun j9 h8 h7 => (show False from h7).elim)).trans ((hF4 b9 (fun j9 h8 h7 => h9 j9 h8 (show 24 ≤ j9 ∧ j9 < 46 by have h6 : j9 = 24 := h7; omega))).trans ((hF2 b9 (fun j9 h8 h7 => h9 j9 h8 (show 24 ≤ j9 ∧ j9 < 46 by have h6 : 24 ≤ j9 ∧ j9 < 46 := h7; omega))).trans ((hF1 b9 (fun j9 h8 h7 => (show False from h7).elim)).trans rfl)))))))⟩
          · refine z_aload_n B dX6_readTemplate_83 rfl 3 rfl ?_
            refine z_iconst (v := 1) B dX6_readTemplate_84 rfl ?_
            have h_22 : Φ9 (x + 24) = some (o_ 8 [.ref (x + 25), .int v_31, .int v_32, .ref (x + 1), .int v_33, .int v_34, .int v_35, .int v_36]) := ((hF10 (x + 24) (fun j9 h8 h7 => (show False from h7).elim)).trans h_17)
            refine z_callV (As := [.int 1]) (rest := []) B (s_X6_fail G l Φ9 sz x (ca) 1 hx hI10 ) (cwV 1 B.1.2.2.2.2 gX6_readTemplate_X6_fail rfl rfl rfl (by decide +kernel) ⟨Nat.le_of_ble_eq_true rfl, Nat.le_of_ble_eq_true rfl⟩) h_22 rfl rfl rfl rfl (Nat.le_of_ble_eq_true rfl) dX6_readTemplate_85 ⟨Nat.le_of_ble_eq_true rfl, Nat.le_of_ble_eq_true rfl⟩ (fun r_13 Φ13 sz13 st13 hp13 hs13 => ?_)
            obtain ⟨rfl, hq13, hI14, hF14⟩ := hp13
            subst sz13
            replace hs13 : st13 = [.int 0] := hs13
            subst st13
            replace hI14 : In G x (ca) Φ13 := hI14
            exact z_ret_z B dX6_readTemplate_88 (by decide) ⟨⟨_, rfl, by decide⟩, rfl, hI14, (fun b9 h9 => ((hF14 b9 (fun j9 h8 h7 => h9 j9 h8 (show 24 ≤ j9 ∧ j9 < 46 by have h6 : j9 = 24 := h7; omega))).trans ((hF10 b9 (fun j9 h8 h7 => (show False from h7).elim)).trans ((hF4 b9 (fun j9 h8 h7 => h9 j9 h8 (show 24 ≤ j9 ∧ j9 < 46 by have h6 : j9 = 24 := h7; omega))).trans ((hF2 b9 (fun j9 h8 h7 => h9 j9 h8 (show 24 ≤ j9 ∧ j9 < 46 by have h6 : 24 ≤ j9 ∧ j9 < 46 := h7; omega))).trans ((hF1 b9 (fun j9 h8 h7 => (show False from h7).elim)).trans rfl))))))⟩
        · refine z_aload_n B dX6_readTemplate_56 rfl 2 rfl ?_
          refine z_get (ref := "FlowExporter$Parser") (C := RX6) (T := TX6) (N := 8) (ci := 8) (v := .ref (x + 25)) B (by decide +kernel) rfl 0 (by decide) (by decide +kernel) rfl h_17 rfl dX6_readTemplate_57 ?_
          refine z_dup B dX6_readTemplate_60 rfl ?_
          obtain ⟨v_41, v_42, h_23⟩ := in3 (k := 25) hI4 rfl
          have h_24 : Φ3 (x + 25) = some (o_ 3 [.ref (x + 26), .ref (x + 27), .ref (x + 28), .ref (x + 29), .int v_41, .int v_42]) := h_23
          refine z_get (ref := "FlowExporter$Config") (C := RX1) (T := TX1) (N := 6) (ci := 3) (v := .int v_41) B (by decide +kernel) rfl 4 (by decide) (by decide +kernel) rfl h_24 rfl dX6_readTemplate_61 ?_
          refine z_iconst (v := 1) B dX6_readTemplate_64 rfl ?_
          refine z_iadd B dX6_readTemplate_65 ?_
          refine z_fi (fun v_43 => ?_)
          refine z_put (ref := "FlowExporter$Config") (C := RX1) (T := TX1) (N := 6) (ci := 3) (v := .int v_43) B (by decide +kernel) tyX1 tyX1_ok nmX1 rfl 4 (by decide) (by decide +kernel) rfl (Or.inl rfl) h_24 (Nat.le_trans hx (Nat.le_add_right x 25)) rfl rfl (Nat.le_of_ble_eq_true rfl) dX6_readTemplate_66 (fun Φ14 hΦ1 => ?_)
          have h_25 : Φ14 (x + 25) = some (o_ 3 [.ref (x + 26), .ref (x + 27), .ref (x + 28), .ref (x + 29), .int v_43, .int v_42]) := fset_at hΦ1
          have hI15 : In G x (ca) Φ14 := In.put (k := 25) hI4 hΦ1 (ok3 (k := 25) rfl ⟨v_43, v_42, rfl⟩)
          refine z_iconst (v := 1) B dX6_readTemplate_69 rfl ?_
          exact z_ret_z B dX6_readTemplate_70 (by decide) ⟨⟨_, rfl, by decide⟩, rfl, hI15, (fun b9 h9 => ((fset_fr hΦ1 (fun h8 => h9 (25) h8 (show 24 ≤ 25 ∧ 25 < 46 by omega))).trans ((hF4 b9 (fun j9 h8 h7 => h9 j9 h8 (show 24 ≤ j9 ∧ j9 < 46 by have h6 : j9 = 24 := h7; omega))).trans ((hF2 b9 (fun j9 h8 h7 => h9 j9 h8 (show 24 ≤ j9 ∧ j9 < 46 by have h6 : 24 ≤ j9 ∧ j9 < 46 := h7; omega))).trans ((hF1 b9 (fun j9 h8 h7 => (show False from h7).elim)).trans rfl)))))⟩
  · obtain ⟨n_3, e_6, e_5, rfl⟩ := nI_ofge (c := 4) (by omega) c_1
    refine z_aload_n B dX6_readTemplate_11 rfl 0 rfl ?_
    refine z_iconst (v := 4) B dX6_readTemplate_12 rfl ?_
    refine z_callV (As := [.int 4]) (rest := []) B (s_X6_fail G l Φ sz x (ca) 4 hx hI ) (cwV 1 B.1.2.2.2.2 gX6_readTemplate_X6_fail rfl rfl rfl (by decide +kernel) ⟨Nat.le_of_ble_eq_true rfl, Nat.le_of_ble_eq_true rfl⟩) h_2 rfl rfl rfl rfl (Nat.le_of_ble_eq_true rfl) dX6_readTemplate_13 ⟨Nat.le_of_ble_eq_true rfl, Nat.le_of_ble_eq_true rfl⟩ (fun r_14 Φ15 sz14 st14 hp14 hs14 => ?_)
    obtain ⟨rfl, hq14, hI16, hF15⟩ := hp14
    subst sz14
    replace hs14 : st14 = [.int 0] := hs14
    subst st14
    replace hI16 : In G x (ca) Φ15 := hI16
    exact z_ret_z B dX6_readTemplate_16 (by decide) ⟨⟨_, rfl, by decide⟩, rfl, hI16, (fun b9 h9 => ((hF15 b9 (fun j9 h8 h7 => h9 j9 h8 (show 24 ≤ j9 ∧ j9 < 46 by have h6 : j9 = 24 := h7; omega))).trans rfl))⟩

set_option maxHeartbeats 4000000 in
set_option maxRecDepth 100000 in
theorem s_X6_readUse (G : EnvG) (l : Launch) (Φ : Hm) (sz x ca : Nat)  (hx : G.2.2.2 ≤ x) (hI : In G x ca Φ)  : Ct G l yX6_readUse wsX6_readUse ({ frames := 3, cells := 0, slots := 0, locals := 65 }) 0 0 [.ref (x + 24)] Φ sz (fun v Φ1 sz1 => (∃ r9 : Int32, v = some (.int r9) ∧ (r9 = 0 ∨ r9 = 1)) ∧ sz1 = sz ∧ In G x (ca) Φ1 ∧ Fr x (fun j9 => 24 ≤ j9 ∧ j9 < 46) Φ Φ1) := by
  refine Ct.of (cc := cX6_readUse) (maxL := 2) (ret := (some .boolean)) (by decide) rfl (Nat.le_of_ble_eq_true rfl) ?_
  intro p9 e9 s9 m9 w9 t9 k9 B
  show Z p9 l e9 _ s9 m9 _ w9 t9 k9 _ G 2 0 [(0, .ref (x + 24))] [] Φ sz 0 0
  refine z_aload_n B dX6_readUse_0 rfl 0 rfl ?_
  refine z_iconst (v := 0) B dX6_readUse_1 rfl ?_
  refine z_sipush (v := 255) B dX6_readUse_2 rfl ?_
  obtain ⟨v_1, v_2, v_3, v_4, v_5, v_6, h_1⟩ := in10 (k := 24) hI rfl
  have h_2 : Φ (x + 24) = some (o_ 8 [.ref (x + 25), .int v_1, .int v_2, .ref (x + 1), .int v_3, .int v_4, .int v_5, .int v_6]) := h_1
  refine z_callV (As := [.int 0, .int 255]) (rest := []) B (s_X6_readNumber G l Φ sz x (ca) 0 255 hx hI ) (cwV 2 B.1.2.2.2.2 gX6_readUse_X6_readNumber rfl rfl rfl (by decide +kernel) ⟨Nat.le_of_ble_eq_true rfl, Nat.le_of_ble_eq_true rfl⟩) h_2 rfl rfl rfl rfl (Nat.le_of_ble_eq_true rfl) dX6_readUse_5 ⟨Nat.le_of_ble_eq_true rfl, Nat.le_of_ble_eq_true rfl⟩ (fun r_1 Φ1 sz1 st1 hp1 hs1 => ?_)
  obtain ⟨⟨v_7, rfl, b_1⟩, hq1, hI1, hF1⟩ := hp1
  subst sz1
  replace hs1 : st1 = [.int v_7] := hs1
  subst st1
  replace hI1 : In G x (ca) Φ1 := hI1
  refine z_if_ne (tgt := 13) B dX6_readUse_8 rfl (fun c_1 => ?_) (fun c_1 => ?_)
  · refine z_aload_n B dX6_readUse_13 rfl 0 rfl ?_
    obtain ⟨v_8, v_9, v_10, v_11, v_12, v_13, h_3⟩ := in10 (k := 24) hI1 rfl
    have h_4 : Φ1 (x + 24) = some (o_ 8 [.ref (x + 25), .int v_8, .int v_9, .ref (x + 1), .int v_10, .int v_11, .int v_12, .int v_13]) := h_3
    refine z_get (ref := "FlowExporter$Parser") (C := RX6) (T := TX6) (N := 8) (ci := 8) (v := .int v_13) B (by decide +kernel) rfl 7 (by decide) (by decide +kernel) rfl h_4 rfl dX6_readUse_14 ?_
    refine z_istore_n (lv' := [(1, .int v_13), (0, .ref (x + 24))]) B dX6_readUse_17 rfl (Nat.le_of_ble_eq_true rfl) rfl ?_
    refine z_aload_n B dX6_readUse_18 rfl 1 rfl ?_
    refine z_iconst (v := 0) B dX6_readUse_19 rfl ?_
    refine z_aload_n B dX6_readUse_20 rfl 1 rfl ?_
    refine z_get (ref := "FlowExporter$Parser") (C := RX6) (T := TX6) (N := 8) (ci := 8) (v := .ref (x + 25)) B (by decide +kernel) rfl 0 (by decide) (by decide +kernel) rfl h_4 rfl dX6_readUse_21 ?_
    obtain ⟨v_14, v_15, h_5⟩ := in3 (k := 25) hI1 rfl
    have h_6 : Φ1 (x + 25) = some (o_ 3 [.ref (x + 26), .ref (x + 27), .ref (x + 28), .ref (x + 29), .int v_14, .int v_15]) := h_5
    refine z_get (ref := "FlowExporter$Config") (C := RX1) (T := TX1) (N := 6) (ci := 3) (v := .int v_14) B (by decide +kernel) rfl 4 (by decide) (by decide +kernel) rfl h_6 rfl dX6_readUse_24 ?_
    refine z_iconst (v := 1) B dX6_readUse_27 rfl ?_
    refine z_isub B dX6_readUse_28 ?_
    refine z_fi (fun v_16 => ?_)
    refine z_callV (As := [.int 0, .int v_16]) (rest := []) B (s_X6_readNumber G l Φ1 sz x (ca) 0 v_16 hx hI1 ) (cwV 2 B.1.2.2.2.2 gX6_readUse_X6_readNumber rfl rfl rfl (by decide +kernel) ⟨Nat.le_of_ble_eq_true rfl, Nat.le_of_ble_eq_true rfl⟩) h_4 rfl rfl rfl rfl (Nat.le_of_ble_eq_true rfl) dX6_readUse_29 ⟨Nat.le_of_ble_eq_true rfl, Nat.le_of_ble_eq_true rfl⟩ (fun r_2 Φ2 sz2 st2 hp2 hs2 => ?_)
    obtain ⟨⟨v_17, rfl, b_2⟩, hq2, hI2, hF2⟩ := hp2
    subst sz2
    replace hs2 : st2 = [.int v_17] := hs2
    subst st2
    replace hI2 : In G x (ca) Φ2 := hI2
    refine z_if_ne (tgt := 37) B dX6_readUse_32 rfl (fun c_2 => ?_) (fun c_2 => ?_)
    · refine z_aload_n B dX6_readUse_37 rfl 1 rfl ?_
      obtain ⟨v_18, v_19, v_20, v_21, v_22, v_23, h_7⟩ := in10 (k := 24) hI2 rfl
      have h_8 : Φ2 (x + 24) = some (o_ 8 [.ref (x + 25), .int v_18, .int v_19, .ref (x + 1), .int v_20, .int v_21, .int v_22, .int v_23]) := h_7
      refine z_get (ref := "FlowExporter$Parser") (C := RX6) (T := TX6) (N := 8) (ci := 8) (v := .ref (x + 25)) B (by decide +kernel) rfl 0 (by decide) (by decide +kernel) rfl h_8 rfl dX6_readUse_38 ?_
      refine z_iload_n B dX6_readUse_41 rfl 0 rfl ?_
      refine z_aload_n B dX6_readUse_42 rfl 1 rfl ?_
      refine z_get (ref := "FlowExporter$Parser") (C := RX6) (T := TX6) (N := 8) (ci := 8) (v := .int v_23) B (by decide +kernel) rfl 7 (by decide) (by decide +kernel) rfl h_8 rfl dX6_readUse_43 ?_
      have h_9 : Φ2 (x + 25) = some (o_ 3 [.ref (x + 26), .ref (x + 27), .ref (x + 28), .ref (x + 29), .int v_14, .int v_15]) := ((hF2 (x + 25) (fun j9 h8 h7 => by have h6 : j9 = 24 := h7; omega)).trans h_6)
      refine z_callV (As := [.int v_13, .int v_23]) (rest := []) B (s_X1_use G l Φ2 sz x (ca) 25 v_13 v_23 hx hI2 rfl) (cwV 2 B.1.2.2.2.2 gX6_readUse_X1_use rfl rfl rfl (by decide +kernel) ⟨Nat.le_of_ble_eq_true rfl, Nat.le_of_ble_eq_true rfl⟩) h_9 rfl rfl rfl rfl (Nat.le_of_ble_eq_true rfl) dX6_readUse_46 ⟨Nat.le_of_ble_eq_true rfl, Nat.le_of_ble_eq_true rfl⟩ (fun r_3 Φ3 sz3 st3 hp3 hs3 => ?_)
      obtain ⟨rfl, hq3, hI3, hF3⟩ := hp3
      subst sz3
      replace hs3 : st3 = [] := hs3
      subst st3
      replace hI3 : In G x (ca) Φ3 := hI3
      refine z_aload_n B dX6_readUse_49 rfl 1 rfl ?_
      have h_10 : Φ3 (x + 24) = some (o_ 8 [.ref (x + 25), .int v_18, .int v_19, .ref (x + 1), .int v_20, .int v_21, .int v_22, .int v_23]) := ((hF3 (x + 24) (fun j9 h8 h7 => by have h6 : j9 = 25 + 2 := h7; omega)).trans h_8)
      refine z_callV (As := []) (rest := []) B (s_X6_readSemicolon G l Φ3 sz x (ca)  hx hI3 ) (cwV 0 B.1.2.2.2.2 gX6_readUse_X6_readSemicolon rfl rfl rfl (by decide +kernel) ⟨Nat.le_of_ble_eq_true rfl, Nat.le_of_ble_eq_true rfl⟩) h_10 rfl rfl rfl rfl (Nat.le_of_ble_eq_true rfl) dX6_readUse_50 ⟨Nat.le_of_ble_eq_true rfl, Nat.le_of_ble_eq_true rfl⟩ (fun r_4 Φ4 sz4 st4 hp4 hs4 => ?_)
      obtain ⟨⟨v_24, rfl, b_3⟩, hq4, hI4, hF4⟩ := hp4
      subst sz4
      replace hs4 : st4 = [.int v_24] := hs4
      subst st4
      replace hI4 : In G x (ca) Φ4 := hI4
      exact z_ret_z B dX6_readUse_53 b_3 ⟨⟨_, rfl, b_3⟩, rfl, hI4, (fun b9 h9 => ((hF4 b9 (fun j9 h8 h7 => h9 j9 h8 (show 24 ≤ j9 ∧ j9 < 46 by have h6 : j9 = 24 := h7; omega))).trans ((hF3 b9 (fun j9 h8 h7 => h9 j9 h8 (show 24 ≤ j9 ∧ j9 < 46 by have h6 : j9 = 25 + 2 := h7; omega))).trans ((hF2 b9 (fun j9 h8 h7 => h9 j9 h8 (show 24 ≤ j9 ∧ j9 < 46 by have h6 : j9 = 24 := h7; omega))).trans ((hF1 b9 (fun j9 h8 h7 => h9 j9 h8 (show 24 ≤ j9 ∧ j9 < 46 by have h6 : j9 = 24 := h7; omega))).trans rfl)))))⟩
    · refine z_iconst (v := 0) B dX6_readUse_35 rfl ?_
      exact z_ret_z B dX6_readUse_36 (by decide) ⟨⟨_, rfl, by decide⟩, rfl, hI2, (fun b9 h9 => ((hF2 b9 (fun j9 h8 h7 => h9 j9 h8 (show 24 ≤ j9 ∧ j9 < 46 by have h6 : j9 = 24 := h7; omega))).trans ((hF1 b9 (fun j9 h8 h7 => h9 j9 h8 (show 24 ≤ j9 ∧ j9 < 46 by have h6 : j9 = 24 := h7; omega))).trans rfl)))⟩
  · refine z_iconst (v := 0) B dX6_readUse_11 rfl ?_
    exact z_ret_z B dX6_readUse_12 (by decide) ⟨⟨_, rfl, by decide⟩, rfl, hI1, (fun b9 h9 => ((hF1 b9 (fun j9 h8 h7 => h9 j9 h8 (show 24 ≤ j9 ∧ j9 < 46 by have h6 : j9 = 24 := h7; omega))).trans rfl))⟩

set_option maxHeartbeats 4000000 in
set_option maxRecDepth 100000 in
theorem s_X6_readDrop (G : EnvG) (l : Launch) (Φ : Hm) (sz x ca : Nat)  (hx : G.2.2.2 ≤ x) (hI : In G x ca Φ)  : Ct G l yX6_readDrop wsX6_readDrop ({ frames := 6, cells := 0, slots := 0, locals := 133 }) 0 0 [.ref (x + 24)] Φ sz (fun v Φ1 sz1 => (∃ r9 : Int32, v = some (.int r9) ∧ (r9 = 0 ∨ r9 = 1)) ∧ sz1 = sz ∧ In G x (ca) Φ1 ∧ Fr x (fun j9 => 24 ≤ j9 ∧ j9 < 46) Φ Φ1) := by
  refine Ct.of (cc := cX6_readDrop) (maxL := 2) (ret := (some .boolean)) (by decide) rfl (Nat.le_of_ble_eq_true rfl) ?_
  intro p9 e9 s9 m9 w9 t9 k9 B
  show Z p9 l e9 _ s9 m9 _ w9 t9 k9 _ G 2 0 [(0, .ref (x + 24))] [] Φ sz 0 0
  refine z_aload_n B dX6_readDrop_0 rfl 0 rfl ?_
  obtain ⟨v_1, v_2, v_3, v_4, v_5, v_6, h_1⟩ := in10 (k := 24) hI rfl
  have h_2 : Φ (x + 24) = some (o_ 8 [.ref (x + 25), .int v_1, .int v_2, .ref (x + 1), .int v_3, .int v_4, .int v_5, .int v_6]) := h_1
  refine z_callV (As := []) (rest := []) B (s_X6_nextToken G l Φ sz x (ca)  hx hI ) (cwV 0 B.1.2.2.2.2 gX6_readDrop_X6_nextToken rfl rfl rfl (by decide +kernel) ⟨Nat.le_of_ble_eq_true rfl, Nat.le_of_ble_eq_true rfl⟩) h_2 rfl rfl rfl rfl (Nat.le_of_ble_eq_true rfl) dX6_readDrop_1 ⟨Nat.le_of_ble_eq_true rfl, Nat.le_of_ble_eq_true rfl⟩ (fun r_1 Φ1 sz1 st1 hp1 hs1 => ?_)
  obtain ⟨rfl, hq1, hI1, hF1⟩ := hp1
  subst sz1
  replace hs1 : st1 = [] := hs1
  subst st1
  replace hI1 : In G x (ca) Φ1 := hI1
  refine z_aload_n B dX6_readDrop_4 rfl 0 rfl ?_
  refine z_ldcS (q := G.2.2.1 (6 + 1)) B B.2.2.2.2.1.2.2.2.2.2.2.2.2.2.2 dX6_readDrop_5 ?_
  obtain ⟨v_7, v_8, v_9, v_10, v_11, v_12, h_3⟩ := in10 (k := 24) hI1 rfl
  have h_4 : Φ1 (x + 24) = some (o_ 8 [.ref (x + 25), .int v_7, .int v_8, .ref (x + 1), .int v_9, .int v_10, .int v_11, .int v_12]) := h_3
  refine z_callV (As := [.ref (G.2.2.1 (6 + 1))]) (rest := []) B (s_X6_wordIn G l Φ1 sz x (ca) 1 hx hI1 (show 1 < 2 by omega)) (cwV 1 B.1.2.2.2.2 gX6_readDrop_X6_wordIn rfl rfl rfl (by decide +kernel) ⟨Nat.le_of_ble_eq_true rfl, Nat.le_of_ble_eq_true rfl⟩) h_4 rfl rfl rfl rfl (Nat.le_of_ble_eq_true rfl) dX6_readDrop_7 ⟨Nat.le_of_ble_eq_true rfl, Nat.le_of_ble_eq_true rfl⟩ (fun r_2 Φ2 sz2 st2 hp2 hs2 => ?_)
  obtain ⟨⟨v_13, rfl⟩, hq2, hI2, hF2⟩ := hp2
  subst sz2
  replace hs2 : st2 = [.int v_13] := hs2
  subst st2
  replace hI2 : In G x (ca) Φ2 := hI2
  refine z_istore_n (lv' := [(1, .int v_13), (0, .ref (x + 24))]) B dX6_readDrop_10 rfl (Nat.le_of_ble_eq_true rfl) rfl ?_
  refine z_iload_n B dX6_readDrop_11 rfl 0 rfl ?_
  refine z_iconst (v := (-1)) B dX6_readDrop_12 rfl ?_
  refine z_icmp_ne (tgt := 22) B dX6_readDrop_13 rfl (fun c_1 => ?_) (fun c_1 => ?_)
  · refine z_aload_n B dX6_readDrop_22 rfl 1 rfl ?_
    have h_5 : Φ2 (x + 24) = some (o_ 8 [.ref (x + 25), .int v_7, .int v_8, .ref (x + 1), .int v_9, .int v_10, .int v_11, .int v_12]) := ((hF2 (x + 24) (fun j9 h8 h7 => (show False from h7).elim)).trans h_4)
    refine z_get (ref := "FlowExporter$Parser") (C := RX6) (T := TX6) (N := 8) (ci := 8) (v := .ref (x + 25)) B (by decide +kernel) rfl 0 (by decide) (by decide +kernel) rfl h_5 rfl dX6_readDrop_23 ?_
    refine z_dup B dX6_readDrop_26 rfl ?_
    obtain ⟨v_14, v_15, h_6⟩ := in3 (k := 25) hI2 rfl
    have h_7 : Φ2 (x + 25) = some (o_ 3 [.ref (x + 26), .ref (x + 27), .ref (x + 28), .ref (x + 29), .int v_14, .int v_15]) := h_6
    refine z_get (ref := "FlowExporter$Config") (C := RX1) (T := TX1) (N := 6) (ci := 3) (v := .int v_15) B (by decide +kernel) rfl 5 (by decide) (by decide +kernel) rfl h_7 rfl dX6_readDrop_27 ?_
    refine z_iconst (v := 1) B dX6_readDrop_30 rfl ?_
    refine z_iload_n B dX6_readDrop_31 rfl 0 rfl ?_
    refine z_ishl B dX6_readDrop_32 ?_
    refine z_fi (fun v_16 => ?_)
    refine z_iconst (v := (-1)) B dX6_readDrop_33 rfl ?_
    refine z_ixor B dX6_readDrop_34 ?_
    refine z_fi (fun v_17 => ?_)
    refine z_iand B dX6_readDrop_35 ?_
    refine z_fi (fun v_18 => ?_)
    refine z_put (ref := "FlowExporter$Config") (C := RX1) (T := TX1) (N := 6) (ci := 3) (v := .int v_18) B (by decide +kernel) tyX1 tyX1_ok nmX1 rfl 5 (by decide) (by decide +kernel) rfl (Or.inl rfl) h_7 (Nat.le_trans hx (Nat.le_add_right x 25)) rfl rfl (Nat.le_of_ble_eq_true rfl) dX6_readDrop_36 (fun Φ3 hΦ1 => ?_)
    have h_8 : Φ3 (x + 25) = some (o_ 3 [.ref (x + 26), .ref (x + 27), .ref (x + 28), .ref (x + 29), .int v_14, .int v_18]) := fset_at hΦ1
    have hI3 : In G x (ca) Φ3 := In.put (k := 25) hI2 hΦ1 (ok3 (k := 25) rfl ⟨v_14, v_18, rfl⟩)
    refine z_aload_n B dX6_readDrop_39 rfl 1 rfl ?_
    have h_9 : Φ3 (x + 24) = some (o_ 8 [.ref (x + 25), .int v_7, .int v_8, .ref (x + 1), .int v_9, .int v_10, .int v_11, .int v_12]) := ((fset_fr hΦ1 (ne_off (x := x) (i := 24) (j := 25) rfl)).trans h_5)
    refine z_callV (As := []) (rest := []) B (s_X6_readSemicolon G l Φ3 sz x (ca)  hx hI3 ) (cwV 0 B.1.2.2.2.2 gX6_readDrop_X6_readSemicolon rfl rfl rfl (by decide +kernel) ⟨Nat.le_of_ble_eq_true rfl, Nat.le_of_ble_eq_true rfl⟩) h_9 rfl rfl rfl rfl (Nat.le_of_ble_eq_true rfl) dX6_readDrop_40 ⟨Nat.le_of_ble_eq_true rfl, Nat.le_of_ble_eq_true rfl⟩ (fun r_3 Φ4 sz3 st3 hp3 hs3 => ?_)
    obtain ⟨⟨v_19, rfl, b_1⟩, hq3, hI4, hF3⟩ := hp3
    subst sz3
    replace hs3 : st3 = [.int v_19] := hs3
    subst st3
    replace hI4 : In G x (ca) Φ4 := hI4
    exact z_ret_z B dX6_readDrop_43 b_1 ⟨⟨_, rfl, b_1⟩, rfl, hI4, (fun b9 h9 => ((hF3 b9 (fun j9 h8 h7 => h9 j9 h8 (show 24 ≤ j9 ∧ j9 < 46 by have h6 : j9 = 24 := h7; omega))).trans ((fset_fr hΦ1 (fun h8 => h9 (25) h8 (show 24 ≤ 25 ∧ 25 < 46 by omega))).trans ((hF2 b9 (fun j9 h8 h7 => (show False from h7).elim)).trans ((hF1 b9 (fun j9 h8 h7 => h9 j9 h8 (show 24 ≤ j9 ∧ j9 < 46 by have h6 : j9 = 24 := h7; omega))).trans rfl)))))⟩
  · refine z_aload_n B dX6_readDrop_16 rfl 1 rfl ?_
    refine z_iconst (v := 1) B dX6_readDrop_17 rfl ?_
    have h_10 : Φ2 (x + 24) = some (o_ 8 [.ref (x + 25), .int v_7, .int v_8, .ref (x + 1), .int v_9, .int v_10, .int v_11, .int v_12]) := ((hF2 (x + 24) (fun j9 h8 h7 => (show False from h7).elim)).trans h_4)
    refine z_callV (As := [.int 1]) (rest := []) B (s_X6_fail G l Φ2 sz x (ca) 1 hx hI2 ) (cwV 1 B.1.2.2.2.2 gX6_readDrop_X6_fail rfl rfl rfl (by decide +kernel) ⟨Nat.le_of_ble_eq_true rfl, Nat.le_of_ble_eq_true rfl⟩) h_10 rfl rfl rfl rfl (Nat.le_of_ble_eq_true rfl) dX6_readDrop_18 ⟨Nat.le_of_ble_eq_true rfl, Nat.le_of_ble_eq_true rfl⟩ (fun r_4 Φ5 sz4 st4 hp4 hs4 => ?_)
    obtain ⟨rfl, hq4, hI5, hF4⟩ := hp4
    subst sz4
    replace hs4 : st4 = [.int 0] := hs4
    subst st4
    replace hI5 : In G x (ca) Φ5 := hI5
    exact z_ret_z B dX6_readDrop_21 (by decide) ⟨⟨_, rfl, by decide⟩, rfl, hI5, (fun b9 h9 => ((hF4 b9 (fun j9 h8 h7 => h9 j9 h8 (show 24 ≤ j9 ∧ j9 < 46 by have h6 : j9 = 24 := h7; omega))).trans ((hF2 b9 (fun j9 h8 h7 => (show False from h7).elim)).trans ((hF1 b9 (fun j9 h8 h7 => h9 j9 h8 (show 24 ≤ j9 ∧ j9 < 46 by have h6 : j9 = 24 := h7; omega))).trans rfl))))⟩

set_option maxHeartbeats 4000000 in
set_option maxRecDepth 100000 in
theorem s_X6_readStatement (G : EnvG) (l : Launch) (Φ : Hm) (sz x ca : Nat)  (hx : G.2.2.2 ≤ x) (hI : In G x ca Φ)  : Ct G l yX6_readStatement wsX6_readStatement ({ frames := 7, cells := 0, slots := 0, locals := 156 }) 0 0 [.ref (x + 24)] Φ sz (fun v Φ1 sz1 => (∃ r9 : Int32, v = some (.int r9) ∧ (r9 = 0 ∨ r9 = 1)) ∧ sz1 = sz ∧ In G x (ca) Φ1 ∧ Fr x (fun j9 => 24 ≤ j9 ∧ j9 < 46) Φ Φ1) := by
  refine Ct.of (cc := cX6_readStatement) (maxL := 2) (ret := (some .boolean)) (by decide) rfl (Nat.le_of_ble_eq_true rfl) ?_
  intro p9 e9 s9 m9 w9 t9 k9 B
  show Z p9 l e9 _ s9 m9 _ w9 t9 k9 _ G 2 0 [(0, .ref (x + 24))] [] Φ sz 0 0
  refine z_aload_n B dX6_readStatement_0 rfl 0 rfl ?_
  refine z_ldcS (q := G.2.2.1 (6 + 0)) B B.2.2.2.2.1.2.2.2.2.2.2.2.2.2.1 dX6_readStatement_1 ?_
  obtain ⟨v_1, v_2, v_3, v_4, v_5, v_6, h_1⟩ := in10 (k := 24) hI rfl
  have h_2 : Φ (x + 24) = some (o_ 8 [.ref (x + 25), .int v_1, .int v_2, .ref (x + 1), .int v_3, .int v_4, .int v_5, .int v_6]) := h_1
  refine z_callV (As := [.ref (G.2.2.1 (6 + 0))]) (rest := []) B (s_X6_wordIn G l Φ sz x (ca) 0 hx hI (show 0 < 2 by omega)) (cwV 1 B.1.2.2.2.2 gX6_readStatement_X6_wordIn rfl rfl rfl (by decide +kernel) ⟨Nat.le_of_ble_eq_true rfl, Nat.le_of_ble_eq_true rfl⟩) h_2 rfl rfl rfl rfl (Nat.le_of_ble_eq_true rfl) dX6_readStatement_3 ⟨Nat.le_of_ble_eq_true rfl, Nat.le_of_ble_eq_true rfl⟩ (fun r_1 Φ1 sz1 st1 hp1 hs1 => ?_)
  obtain ⟨⟨v_7, rfl⟩, hq1, hI1, hF1⟩ := hp1
  subst sz1
  replace hs1 : st1 = [.int v_7] := hs1
  subst st1
  replace hI1 : In G x (ca) Φ1 := hI1
  refine z_istore_n (lv' := [(1, .int v_7), (0, .ref (x + 24))]) B dX6_readStatement_6 rfl (Nat.le_of_ble_eq_true rfl) rfl ?_
  refine z_iload_n B dX6_readStatement_7 rfl 0 rfl ?_
  refine z_iconst (v := (-1)) B dX6_readStatement_8 rfl ?_
  refine z_icmp_ne (tgt := 18) B dX6_readStatement_9 rfl (fun c_1 => ?_) (fun c_1 => ?_)
  · refine z_iload_n B dX6_readStatement_18 rfl 0 rfl ?_
    refine z_bipush (v := 9) B dX6_readStatement_19 rfl ?_
    refine z_icmp_ne (tgt := 29) B dX6_readStatement_21 rfl (fun c_2 => ?_) (fun c_2 => ?_)
    · refine z_iload_n B dX6_readStatement_29 rfl 0 rfl ?_
      refine z_bipush (v := 10) B dX6_readStatement_30 rfl ?_
      refine z_icmp_ne (tgt := 40) B dX6_readStatement_32 rfl (fun c_3 => ?_) (fun c_3 => ?_)
      · refine z_iload_n B dX6_readStatement_40 rfl 0 rfl ?_
        refine z_bipush (v := 11) B dX6_readStatement_41 rfl ?_
        refine z_icmp_ne (tgt := 51) B dX6_readStatement_43 rfl (fun c_4 => ?_) (fun c_4 => ?_)
        · refine z_aload_n B dX6_readStatement_51 rfl 1 rfl ?_
          refine z_iload_n B dX6_readStatement_52 rfl 0 rfl ?_
          have h_3 : Φ1 (x + 24) = some (o_ 8 [.ref (x + 25), .int v_1, .int v_2, .ref (x + 1), .int v_3, .int v_4, .int v_5, .int v_6]) := ((hF1 (x + 24) (fun j9 h8 h7 => (show False from h7).elim)).trans h_2)
          refine z_callV (As := [.int v_7]) (rest := []) B (s_X6_readSetting G l Φ1 sz x (ca) v_7 hx hI1 ) (cwV 1 B.1.2.2.2.2 gX6_readStatement_X6_readSetting rfl rfl rfl (by decide +kernel) ⟨Nat.le_of_ble_eq_true rfl, Nat.le_of_ble_eq_true rfl⟩) h_3 rfl rfl rfl rfl (Nat.le_of_ble_eq_true rfl) dX6_readStatement_53 ⟨Nat.le_of_ble_eq_true rfl, Nat.le_of_ble_eq_true rfl⟩ (fun r_2 Φ2 sz2 st2 hp2 hs2 => ?_)
          obtain ⟨⟨v_8, rfl, b_1⟩, hq2, hI2, hF2⟩ := hp2
          subst sz2
          replace hs2 : st2 = [.int v_8] := hs2
          subst st2
          replace hI2 : In G x (ca) Φ2 := hI2
          refine z_if_eq (tgt := 72) B dX6_readStatement_56 rfl (fun c_5 => ?_) (fun c_5 => ?_)
          · refine z_iconst (v := 0) B dX6_readStatement_72 rfl ?_
            exact z_ret_z B dX6_readStatement_73 (by decide) ⟨⟨_, rfl, by decide⟩, rfl, hI2, (fun b9 h9 => ((hF2 b9 (fun j9 h8 h7 => h9 j9 h8 (show 24 ≤ j9 ∧ j9 < 46 by have h6 : 24 ≤ j9 ∧ j9 < 46 := h7; omega))).trans ((hF1 b9 (fun j9 h8 h7 => (show False from h7).elim)).trans rfl)))⟩
          · refine z_iload_n B dX6_readStatement_59 rfl 0 rfl ?_
            refine z_iconst (v := 4) B dX6_readStatement_60 rfl ?_
            refine z_icmp_ne (tgt := 74) B dX6_readStatement_61 rfl (fun c_6 => ?_) (fun c_6 => ?_)
            · refine z_aload_n B dX6_readStatement_74 rfl 1 rfl ?_
              obtain ⟨v_9, v_10, v_11, v_12, v_13, v_14, h_4⟩ := in10 (k := 24) hI2 rfl
              have h_5 : Φ2 (x + 24) = some (o_ 8 [.ref (x + 25), .int v_9, .int v_10, .ref (x + 1), .int v_11, .int v_12, .int v_13, .int v_14]) := h_4
              refine z_callV (As := []) (rest := []) B (s_X6_readSemicolon G l Φ2 sz x (ca)  hx hI2 ) (cwV 0 B.1.2.2.2.2 gX6_readStatement_X6_readSemicolon rfl rfl rfl (by decide +kernel) ⟨Nat.le_of_ble_eq_true rfl, Nat.le_of_ble_eq_true rfl⟩) h_5 rfl rfl rfl rfl (Nat.le_of_ble_eq_true rfl) dX6_readStatement_75 ⟨Nat.le_of_ble_eq_true rfl, Nat.le_of_ble_eq_true rfl⟩ (fun r_3 Φ3 sz3 st3 hp3 hs3 => ?_)
              obtain ⟨⟨v_15, rfl, b_2⟩, hq3, hI3, hF3⟩ := hp3
              subst sz3
              replace hs3 : st3 = [.int v_15] := hs3
              subst st3
              replace hI3 : In G x (ca) Φ3 := hI3
              exact z_ret_z B dX6_readStatement_78 b_2 ⟨⟨_, rfl, b_2⟩, rfl, hI3, (fun b9 h9 => ((hF3 b9 (fun j9 h8 h7 => h9 j9 h8 (show 24 ≤ j9 ∧ j9 < 46 by have h6 : j9 = 24 := h7; omega))).trans ((hF2 b9 (fun j9 h8 h7 => h9 j9 h8 (show 24 ≤ j9 ∧ j9 < 46 by have h6 : 24 ≤ j9 ∧ j9 < 46 := h7; omega))).trans ((hF1 b9 (fun j9 h8 h7 => (show False from h7).elim)).trans rfl))))⟩
            · refine z_aload_n B dX6_readStatement_64 rfl 1 rfl ?_
              refine z_iconst (v := 5) B dX6_readStatement_65 rfl ?_
              obtain ⟨v_16, v_17, v_18, v_19, v_20, v_21, h_6⟩ := in10 (k := 24) hI2 rfl
              have h_7 : Φ2 (x + 24) = some (o_ 8 [.ref (x + 25), .int v_16, .int v_17, .ref (x + 1), .int v_18, .int v_19, .int v_20, .int v_21]) := h_6
              refine z_callV (As := [.int 5]) (rest := []) B (s_X6_readSetting G l Φ2 sz x (ca) 5 hx hI2 ) (cwV 1 B.1.2.2.2.2 gX6_readStatement_X6_readSetting rfl rfl rfl (by decide +kernel) ⟨Nat.le_of_ble_eq_true rfl, Nat.le_of_ble_eq_true rfl⟩) h_7 rfl rfl rfl rfl (Nat.le_of_ble_eq_true rfl) dX6_readStatement_66 ⟨Nat.le_of_ble_eq_true rfl, Nat.le_of_ble_eq_true rfl⟩ (fun r_4 Φ4 sz4 st4 hp4 hs4 => ?_)
              obtain ⟨⟨v_22, rfl, b_3⟩, hq4, hI4, hF4⟩ := hp4
              subst sz4
              replace hs4 : st4 = [.int v_22] := hs4
              subst st4
              replace hI4 : In G x (ca) Φ4 := hI4
              refine z_if_ne (tgt := 74) B dX6_readStatement_69 rfl (fun c_7 => ?_) (fun c_7 => ?_)
              · refine z_aload_n B dX6_readStatement_74 rfl 1 rfl ?_
                obtain ⟨v_23, v_24, v_25, v_26, v_27, v_28, h_8⟩ := in10 (k := 24) hI4 rfl
                have h_9 : Φ4 (x + 24) = some (o_ 8 [.ref (x + 25), .int v_23, .int v_24, .ref (x + 1), .int v_25, .int v_26, .int v_27, .int v_28]) := h_8
                refine z_callV (As := []) (rest := []) B (s_X6_readSemicolon G l Φ4 sz x (ca)  hx hI4 ) (cwV 0 B.1.2.2.2.2 gX6_readStatement_X6_readSemicolon rfl rfl rfl (by decide +kernel) ⟨Nat.le_of_ble_eq_true rfl, Nat.le_of_ble_eq_true rfl⟩) h_9 rfl rfl rfl rfl (Nat.le_of_ble_eq_true rfl) dX6_readStatement_75 ⟨Nat.le_of_ble_eq_true rfl, Nat.le_of_ble_eq_true rfl⟩ (fun r_5 Φ5 sz5 st5 hp5 hs5 => ?_)
                obtain ⟨⟨v_29, rfl, b_4⟩, hq5, hI5, hF5⟩ := hp5
                subst sz5
                replace hs5 : st5 = [.int v_29] := hs5
                subst st5
                replace hI5 : In G x (ca) Φ5 := hI5
                exact z_ret_z B dX6_readStatement_78 b_4 ⟨⟨_, rfl, b_4⟩, rfl, hI5, (fun b9 h9 => ((hF5 b9 (fun j9 h8 h7 => h9 j9 h8 (show 24 ≤ j9 ∧ j9 < 46 by have h6 : j9 = 24 := h7; omega))).trans ((hF4 b9 (fun j9 h8 h7 => h9 j9 h8 (show 24 ≤ j9 ∧ j9 < 46 by have h6 : 24 ≤ j9 ∧ j9 < 46 := h7; omega))).trans ((hF2 b9 (fun j9 h8 h7 => h9 j9 h8 (show 24 ≤ j9 ∧ j9 < 46 by have h6 : 24 ≤ j9 ∧ j9 < 46 := h7; omega))).trans ((hF1 b9 (fun j9 h8 h7 => (show False from h7).elim)).trans rfl)))))⟩
              · refine z_iconst (v := 0) B dX6_readStatement_72 rfl ?_
                exact z_ret_z B dX6_readStatement_73 (by decide) ⟨⟨_, rfl, by decide⟩, rfl, hI4, (fun b9 h9 => ((hF4 b9 (fun j9 h8 h7 => h9 j9 h8 (show 24 ≤ j9 ∧ j9 < 46 by have h6 : 24 ≤ j9 ∧ j9 < 46 := h7; omega))).trans ((hF2 b9 (fun j9 h8 h7 => h9 j9 h8 (show 24 ≤ j9 ∧ j9 < 46 by have h6 : 24 ≤ j9 ∧ j9 < 46 := h7; omega))).trans ((hF1 b9 (fun j9 h8 h7 => (show False from h7).elim)).trans rfl))))⟩
        · refine z_aload_n B dX6_readStatement_46 rfl 1 rfl ?_
          have h_10 : Φ1 (x + 24) = some (o_ 8 [.ref (x + 25), .int v_1, .int v_2, .ref (x + 1), .int v_3, .int v_4, .int v_5, .int v_6]) := ((hF1 (x + 24) (fun j9 h8 h7 => (show False from h7).elim)).trans h_2)
          refine z_callV (As := []) (rest := []) B (s_X6_readDrop G l Φ1 sz x (ca)  hx hI1 ) (cwV 0 B.1.2.2.2.2 gX6_readStatement_X6_readDrop rfl rfl rfl (by decide +kernel) ⟨Nat.le_of_ble_eq_true rfl, Nat.le_of_ble_eq_true rfl⟩) h_10 rfl rfl rfl rfl (Nat.le_of_ble_eq_true rfl) dX6_readStatement_47 ⟨Nat.le_of_ble_eq_true rfl, Nat.le_of_ble_eq_true rfl⟩ (fun r_6 Φ6 sz6 st6 hp6 hs6 => ?_)
          obtain ⟨⟨v_30, rfl, b_5⟩, hq6, hI6, hF6⟩ := hp6
          subst sz6
          replace hs6 : st6 = [.int v_30] := hs6
          subst st6
          replace hI6 : In G x (ca) Φ6 := hI6
          exact z_ret_z B dX6_readStatement_50 b_5 ⟨⟨_, rfl, b_5⟩, rfl, hI6, (fun b9 h9 => ((hF6 b9 (fun j9 h8 h7 => h9 j9 h8 (show 24 ≤ j9 ∧ j9 < 46 by have h6 : 24 ≤ j9 ∧ j9 < 46 := h7; omega))).trans ((hF1 b9 (fun j9 h8 h7 => (show False from h7).elim)).trans rfl)))⟩
      · refine z_aload_n B dX6_readStatement_35 rfl 1 rfl ?_
        have h_11 : Φ1 (x + 24) = some (o_ 8 [.ref (x + 25), .int v_1, .int v_2, .ref (x + 1), .int v_3, .int v_4, .int v_5, .int v_6]) := ((hF1 (x + 24) (fun j9 h8 h7 => (show False from h7).elim)).trans h_2)
        refine z_callV (As := []) (rest := []) B (s_X6_readUse G l Φ1 sz x (ca)  hx hI1 ) (cwV 0 B.1.2.2.2.2 gX6_readStatement_X6_readUse rfl rfl rfl (by decide +kernel) ⟨Nat.le_of_ble_eq_true rfl, Nat.le_of_ble_eq_true rfl⟩) h_11 rfl rfl rfl rfl (Nat.le_of_ble_eq_true rfl) dX6_readStatement_36 ⟨Nat.le_of_ble_eq_true rfl, Nat.le_of_ble_eq_true rfl⟩ (fun r_7 Φ7 sz7 st7 hp7 hs7 => ?_)
        obtain ⟨⟨v_31, rfl, b_6⟩, hq7, hI7, hF7⟩ := hp7
        subst sz7
        replace hs7 : st7 = [.int v_31] := hs7
        subst st7
        replace hI7 : In G x (ca) Φ7 := hI7
        exact z_ret_z B dX6_readStatement_39 b_6 ⟨⟨_, rfl, b_6⟩, rfl, hI7, (fun b9 h9 => ((hF7 b9 (fun j9 h8 h7 => h9 j9 h8 (show 24 ≤ j9 ∧ j9 < 46 by have h6 : 24 ≤ j9 ∧ j9 < 46 := h7; omega))).trans ((hF1 b9 (fun j9 h8 h7 => (show False from h7).elim)).trans rfl)))⟩
    · refine z_aload_n B dX6_readStatement_24 rfl 1 rfl ?_
      have h_12 : Φ1 (x + 24) = some (o_ 8 [.ref (x + 25), .int v_1, .int v_2, .ref (x + 1), .int v_3, .int v_4, .int v_5, .int v_6]) := ((hF1 (x + 24) (fun j9 h8 h7 => (show False from h7).elim)).trans h_2)
      refine z_callV (As := []) (rest := []) B (s_X6_readTemplate G l Φ1 sz x (ca)  hx hI1 ) (cwV 0 B.1.2.2.2.2 gX6_readStatement_X6_readTemplate rfl rfl rfl (by decide +kernel) ⟨Nat.le_of_ble_eq_true rfl, Nat.le_of_ble_eq_true rfl⟩) h_12 rfl rfl rfl rfl (Nat.le_of_ble_eq_true rfl) dX6_readStatement_25 ⟨Nat.le_of_ble_eq_true rfl, Nat.le_of_ble_eq_true rfl⟩ (fun r_8 Φ8 sz8 st8 hp8 hs8 => ?_)
      obtain ⟨⟨v_32, rfl, b_7⟩, hq8, hI8, hF8⟩ := hp8
      subst sz8
      replace hs8 : st8 = [.int v_32] := hs8
      subst st8
      replace hI8 : In G x (ca) Φ8 := hI8
      exact z_ret_z B dX6_readStatement_28 b_7 ⟨⟨_, rfl, b_7⟩, rfl, hI8, (fun b9 h9 => ((hF8 b9 (fun j9 h8 h7 => h9 j9 h8 (show 24 ≤ j9 ∧ j9 < 46 by have h6 : 24 ≤ j9 ∧ j9 < 46 := h7; omega))).trans ((hF1 b9 (fun j9 h8 h7 => (show False from h7).elim)).trans rfl)))⟩
  · refine z_aload_n B dX6_readStatement_12 rfl 1 rfl ?_
    refine z_iconst (v := 1) B dX6_readStatement_13 rfl ?_
    have h_13 : Φ1 (x + 24) = some (o_ 8 [.ref (x + 25), .int v_1, .int v_2, .ref (x + 1), .int v_3, .int v_4, .int v_5, .int v_6]) := ((hF1 (x + 24) (fun j9 h8 h7 => (show False from h7).elim)).trans h_2)
    refine z_callV (As := [.int 1]) (rest := []) B (s_X6_fail G l Φ1 sz x (ca) 1 hx hI1 ) (cwV 1 B.1.2.2.2.2 gX6_readStatement_X6_fail rfl rfl rfl (by decide +kernel) ⟨Nat.le_of_ble_eq_true rfl, Nat.le_of_ble_eq_true rfl⟩) h_13 rfl rfl rfl rfl (Nat.le_of_ble_eq_true rfl) dX6_readStatement_14 ⟨Nat.le_of_ble_eq_true rfl, Nat.le_of_ble_eq_true rfl⟩ (fun r_9 Φ9 sz9 st9 hp9 hs9 => ?_)
    obtain ⟨rfl, hq9, hI9, hF9⟩ := hp9
    subst sz9
    replace hs9 : st9 = [.int 0] := hs9
    subst st9
    replace hI9 : In G x (ca) Φ9 := hI9
    exact z_ret_z B dX6_readStatement_17 (by decide) ⟨⟨_, rfl, by decide⟩, rfl, hI9, (fun b9 h9 => ((hF9 b9 (fun j9 h8 h7 => h9 j9 h8 (show 24 ≤ j9 ∧ j9 < 46 by have h6 : j9 = 24 := h7; omega))).trans ((hF1 b9 (fun j9 h8 h7 => (show False from h7).elim)).trans rfl)))⟩

set_option maxHeartbeats 4000000 in
set_option maxRecDepth 100000 in
theorem s_X6_readText (G : EnvG) (l : Launch) (Φ : Hm) (sz x ca : Nat)  (hx : G.2.2.2 ≤ x) (hI : In G x ca Φ)  : Ct G l yX6_readText wsX6_readText ({ frames := 8, cells := 0, slots := 0, locals := 177 }) 0 0 [.ref (x + 24)] Φ sz (fun v Φ1 sz1 => (∃ r9 : Int32, v = some (.int r9)) ∧ sz1 = sz ∧ In G x (ca) Φ1 ∧ Fr x (fun j9 => 24 ≤ j9 ∧ j9 < 46) Φ Φ1) := by
  refine Ct.of (cc := cX6_readText) (maxL := 2) (ret := (some .int)) (by decide) rfl (Nat.le_of_ble_eq_true rfl) ?_
  intro p9 e9 s9 m9 w9 t9 k9 B
  show Z p9 l e9 _ s9 m9 _ w9 t9 k9 _ G 2 0 [(0, .ref (x + 24))] [] Φ sz 0 0
  refine z_aload_n B dX6_readText_0 rfl 0 rfl ?_
  obtain ⟨v_1, v_2, v_3, v_4, v_5, v_6, h_1⟩ := in10 (k := 24) hI rfl
  have h_2 : Φ (x + 24) = some (o_ 8 [.ref (x + 25), .int v_1, .int v_2, .ref (x + 1), .int v_3, .int v_4, .int v_5, .int v_6]) := h_1
  refine z_get (ref := "FlowExporter$Parser") (C := RX6) (T := TX6) (N := 8) (ci := 8) (v := .ref (x + 25)) B (by decide +kernel) rfl 0 (by decide) (by decide +kernel) rfl h_2 rfl dX6_readText_1 ?_
  obtain ⟨v_7, v_8, h_3⟩ := in3 (k := 25) hI rfl
  have h_4 : Φ (x + 25) = some (o_ 3 [.ref (x + 26), .ref (x + 27), .ref (x + 28), .ref (x + 29), .int v_7, .int v_8]) := h_3
  refine z_callV (As := []) (rest := []) B (s_X1_clear G l Φ sz x (ca) 25 hx hI rfl) (cwV 0 B.1.2.2.2.2 gX6_readText_X1_clear rfl rfl rfl (by decide +kernel) ⟨Nat.le_of_ble_eq_true rfl, Nat.le_of_ble_eq_true rfl⟩) h_4 rfl rfl rfl rfl (Nat.le_of_ble_eq_true rfl) dX6_readText_4 ⟨Nat.le_of_ble_eq_true rfl, Nat.le_of_ble_eq_true rfl⟩ (fun r_1 Φ1 sz1 st1 hp1 hs1 => ?_)
  obtain ⟨rfl, hq1, hI1, hF1⟩ := hp1
  subst sz1
  replace hs1 : st1 = [] := hs1
  subst st1
  replace hI1 : In G x (ca) Φ1 := hI1
  refine z_aload_n B dX6_readText_7 rfl 0 rfl ?_
  refine z_iconst (v := 0) B dX6_readText_8 rfl ?_
  have h_5 : Φ1 (x + 24) = some (o_ 8 [.ref (x + 25), .int v_1, .int v_2, .ref (x + 1), .int v_3, .int v_4, .int v_5, .int v_6]) := ((hF1 (x + 24) (fun j9 h8 h7 => by have h6 : 25 ≤ j9 ∧ j9 < 25 + 21 := h7; omega)).trans h_2)
  refine z_put (ref := "FlowExporter$Parser") (C := RX6) (T := TX6) (N := 8) (ci := 8) (v := .int 0) B (by decide +kernel) tyX6 tyX6_ok nmX6 rfl 1 (by decide) (by decide +kernel) rfl (Or.inl rfl) h_5 (Nat.le_trans hx (Nat.le_add_right x 24)) rfl rfl (Nat.le_of_ble_eq_true rfl) dX6_readText_9 (fun Φ2 hΦ1 => ?_)
  have h_6 : Φ2 (x + 24) = some (o_ 8 [.ref (x + 25), .int 0, .int v_2, .ref (x + 1), .int v_3, .int v_4, .int v_5, .int v_6]) := fset_at hΦ1
  have hI2 : In G x (ca) Φ2 := In.put (k := 24) hI1 hΦ1 (ok10 (k := 24) rfl ⟨0, v_2, v_3, v_4, v_5, v_6, rfl⟩)
  refine z_aload_n B dX6_readText_12 rfl 0 rfl ?_
  refine z_iconst (v := (-1)) B dX6_readText_13 rfl ?_
  refine z_put (ref := "FlowExporter$Parser") (C := RX6) (T := TX6) (N := 8) (ci := 8) (v := .int (-1)) B (by decide +kernel) tyX6 tyX6_ok nmX6 rfl 2 (by decide) (by decide +kernel) rfl (Or.inl rfl) h_6 (Nat.le_trans hx (Nat.le_add_right x 24)) rfl rfl (Nat.le_of_ble_eq_true rfl) dX6_readText_14 (fun Φ3 hΦ2 => ?_)
  have h_7 : Φ3 (x + 24) = some (o_ 8 [.ref (x + 25), .int 0, .int (-1), .ref (x + 1), .int v_3, .int v_4, .int v_5, .int v_6]) := fset_at hΦ2
  have hI3 : In G x (ca) Φ3 := In.put (k := 24) hI2 hΦ2 (ok10 (k := 24) rfl ⟨0, (-1), v_3, v_4, v_5, v_6, rfl⟩)
  refine z_aload_n B dX6_readText_17 rfl 0 rfl ?_
  refine z_iconst (v := 0) B dX6_readText_18 rfl ?_
  refine z_put (ref := "FlowExporter$Parser") (C := RX6) (T := TX6) (N := 8) (ci := 8) (v := .int 0) B (by decide +kernel) tyX6 tyX6_ok nmX6 rfl 4 (by decide) (by decide +kernel) rfl (Or.inl rfl) h_7 (Nat.le_trans hx (Nat.le_add_right x 24)) rfl rfl (Nat.le_of_ble_eq_true rfl) dX6_readText_19 (fun Φ4 hΦ3 => ?_)
  have h_8 : Φ4 (x + 24) = some (o_ 8 [.ref (x + 25), .int 0, .int (-1), .ref (x + 1), .int 0, .int v_4, .int v_5, .int v_6]) := fset_at hΦ3
  have hI4 : In G x (ca) Φ4 := In.put (k := 24) hI3 hΦ3 (ok10 (k := 24) rfl ⟨0, (-1), 0, v_4, v_5, v_6, rfl⟩)
  refine z_iconst (v := 0) B dX6_readText_22 rfl ?_
  refine z_istore_n (lv' := [(1, .int 0), (0, .ref (x + 24))]) B dX6_readText_23 rfl (Nat.le_of_ble_eq_true rfl) rfl ?_
  refine z_lv [0, 1] rfl ?_
  refine z_loop (α := Nat) (fun (a9 : Nat) Φi => In G x (ca) Φi ∧ Fr x (fun j9 => 24 ≤ j9 ∧ j9 < 46) Φ4 Φi ∧ (a9 ≤ 701) ∧ True) (fun a9 => [(1, .int (nI a9)), (0, .ref (x + 24))]) (fun a9 => 701 - a9) ?_ (0) ⟨hI4, fun _ _ => rfl, (show 0 ≤ 701 by omega), trivial⟩
  rintro i_1 Φl1 ⟨hI5, hF2, b_1, -⟩ ih1
  replace hI5 : In G x (ca) Φl1 := hI5
  replace b_1 : i_1 ≤ 701 := b_1
  show Z p9 l e9 _ s9 m9 _ w9 t9 k9 _ G 2 24 [(1, .int (nI i_1)), (0, .ref (x + 24))] [] Φl1 _ _ _
  refine z_iload_n B dX6_readText_24 rfl 0 rfl ?_
  refine z_sipush (v := 700) B dX6_readText_25 rfl ?_
  refine z_icmp_gt (tgt := 77) B dX6_readText_28 rfl (fun c_1 => ?_) (fun c_1 => ?_)
  · have e_1 : 700 < i_1 := (nI_ltI (a := 700) (b := i_1) (by omega) (by omega)).mp c_1
    refine z_bipush (v := (-2)) B dX6_readText_77 rfl ?_
    exact z_ret_i B dX6_readText_79 ⟨⟨_, rfl⟩, rfl, hI5, (fun b9 h9 => ((hF2 b9 (fun j9 h8 h7 => h9 j9 h8 (show 24 ≤ j9 ∧ j9 < 46 by have h6 : 24 ≤ j9 ∧ j9 < 46 := h7; omega))).trans ((fset_fr hΦ3 (fun h8 => h9 (24) h8 (show 24 ≤ 24 ∧ 24 < 46 by omega))).trans ((fset_fr hΦ2 (fun h8 => h9 (24) h8 (show 24 ≤ 24 ∧ 24 < 46 by omega))).trans ((fset_fr hΦ1 (fun h8 => h9 (24) h8 (show 24 ≤ 24 ∧ 24 < 46 by omega))).trans ((hF1 b9 (fun j9 h8 h7 => h9 j9 h8 (show 24 ≤ j9 ∧ j9 < 46 by have h6 : 25 ≤ j9 ∧ j9 < 25 + 21 := h7; omega))).trans rfl))))))⟩
  · have e_2 : ¬ (700 < i_1) := fun h9 => c_1 ((nI_ltI (a := 700) (b := i_1) (by omega) (by omega)).mpr h9)
    refine z_aload_n B dX6_readText_31 rfl 1 rfl ?_
    obtain ⟨v_9, v_10, v_11, v_12, v_13, v_14, h_9⟩ := in10 (k := 24) hI5 rfl
    have h_10 : Φl1 (x + 24) = some (o_ 8 [.ref (x + 25), .int v_9, .int v_10, .ref (x + 1), .int v_11, .int v_12, .int v_13, .int v_14]) := h_9
    refine z_callV (As := []) (rest := []) B (s_X6_nextToken G l Φl1 sz x (ca)  hx hI5 ) (cwV 0 B.1.2.2.2.2 gX6_readText_X6_nextToken rfl rfl rfl (by decide +kernel) ⟨Nat.le_of_ble_eq_true rfl, Nat.le_of_ble_eq_true rfl⟩) h_10 rfl rfl rfl rfl (Nat.le_of_ble_eq_true rfl) dX6_readText_32 ⟨Nat.le_of_ble_eq_true rfl, Nat.le_of_ble_eq_true rfl⟩ (fun r_2 Φ5 sz2 st2 hp2 hs2 => ?_)
    obtain ⟨rfl, hq2, hI6, hF3⟩ := hp2
    subst sz2
    replace hs2 : st2 = [] := hs2
    subst st2
    replace hI6 : In G x (ca) Φ5 := hI6
    refine z_aload_n B dX6_readText_35 rfl 1 rfl ?_
    obtain ⟨v_15, v_16, v_17, v_18, v_19, v_20, h_11⟩ := in10 (k := 24) hI6 rfl
    have h_12 : Φ5 (x + 24) = some (o_ 8 [.ref (x + 25), .int v_15, .int v_16, .ref (x + 1), .int v_17, .int v_18, .int v_19, .int v_20]) := h_11
    refine z_get (ref := "FlowExporter$Parser") (C := RX6) (T := TX6) (N := 8) (ci := 8) (v := .int v_18) B (by decide +kernel) rfl 5 (by decide) (by decide +kernel) rfl h_12 rfl dX6_readText_36 ?_
    refine z_if_ne (tgt := 61) B dX6_readText_39 rfl (fun c_2 => ?_) (fun c_2 => ?_)
    · refine z_aload_n B dX6_readText_61 rfl 1 rfl ?_
      refine z_callV (As := []) (rest := []) B (s_X6_readStatement G l Φ5 sz x (ca)  hx hI6 ) (cwV 0 B.1.2.2.2.2 gX6_readText_X6_readStatement rfl rfl rfl (by decide +kernel) ⟨Nat.le_of_ble_eq_true rfl, Nat.le_of_ble_eq_true rfl⟩) h_12 rfl rfl rfl rfl (Nat.le_of_ble_eq_true rfl) dX6_readText_62 ⟨Nat.le_of_ble_eq_true rfl, Nat.le_of_ble_eq_true rfl⟩ (fun r_3 Φ6 sz3 st3 hp3 hs3 => ?_)
      obtain ⟨⟨v_21, rfl, b_2⟩, hq3, hI7, hF4⟩ := hp3
      subst sz3
      replace hs3 : st3 = [.int v_21] := hs3
      subst st3
      replace hI7 : In G x (ca) Φ6 := hI7
      refine z_if_ne (tgt := 71) B dX6_readText_65 rfl (fun c_3 => ?_) (fun c_3 => ?_)
      · refine z_iinc (k := 0) (v := nI (i_1 + 1)) (lv' := [(1, .int (nI (i_1 + 1))), (0, .ref (x + 24))]) B dX6_readText_71 rfl (nI_add i_1 1) (Nat.le_of_ble_eq_true rfl) rfl ?_
        refine z_goto (tgt := 24) B dX6_readText_74 rfl ?_
        refine z_lv [0, 1] rfl ?_
        exact ih1 (i_1 + 1) Φ6 (show 701 - (i_1 + 1) < 701 - i_1 by omega) ⟨hI7, (fun b9 h9 => ((hF4 b9 (fun j9 h8 h7 => h9 j9 h8 (show 24 ≤ j9 ∧ j9 < 46 by have h6 : 24 ≤ j9 ∧ j9 < 46 := h7; omega))).trans ((hF3 b9 (fun j9 h8 h7 => h9 j9 h8 (show 24 ≤ j9 ∧ j9 < 46 by have h6 : j9 = 24 := h7; omega))).trans ((hF2 b9 (fun j9 h8 h7 => h9 j9 h8 (show 24 ≤ j9 ∧ j9 < 46 by have h6 : 24 ≤ j9 ∧ j9 < 46 := h7; omega))).trans rfl)))), (show (i_1 + 1) ≤ 701 by omega), trivial⟩
      · refine z_bipush (v := (-2)) B dX6_readText_68 rfl ?_
        exact z_ret_i B dX6_readText_70 ⟨⟨_, rfl⟩, rfl, hI7, (fun b9 h9 => ((hF4 b9 (fun j9 h8 h7 => h9 j9 h8 (show 24 ≤ j9 ∧ j9 < 46 by have h6 : 24 ≤ j9 ∧ j9 < 46 := h7; omega))).trans ((hF3 b9 (fun j9 h8 h7 => h9 j9 h8 (show 24 ≤ j9 ∧ j9 < 46 by have h6 : j9 = 24 := h7; omega))).trans ((hF2 b9 (fun j9 h8 h7 => h9 j9 h8 (show 24 ≤ j9 ∧ j9 < 46 by have h6 : 24 ≤ j9 ∧ j9 < 46 := h7; omega))).trans ((fset_fr hΦ3 (fun h8 => h9 (24) h8 (show 24 ≤ 24 ∧ 24 < 46 by omega))).trans ((fset_fr hΦ2 (fun h8 => h9 (24) h8 (show 24 ≤ 24 ∧ 24 < 46 by omega))).trans ((fset_fr hΦ1 (fun h8 => h9 (24) h8 (show 24 ≤ 24 ∧ 24 < 46 by omega))).trans ((hF1 b9 (fun j9 h8 h7 => h9 j9 h8 (show 24 ≤ j9 ∧ j9 < 46 by have h6 : 25 ≤ j9 ∧ j9 < 25 + 21 := h7; omega))).trans rfl))))))))⟩
    · refine z_aload_n B dX6_readText_42 rfl 1 rfl ?_
      refine z_get (ref := "FlowExporter$Parser") (C := RX6) (T := TX6) (N := 8) (ci := 8) (v := .ref (x + 25)) B (by decide +kernel) rfl 0 (by decide) (by decide +kernel) rfl h_12 rfl dX6_readText_43 ?_
      obtain ⟨v_22, v_23, h_13⟩ := in3 (k := 25) hI6 rfl
      have h_14 : Φ5 (x + 25) = some (o_ 3 [.ref (x + 26), .ref (x + 27), .ref (x + 28), .ref (x + 29), .int v_22, .int v_23]) := h_13
      refine z_get (ref := "FlowExporter$Config") (C := RX1) (T := TX1) (N := 6) (ci := 3) (v := .int v_22) B (by decide +kernel) rfl 4 (by decide) (by decide +kernel) rfl h_14 rfl dX6_readText_46 ?_
      refine z_if_ne (tgt := 59) B dX6_readText_49 rfl (fun c_4 => ?_) (fun c_4 => ?_)
      · refine z_iload_n B dX6_readText_59 rfl 0 rfl ?_
        exact z_ret_i B dX6_readText_60 ⟨⟨_, rfl⟩, rfl, hI6, (fun b9 h9 => ((hF3 b9 (fun j9 h8 h7 => h9 j9 h8 (show 24 ≤ j9 ∧ j9 < 46 by have h6 : j9 = 24 := h7; omega))).trans ((hF2 b9 (fun j9 h8 h7 => h9 j9 h8 (show 24 ≤ j9 ∧ j9 < 46 by have h6 : 24 ≤ j9 ∧ j9 < 46 := h7; omega))).trans ((fset_fr hΦ3 (fun h8 => h9 (24) h8 (show 24 ≤ 24 ∧ 24 < 46 by omega))).trans ((fset_fr hΦ2 (fun h8 => h9 (24) h8 (show 24 ≤ 24 ∧ 24 < 46 by omega))).trans ((fset_fr hΦ1 (fun h8 => h9 (24) h8 (show 24 ≤ 24 ∧ 24 < 46 by omega))).trans ((hF1 b9 (fun j9 h8 h7 => h9 j9 h8 (show 24 ≤ j9 ∧ j9 < 46 by have h6 : 25 ≤ j9 ∧ j9 < 25 + 21 := h7; omega))).trans rfl)))))))⟩
      · refine z_aload_n B dX6_readText_52 rfl 1 rfl ?_
        refine z_get (ref := "FlowExporter$Parser") (C := RX6) (T := TX6) (N := 8) (ci := 8) (v := .ref (x + 25)) B (by decide +kernel) rfl 0 (by decide) (by decide +kernel) rfl h_12 rfl dX6_readText_53 ?_
        refine z_callV (As := []) (rest := []) B (s_X1_addUsualTemplate G l Φ5 sz x (ca) 25 hx hI6 rfl) (cwV 0 B.1.2.2.2.2 gX6_readText_X1_addUsualTemplate rfl rfl rfl (by decide +kernel) ⟨Nat.le_of_ble_eq_true rfl, Nat.le_of_ble_eq_true rfl⟩) h_14 rfl rfl rfl rfl (Nat.le_of_ble_eq_true rfl) dX6_readText_56 ⟨Nat.le_of_ble_eq_true rfl, Nat.le_of_ble_eq_true rfl⟩ (fun r_4 Φ7 sz4 st4 hp4 hs4 => ?_)
        obtain ⟨rfl, hq4, hI8, hF5⟩ := hp4
        subst sz4
        replace hs4 : st4 = [] := hs4
        subst st4
        replace hI8 : In G x (ca) Φ7 := hI8
        refine z_iload_n B dX6_readText_59 rfl 0 rfl ?_
        exact z_ret_i B dX6_readText_60 ⟨⟨_, rfl⟩, rfl, hI8, (fun b9 h9 => ((hF5 b9 (fun j9 h8 h7 => h9 j9 h8 (show 24 ≤ j9 ∧ j9 < 46 by have h6 : 25 ≤ j9 ∧ j9 < 25 + 21 := h7; omega))).trans ((hF3 b9 (fun j9 h8 h7 => h9 j9 h8 (show 24 ≤ j9 ∧ j9 < 46 by have h6 : j9 = 24 := h7; omega))).trans ((hF2 b9 (fun j9 h8 h7 => h9 j9 h8 (show 24 ≤ j9 ∧ j9 < 46 by have h6 : 24 ≤ j9 ∧ j9 < 46 := h7; omega))).trans ((fset_fr hΦ3 (fun h8 => h9 (24) h8 (show 24 ≤ 24 ∧ 24 < 46 by omega))).trans ((fset_fr hΦ2 (fun h8 => h9 (24) h8 (show 24 ≤ 24 ∧ 24 < 46 by omega))).trans ((fset_fr hΦ1 (fun h8 => h9 (24) h8 (show 24 ≤ 24 ∧ 24 < 46 by omega))).trans ((hF1 b9 (fun j9 h8 h7 => h9 j9 h8 (show 24 ≤ j9 ∧ j9 < 46 by have h6 : 25 ≤ j9 ∧ j9 < 25 + 21 := h7; omega))).trans rfl))))))))⟩

set_option maxHeartbeats 4000000 in
set_option maxRecDepth 100000 in
theorem s_X11_load (G : EnvG) (l : Launch) (Φ : Hm) (sz x ca : Nat)  (hx : G.2.2.2 ≤ x) (hI : In G x ca Φ)  : Ct G l yX11_load wsX11_load ({ frames := 9, cells := 0, slots := 0, locals := 198 }) 0 0 [.ref x] Φ sz (fun v Φ1 sz1 => ((∃ r9 : Int32, v = some (.int r9)) ∧ Φ1 (x + 1) = some (o_ 7 [.ref (x + 2), .int (nI 0)])) ∧ sz1 = sz ∧ In G x (ca) Φ1 ∧ Fr x (fun j9 => 1 ≤ j9 ∧ j9 < 149) Φ Φ1) := by
  refine Ct.of (cc := cX11_load) (maxL := 2) (ret := (some .int)) (by decide) rfl (Nat.le_of_ble_eq_true rfl) ?_
  intro p9 e9 s9 m9 w9 t9 k9 B
  show Z p9 l e9 _ s9 m9 _ w9 t9 k9 _ G 2 0 [(0, .ref x)] [] Φ sz 0 0
  refine z_aload_n B dX11_load_0 rfl 0 rfl ?_
  have h_1 := in0 (k := 0) hI rfl
  have h_2 : Φ x = some (o_ 13 [.ref (x + 1), .ref (x + 3), .ref (x + 24), .ref (x + 46), .ref (x + 74), .ref (x + 80), .ref (x + 132), .ref (x + 121)]) := h_1
  refine z_get (ref := "FlowExporter") (C := RX11) (T := TX11) (N := 8) (ci := 13) (v := .ref (x + 24)) B (by decide +kernel) rfl 2 (by decide) (by decide +kernel) rfl h_2 rfl dX11_load_1 ?_
  obtain ⟨v_1, v_2, v_3, v_4, v_5, v_6, h_3⟩ := in10 (k := 24) hI rfl
  have h_4 : Φ (x + 24) = some (o_ 8 [.ref (x + 25), .int v_1, .int v_2, .ref (x + 1), .int v_3, .int v_4, .int v_5, .int v_6]) := h_3
  refine z_callV (As := []) (rest := []) B (s_X6_readText G l Φ sz x (ca)  hx hI ) (cwV 0 B.1.2.2.2.2 gX11_load_X6_readText rfl rfl rfl (by decide +kernel) ⟨Nat.le_of_ble_eq_true rfl, Nat.le_of_ble_eq_true rfl⟩) h_4 rfl rfl rfl rfl (Nat.le_of_ble_eq_true rfl) dX11_load_4 ⟨Nat.le_of_ble_eq_true rfl, Nat.le_of_ble_eq_true rfl⟩ (fun r_1 Φ1 sz1 st1 hp1 hs1 => ?_)
  obtain ⟨⟨v_7, rfl⟩, hq1, hI1, hF1⟩ := hp1
  subst sz1
  replace hs1 : st1 = [.int v_7] := hs1
  subst st1
  replace hI1 : In G x (ca) Φ1 := hI1
  refine z_istore_n (lv' := [(1, .int v_7), (0, .ref x)]) B dX11_load_7 rfl (Nat.le_of_ble_eq_true rfl) rfl ?_
  refine z_aload_n B dX11_load_8 rfl 1 rfl ?_
  have h_5 : Φ1 x = some (o_ 13 [.ref (x + 1), .ref (x + 3), .ref (x + 24), .ref (x + 46), .ref (x + 74), .ref (x + 80), .ref (x + 132), .ref (x + 121)]) := ((hF1 x (fun j9 h8 h7 => by have h6 : 24 ≤ j9 ∧ j9 < 46 := h7; omega)).trans h_2)
  refine z_get (ref := "FlowExporter") (C := RX11) (T := TX11) (N := 8) (ci := 13) (v := .ref (x + 1)) B (by decide +kernel) rfl 0 (by decide) (by decide +kernel) rfl h_5 rfl dX11_load_9 ?_
  refine z_iconst (v := 0) B dX11_load_12 rfl ?_
  obtain ⟨n_1, h_6, b_1⟩ := in1 (k := 1) hI1 rfl
  replace b_1 : n_1 ≤ 700 := b_1
  have h_7 : Φ1 (x + 1) = some (o_ 7 [.ref (x + 2), .int (nI n_1)]) := h_6
  refine z_put (ref := "FlowExporter$Message") (C := RX5) (T := TX5) (N := 2) (ci := 7) (v := .int 0) B (by decide +kernel) tyX5 tyX5_ok nmX5 rfl 1 (by decide) (by decide +kernel) rfl (Or.inl rfl) h_7 (Nat.le_trans hx (Nat.le_add_right x 1)) rfl rfl (Nat.le_of_ble_eq_true rfl) dX11_load_13 (fun Φ2 hΦ1 => ?_)
  have h_8 : Φ2 (x + 1) = some (o_ 7 [.ref (x + 2), .int 0]) := fset_at hΦ1
  have hI2 : In G x (ca) Φ2 := In.put (k := 1) hI1 hΦ1 (ok1 (k := 1) rfl ⟨0, rfl, (show 0 ≤ 700 by omega)⟩)
  refine z_iload_n B dX11_load_16 rfl 0 rfl ?_
  refine z_if_lt (tgt := 24) B dX11_load_17 rfl (fun c_1 => ?_) (fun c_1 => ?_)
  · refine z_iload_n B dX11_load_24 rfl 0 rfl ?_
    exact z_ret_i B dX11_load_25 ⟨⟨⟨_, rfl⟩, (h_8.trans (congrArg (fun w9 : Nat => some (o_ 7 [.ref (x + 2), .int (nI w9)])) (show 0 = 0 by omega)))⟩, rfl, hI2, (fun b9 h9 => ((fset_fr hΦ1 (fun h8 => h9 (1) h8 (show 1 ≤ 1 ∧ 1 < 149 by omega))).trans ((hF1 b9 (fun j9 h8 h7 => h9 j9 h8 (show 1 ≤ j9 ∧ j9 < 149 by have h6 : 24 ≤ j9 ∧ j9 < 46 := h7; omega))).trans rfl)))⟩
  · obtain ⟨n_2, e_1, rfl⟩ := nI_of c_1
    refine z_aload_n B dX11_load_20 rfl 1 rfl ?_
    have h_9 : Φ2 x = some (o_ 13 [.ref (x + 1), .ref (x + 3), .ref (x + 24), .ref (x + 46), .ref (x + 74), .ref (x + 80), .ref (x + 132), .ref (x + 121)]) := ((fset_fr hΦ1 (ne_off (x := x) (i := 0) (j := 1) rfl)).trans h_5)
    refine z_callV (As := []) (rest := []) B (s_X11_startAnew G l Φ2 sz x (ca)  hx hI2 ) (cwV 0 B.1.2.2.2.2 gX11_load_X11_startAnew rfl rfl rfl (by decide +kernel) ⟨Nat.le_of_ble_eq_true rfl, Nat.le_of_ble_eq_true rfl⟩) h_9 rfl rfl rfl rfl (Nat.le_of_ble_eq_true rfl) dX11_load_21 ⟨Nat.le_of_ble_eq_true rfl, Nat.le_of_ble_eq_true rfl⟩ (fun r_2 Φ3 sz2 st2 hp2 hs2 => ?_)
    obtain ⟨rfl, hq2, hI3, hF2⟩ := hp2
    subst sz2
    replace hs2 : st2 = [] := hs2
    subst st2
    replace hI3 : In G x (ca) Φ3 := hI3
    refine z_iload_n B dX11_load_24 rfl 0 rfl ?_
    have h_10 : Φ3 (x + 1) = some (o_ 7 [.ref (x + 2), .int 0]) := ((hF2 (x + 1) (fun j9 h8 h7 => by have h6 : 2 ≤ j9 ∧ j9 < 149 := h7; omega)).trans h_8)
    exact z_ret_i B dX11_load_25 ⟨⟨⟨_, rfl⟩, (h_10.trans (congrArg (fun w9 : Nat => some (o_ 7 [.ref (x + 2), .int (nI w9)])) (show 0 = 0 by omega)))⟩, rfl, hI3, (fun b9 h9 => ((hF2 b9 (fun j9 h8 h7 => h9 j9 h8 (show 1 ≤ j9 ∧ j9 < 149 by have h6 : 2 ≤ j9 ∧ j9 < 149 := h7; omega))).trans ((fset_fr hΦ1 (fun h8 => h9 (1) h8 (show 1 ≤ 1 ∧ 1 < 149 by omega))).trans ((hF1 b9 (fun j9 h8 h7 => h9 j9 h8 (show 1 ≤ j9 ∧ j9 < 149 by have h6 : 24 ≤ j9 ∧ j9 < 46 := h7; omega))).trans rfl))))⟩

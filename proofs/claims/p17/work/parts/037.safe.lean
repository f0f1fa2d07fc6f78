set_option maxRecDepth 20000 in
theorem ggX11_advance_X2_tick : GoodIn wsX11_advance wsX2_tick := goodIn_ca (goodIn_ca ((goodIn_ca (goodIn_ca (goodIn_ca (goodIn_ca (goodIn_ca (goodIn_ca (goodIn_ca (goodIn_ca (goodIn_r _ [13, 14, 15, 16, 17, 18, 19, 12, 20, 21, 22, 23, 24, 25, 26, 27, 28, 29, 30, 31, 32, 33, 34, 35, 36, 37, 38, 39, 40, 41, 42, 43, 44, 45, 46, 47, 48, 49, 50, 51, 52, 53, 54, 55, 56, 57, 58, 59, 60, 61, 62, 63, 64, 65, 66, 67, 68, 69, 70, 71, 72, 73, 74, 75, 76, 77, 78, 79, 80, 81, 82, 83, 84, 85, 86, 87, 88, 89, 90, 91, 92, 93, 94, 95, 96, 97, 98, 99, 100, 101, 102, 103, 104, 105, 106, 107, 108, 109, 110, 111, 112, 113, 114, 115, 116, 117, 118, 119, 120, 121, 122, 123, 124, 125, 126, 127, 128, 129, 130, 131, 132, 133, 134, 135, 136, 137, 138, 139, 140, 141, 142, 143, 144, 145, 146, 147, 148, 149, 150, 151, 152, 153, 154, 155, 156, 157, 158, 159, 160, 161, 162, 163, 164, 165, 166, 167, 168, 169, 170, 171, 172, 173, 174, 175, 176, 177, 178, 179, 180, 181, 182, 183, 184, 185, 186, 187, 188, 189, 190, 191, 192, 193] rfl (by decide +kernel)) (goodIn_sub (fun _ h => List.mem_cons_of_mem _ (List.mem_append_left _ (List.mem_append_left _ (List.mem_append_left _ (List.mem_append_left _ (List.mem_append_left _ (List.mem_append_left _ (List.mem_append_left _ (List.mem_append_left _ (List.mem_append_left _ (List.mem_append_left _ (List.mem_append_left _ (List.mem_append_right _ h))))))))))))) gw_wsX20)) (goodIn_sub (fun _ h => List.mem_cons_of_mem _ (List.mem_append_left _ (List.mem_append_left _ (List.mem_append_left _ (List.mem_append_left _ (List.mem_append_left _ (List.mem_append_left _ (List.mem_append_left _ (List.mem_append_left _ (List.mem_append_left _ (List.mem_append_left _ (List.mem_append_right _ h)))))))))))) gw_wsX40)) (goodIn_sub (fun _ h => List.mem_cons_of_mem _ (List.mem_append_left _ (List.mem_append_left _ (List.mem_append_left _ (List.mem_append_left _ (List.mem_append_left _ (List.mem_append_left _ (List.mem_append_left _ (List.mem_append_left _ (List.mem_append_left _ (List.mem_append_right _ h))))))))))) gw_wsX30)) (goodIn_sub (fun _ h => List.mem_cons_of_mem _ (List.mem_append_left _ (List.mem_append_left _ (List.mem_append_left _ (List.mem_append_left _ (List.mem_append_left _ (List.mem_append_left _ (List.mem_append_left _ (List.mem_append_left _ (List.mem_append_right _ h)))))))))) gw_wsX10)) (goodIn_sub (fun _ h => List.mem_cons_of_mem _ (List.mem_append_left _ (List.mem_append_left _ (List.mem_append_left _ (List.mem_append_left _ (List.mem_append_left _ (List.mem_append_left _ (List.mem_append_left _ (List.mem_append_right _ h))))))))) gw_wsX100)) (goodIn_sub (fun _ h => List.mem_cons_of_mem _ (List.mem_append_left _ (List.mem_append_left _ (List.mem_append_left _ (List.mem_append_left _ (List.mem_append_left _ (List.mem_append_left _ (List.mem_append_right _ h)))))))) gw_wsX80)) (goodIn_sub (fun _ h => List.mem_cons_of_mem _ (List.mem_append_left _ (List.mem_append_left _ (List.mem_append_left _ (List.mem_append_left _ (List.mem_append_left _ (List.mem_append_right _ h))))))) gw_wsX50)) (goodIn_sub (fun _ h => List.mem_cons_of_mem _ (List.mem_append_left _ (List.mem_append_left _ (List.mem_append_left _ (List.mem_append_left _ (List.mem_append_right _ h)))))) gw_wsX70))) (goodIn_sub (fun _ h => List.mem_cons_of_mem _ (List.mem_append_left _ (List.mem_append_right _ h))) (all_fg _))) (goodIn_sub (fun _ h => List.mem_cons_of_mem _ (List.mem_append_right _ h)) (all_fg _))
set_option maxRecDepth 20000 in
theorem gX11_advance_X2_tick : GoodIn wsX11_advance (wsV RX11 140 RX2 yX2_tick wsX2_tick) := goodIn_app (goodIn_m (mem_cA (List.mem_cons_of_mem _ (List.mem_append_left _ (List.mem_append_left _ (List.mem_append_left _ (List.mem_append_left _ (List.mem_append_left _ (List.mem_append_left _ (List.mem_append_left _ (List.mem_append_left _ (List.mem_append_left _ (List.mem_append_left _ (List.mem_append_left _ (List.mem_append_left _ (List.mem_append_left _ (List.mem_append_left _ (List.mem_of_getElem? (i := 8) rfl)))))))))))))))) (mem_cA (List.mem_cons_of_mem _ (List.mem_append_left _ (List.mem_append_left _ (List.mem_append_left _ (List.mem_append_left _ (List.mem_append_left _ (List.mem_append_left _ (List.mem_append_left _ (List.mem_append_left _ (List.mem_append_left _ (List.mem_append_left _ (List.mem_append_left _ (List.mem_append_left _ (List.mem_append_left _ (List.mem_append_left _ (List.mem_of_getElem? (i := 9) rfl)))))))))))))))) (mem_cA (List.mem_cons_of_mem _ (List.mem_append_left _ (List.mem_append_left _ (List.mem_append_left _ (List.mem_append_left _ (List.mem_append_left _ (List.mem_append_left _ (List.mem_append_left _ (List.mem_append_left _ (List.mem_append_left _ (List.mem_append_left _ (List.mem_append_left _ (List.mem_append_left _ (List.mem_append_left _ (List.mem_append_left _ (List.mem_of_getElem? (i := 10) rfl)))))))))))))))) (mem_cA (List.mem_cons_of_mem _ (List.mem_append_left _ (List.mem_append_left _ (List.mem_append_left _ (List.mem_append_left _ (List.mem_append_left _ (List.mem_append_left _ (List.mem_append_left _ (List.mem_append_left _ (List.mem_append_left _ (List.mem_append_left _ (List.mem_append_left _ (List.mem_append_left _ (List.mem_append_left _ (List.mem_append_left _ (List.mem_of_getElem? (i := 11) rfl)))))))))))))))) mem_cZ)))) (by decide +kernel)) ggX11_advance_X2_tick
theorem dX11_advance_0 : decode cX11_advance 0 = .ok (.iload_n 1, 1) := by decide +kernel
theorem dX11_advance_1 : decode cX11_advance 1 = .ok (.iconst 1, 1) := by decide +kernel
theorem dX11_advance_2 : decode cX11_advance 2 = .ok (.if_icmp .lt 10, 3) := by decide +kernel
theorem dX11_advance_5 : decode cX11_advance 5 = .ok (.iload_n 1, 1) := by decide +kernel
theorem dX11_advance_6 : decode cX11_advance 6 = .ok (.sipush 1000, 3) := by decide +kernel
theorem dX11_advance_9 : decode cX11_advance 9 = .ok (.if_icmp .le 11, 3) := by decide +kernel
theorem dX11_advance_12 : decode cX11_advance 12 = .ok (.new 116, 3) := by decide +kernel
theorem dX11_advance_15 : decode cX11_advance 15 = .ok (.dup, 1) := by decide +kernel
theorem dX11_advance_16 : decode cX11_advance 16 = .ok (.invokespecial 118, 3) := by decide +kernel
theorem dX11_advance_19 : decode cX11_advance 19 = .ok (.athrow, 1) := by decide +kernel
theorem dX11_advance_20 : decode cX11_advance 20 = .ok (.aload_n 0, 1) := by decide +kernel
theorem dX11_advance_21 : decode cX11_advance 21 = .ok (.getfield 55, 3) := by decide +kernel
theorem dX11_advance_24 : decode cX11_advance 24 = .ok (.getfield 110, 3) := by decide +kernel
theorem dX11_advance_27 : decode cX11_advance 27 = .ok (.iload_n 1, 1) := by decide +kernel
theorem dX11_advance_28 : decode cX11_advance 28 = .ok (.iadd, 1) := by decide +kernel
theorem dX11_advance_29 : decode cX11_advance 29 = .ok (.ldc 133, 2) := by decide +kernel
theorem dX11_advance_31 : decode cX11_advance 31 = .ok (.if_icmp .le 11, 3) := by decide +kernel
theorem dX11_advance_34 : decode cX11_advance 34 = .ok (.new 134, 3) := by decide +kernel
theorem dX11_advance_37 : decode cX11_advance 37 = .ok (.dup, 1) := by decide +kernel
theorem dX11_advance_38 : decode cX11_advance 38 = .ok (.invokespecial 136, 3) := by decide +kernel
theorem dX11_advance_41 : decode cX11_advance 41 = .ok (.athrow, 1) := by decide +kernel
theorem dX11_advance_42 : decode cX11_advance 42 = .ok (.aload_n 0, 1) := by decide +kernel
theorem dX11_advance_43 : decode cX11_advance 43 = .ok (.getfield 55, 3) := by decide +kernel
theorem dX11_advance_46 : decode cX11_advance 46 = .ok (.getfield 137, 3) := by decide +kernel
theorem dX11_advance_49 : decode cX11_advance 49 = .ok (.istore_n 2, 1) := by decide +kernel
theorem dX11_advance_50 : decode cX11_advance 50 = .ok (.iconst 0, 1) := by decide +kernel
theorem dX11_advance_51 : decode cX11_advance 51 = .ok (.istore_n 3, 1) := by decide +kernel
theorem dX11_advance_52 : decode cX11_advance 52 = .ok (.iload_n 3, 1) := by decide +kernel
theorem dX11_advance_53 : decode cX11_advance 53 = .ok (.iload_n 1, 1) := by decide +kernel
theorem dX11_advance_54 : decode cX11_advance 54 = .ok (.if_icmp .ge 16, 3) := by decide +kernel
theorem dX11_advance_57 : decode cX11_advance 57 = .ok (.aload_n 0, 1) := by decide +kernel
theorem dX11_advance_58 : decode cX11_advance 58 = .ok (.getfield 55, 3) := by decide +kernel
theorem dX11_advance_61 : decode cX11_advance 61 = .ok (.invokevirtual 140, 3) := by decide +kernel
theorem dX11_advance_64 : decode cX11_advance 64 = .ok (.iinc 3 1, 3) := by decide +kernel
theorem dX11_advance_67 : decode cX11_advance 67 = .ok (.goto (-15), 3) := by decide +kernel
theorem dX11_advance_70 : decode cX11_advance 70 = .ok (.aload_n 0, 1) := by decide +kernel
theorem dX11_advance_71 : decode cX11_advance 71 = .ok (.getfield 55, 3) := by decide +kernel
theorem dX11_advance_74 : decode cX11_advance 74 = .ok (.getfield 137, 3) := by decide +kernel
theorem dX11_advance_77 : decode cX11_advance 77 = .ok (.iload_n 2, 1) := by decide +kernel
theorem dX11_advance_78 : decode cX11_advance 78 = .ok (.isub, 1) := by decide +kernel
theorem dX11_advance_79 : decode cX11_advance 79 = .ok (.ireturn, 1) := by decide +kernel
set_option maxHeartbeats 4000000 in
set_option maxRecDepth 100000 in
theorem s_X11_advance (G : EnvG) (l : Launch) (hl9 : l.stackTraces = false) (Φ : Hm) (sz x ca : Nat) (nw : Int32) (rt : Int32) (dw : Int32) (aq : Int32) (xp : Int32) (xb : Int32) (ob : Int64) (sm : Int64) (un : Int64) (a : Int32) (hx : G.2.2.2 ≤ x) (hI : In G x ca Φ) (hc0 : Φ (x + 80) = some (o_ 4 [.ref (x + 3), .ref (x + 74), .ref (x + 81), .ref (x + 95), .int nw, .int rt, .int dw, .int aq, .int xp, .int xb, .long ob, .long sm, .long un])) (had : aq = 0 ∨ aq = 1) : CtB G l yX11_advance wsX11_advance ({ frames := 6, cells := 1, slots := 6, locals := 146 }) 1 6 [.ref x, .int a] Φ sz (fun v Φ1 sz1 => (((∃ r9 : Int32, v = some (.int r9)) ∧ (1 ≤ a.toInt ∧ a.toInt ≤ 1000 ∧ nw + a ≤ 1000000)) ∧ ∃ rt8 : Int32, ∃ xp8 : Int32, ∃ xb8 : Int32, ∃ un8 : Int64, Φ1 (x + 80) = some (o_ 4 [.ref (x + 3), .ref (x + 74), .ref (x + 81), .ref (x + 95), .int (nw + a), .int rt8, .int dw, .int aq, .int xp8, .int xb8, .long ob, .long sm, .long un8])) ∧ sz1 = sz ∧ In G x (ca) Φ1 ∧ Fr x (fun j9 => 46 ≤ j9 ∧ j9 < 95) Φ Φ1) (fun Φ1 => (¬ (1 ≤ a.toInt ∧ a.toInt ≤ 1000 ∧ nw + a ≤ 1000000)) ∧ In G x ca Φ1 ∧ Fr x (fun j9 => False) Φ Φ1) [xIA, xIS] := by
  refine CtB.of (cc := cX11_advance) (maxL := 4) (ret := (some .int)) (by decide) rfl (Nat.le_of_ble_eq_true rfl) ?_
  intro p9 e9 s9 m9 w9 t9 k9 B htab9
  show Z p9 l e9 _ s9 m9 _ w9 t9 k9 _ G 4 0 [(0, .ref x), (1, .int a)] [] Φ sz 0 0
  refine z_iload_n B dX11_advance_0 rfl 1 rfl ?_
  refine z_iconst (v := 1) B dX11_advance_1 rfl ?_
  refine z_icmp_lt (tgt := 12) B dX11_advance_2 rfl (fun c_1 => ?_) (fun c_1 => ?_)
  · have k_1 : (1 : Int32).toInt = 1 := by decide
    have q_1 : (a.toInt < (1 : Int32).toInt) := Int32.lt_iff_toInt_lt.mp c_1
    exact zb_throw (cls := xIA) (ik := 116) (ic := 118) B hl9 htab9 (by decide) ⟨(fun h9 => by omega), hI, (fun b9 h9 => rfl)⟩ (by decide) (by decide +kernel) (by decide +kernel) (by decide +kernel) (by decide +kernel) (by decide +kernel) (by decide +kernel) (by decide +kernel) dX11_advance_12 dX11_advance_15 dX11_advance_16 dX11_advance_19 ⟨Nat.le_of_ble_eq_true rfl, Nat.le_of_ble_eq_true rfl, Nat.le_of_ble_eq_true rfl, Nat.le_of_ble_eq_true rfl⟩ ⟨Nat.le_of_ble_eq_true rfl, Nat.le_of_ble_eq_true rfl⟩
  · obtain ⟨n_1, e_2, e_1, rfl⟩ := nI_ofge (c := 1) (by omega) c_1
    refine z_iload_n B dX11_advance_5 rfl 1 rfl ?_
    refine z_sipush (v := 1000) B dX11_advance_6 rfl ?_
    refine z_icmp_le (tgt := 20) B dX11_advance_9 rfl (fun c_2 => ?_) (fun c_2 => ?_)
    · have e_3 : n_1 ≤ 1000 := (nI_leI (a := n_1) (b := 1000) (by omega) (by omega)).mp c_2
      refine z_aload_n B dX11_advance_20 rfl 0 rfl ?_
      have h_1 := in0 (k := 0) hI rfl
      have h_2 : Φ x = some (o_ 13 [.ref (x + 1), .ref (x + 3), .ref (x + 24), .ref (x + 46), .ref (x + 74), .ref (x + 80), .ref (x + 132), .ref (x + 121)]) := h_1
      refine z_get (ref := "FlowExporter") (C := RX11) (T := TX11) (N := 8) (ci := 13) (v := .ref (x + 80)) B hu_X11_advance_X11 rfl 5 (Nat.le_of_ble_eq_true rfl) hv_X11_advance_55 rfl h_2 rfl dX11_advance_21 ?_
      refine z_get (ref := "FlowExporter$Exporter") (C := RX2) (T := TX2) (N := 13) (ci := 4) (v := .int nw) B hu_X11_advance_X2 rfl 4 (Nat.le_of_ble_eq_true rfl) hv_X11_advance_110 rfl hc0 rfl dX11_advance_24 ?_
      refine z_iload_n B dX11_advance_27 rfl 1 rfl ?_
      refine z_iadd B dX11_advance_28 ?_
      refine z_ldc (v := 1000000) B (by decide +kernel) dX11_advance_29 ?_
      refine z_icmp_le (tgt := 42) B dX11_advance_31 rfl (fun c_3 => ?_) (fun c_3 => ?_)
      · refine z_aload_n B dX11_advance_42 rfl 0 rfl ?_
        refine z_get (ref := "FlowExporter") (C := RX11) (T := TX11) (N := 8) (ci := 13) (v := .ref (x + 80)) B hu_X11_advance_X11 rfl 5 (Nat.le_of_ble_eq_true rfl) hv_X11_advance_55 rfl h_2 rfl dX11_advance_43 ?_
        refine z_get (ref := "FlowExporter$Exporter") (C := RX2) (T := TX2) (N := 13) (ci := 4) (v := .int xp) B hu_X11_advance_X2 rfl 8 (Nat.le_of_ble_eq_true rfl) hv_X11_advance_137 rfl hc0 rfl dX11_advance_46 ?_
        refine z_istore_n (lv' := [(2, .int xp), (0, .ref x), (1, .int (nI n_1))]) B dX11_advance_49 rfl (Nat.le_of_ble_eq_true rfl) rfl ?_
        refine z_iconst (v := 0) B dX11_advance_50 rfl ?_
        refine z_istore_n (lv' := [(3, .int 0), (2, .int xp), (0, .ref x), (1, .int (nI n_1))]) B dX11_advance_51 rfl (Nat.le_of_ble_eq_true rfl) rfl ?_
        refine z_lv [0, 1, 2, 3] rfl ?_
        refine z_loop (α := Nat × Int32 × Int32 × Int32 × Int32 × Int64) (fun (a9 : Nat × Int32 × Int32 × Int32 × Int32 × Int64) Φi => In G x (ca) Φi ∧ Fr x (fun j9 => 46 ≤ j9 ∧ j9 < 95) Φ Φi ∧ (a9.1 ≤ n_1) ∧ (a9.2.1 = nw + nI a9.1) ∧ (Φi (x + 80) = some (o_ 4 [.ref (x + 3), .ref (x + 74), .ref (x + 81), .ref (x + 95), .int a9.2.1, .int a9.2.2.1, .int dw, .int aq, .int a9.2.2.2.1, .int a9.2.2.2.2.1, .long ob, .long sm, .long a9.2.2.2.2.2])) ∧ True) (fun a9 => [(3, .int (nI (a9.1))), (2, .int xp), (0, .ref x), (1, .int (nI n_1))]) (fun a9 => n_1 - a9.1) ?_ (0, nw, rt, xp, xb, un) ⟨hI, fun _ _ => rfl, (show 0 ≤ n_1 by omega), nadd_0, hc0, trivial⟩
        rintro ⟨i_1, i_2, i_3, i_4, i_5, i_6⟩ Φl1 ⟨hI1, hF1, b_1, b_2, b_3, -⟩ ih1
        replace hI1 : In G x (ca) Φl1 := hI1
        replace b_1 : i_1 ≤ n_1 := b_1
        replace b_2 : i_2 = nw + nI i_1 := b_2
        replace b_3 : Φl1 (x + 80) = some (o_ 4 [.ref (x + 3), .ref (x + 74), .ref (x + 81), .ref (x + 95), .int i_2, .int i_3, .int dw, .int aq, .int i_4, .int i_5, .long ob, .long sm, .long i_6]) := b_3
        show Z p9 l e9 _ s9 m9 _ w9 t9 k9 _ G 4 52 [(3, .int (nI i_1)), (2, .int xp), (0, .ref x), (1, .int (nI n_1))] [] Φl1 _ _ _
        obtain rfl := b_2
        refine z_iload_n B dX11_advance_52 rfl 0 rfl ?_
        refine z_iload_n B dX11_advance_53 rfl 3 rfl ?_
        refine z_icmp_ge (tgt := 70) B dX11_advance_54 rfl (fun c_4 => ?_) (fun c_4 => ?_)
        · have e_4 : n_1 ≤ i_1 := (nI_leI (a := n_1) (b := i_1) (by omega) (by omega)).mp c_4
          refine z_aload_n B dX11_advance_70 rfl 2 rfl ?_
          have h_3 : Φl1 x = some (o_ 13 [.ref (x + 1), .ref (x + 3), .ref (x + 24), .ref (x + 46), .ref (x + 74), .ref (x + 80), .ref (x + 132), .ref (x + 121)]) := ((hF1 x fq_505).trans h_2)
          refine z_get (ref := "FlowExporter") (C := RX11) (T := TX11) (N := 8) (ci := 13) (v := .ref (x + 80)) B hu_X11_advance_X11 rfl 5 (Nat.le_of_ble_eq_true rfl) hv_X11_advance_55 rfl h_3 rfl dX11_advance_71 ?_
          refine z_get (ref := "FlowExporter$Exporter") (C := RX2) (T := TX2) (N := 13) (ci := 4) (v := .int i_4) B hu_X11_advance_X2 rfl 8 (Nat.le_of_ble_eq_true rfl) hv_X11_advance_137 rfl b_3 rfl dX11_advance_74 ?_
          refine z_iload_n B dX11_advance_77 rfl 1 rfl ?_
          refine z_isub B dX11_advance_78 ?_
          refine z_fi (fun v_1 => ?_)
          have k_2 : (nI n_1).toInt = ((n_1 : Nat) : Int) := nI_toInt (by omega)
          have k_3 : (1 : Int32).toInt = 1 := by decide
          have q_2 : ¬ ((nI n_1).toInt < (1 : Int32).toInt) := fun h9 => c_1 (Int32.lt_iff_toInt_lt.mpr h9)
          have k_4 : (1000 : Int32).toInt = 1000 := by decide
          have q_3 : ((nI n_1).toInt ≤ (1000 : Int32).toInt) := Int32.le_iff_toInt_le.mp c_2
          have k_5 : (1000000 : Int32).toInt = 1000000 := by decide
          have q_4 : ((nw + (nI n_1)).toInt ≤ (1000000 : Int32).toInt) := Int32.le_iff_toInt_le.mp c_3
          have k_6 : (nI i_1).toInt = ((i_1 : Nat) : Int) := nI_toInt (by omega)
          have q_5 : ((nI n_1).toInt ≤ (nI i_1).toInt) := Int32.le_iff_toInt_le.mp c_4
          exact zb_ret (Nat.le_of_ble_eq_true rfl) (Nat.le_of_ble_eq_true rfl) (z_ret_i B dX11_advance_79 ⟨⟨⟨⟨_, rfl⟩, ⟨by omega, by omega, c_3⟩⟩, i_3, i_4, i_5, i_6, (b_3.trans (congrArg (fun w9 : Int32 => some (o_ 4 [.ref (x + 3), .ref (x + 74), .ref (x + 81), .ref (x + 95), .int w9, .int i_3, .int dw, .int aq, .int i_4, .int i_5, .long ob, .long sm, .long i_6])) (congrArg (fun w8 : Nat => nw + nI w8) (show i_1 = n_1 by omega))))⟩, rfl, hI1, (fun b9 h9 => ((hF1 b9 h9).trans rfl))⟩)
        · have e_5 : ¬ (n_1 ≤ i_1) := fun h9 => c_4 ((nI_leI (a := n_1) (b := i_1) (by omega) (by omega)).mpr h9)
          refine z_aload_n B dX11_advance_57 rfl 2 rfl ?_
          have h_4 : Φl1 x = some (o_ 13 [.ref (x + 1), .ref (x + 3), .ref (x + 24), .ref (x + 46), .ref (x + 74), .ref (x + 80), .ref (x + 132), .ref (x + 121)]) := ((hF1 x fq_505).trans h_2)
          refine z_get (ref := "FlowExporter") (C := RX11) (T := TX11) (N := 8) (ci := 13) (v := .ref (x + 80)) B hu_X11_advance_X11 rfl 5 (Nat.le_of_ble_eq_true rfl) hv_X11_advance_55 rfl h_4 rfl dX11_advance_58 ?_
          refine z_callV (As := []) (rest := []) B (s_X2_tick G l Φl1 sz x (ca) (nw + nI i_1) i_3 dw aq i_4 i_5 ob sm i_6 hx hI1 b_3 had) (cwV 0 B.1.2.2.2.2 gX11_advance_X2_tick rfl rfl rfl (by decide +kernel) ⟨Nat.le_of_ble_eq_true rfl, Nat.le_of_ble_eq_true rfl⟩) b_3 rfl rfl rfl rfl (Nat.le_of_ble_eq_true rfl) dX11_advance_61 ⟨Nat.le_of_ble_eq_true rfl, Nat.le_of_ble_eq_true rfl⟩ (fun r_1 Φ1 sz1 st1 hp1 hs1 => ?_)
          obtain ⟨⟨rfl, v_2, v_3, v_4, v_5, h_5⟩, hq1, hI2, hF2⟩ := hp1
          subst sz1
          replace hs1 : st1 = [] := hs1
          subst st1
          replace hI2 : In G x (ca) Φ1 := hI2
          refine z_iinc (k := 0) (v := nI (i_1 + 1)) (lv' := [(3, .int (nI (i_1 + 1))), (2, .int xp), (0, .ref x), (1, .int (nI n_1))]) B dX11_advance_64 rfl (nI_add i_1 1) (Nat.le_of_ble_eq_true rfl) rfl ?_
          refine z_goto (tgt := 52) B dX11_advance_67 rfl ?_
          refine z_lv [0, 1, 2, 3] rfl ?_
          exact ih1 (i_1 + 1, (nw + nI i_1) + 1, v_2, v_3, v_4, v_5) Φ1 (show n_1 - (i_1 + 1) < n_1 - i_1 by omega) ⟨hI2, (fun b9 h9 => ((hF2 b9 h9).trans ((hF1 b9 h9).trans rfl))), (show (i_1 + 1) ≤ n_1 by omega), (nadd nw i_1), h_5, trivial⟩
      · exact zb_throw (cls := xIS) (ik := 134) (ic := 136) B hl9 htab9 (by decide) ⟨(fun h9 => c_3 h9.2.2), hI, (fun b9 h9 => rfl)⟩ (by decide) (by decide +kernel) (by decide +kernel) (by decide +kernel) (by decide +kernel) (by decide +kernel) (by decide +kernel) (by decide +kernel) dX11_advance_34 dX11_advance_37 dX11_advance_38 dX11_advance_41 ⟨Nat.le_of_ble_eq_true rfl, Nat.le_of_ble_eq_true rfl, Nat.le_of_ble_eq_true rfl, Nat.le_of_ble_eq_true rfl⟩ ⟨Nat.le_of_ble_eq_true rfl, Nat.le_of_ble_eq_true rfl⟩
    · have e_6 : ¬ (n_1 ≤ 1000) := fun h9 => c_2 ((nI_leI (a := n_1) (b := 1000) (by omega) (by omega)).mpr h9)
      have k_7 : (nI n_1).toInt = ((n_1 : Nat) : Int) := nI_toInt (by omega)
      have k_8 : (1 : Int32).toInt = 1 := by decide
      have q_6 : ¬ ((nI n_1).toInt < (1 : Int32).toInt) := fun h9 => c_1 (Int32.lt_iff_toInt_lt.mpr h9)
      have k_9 : (1000 : Int32).toInt = 1000 := by decide
      have q_7 : ¬ ((nI n_1).toInt ≤ (1000 : Int32).toInt) := fun h9 => c_2 (Int32.le_iff_toInt_le.mpr h9)
      exact zb_throw (cls := xIA) (ik := 116) (ic := 118) B hl9 htab9 (by decide) ⟨(fun h9 => by omega), hI, (fun b9 h9 => rfl)⟩ (by decide) (by decide +kernel) (by decide +kernel) (by decide +kernel) (by decide +kernel) (by decide +kernel) (by decide +kernel) (by decide +kernel) dX11_advance_12 dX11_advance_15 dX11_advance_16 dX11_advance_19 ⟨Nat.le_of_ble_eq_true rfl, Nat.le_of_ble_eq_true rfl, Nat.le_of_ble_eq_true rfl, Nat.le_of_ble_eq_true rfl⟩ ⟨Nat.le_of_ble_eq_true rfl, Nat.le_of_ble_eq_true rfl⟩

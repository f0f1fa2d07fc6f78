set_option maxRecDepth 20000 in
theorem ggX11_setSupport_X1_support : GoodIn wsX11_setSupport wsX1_support := goodIn_ca ((goodIn_ca (goodIn_ca (goodIn_r _ [10, 11, 12, 13, 14, 15, 16, 17, 18, 19, 20, 21, 22, 23, 24, 25, 26, 27, 28, 29, 30, 31, 32, 33, 34] rfl (by decide +kernel)) (goodIn_sub (fun _ h => List.mem_cons_of_mem _ (List.mem_append_left _ (List.mem_append_left _ (List.mem_append_left _ (List.mem_append_left _ (List.mem_append_right _ h)))))) gw_wsX10)) (goodIn_sub (fun _ h => List.mem_cons_of_mem _ (List.mem_append_left _ (List.mem_append_left _ (List.mem_append_left _ (List.mem_append_right _ h))))) gw_wsX100))) (goodIn_sub (fun _ h => List.mem_cons_of_mem _ (List.mem_append_right _ h)) (all_fg _))
set_option maxRecDepth 20000 in
theorem gX11_setSupport_X1_support : GoodIn wsX11_setSupport (wsV RX11 218 RX1 yX1_support wsX1_support) := goodIn_app (goodIn_m (mem_cA (List.mem_cons_of_mem _ (List.mem_append_left _ (List.mem_append_left _ (List.mem_append_left _ (List.mem_append_left _ (List.mem_append_left _ (List.mem_append_left _ (List.mem_append_left _ (List.mem_of_getElem? (i := 5) rfl))))))))) (mem_cA (List.mem_cons_of_mem _ (List.mem_append_left _ (List.mem_append_left _ (List.mem_append_left _ (List.mem_append_left _ (List.mem_append_left _ (List.mem_append_left _ (List.mem_append_left _ (List.mem_of_getElem? (i := 6) rfl))))))))) (mem_cA (List.mem_cons_of_mem _ (List.mem_append_left _ (List.mem_append_left _ (List.mem_append_left _ (List.mem_append_left _ (List.mem_append_left _ (List.mem_append_left _ (List.mem_append_left _ (List.mem_of_getElem? (i := 7) rfl))))))))) (mem_cA (List.mem_cons_of_mem _ (List.mem_append_left _ (List.mem_append_left _ (List.mem_append_left _ (List.mem_append_left _ (List.mem_append_left _ (List.mem_append_left _ (List.mem_append_left _ (List.mem_of_getElem? (i := 8) rfl))))))))) mem_cZ)))) (by decide +kernel)) ggX11_setSupport_X1_support
set_option maxRecDepth 20000 in
theorem ggX11_setSupport_X8_forgetTemplatesWith : GoodIn wsX11_setSupport wsX8_forgetTemplatesWith := goodIn_ca ((goodIn_ca (goodIn_ca (goodIn_ca (goodIn_r _ [39, 40, 41, 42, 43, 44, 9, 45, 13, 46, 47, 48, 17, 49, 24] rfl (by decide +kernel)) (goodIn_sub (fun _ h => List.mem_cons_of_mem _ (List.mem_append_left _ (List.mem_append_left _ (List.mem_append_right _ h)))) gw_wsX80)) (goodIn_sub (fun _ h => List.mem_cons_of_mem _ (List.mem_append_left _ (List.mem_append_left _ (List.mem_append_left _ (List.mem_append_left _ (List.mem_append_right _ h)))))) gw_wsX10)) (goodIn_sub (fun _ h => List.mem_cons_of_mem _ (List.mem_append_left _ (List.mem_append_left _ (List.mem_append_left _ (List.mem_append_right _ h))))) gw_wsX100))) (goodIn_sub (fun _ h => List.mem_cons_of_mem _ (List.mem_append_right _ h)) (all_fg _))
set_option maxRecDepth 20000 in
theorem gX11_setSupport_X8_forgetTemplatesWith : GoodIn wsX11_setSupport (wsV RX11 221 RX8 yX8_forgetTemplatesWith wsX8_forgetTemplatesWith) := goodIn_app (goodIn_m (mem_cA (List.mem_cons_of_mem _ (List.mem_append_left _ (List.mem_append_left _ (List.mem_append_left _ (List.mem_append_left _ (List.mem_append_left _ (List.mem_append_left _ (List.mem_append_right _ (List.mem_append_left _ (List.mem_of_getElem? (i := 10) rfl)))))))))) (mem_cA (List.mem_cons_of_mem _ (List.mem_append_left _ (List.mem_append_left _ (List.mem_append_left _ (List.mem_append_left _ (List.mem_append_left _ (List.mem_append_left _ (List.mem_append_right _ (List.mem_append_left _ (List.mem_of_getElem? (i := 11) rfl)))))))))) (mem_cA (List.mem_cons_of_mem _ (List.mem_append_left _ (List.mem_append_left _ (List.mem_append_left _ (List.mem_append_left _ (List.mem_append_left _ (List.mem_append_left _ (List.mem_append_right _ (List.mem_append_left _ (List.mem_of_getElem? (i := 12) rfl)))))))))) (mem_cA (List.mem_cons_of_mem _ (List.mem_append_left _ (List.mem_append_left _ (List.mem_append_left _ (List.mem_append_left _ (List.mem_append_left _ (List.mem_append_left _ (List.mem_append_right _ (List.mem_append_left _ (List.mem_of_getElem? (i := 13) rfl)))))))))) mem_cZ)))) (by decide +kernel)) ggX11_setSupport_X8_forgetTemplatesWith
theorem dX11_setSupport_0 : decode cX11_setSupport 0 = .ok (.iload_n 1, 1) := by decide +kernel
theorem dX11_setSupport_1 : decode cX11_setSupport 1 = .ok (.ifCond .lt 9, 3) := by decide +kernel
theorem dX11_setSupport_4 : decode cX11_setSupport 4 = .ok (.iload_n 1, 1) := by decide +kernel
theorem dX11_setSupport_5 : decode cX11_setSupport 5 = .ok (.bipush 9, 2) := by decide +kernel
theorem dX11_setSupport_7 : decode cX11_setSupport 7 = .ok (.if_icmp .lt 11, 3) := by decide +kernel
theorem dX11_setSupport_10 : decode cX11_setSupport 10 = .ok (.new 116, 3) := by decide +kernel
theorem dX11_setSupport_13 : decode cX11_setSupport 13 = .ok (.dup, 1) := by decide +kernel
theorem dX11_setSupport_14 : decode cX11_setSupport 14 = .ok (.invokespecial 118, 3) := by decide +kernel
theorem dX11_setSupport_17 : decode cX11_setSupport 17 = .ok (.athrow, 1) := by decide +kernel
theorem dX11_setSupport_18 : decode cX11_setSupport 18 = .ok (.aload_n 0, 1) := by decide +kernel
theorem dX11_setSupport_19 : decode cX11_setSupport 19 = .ok (.getfield 21, 3) := by decide +kernel
theorem dX11_setSupport_22 : decode cX11_setSupport 22 = .ok (.getfield 215, 3) := by decide +kernel
theorem dX11_setSupport_25 : decode cX11_setSupport 25 = .ok (.iload_n 1, 1) := by decide +kernel
theorem dX11_setSupport_26 : decode cX11_setSupport 26 = .ok (.ishr, 1) := by decide +kernel
theorem dX11_setSupport_27 : decode cX11_setSupport 27 = .ok (.iconst 1, 1) := by decide +kernel
theorem dX11_setSupport_28 : decode cX11_setSupport 28 = .ok (.iand, 1) := by decide +kernel
theorem dX11_setSupport_29 : decode cX11_setSupport 29 = .ok (.iconst 1, 1) := by decide +kernel
theorem dX11_setSupport_30 : decode cX11_setSupport 30 = .ok (.if_icmp .ne 7, 3) := by decide +kernel
theorem dX11_setSupport_33 : decode cX11_setSupport 33 = .ok (.iconst 1, 1) := by decide +kernel
theorem dX11_setSupport_34 : decode cX11_setSupport 34 = .ok (.goto 4, 3) := by decide +kernel
theorem dX11_setSupport_37 : decode cX11_setSupport 37 = .ok (.iconst 0, 1) := by decide +kernel
theorem dX11_setSupport_38 : decode cX11_setSupport 38 = .ok (.istore_n 3, 1) := by decide +kernel
theorem dX11_setSupport_39 : decode cX11_setSupport 39 = .ok (.iload_n 3, 1) := by decide +kernel
theorem dX11_setSupport_40 : decode cX11_setSupport 40 = .ok (.iload_n 2, 1) := by decide +kernel
theorem dX11_setSupport_41 : decode cX11_setSupport 41 = .ok (.if_icmp .eq 29, 3) := by decide +kernel
theorem dX11_setSupport_44 : decode cX11_setSupport 44 = .ok (.aload_n 0, 1) := by decide +kernel
theorem dX11_setSupport_45 : decode cX11_setSupport 45 = .ok (.getfield 21, 3) := by decide +kernel
theorem dX11_setSupport_48 : decode cX11_setSupport 48 = .ok (.aload_n 0, 1) := by decide +kernel
theorem dX11_setSupport_49 : decode cX11_setSupport 49 = .ok (.getfield 21, 3) := by decide +kernel
theorem dX11_setSupport_52 : decode cX11_setSupport 52 = .ok (.getfield 215, 3) := by decide +kernel
theorem dX11_setSupport_55 : decode cX11_setSupport 55 = .ok (.iconst 1, 1) := by decide +kernel
theorem dX11_setSupport_56 : decode cX11_setSupport 56 = .ok (.iload_n 1, 1) := by decide +kernel
theorem dX11_setSupport_57 : decode cX11_setSupport 57 = .ok (.ishl, 1) := by decide +kernel
theorem dX11_setSupport_58 : decode cX11_setSupport 58 = .ok (.ixor, 1) := by decide +kernel
theorem dX11_setSupport_59 : decode cX11_setSupport 59 = .ok (.invokevirtual 218, 3) := by decide +kernel
theorem dX11_setSupport_62 : decode cX11_setSupport 62 = .ok (.aload_n 0, 1) := by decide +kernel
theorem dX11_setSupport_63 : decode cX11_setSupport 63 = .ok (.getfield 46, 3) := by decide +kernel
theorem dX11_setSupport_66 : decode cX11_setSupport 66 = .ok (.iload_n 1, 1) := by decide +kernel
theorem dX11_setSupport_67 : decode cX11_setSupport 67 = .ok (.invokevirtual 221, 3) := by decide +kernel
theorem dX11_setSupport_70 : decode cX11_setSupport 70 = .ok (.iload_n 3, 1) := by decide +kernel
theorem dX11_setSupport_71 : decode cX11_setSupport 71 = .ok (.ireturn, 1) := by decide +kernel
set_option maxHeartbeats 4000000 in
set_option maxRecDepth 100000 in
theorem s_X11_setSupportC (G : EnvG) (l : Launch) (hl9 : l.stackTraces = false) (Φ : Hm) (sz x ca : Nat) (t : Nat) (s : Nat) (c : Cf) (a : Int32) (b : Int32) (hx : G.2.2.2 ≤ x) (hI : In G x ca Φ) (hcf0 : CfA G x t s c Φ) (hb : b = 0 ∨ b = 1) : CtB G l yX11_setSupport wsX11_setSupport ({ frames := 6, cells := 1, slots := 6, locals := 81 }) 1 6 [.ref x, .int a, .int b] Φ sz (fun v Φ1 sz1 => (v = some (.int (suV c a)) ∧ InF a ∧ ∃ s8 : Nat, CfA G x t s8 (suC c a b) Φ1) ∧ sz1 = sz ∧ In G x (ca) Φ1 ∧ Fr x (fun j9 => (3 ≤ j9 ∧ j9 < 24) ∨ j9 = 78) Φ Φ1) (fun Φ1 => (¬ InF a) ∧ In G x ca Φ1 ∧ Fr x (fun j9 => False) Φ Φ1) [xIA] := by
  refine CtB.of (cc := cX11_setSupport) (maxL := 4) (ret := (some .boolean)) (by decide) rfl (Nat.le_of_ble_eq_true rfl) ?_
  intro p9 e9 s9 m9 w9 t9 k9 B htab9
  show Z p9 l e9 _ s9 m9 _ w9 t9 k9 _ G 4 0 [(0, .ref x), (1, .int a), (2, .int b)] [] Φ sz 0 0
  refine z_iload_n B dX11_setSupport_0 rfl 1 rfl ?_
  refine z_if_lt (tgt := 10) B dX11_setSupport_1 rfl (fun c_1 => ?_) (fun c_1 => ?_)
  · have k_1 : (0 : Int32).toInt = 0 := by decide
    have q_1 : (a.toInt < (0 : Int32).toInt) := Int32.lt_iff_toInt_lt.mp c_1
    exact zb_throw (cls := xIA) (ik := 116) (ic := 118) B hl9 htab9 (by decide) ⟨(fun h9 => by obtain ⟨h8, h7⟩ := h9; omega), hI, (fun b9 h9 => rfl)⟩ (by decide) (by decide +kernel) (by decide +kernel) (by decide +kernel) (by decide +kernel) (by decide +kernel) (by decide +kernel) (by decide +kernel) dX11_setSupport_10 dX11_setSupport_13 dX11_setSupport_14 dX11_setSupport_17 ⟨Nat.le_of_ble_eq_true rfl, Nat.le_of_ble_eq_true rfl, Nat.le_of_ble_eq_true rfl, Nat.le_of_ble_eq_true rfl⟩ ⟨Nat.le_of_ble_eq_true rfl, Nat.le_of_ble_eq_true rfl⟩
  · obtain ⟨n_1, e_1, rfl⟩ := nI_of c_1
    refine z_iload_n B dX11_setSupport_4 rfl 1 rfl ?_
    refine z_bipush (v := 9) B dX11_setSupport_5 rfl ?_
    refine z_icmp_lt (tgt := 18) B dX11_setSupport_7 rfl (fun c_2 => ?_) (fun c_2 => ?_)
    · have e_2 : n_1 < 9 := (nI_ltI (a := n_1) (b := 9) (by omega) (by omega)).mp c_2
      refine z_aload_n B dX11_setSupport_18 rfl 0 rfl ?_
      have h_1 := in0 (k := 0) hI rfl
      have h_2 : Φ x = some (o_ 13 [.ref (x + 1), .ref (x + 3), .ref (x + 24), .ref (x + 46), .ref (x + 74), .ref (x + 80), .ref (x + 132), .ref (x + 121)]) := h_1
      refine z_get (ref := "FlowExporter") (C := RX11) (T := TX11) (N := 8) (ci := 13) (v := .ref (x + 3)) B hu_X11_setSupport_X11 rfl 1 (Nat.le_of_ble_eq_true rfl) hv_X11_setSupport_21 rfl h_2 rfl dX11_setSupport_19 ?_
      have h_3 : Φ (x + 3) = some (o_ 3 [.ref (x + 4), .ref (x + 5), .ref (x + 6), .ref (x + 7), .int (nI t), .int (nI s)]) := CfA.obj hcf0
      have b_1 := hcf0.1.2.1
      refine z_get (ref := "FlowExporter$Config") (C := RX1) (T := TX1) (N := 6) (ci := 3) (v := .int (nI s)) B hu_X11_setSupport_X1 rfl 5 (Nat.le_of_ble_eq_true rfl) hv_X11_setSupport_215 rfl h_3 rfl dX11_setSupport_22 ?_
      refine z_iload_n B dX11_setSupport_25 rfl 1 rfl ?_
      refine z_ishr B dX11_setSupport_26 ?_
      refine z_iconst (v := 1) B dX11_setSupport_27 rfl ?_
      refine z_iand B dX11_setSupport_28 ?_
      refine z_iconst (v := 1) B dX11_setSupport_29 rfl ?_
      refine z_icmp_ne (tgt := 37) B dX11_setSupport_30 rfl (fun c_3 => ?_) (fun c_3 => ?_)
      · have hv1 : suV c (nI n_1) = 0 := suV_0 (by show ¬ ((c 9 >>> (nI n_1 &&& 31)) &&& 1 = 1); rw [hcf0.2.1.2]; exact c_3)
        refine z_iconst (v := 0) B dX11_setSupport_37 rfl ?_
        refine z_istore_n (lv' := [(3, .int 0), (0, .ref x), (1, .int (nI n_1)), (2, .int b)]) B dX11_setSupport_38 rfl (Nat.le_of_ble_eq_true rfl) rfl ?_
        refine z_iload_n B dX11_setSupport_39 rfl 0 rfl ?_
        refine z_iload_n B dX11_setSupport_40 rfl 3 rfl ?_
        refine z_icmp_eq (tgt := 70) B dX11_setSupport_41 rfl (fun c_4 => ?_) (fun c_4 => ?_)
        · refine z_iload_n B dX11_setSupport_70 rfl 0 rfl ?_
          exact zb_ret (Nat.le_of_ble_eq_true rfl) (Nat.le_of_ble_eq_true rfl) (z_ret_z B dX11_setSupport_71 (by decide) ⟨⟨congrArg (fun w9 : Int32 => some (Value.int w9)) hv1.symm, ⟨by rw [nI_toInt (by omega)]; omega, by rw [nI_toInt (by omega)]; omega⟩, su_eq (hv1.trans c_4) hcf0⟩, rfl, hI, (fun b9 h9 => rfl)⟩)
        · refine z_aload_n B dX11_setSupport_44 rfl 1 rfl ?_
          refine z_get (ref := "FlowExporter") (C := RX11) (T := TX11) (N := 8) (ci := 13) (v := .ref (x + 3)) B hu_X11_setSupport_X11 rfl 1 (Nat.le_of_ble_eq_true rfl) hv_X11_setSupport_21 rfl h_2 rfl dX11_setSupport_45 ?_
          refine z_aload_n B dX11_setSupport_48 rfl 1 rfl ?_
          refine z_get (ref := "FlowExporter") (C := RX11) (T := TX11) (N := 8) (ci := 13) (v := .ref (x + 3)) B hu_X11_setSupport_X11 rfl 1 (Nat.le_of_ble_eq_true rfl) hv_X11_setSupport_21 rfl h_2 rfl dX11_setSupport_49 ?_
          have h_4 : Φ (x + 3) = some (o_ 3 [.ref (x + 4), .ref (x + 5), .ref (x + 6), .ref (x + 7), .int (nI t), .int (nI s)]) := CfA.obj hcf0
          have b_2 := hcf0.1.2.1
          refine z_get (ref := "FlowExporter$Config") (C := RX1) (T := TX1) (N := 6) (ci := 3) (v := .int (nI s)) B hu_X11_setSupport_X1 rfl 5 (Nat.le_of_ble_eq_true rfl) hv_X11_setSupport_215 rfl h_4 rfl dX11_setSupport_52 ?_
          refine z_iconst (v := 1) B dX11_setSupport_55 rfl ?_
          refine z_iload_n B dX11_setSupport_56 rfl 2 rfl ?_
          refine z_ishl B dX11_setSupport_57 ?_
          refine z_ixor B dX11_setSupport_58 ?_
          have hcg1 := CfA.q hcf0
          obtain ⟨q_2, b_3, e_3⟩ := xor_k s hcf0.2.1.1 n_1 (by omega)
          refine z_top (st1 := [.int (nI q_2), .ref (x + 3)]) (congrArg (fun w9 : Int32 => ([.int w9, .ref (x + 3)] : List Value)) (e_3)) ?_
          obtain ⟨v_1, v_2, h_5⟩ := in3 (k := 3) hI rfl
          have h_6 : Φ (x + 3) = some (o_ 3 [.ref (x + 4), .ref (x + 5), .ref (x + 6), .ref (x + 7), .int v_1, .int v_2]) := h_5
          refine z_callV (As := [.int (nI q_2)]) (rest := []) B (s_X1_supportF G l Φ sz x (ca) t c q_2 hx hI hcg1 (show q_2 < 512 by omega)) (cwV 1 B.1.2.2.2.2 gX11_setSupport_X1_support rfl rfl rfl (by decide +kernel) ⟨Nat.le_of_ble_eq_true rfl, Nat.le_of_ble_eq_true rfl⟩) h_6 rfl rfl rfl rfl (Nat.le_of_ble_eq_true rfl) dX11_setSupport_59 ⟨Nat.le_of_ble_eq_true rfl, Nat.le_of_ble_eq_true rfl⟩ (fun r_1 Φ1 sz1 st1 hp1 hs1 => ?_)
          obtain ⟨⟨rfl, hcg2, hE1⟩, hq1, hI1, hF1⟩ := hp1
          subst sz1
          replace hs1 : st1 = [] := hs1
          subst st1
          replace hI1 : In G x (ca) Φ1 := hI1
          have hcg3 : CfA G x t q_2 (upd c 9 (nI q_2)) Φ1 := ⟨hcg2, ⟨b_3, upd_at⟩, hE1⟩
          refine z_aload_n B dX11_setSupport_62 rfl 1 rfl ?_
          have h_7 : Φ1 x = some (o_ 13 [.ref (x + 1), .ref (x + 3), .ref (x + 24), .ref (x + 46), .ref (x + 74), .ref (x + 80), .ref (x + 132), .ref (x + 121)]) := ((hF1 x fq_719).trans h_2)
          refine z_get (ref := "FlowExporter") (C := RX11) (T := TX11) (N := 8) (ci := 13) (v := .ref (x + 74)) B hu_X11_setSupport_X11 rfl 4 (Nat.le_of_ble_eq_true rfl) hv_X11_setSupport_46 rfl h_7 rfl dX11_setSupport_63 ?_
          refine z_iload_n B dX11_setSupport_66 rfl 2 rfl ?_
          obtain ⟨n_2, v_3, v_4, v_5, h_8, b_4⟩ := in13 (k := 74) hI1 rfl
          have h_9 : Φ1 (x + 74) = some (o_ 10 [.ref (x + 3), .ref (x + 46), .ref (x + 75), .ref (x + 77), .int (nI n_2), .ref (x + 78), .ref (x + 79), .int v_3, .long v_4, .int v_5]) := h_8
          refine z_callV (As := [.int (nI n_1)]) (rest := []) B (s_X8_forgetTemplatesWith G l Φ1 sz x (ca) (nI n_1) hx hI1 ) (cwV 1 B.1.2.2.2.2 gX11_setSupport_X8_forgetTemplatesWith rfl rfl rfl (by decide +kernel) ⟨Nat.le_of_ble_eq_true rfl, Nat.le_of_ble_eq_true rfl⟩) h_9 rfl rfl rfl rfl (Nat.le_of_ble_eq_true rfl) dX11_setSupport_67 ⟨Nat.le_of_ble_eq_true rfl, Nat.le_of_ble_eq_true rfl⟩ (fun r_2 Φ2 sz2 st2 hp2 hs2 => ?_)
          obtain ⟨rfl, hq2, hI2, hF2⟩ := hp2
          subst sz2
          replace hs2 : st2 = [] := hs2
          subst st2
          replace hI2 : In G x (ca) Φ2 := hI2
          refine z_iload_n B dX11_setSupport_70 rfl 0 rfl ?_
          have hcg4 : CfA G x t q_2 (upd c 9 (nI q_2)) Φ2 := (CfA.fr hcg3 hF2 (fun j9 h7 => by have h6 : j9 = 78 := h7; intros; omega))
          exact zb_ret (Nat.le_of_ble_eq_true rfl) (Nat.le_of_ble_eq_true rfl) (z_ret_z B dX11_setSupport_71 (by decide) ⟨⟨congrArg (fun w9 : Int32 => some (Value.int w9)) hv1.symm, ⟨by rw [nI_toInt (by omega)]; omega, by rw [nI_toInt (by omega)]; omega⟩, su_ne (fun h9 => c_4 (hv1.symm.trans h9)) hcf0.2.1.2 e_3 hcg4⟩, rfl, hI2, (fun b9 h9 => ((hF2 b9 (fun j9 h8 h7 => h9 j9 h8 (fq_716 j9 h7))).trans ((hF1 b9 (fun j9 h8 h7 => h9 j9 h8 (fq_720 j9 h7))).trans rfl)))⟩)
      · have hv2 : suV c (nI n_1) = 1 := suV_1 (by show ((c 9 >>> (nI n_1 &&& 31)) &&& 1 = 1); rw [hcf0.2.1.2]; exact c_3)
        refine z_iconst (v := 1) B dX11_setSupport_33 rfl ?_
        refine z_goto (tgt := 38) B dX11_setSupport_34 rfl ?_
        refine z_istore_n (lv' := [(3, .int 1), (0, .ref x), (1, .int (nI n_1)), (2, .int b)]) B dX11_setSupport_38 rfl (Nat.le_of_ble_eq_true rfl) rfl ?_
        refine z_iload_n B dX11_setSupport_39 rfl 0 rfl ?_
        refine z_iload_n B dX11_setSupport_40 rfl 3 rfl ?_
        refine z_icmp_eq (tgt := 70) B dX11_setSupport_41 rfl (fun c_5 => ?_) (fun c_5 => ?_)
        · refine z_iload_n B dX11_setSupport_70 rfl 0 rfl ?_
          exact zb_ret (Nat.le_of_ble_eq_true rfl) (Nat.le_of_ble_eq_true rfl) (z_ret_z B dX11_setSupport_71 (by decide) ⟨⟨congrArg (fun w9 : Int32 => some (Value.int w9)) hv2.symm, ⟨by rw [nI_toInt (by omega)]; omega, by rw [nI_toInt (by omega)]; omega⟩, su_eq (hv2.trans c_5) hcf0⟩, rfl, hI, (fun b9 h9 => rfl)⟩)
        · refine z_aload_n B dX11_setSupport_44 rfl 1 rfl ?_
          refine z_get (ref := "FlowExporter") (C := RX11) (T := TX11) (N := 8) (ci := 13) (v := .ref (x + 3)) B hu_X11_setSupport_X11 rfl 1 (Nat.le_of_ble_eq_true rfl) hv_X11_setSupport_21 rfl h_2 rfl dX11_setSupport_45 ?_
          refine z_aload_n B dX11_setSupport_48 rfl 1 rfl ?_
          refine z_get (ref := "FlowExporter") (C := RX11) (T := TX11) (N := 8) (ci := 13) (v := .ref (x + 3)) B hu_X11_setSupport_X11 rfl 1 (Nat.le_of_ble_eq_true rfl) hv_X11_setSupport_21 rfl h_2 rfl dX11_setSupport_49 ?_
          have h_10 : Φ (x + 3) = some (o_ 3 [.ref (x + 4), .ref (x + 5), .ref (x + 6), .ref (x + 7), .int (nI t), .int (nI s)]) := CfA.obj hcf0
          have b_5 := hcf0.1.2.1
          refine z_get (ref := "FlowExporter$Config") (C := RX1) (T := TX1) (N := 6) (ci := 3) (v := .int (nI s)) B hu_X11_setSupport_X1 rfl 5 (Nat.le_of_ble_eq_true rfl) hv_X11_setSupport_215 rfl h_10 rfl dX11_setSupport_52 ?_
          refine z_iconst (v := 1) B dX11_setSupport_55 rfl ?_
          refine z_iload_n B dX11_setSupport_56 rfl 2 rfl ?_
          refine z_ishl B dX11_setSupport_57 ?_
          refine z_ixor B dX11_setSupport_58 ?_
          have hcg5 := CfA.q hcf0
          obtain ⟨q_3, b_6, e_4⟩ := xor_k s hcf0.2.1.1 n_1 (by omega)
          refine z_top (st1 := [.int (nI q_3), .ref (x + 3)]) (congrArg (fun w9 : Int32 => ([.int w9, .ref (x + 3)] : List Value)) (e_4)) ?_
          obtain ⟨v_6, v_7, h_11⟩ := in3 (k := 3) hI rfl
          have h_12 : Φ (x + 3) = some (o_ 3 [.ref (x + 4), .ref (x + 5), .ref (x + 6), .ref (x + 7), .int v_6, .int v_7]) := h_11
          refine z_callV (As := [.int (nI q_3)]) (rest := []) B (s_X1_supportF G l Φ sz x (ca) t c q_3 hx hI hcg5 (show q_3 < 512 by omega)) (cwV 1 B.1.2.2.2.2 gX11_setSupport_X1_support rfl rfl rfl (by decide +kernel) ⟨Nat.le_of_ble_eq_true rfl, Nat.le_of_ble_eq_true rfl⟩) h_12 rfl rfl rfl rfl (Nat.le_of_ble_eq_true rfl) dX11_setSupport_59 ⟨Nat.le_of_ble_eq_true rfl, Nat.le_of_ble_eq_true rfl⟩ (fun r_3 Φ3 sz3 st3 hp3 hs3 => ?_)
          obtain ⟨⟨rfl, hcg6, hE2⟩, hq3, hI3, hF3⟩ := hp3
          subst sz3
          replace hs3 : st3 = [] := hs3
          subst st3
          replace hI3 : In G x (ca) Φ3 := hI3
          have hcg7 : CfA G x t q_3 (upd c 9 (nI q_3)) Φ3 := ⟨hcg6, ⟨b_6, upd_at⟩, hE2⟩
          refine z_aload_n B dX11_setSupport_62 rfl 1 rfl ?_
          have h_13 : Φ3 x = some (o_ 13 [.ref (x + 1), .ref (x + 3), .ref (x + 24), .ref (x + 46), .ref (x + 74), .ref (x + 80), .ref (x + 132), .ref (x + 121)]) := ((hF3 x fq_719).trans h_2)
          refine z_get (ref := "FlowExporter") (C := RX11) (T := TX11) (N := 8) (ci := 13) (v := .ref (x + 74)) B hu_X11_setSupport_X11 rfl 4 (Nat.le_of_ble_eq_true rfl) hv_X11_setSupport_46 rfl h_13 rfl dX11_setSupport_63 ?_
          refine z_iload_n B dX11_setSupport_66 rfl 2 rfl ?_
          obtain ⟨n_3, v_8, v_9, v_10, h_14, b_7⟩ := in13 (k := 74) hI3 rfl
          have h_15 : Φ3 (x + 74) = some (o_ 10 [.ref (x + 3), .ref (x + 46), .ref (x + 75), .ref (x + 77), .int (nI n_3), .ref (x + 78), .ref (x + 79), .int v_8, .long v_9, .int v_10]) := h_14
          refine z_callV (As := [.int (nI n_1)]) (rest := []) B (s_X8_forgetTemplatesWith G l Φ3 sz x (ca) (nI n_1) hx hI3 ) (cwV 1 B.1.2.2.2.2 gX11_setSupport_X8_forgetTemplatesWith rfl rfl rfl (by decide +kernel) ⟨Nat.le_of_ble_eq_true rfl, Nat.le_of_ble_eq_true rfl⟩) h_15 rfl rfl rfl rfl (Nat.le_of_ble_eq_true rfl) dX11_setSupport_67 ⟨Nat.le_of_ble_eq_true rfl, Nat.le_of_ble_eq_true rfl⟩ (fun r_4 Φ4 sz4 st4 hp4 hs4 => ?_)
          obtain ⟨rfl, hq4, hI4, hF4⟩ := hp4
          subst sz4
          replace hs4 : st4 = [] := hs4
          subst st4
          replace hI4 : In G x (ca) Φ4 := hI4
          refine z_iload_n B dX11_setSupport_70 rfl 0 rfl ?_
          have hcg8 : CfA G x t q_3 (upd c 9 (nI q_3)) Φ4 := (CfA.fr hcg7 hF4 (fun j9 h7 => by have h6 : j9 = 78 := h7; intros; omega))
          exact zb_ret (Nat.le_of_ble_eq_true rfl) (Nat.le_of_ble_eq_true rfl) (z_ret_z B dX11_setSupport_71 (by decide) ⟨⟨congrArg (fun w9 : Int32 => some (Value.int w9)) hv2.symm, ⟨by rw [nI_toInt (by omega)]; omega, by rw [nI_toInt (by omega)]; omega⟩, su_ne (fun h9 => c_5 (hv2.symm.trans h9)) hcf0.2.1.2 e_4 hcg8⟩, rfl, hI4, (fun b9 h9 => ((hF4 b9 (fun j9 h8 h7 => h9 j9 h8 (fq_716 j9 h7))).trans ((hF3 b9 (fun j9 h8 h7 => h9 j9 h8 (fq_720 j9 h7))).trans rfl)))⟩)
    · have e_5 : ¬ (n_1 < 9) := fun h9 => c_2 ((nI_ltI (a := n_1) (b := 9) (by omega) (by omega)).mpr h9)
      have k_2 : (nI n_1).toInt = ((n_1 : Nat) : Int) := nI_toInt (by omega)
      have k_3 : (0 : Int32).toInt = 0 := by decide
      have q_4 : ¬ ((nI n_1).toInt < (0 : Int32).toInt) := fun h9 => c_1 (Int32.lt_iff_toInt_lt.mpr h9)
      have k_4 : (9 : Int32).toInt = 9 := by decide
      have q_5 : ¬ ((nI n_1).toInt < (9 : Int32).toInt) := fun h9 => c_2 (Int32.lt_iff_toInt_lt.mpr h9)
      exact zb_throw (cls := xIA) (ik := 116) (ic := 118) B hl9 htab9 (by decide) ⟨(fun h9 => by obtain ⟨h8, h7⟩ := h9; omega), hI, (fun b9 h9 => rfl)⟩ (by decide) (by decide +kernel) (by decide +kernel) (by decide +kernel) (by decide +kernel) (by decide +kernel) (by decide +kernel) (by decide +kernel) dX11_setSupport_10 dX11_setSupport_13 dX11_setSupport_14 dX11_setSupport_17 ⟨Nat.le_of_ble_eq_true rfl, Nat.le_of_ble_eq_true rfl, Nat.le_of_ble_eq_true rfl, Nat.le_of_ble_eq_true rfl⟩ ⟨Nat.le_of_ble_eq_true rfl, Nat.le_of_ble_eq_true rfl⟩

/-! tables of flows: a flow by its key's number, packets, bytes, first, last -/
abbrev Fl : Type := Nat × Int64 × Int64 × Nat × Nat
noncomputable def FlB (v : Fl) : Prop := v.1 < 2 ^ 40 ∧ v.2.2.2.1 ≤ 1000000 ∧ v.2.2.2.2 ≤ 1000000
abbrev flc (v : Fl) : va_E := o_ 5 [.long (Int64.ofNat v.1), .long v.2.1, .long v.2.2.1, .int (nI v.2.2.2.1), .int (nI v.2.2.2.2)]
noncomputable def updF (F : Nat → Fl) (i : Nat) (v : Fl) : Nat → Fl := fun j => if j = i then v else F j
theorem updF_at {F : Nat → Fl} {i : Nat} {v : Fl} : updF F i v i = v := if_pos rfl
theorem updF_ne {F : Nat → Fl} {i j : Nat} {v : Fl} (h : ¬ j = i) : updF F i v j = F j := if_neg h
/-- the table's row and its first n flows, but w: the flow at place j lies at p j -/
noncomputable def TbR (G : EnvG) (x k cap n w : Nat) (F : Nat → Fl) (p : Nat → Nat) (Φ : Hm) : Prop := (∃ f : Nat → Option Nat, Φ (x + (k + 1)) = some (aq_ G 5 cap f) ∧ ∀ j, j < cap → f j = some (x + (k + 2 + p j))) ∧ (∀ j, j < cap → p j < cap) ∧ (∀ i j, i < cap → j < cap → p i = p j → i = j) ∧ n ≤ cap ∧ ∀ j, j < n → ¬ j = w → FlB (F j) ∧ Φ (x + (k + 2 + p j)) = some (flc (F j))
theorem TbR.mv {G : EnvG} {x k cap n w : Nat} {F : Nat → Fl} {p : Nat → Nat} {Φ Φ1 : Hm} (h : TbR G x k cap n w F p Φ) (e : ∀ j, k + 1 ≤ j → j < k + 2 + cap → ¬ (w < cap ∧ j = k + 2 + p w) → Φ1 (x + j) = Φ (x + j)) : TbR G x k cap n w F p Φ1 := by
  obtain ⟨⟨f, h1, h2⟩, h3, h4, h5, h6⟩ := h
  refine ⟨⟨f, (e (k + 1) (by omega) (by omega) (by omega)).trans h1, h2⟩, h3, h4, h5, fun j hj hw => ?_⟩
  have hp := h3 j (by omega)
  exact ⟨(h6 j hj hw).1, (e _ (by omega) (by omega) (fun q => hw (h4 j w (by omega) q.1 (by omega)))).trans (h6 j hj hw).2⟩
theorem TbR.fr {G : EnvG} {x k cap n w : Nat} {F : Nat → Fl} {p : Nat → Nat} {md : Nat → Prop} {Φ Φ1 : Hm} (h : TbR G x k cap n w F p Φ) (hF : Fr x md Φ Φ1) (hm : ∀ j, md j → ¬ (k + 1 ≤ j ∧ j < k + 2 + cap)) : TbR G x k cap n w F p Φ1 :=
  h.mv (fun j h1 h2 _ => hF _ (fun i q hi => hm i hi (by omega)))
theorem TbR.off {G : EnvG} {x k0 k cap n w : Nat} {F : Nat → Fl} {p : Nat → Nat} {e : va_E} {Φ Φ1 : Hm} (h : TbR G x k0 cap n w F p Φ) (h1 : Φ1 = fset Φ (x + k) e) (hk : ¬ (k0 + 1 ≤ k ∧ k < k0 + 2 + cap)) : TbR G x k0 cap n w F p Φ1 :=
  h.mv (fun j h2 h3 _ => fset_fr h1 (by omega))
/-- the flow that is left out is written -/
theorem TbR.offw {G : EnvG} {x k cap n w : Nat} {F : Nat → Fl} {p : Nat → Nat} {e : va_E} {Φ Φ1 : Hm} (h : TbR G x k cap n w F p Φ) (h1 : Φ1 = fset Φ (x + (k + 2 + p w)) e) (hw : w < cap) : TbR G x k cap n w F p Φ1 :=
  h.mv (fun j h2 h3 h4 => fset_fr h1 (fun q => h4 ⟨hw, by omega⟩))
theorem TbR.frw {G : EnvG} {x k cap n w : Nat} {F : Nat → Fl} {p : Nat → Nat} {md : Nat → Prop} {Φ Φ1 : Hm} (h : TbR G x k cap n w F p Φ) (hF : Fr x md Φ Φ1) (hw : w < cap) (hm : ∀ j, md j → ¬ (k + 1 ≤ j ∧ j < k + 2 + cap) ∨ j = k + 2 + p w) : TbR G x k cap n w F p Φ1 :=
  h.mv (fun j h1 h2 h3 => hF _ (fun i q hi => (hm i hi).elim (fun z => z (by omega)) (fun z => h3 ⟨hw, by omega⟩)))
theorem TbR.row {G : EnvG} {x k cap n w j : Nat} {F : Nat → Fl} {p : Nat → Nat} {f : Nat → Option Nat} {Φ : Hm} (h : TbR G x k cap n w F p Φ) (hf : Φ (x + (k + 1)) = some (aq_ G 5 cap f)) (hj : j < cap) : f j = some (x + (k + 2 + p j)) := by
  obtain ⟨⟨g, h1, h2⟩, -⟩ := h
  have e : some (aq_ G 5 cap g) = some (aq_ G 5 cap f) := h1.symm.trans hf
  have e2 : g = f := by
    have q1 := Option.some.inj e
    have q2 := Sum.inl.inj q1
    have q3 := (Prod.mk.inj (Prod.mk.inj q2).2).2
    exact Sum.inr.inj (Sum.inr.inj (Sum.inr.inj (Sum.inr.inj q3)))
  rw [← e2]
  exact h2 j hj
theorem TbR.lt {G : EnvG} {x k cap n w j : Nat} {F : Nat → Fl} {p : Nat → Nat} {Φ : Hm} (h : TbR G x k cap n w F p Φ) (hj : j < cap) : p j < cap := h.2.1 j hj
theorem TbR.fl {G : EnvG} {x k cap n w j : Nat} {F : Nat → Fl} {p : Nat → Nat} {Φ : Hm} (h : TbR G x k cap n w F p Φ) (hj : j < n) (hw : ¬ j = w) : FlB (F j) ∧ Φ (x + (k + 2 + p j)) = some (flc (F j)) := h.2.2.2.2 j hj hw
theorem TbR.le {G : EnvG} {x k cap n w : Nat} {F : Nat → Fl} {p : Nat → Nat} {Φ : Hm} (h : TbR G x k cap n w F p Φ) : n ≤ cap := h.2.2.2.1
/-- one flow is left out -/
theorem TbR.cut {G : EnvG} {x k cap n w : Nat} {F : Nat → Fl} {p : Nat → Nat} {Φ : Hm} (h : TbR G x k cap n 99 F p Φ) (hc : cap ≤ 24) : TbR G x k cap n w F p Φ :=
  ⟨h.1, h.2.1, h.2.2.1, h.2.2.2.1, fun j hj _ => h.2.2.2.2 j hj (by have := h.2.2.2.1; omega)⟩
/-- the flow that was left out is put in -/
theorem TbR.fill {G : EnvG} {x k cap n w : Nat} {F : Nat → Fl} {p : Nat → Nat} {v : Fl} {Φ : Hm} (h : TbR G x k cap n w F p Φ) (hv : FlB v) (hc : Φ (x + (k + 2 + p w)) = some (flc v)) : TbR G x k cap n 99 (updF F w v) p Φ := by
  refine ⟨h.1, h.2.1, h.2.2.1, h.2.2.2.1, fun j hj _ => ?_⟩
  by_cases e : j = w
  · subst e
    rw [updF_at]
    exact ⟨hv, hc⟩
  · rw [updF_ne e]
    exact h.2.2.2.2 j hj e
/-- one flow more -/
theorem TbR.add {G : EnvG} {x k cap n : Nat} {F : Nat → Fl} {p : Nat → Nat} {v : Fl} {Φ : Hm} (h : TbR G x k cap n n F p Φ) (hn : n < cap) (hv : FlB v) (hc : Φ (x + (k + 2 + p n)) = some (flc v)) : TbR G x k cap (n + 1) 99 (updF F n v) p Φ := by
  refine ⟨h.1, h.2.1, h.2.2.1, hn, fun j hj _ => ?_⟩
  by_cases e : j = n
  · subst e
    rw [updF_at]
    exact ⟨hv, hc⟩
  · rw [updF_ne e]
    exact h.2.2.2.2 j (by omega) e
/-- fewer flows -/
theorem TbR.less {G : EnvG} {x k cap n m : Nat} {F : Nat → Fl} {p : Nat → Nat} {Φ : Hm} (h : TbR G x k cap n 99 F p Φ) (hm : m ≤ n) : TbR G x k cap m 99 F p Φ :=
  ⟨h.1, h.2.1, h.2.2.1, Nat.le_trans hm h.2.2.2.1, fun j hj hw => h.2.2.2.2 j (Nat.lt_of_lt_of_le hj hm) hw⟩
/-- the first flow of a key, n where there is none -/
noncomputable def ixN (F : Nat → Fl) (K : Nat) : Nat → Nat
  | 0 => 0
  | n + 1 => if ixN F K n < n then ixN F K n else if (F n).1 = K then n else n + 1
theorem ixN_le (F : Nat → Fl) (K : Nat) : ∀ n, ixN F K n ≤ n
  | 0 => Nat.le_refl 0
  | n + 1 => by
    have := ixN_le F K n
    unfold ixN
    split
    · omega
    · split <;> omega
theorem ixN_no {F : Nat → Fl} {K : Nat} : ∀ n, (∀ i, i < n → ¬ (F i).1 = K) → ixN F K n = n
  | 0, _ => rfl
  | n + 1, h => by
    have e := ixN_no n (fun i hi => h i (by omega))
    unfold ixN
    rw [if_neg (by omega), if_neg (h n (by omega))]
theorem ixN_ok {F : Nat → Fl} {K j : Nat} (h : ∀ i, i < j → ¬ (F i).1 = K) (hj : (F j).1 = K) : ∀ n, j < n → ixN F K n = j
  | 0, q => absurd q (Nat.not_lt_zero j)
  | n + 1, q => by
    unfold ixN
    by_cases e : j = n
    · subst e
      rw [ixN_no j h, if_neg (Nat.lt_irrefl j), if_pos hj]
    · have e2 := ixN_ok h hj n (by omega)
      rw [e2, if_pos (by omega)]
theorem ixN_at {F : Nat → Fl} {K : Nat} : ∀ n, ixN F K n < n → (F (ixN F K n)).1 = K
  | 0, q => absurd q (Nat.not_lt_zero _)
  | n + 1, q => by
    unfold ixN at q ⊢
    by_cases h1 : ixN F K n < n
    · rw [if_pos h1]
      exact ixN_at n h1
    · rw [if_neg h1] at q ⊢
      by_cases h2 : (F n).1 = K
      · rw [if_pos h2]
        exact h2
      · rw [if_neg h2] at q
        exact absurd q (Nat.lt_irrefl _)
/-- what is removed at i: the others move up -/
noncomputable def shF (F : Nat → Fl) (i : Nat) : Nat → Fl := fun j => if j < i then F j else F (j + 1)
/-- places behind a removal at i out of n -/
noncomputable def shP (p : Nat → Nat) (n i : Nat) : Nat → Nat := fun j => if j < i then p j else if j + 1 < n then p (j + 1) else if j + 1 = n then p i else p j
theorem TbR.rem {G : EnvG} {x k cap n i : Nat} {F : Nat → Fl} {p : Nat → Nat} {f : Nat → Option Nat} {Φ Φ1 : Hm} (h : TbR G x k cap n 99 F p Φ) (hc : cap ≤ 24) (hi : i < n) (h1 : Φ1 (x + (k + 1)) = some (aq_ G 5 cap f)) (hf : ∀ j, j < cap → f j = some (x + (k + 2 + shP p n i j))) (e : ∀ j, j < cap → Φ1 (x + (k + 2 + j)) = Φ (x + (k + 2 + j))) : TbR G x k cap (n - 1) 99 (shF F i) (shP p n i) Φ1 := by
  obtain ⟨-, h3, h4, h5, h6⟩ := h
  have hp : ∀ j, j < cap → shP p n i j < cap := by
    intro j hj
    unfold shP
    split
    · exact h3 j hj
    · split
      · exact h3 _ (by omega)
      · split
        · exact h3 _ (by omega)
        · exact h3 j hj
  refine ⟨⟨f, h1, hf⟩, hp, fun a b ha hb q => ?_, by omega, fun j hj _ => ?_⟩
  · have hinj : ∀ a b, a < cap → b < cap → p a = p b → a = b := h4
    unfold shP at q
    by_cases a1 : a < i <;> by_cases b1 : b < i
    · rw [if_pos a1, if_pos b1] at q
      exact hinj a b ha hb q
    · rw [if_pos a1, if_neg b1] at q
      by_cases b2 : b + 1 < n
      · rw [if_pos b2] at q
        have := hinj a (b + 1) ha (by omega) q
        omega
      · rw [if_neg b2] at q
        by_cases b3 : b + 1 = n
        · rw [if_pos b3] at q
          have := hinj a i ha (by omega) q
          omega
        · rw [if_neg b3] at q
          exact hinj a b ha hb q
    · rw [if_neg a1, if_pos b1] at q
      by_cases a2 : a + 1 < n
      · rw [if_pos a2] at q
        have := hinj (a + 1) b (by omega) hb q
        omega
      · rw [if_neg a2] at q
        by_cases a3 : a + 1 = n
        · rw [if_pos a3] at q
          have := hinj i b (by omega) hb q
          omega
        · rw [if_neg a3] at q
          exact hinj a b ha hb q
    · rw [if_neg a1, if_neg b1] at q
      by_cases a2 : a + 1 < n <;> by_cases b2 : b + 1 < n
      · rw [if_pos a2, if_pos b2] at q
        have := hinj (a + 1) (b + 1) (by omega) (by omega) q
        omega
      · rw [if_pos a2, if_neg b2] at q
        by_cases b3 : b + 1 = n
        · rw [if_pos b3] at q
          have := hinj (a + 1) i (by omega) (by omega) q
          omega
        · rw [if_neg b3] at q
          have := hinj (a + 1) b (by omega) hb q
          omega
      · rw [if_neg a2, if_pos b2] at q
        by_cases a3 : a + 1 = n
        · rw [if_pos a3] at q
          have := hinj i (b + 1) (by omega) (by omega) q
          omega
        · rw [if_neg a3] at q
          have := hinj a (b + 1) ha (by omega) q
          omega
      · rw [if_neg a2, if_neg b2] at q
        by_cases a3 : a + 1 = n <;> by_cases b3 : b + 1 = n
        · omega
        · rw [if_pos a3, if_neg b3] at q
          have := hinj i b (by omega) hb q
          omega
        · rw [if_neg a3, if_pos b3] at q
          have := hinj a i ha (by omega) q
          omega
        · rw [if_neg a3, if_neg b3] at q
          exact hinj a b ha hb q
  · have hj2 := hp j (by omega)
    rw [e _ hj2]
    unfold shF shP
    by_cases a1 : j < i
    · rw [if_pos a1, if_pos a1]
      exact h6 j (by omega) (by omega)
    · rw [if_neg a1, if_neg a1, if_pos (by omega)]
      exact h6 (j + 1) (by omega) (by omega)
/-- the place of the earliest last, of the first n -/
noncomputable def elN (F : Nat → Fl) : Nat → Nat
  | 0 => 0
  | n + 1 => if (F n).2.2.2.2 < (F (elN F n)).2.2.2.2 then n else elN F n
theorem elN_lt (F : Nat → Fl) : ∀ n, 0 < n → elN F n < n
  | 0, q => absurd q (Nat.lt_irrefl 0)
  | n + 1, _ => by
    unfold elN
    split
    · omega
    · rcases Nat.eq_zero_or_pos n with h | h
      · subst h
        exact Nat.lt_succ_self 0
      · have := elN_lt F n h
        omega
theorem elN_1 (F : Nat → Fl) : elN F 1 = 0 := by
  show (if (F 0).2.2.2.2 < (F 0).2.2.2.2 then 0 else 0) = 0
  exact if_neg (Nat.lt_irrefl _)
theorem elN_y {F : Nat → Fl} {n e : Nat} (h : e = elN F n) (hl : (F n).2.2.2.2 < (F e).2.2.2.2) : elN F (n + 1) = n := by
  subst h
  exact if_pos hl
theorem elN_n {F : Nat → Fl} {n e : Nat} (h : e = elN F n) (hl : ¬ (F n).2.2.2.2 < (F e).2.2.2.2) : elN F (n + 1) = e := by
  subst h
  exact if_neg hl
theorem ofN_inj {A B : Nat} (ha : A < 2 ^ 40) (hb : B < 2 ^ 40) (h : Int64.ofNat A = Int64.ofNat B) : A = B := by
  have h1 := congrArg (fun w : Int64 => w.toBitVec.toNat) h
  have e : ∀ w : Nat, w < 2 ^ 40 → (Int64.ofNat w).toBitVec.toNat = w := by
    intro w hw
    rw [Int64.toBitVec_ofNat', BitVec.toNat_ofNat]
    exact Nat.mod_eq_of_lt (by omega)
  exact (e A ha).symm.trans (h1.trans (e B hb))
theorem all_s {P : Nat → Prop} {j : Nat} (h : ∀ i, i < j → P i) (hj : P j) : ∀ i, i < j + 1 → P i := fun i hi => (Nat.lt_succ_iff_lt_or_eq.mp hi).elim (h i) (fun e => e ▸ hj)
/-- a removal under way: from i to q the references have moved up -/
noncomputable def RmR (p : Nat → Nat) (i q : Nat) (f : Nat → Option Nat) (x : Nat) : Prop := ∀ j, j < 12 → f j = some (x + (83 + if i ≤ j ∧ j < q then p (j + 1) else p j))
theorem RmR.z {p : Nat → Nat} {i x : Nat} {f : Nat → Option Nat} (h : ∀ j, j < 12 → f j = some (x + (81 + 2 + p j))) : RmR p i i f x := by
  intro j hj
  rw [if_neg (by omega)]
  exact h j hj
theorem RmR.nx {p : Nat → Nat} {i q x : Nat} {f : Nat → Option Nat} (h : RmR p i q f x) (hq : q + 1 < 12) : f (q + 1) = some (x + (83 + p (q + 1))) := by
  have e := h (q + 1) hq
  rw [if_neg (by omega)] at e
  exact e
theorem RmR.s {p : Nat → Nat} {i q k x : Nat} {f : Nat → Option Nat} (h : RmR p i q f x) (hk : k = q) (hi : i ≤ q) : RmR p i (q + 1) (va_up f k (some (x + (83 + p (q + 1))))) x := by
  subst hk
  intro j hj
  by_cases e : j = k
  · subst e
    rw [if_pos (by omega)]
    exact if_pos rfl
  · have e2 : va_up f k (some (x + (83 + p (k + 1)))) j = f j := if_neg e
    rw [e2, h j hj]
    by_cases a : i ≤ j ∧ j < k
    · rw [if_pos a, if_pos (by omega)]
    · rw [if_neg a, if_neg (by omega)]
theorem RmR.e {p : Nat → Nat} {i q n k x : Nat} {f : Nat → Option Nat} (h : RmR p i q f x) (hq : q = n - 1) (hk : k = n - 1) (hi : i < n) : ∀ j, j < 12 → va_up f k (some (x + (83 + p i))) j = some (x + (81 + 2 + shP p n i j)) := by
  subst hk
  subst hq
  intro j hj
  unfold shP
  by_cases e : j = n - 1
  · subst e
    have e2 : va_up f (n - 1) (some (x + (83 + p i))) (n - 1) = some (x + (83 + p i)) := if_pos rfl
    rw [e2]
    by_cases a : n - 1 < i
    · omega
    · rw [if_neg a, if_neg (by omega), if_pos (by omega)]
  · have e2 : va_up f (n - 1) (some (x + (83 + p i))) j = f j := if_neg e
    rw [e2, h j hj]
    by_cases a : j < i
    · rw [if_neg (by omega), if_pos a]
    · by_cases b : j + 1 < n
      · rw [if_pos (by omega), if_neg a, if_pos b]
      · rw [if_neg (by omega), if_neg a, if_neg b, if_neg (by omega)]

/-! what the exporter does to its cache, as functions; a state: how many flows, the flows, how many were unsent -/
noncomputable def usN (c : Cf) (K : Nat) : Nat := (c (51 + K % 256)).toNatClampNeg
/-- nothing of the key's template is supported -/
noncomputable def eff0 (c : Cf) (K : Nat) : Prop := tfF c (usN c K) &&& c 9 = 0
/-- uses are below 4, a template behind the last has no fields, the rate that all begins with is 1 to 1024 -/
noncomputable def CfG (c : Cf) : Prop := (∀ j, j < 256 → ∃ u, u ≤ 3 ∧ c (51 + j) = nI u) ∧ (∀ u n : Nat, u < 4 → c 10 = nI n → n ≤ u → c (11 + u) = 0) ∧ (∃ r : Nat, 1 ≤ r ∧ r ≤ 1024 ∧ c 0 = nI r) ∧ ∃ r : Nat, 256 ≤ r ∧ r ≤ 600 ∧ c 7 = nI r
theorem CfG.us {c : Cf} (h : CfG c) (K : Nat) : usN c K ≤ 3 ∧ c (51 + K % 256) = nI (usN c K) := by
  obtain ⟨u, hu, e⟩ := h.1 (K % 256) (Nat.mod_lt _ (by decide))
  have e2 : usN c K = u := by
    unfold usN
    rw [e, nI_clamp (by omega)]
  rw [e2]
  exact ⟨hu, e⟩
/-- unsent flows, pending records, their templates -/
abbrev UN : Type := Int64 × Nat × (Nat → Nat)
noncomputable def uPu (u : UN) (t : Nat) : UN := if u.2.1 < 12 then (u.1, u.2.1 + 1, fun j => if j = u.2.1 then t else u.2.2 j) else u
/-- nothing is pending any more -/
noncomputable def uZ (u : UN) : UN := (u.1, 0, fun _ => 0)
theorem uPu_1 {u : UN} {t : Nat} : (uPu u t).1 = u.1 := by
  unfold uPu
  split <;> rfl
abbrev XS : Type := Nat × (Nat → Fl) × UN
noncomputable def unE (c : Cf) (K : Nat) (u : UN) : UN := @ite UN (eff0 c K) (Classical.propDecidable _) (u.1 + 1, u.2) (uPu u (usN c K))
theorem unE_y {c : Cf} {K : Nat} {u : UN} (h : eff0 c K) : unE c K u = (u.1 + 1, u.2) := if_pos h
theorem unE_n {c : Cf} {K : Nat} {u : UN} (h : ¬ eff0 c K) : unE c K u = uPu u (usN c K) := if_neg h
/-- the flow at i is exported -/
noncomputable def exS (c : Cf) (i : Nat) (s : XS) : XS := (s.1 - 1, shF s.2.1 i, unE c (s.2.1 i).1 s.2.2)
/-- i flows from the front are exported -/
noncomputable def exI (c : Cf) (s : XS) : Nat → XS
  | 0 => s
  | i + 1 => exS c 0 (exI c s i)
theorem exI_s {c : Cf} {s : XS} {k k2 m : Nat} {F : Nat → Fl} {u : UN} (h : exI c s k = (m, F, u)) (hk : k2 = k + 1) : exI c s k2 = (m - 1, shF F 0, unE c (F 0).1 u) := by
  subst hk
  show exS c 0 (exI c s k) = _
  rw [h]
  rfl
theorem exI_n (c : Cf) (s : XS) : ∀ i, (exI c s i).1 = s.1 - i
  | 0 => rfl
  | i + 1 => by
    show (exI c s i).1 - 1 = s.1 - (i + 1)
    rw [exI_n c s i]
    omega
/-- a packet of b bytes at t -/
noncomputable def bump (v : Fl) (b : Int64) (t : Nat) : Fl := (v.1, v.2.1 + 1, v.2.2.1 + b, v.2.2.2.1, t)
/-- room is made where there is none -/
noncomputable def mkS (c : Cf) (s : XS) : XS := if s.1 = 12 then exS c (elN s.2.1 12) s else s
noncomputable def adS (c : Cf) (K : Nat) (b : Int64) (t : Nat) (s : XS) : XS := if ixN s.2.1 K s.1 < s.1 then (s.1, updF s.2.1 (ixN s.2.1 K s.1) (bump (s.2.1 (ixN s.2.1 K s.1)) b t), s.2.2) else ((mkS c s).1 + 1, updF (mkS c s).2.1 (mkS c s).1 (K, 1, 0 + b, t, t), (mkS c s).2.2)
noncomputable def adD (K : Nat) (s : XS) : Nat := if ixN s.2.1 K s.1 < s.1 then 0 else if s.1 = 12 then 1 else 0
theorem adS_y {c : Cf} {K t : Nat} {b : Int64} {s : XS} (h : ixN s.2.1 K s.1 < s.1) : adS c K b t s = (s.1, updF s.2.1 (ixN s.2.1 K s.1) (bump (s.2.1 (ixN s.2.1 K s.1)) b t), s.2.2) ∧ adD K s = 0 := ⟨if_pos h, if_pos h⟩
theorem adS_n {c : Cf} {K t : Nat} {b : Int64} {s : XS} (h : ¬ ixN s.2.1 K s.1 < s.1) : adS c K b t s = ((mkS c s).1 + 1, updF (mkS c s).2.1 (mkS c s).1 (K, 1, 0 + b, t, t), (mkS c s).2.2) ∧ adD K s = if s.1 = 12 then 1 else 0 := ⟨if_neg h, if_neg h⟩
theorem mkS_12 {c : Cf} {s : XS} (h : s.1 = 12) : mkS c s = exS c (elN s.2.1 12) s := if_pos h
theorem mkS_no {c : Cf} {s : XS} (h : ¬ s.1 = 12) : mkS c s = s := if_neg h
theorem FlB.bump {v : Fl} {b : Int64} {t : Nat} (h : FlB v) (ht : t ≤ 1000000) : FlB (bump v b t) := ⟨h.1, h.2.1, ht⟩
theorem FlB.new {K t : Nat} {a b : Int64} (h : K < 2 ^ 40) (ht : t ≤ 1000000) : FlB (K, a, b, t, t) := ⟨h, ht, ht⟩
theorem adS_f {c : Cf} {K t n : Nat} {b : Int64} {F : Nat → Fl} {u : UN} (h : ixN F K n < n) : adS c K b t (n, F, u) = (n, updF F (ixN F K n) (bump (F (ixN F K n)) b t), u) ∧ adD K (n, F, u) = 0 := adS_y h
theorem adS_12 {c : Cf} {K t n : Nat} {b : Int64} {F : Nat → Fl} {u : UN} (h : ¬ ixN F K n < n) (hn : n = 12) : adS c K b t (n, F, u) = (n - 1 + 1, updF (shF F (elN F n)) (n - 1) (K, 1, 0 + b, t, t), unE c (F (elN F n)).1 u) ∧ adD K (n, F, u) = 1 := by
  subst hn
  obtain ⟨h1, h2⟩ := adS_n (c := c) (K := K) (t := t) (b := b) (s := (12, F, u)) h
  rw [mkS_12 (c := c) (s := (12, F, u)) rfl] at h1
  exact ⟨h1, h2.trans (if_pos rfl)⟩
theorem adS_no {c : Cf} {K t n : Nat} {b : Int64} {F : Nat → Fl} {u : UN} (h : ¬ ixN F K n < n) (hn : ¬ n = 12) : adS c K b t (n, F, u) = (n + 1, updF F n (K, 1, 0 + b, t, t), u) ∧ adD K (n, F, u) = 0 := by
  obtain ⟨h1, h2⟩ := adS_n (c := c) (K := K) (t := t) (b := b) (s := (n, F, u)) h
  rw [mkS_no (c := c) (s := (n, F, u)) hn] at h1
  exact ⟨h1, h2.trans (if_neg hn)⟩
/-- a draw -/
noncomputable def drN (w : Nat) : Nat := (1103515245 * w + 12345) % 2147483648
theorem drN_lt (w : Nat) : drN w < 2147483648 := Nat.mod_lt _ (by decide)
/-- with the state of the draws, the packets that were sampled, the flows that were exported -/
abbrev TS : Type := XS × Nat × Nat × Nat
/-- behind a look whether a packet is sampled at the rate r: the state of the draws; whether it is -/
noncomputable def smW (r w : Nat) : Nat := if r ≤ 1 then w else drN w
noncomputable def smB (r w : Nat) : Prop := r ≤ 1 ∨ drN w / 256 % r = 0
theorem smW_1 {r w : Nat} (h : r ≤ 1) : smW r w = w := if_pos h
theorem smW_n {r w : Nat} (h : ¬ r ≤ 1) : smW r w = drN w := if_neg h
theorem smW_lt {r w : Nat} (h : w < 2147483648) : smW r w < 2147483648 := by
  unfold smW
  split
  · exact h
  · exact drN_lt w
noncomputable def tkS (c : Cf) (K : Nat) (b : Int64) (t r : Nat) (s : TS) : TS := @ite TS (smB r s.2.1) (Classical.propDecidable _) (adS c K b t s.1, smW r s.2.1, s.2.2.1 + 1, s.2.2.2 + adD K s.1) (s.1, smW r s.2.1, s.2.2.1, s.2.2.2)
noncomputable def tkI (c : Cf) (K : Nat) (b : Int64) (t r : Nat) (s : TS) : Nat → TS
  | 0 => s
  | i + 1 => tkS c K b t r (tkI c K b t r s i)
theorem tkS_y {c : Cf} {K t r : Nat} {b : Int64} {s : TS} (h : smB r s.2.1) : tkS c K b t r s = (adS c K b t s.1, smW r s.2.1, s.2.2.1 + 1, s.2.2.2 + adD K s.1) := if_pos h
theorem tkS_n {c : Cf} {K t r : Nat} {b : Int64} {s : TS} (h : ¬ smB r s.2.1) : tkS c K b t r s = (s.1, smW r s.2.1, s.2.2.1, s.2.2.2) := if_neg h
theorem tkI_y {c : Cf} {K t r i w k d n : Nat} {b : Int64} {F : Nat → Fl} {u : UN} {s : TS} (h : tkI c K b t r s i = ((n, F, u), w, k, d)) (hb : smB r w) : tkI c K b t r s (i + 1) = (adS c K b t (n, F, u), smW r w, k + 1, d + adD K (n, F, u)) := by
  show tkS c K b t r (tkI c K b t r s i) = _
  rw [h]
  exact tkS_y hb
theorem tkI_n {c : Cf} {K t r i w k d n : Nat} {b : Int64} {F : Nat → Fl} {u : UN} {s : TS} (h : tkI c K b t r s i = ((n, F, u), w, k, d)) (hb : ¬ smB r w) : tkI c K b t r s (i + 1) = ((n, F, u), smW r w, k, d) := by
  show tkS c K b t r (tkI c K b t r s i) = _
  rw [h]
  exact tkS_n hb
/-- a flow is over at t -/
noncomputable def ovr (c : Cf) (t : Nat) (v : Fl) : Prop := (c 2).toInt ≤ (t : Int) - v.2.2.2.1 ∨ (c 3).toInt ≤ (t : Int) - v.2.2.2.2
/-- one look at the flow at a place: the state, the place, the flows that were exported -/
abbrev OS : Type := XS × Nat × Nat
noncomputable def olS (c : Cf) (t : Nat) (s : OS) : OS := @ite OS (ovr c t (s.1.2.1 s.2.1)) (Classical.propDecidable _) (exS c s.2.1 s.1, s.2.1, s.2.2 + 1) (s.1, s.2.1 + 1, s.2.2)
noncomputable def olI (c : Cf) (t : Nat) (s : OS) : Nat → OS
  | 0 => s
  | i + 1 => olS c t (olI c t s i)
theorem olS_y {c : Cf} {t : Nat} {s : OS} (h : ovr c t (s.1.2.1 s.2.1)) : olS c t s = (exS c s.2.1 s.1, s.2.1, s.2.2 + 1) := if_pos h
theorem olS_n {c : Cf} {t : Nat} {s : OS} (h : ¬ ovr c t (s.1.2.1 s.2.1)) : olS c t s = (s.1, s.2.1 + 1, s.2.2) := if_neg h
theorem olI_y {c : Cf} {t i n k d : Nat} {F : Nat → Fl} {u : UN} {s : OS} (h : olI c t s i = ((n, F, u), k, d)) (hb : ovr c t (F k)) : olI c t s (i + 1) = (exS c k (n, F, u), k, d + 1) := by
  show olS c t (olI c t s i) = _
  rw [h]
  exact olS_y hb
theorem olI_n {c : Cf} {t i n k d : Nat} {F : Nat → Fl} {u : UN} {s : OS} (h : olI c t s i = ((n, F, u), k, d)) (hb : ¬ ovr c t (F k)) : olI c t s (i + 1) = ((n, F, u), k + 1, d) := by
  show olS c t (olI c t s i) = _
  rw [h]
  exact olS_n hb
/-- the rate for the next interval -/
noncomputable def nrN (c : Cf) (aq e : Int32) (r : Nat) : Nat := @ite Nat (aq = 1 ∧ (c 1).toInt < e.toInt ∧ r ≤ 512) (Classical.propDecidable _) (2 * r) (@ite Nat (aq = 1 ∧ (2 * e).toInt < (c 1).toInt ∧ 2 ≤ r) (Classical.propDecidable _) (r / 2) r)
theorem nrN_a {c : Cf} {aq e : Int32} {r : Nat} (h : aq = 1 ∧ (c 1).toInt < e.toInt ∧ r ≤ 512) : nrN c aq e r = 2 * r := if_pos h
theorem nrN_b {c : Cf} {aq e : Int32} {r : Nat} (h : ¬ (aq = 1 ∧ (c 1).toInt < e.toInt ∧ r ≤ 512)) (h2 : aq = 1 ∧ (2 * e).toInt < (c 1).toInt ∧ 2 ≤ r) : nrN c aq e r = r / 2 := (if_neg h).trans (if_pos h2)
theorem nrN_c {c : Cf} {aq e : Int32} {r : Nat} (h : ¬ (aq = 1 ∧ (c 1).toInt < e.toInt ∧ r ≤ 512)) (h2 : ¬ (aq = 1 ∧ (2 * e).toInt < (c 1).toInt ∧ 2 ≤ r)) : nrN c aq e r = r := (if_neg h).trans (if_neg h2)
theorem nrN_rg {c : Cf} {aq e : Int32} {r : Nat} (h1 : 1 ≤ r) (h2 : r ≤ 1024) : 1 ≤ nrN c aq e r ∧ nrN c aq e r ≤ 1024 := by
  by_cases h : aq = 1 ∧ (c 1).toInt < e.toInt ∧ r ≤ 512
  · rw [nrN_a h]
    omega
  · by_cases g : aq = 1 ∧ (2 * e).toInt < (c 1).toInt ∧ 2 ≤ r
    · rw [nrN_b h g]
      omega
    · rw [nrN_c h g]
      exact ⟨h1, h2⟩
/-- the tick to t: the state, the rate, the exports since the interval began, the exports in all -/
abbrev KQ4 : Type := XS × Nat × Int32 × Nat
noncomputable def olA (c : Cf) (t : Nat) (s : XS) : OS := olI c t (s, 0, 0) s.1
noncomputable def tiS (c : Cf) (aq : Int32) (t : Nat) (s : KQ4) : KQ4 := if t % 100 = 0 then (if nrN c aq (s.2.2.1 + nI (olA c t s.1).2.2) s.2.1 = s.2.1 then ((olA c t s.1).1, s.2.1, 0, s.2.2.2 + (olA c t s.1).2.2) else (exI c (olA c t s.1).1 (olA c t s.1).1.1, nrN c aq (s.2.2.1 + nI (olA c t s.1).2.2) s.2.1, nI (olA c t s.1).1.1, s.2.2.2 + ((olA c t s.1).2.2 + (olA c t s.1).1.1))) else ((olA c t s.1).1, s.2.1, s.2.2.1 + nI (olA c t s.1).2.2, s.2.2.2 + (olA c t s.1).2.2)
theorem tiS_0 {c : Cf} {aq e : Int32} {t r d n n1 k1 d1 : Nat} {F F1 : Nat → Fl} {u u1 : UN} (ho : olI c t ((n, F, u), 0, 0) n = ((n1, F1, u1), k1, d1)) (ht : ¬ t % 100 = 0) : tiS c aq t ((n, F, u), r, e, d) = ((n1, F1, u1), r, e + nI d1, d + d1) := by
  have ha : olA c t (n, F, u) = ((n1, F1, u1), k1, d1) := ho
  unfold tiS
  rw [if_neg ht, ha]
theorem tiS_1 {c : Cf} {aq e : Int32} {t r d n n1 k1 d1 : Nat} {F F1 : Nat → Fl} {u u1 : UN} (ho : olI c t ((n, F, u), 0, 0) n = ((n1, F1, u1), k1, d1)) (ht : t % 100 = 0) (hr : nrN c aq (e + nI d1) r = r) : tiS c aq t ((n, F, u), r, e, d) = ((n1, F1, u1), r, 0, d + d1) := by
  have ha : olA c t (n, F, u) = ((n1, F1, u1), k1, d1) := ho
  unfold tiS
  rw [if_pos ht, ha, if_pos hr]
theorem tiS_2 {c : Cf} {aq e : Int32} {t r d n n1 k1 d1 : Nat} {F F1 F2 : Nat → Fl} {u u1 u2 : UN} (ho : olI c t ((n, F, u), 0, 0) n = ((n1, F1, u1), k1, d1)) (ht : t % 100 = 0) (hr : ¬ nrN c aq (e + nI d1) r = r) (hx : exI c (n1, F1, u1) n1 = (0, F2, u2)) : tiS c aq t ((n, F, u), r, e, d) = ((0, F2, u2), nrN c aq (e + nI d1) r, nI n1, d + (d1 + n1)) := by
  have ha : olA c t (n, F, u) = ((n1, F1, u1), k1, d1) := ho
  unfold tiS
  rw [if_pos ht, ha, if_neg hr, hx]
/-- ticks from t0 on -/
noncomputable def tiI (c : Cf) (aq : Int32) (t0 : Nat) (s : KQ4) : Nat → KQ4
  | 0 => s
  | i + 1 => tiS c aq (t0 + i + 1) (tiI c aq t0 s i)
theorem tiI_s {c : Cf} {aq : Int32} {t0 i j : Nat} {s s1 s2 : KQ4} (h : tiI c aq t0 s i = s1) (h2 : tiS c aq (t0 + i + 1) s1 = s2) (hj : j = i + 1) : tiI c aq t0 s j = s2 := by
  subst hj
  show tiS c aq (t0 + i + 1) (tiI c aq t0 s i) = s2
  rw [h]
  exact h2
/-- what was really observed of a key: count packets of b bytes -/
noncomputable def rmS (K : Nat) (b : Int64) (n : Nat) (t : Nat) (s : Nat × (Nat → Fl)) : Nat × (Nat → Fl) := if ixN s.2 K s.1 < s.1 then (s.1, updF s.2 (ixN s.2 K s.1) ((s.2 (ixN s.2 K s.1)).1, (s.2 (ixN s.2 K s.1)).2.1 + (nI n).toInt64, (s.2 (ixN s.2 K s.1)).2.2.1 + (nI n).toInt64 * b, (s.2 (ixN s.2 K s.1)).2.2.2.1, (s.2 (ixN s.2 K s.1)).2.2.2.2)) else if s.1 = 24 then s else (s.1 + 1, updF s.2 s.1 (K, 0 + (nI n).toInt64, 0 + (nI n).toInt64 * b, t, t))
noncomputable def trL (K : Nat) (w : Int32) (s : Nat × (Nat → Fl)) : Int64 := if ixN s.2 K s.1 < s.1 then (if w = 0 then (s.2 (ixN s.2 K s.1)).2.1 else (s.2 (ixN s.2 K s.1)).2.2.1) else 0

/-! numbers of the exporter -/
theorem dr_eq (w : Nat) : ((1103515245 : Int32) * nI w + 12345) &&& 2147483647 = nI (drN w) := by
  have e : (1103515245 : Int32) * nI w + 12345 = nI (1103515245 * w + 12345) := by
    have e1 : (1103515245 : Int32) * nI w = nI (1103515245 * w) := nI_mul 1103515245 w
    rw [e1]
    exact nI_add (1103515245 * w) 12345
  rw [e, pk_and (nI (1103515245 * w + 12345)) 31 (by decide)]
  refine congrArg nI ?_
  show (BitVec.ofNat 32 (1103515245 * w + 12345)).toNat % 2 ^ 31 = (1103515245 * w + 12345) % 2147483648
  rw [BitVec.toNat_ofNat]
  omega
theorem ofN_sr {A s : Nat} (k : Int64) (hk : (k.toBitVec.smod 64).toNat = s) (h : A < 2 ^ 63) : Int64.ofNat A >>> k = Int64.ofNat (A / 2 ^ s) := by
  apply Int64.toBitVec_inj.mp
  rw [Int64.toBitVec_shiftRight]
  show (Int64.ofNat A).toBitVec.sshiftRight (k.toBitVec.smod 64).toNat = _
  rw [hk, Int64.toBitVec_ofNat', Int64.toBitVec_ofNat']
  apply BitVec.eq_of_toNat_eq
  have hm : (BitVec.ofNat 64 A).msb = false := by
    rw [BitVec.msb_eq_decide, BitVec.toNat_ofNat, Nat.mod_eq_of_lt (by omega)]
    exact decide_eq_false (by omega)
  have hd : A / 2 ^ s ≤ A := Nat.div_le_self A _
  rw [BitVec.sshiftRight_eq_of_msb_false hm, BitVec.toNat_ushiftRight, BitVec.toNat_ofNat, BitVec.toNat_ofNat, Nat.mod_eq_of_lt (by omega), Nat.mod_eq_of_lt (by omega), Nat.shiftRight_eq_div_pow]
theorem ofN_32 {A : Nat} : (Int64.ofNat A).toInt32 = nI A := by
  apply Int32.toBitVec_inj.mp
  apply BitVec.eq_of_toNat_eq
  show ((Int64.ofNat A).toBitVec.signExtend 32).toNat = (BitVec.ofNat 32 A).toNat
  rw [Int64.toBitVec_ofNat', BitVec.signExtend_eq_setWidth_of_le _ (by decide), BitVec.toNat_setWidth, BitVec.toNat_ofNat, BitVec.toNat_ofNat]
  omega
/-- a part of a key -/
theorem pt_k {K s q : Nat} (k : Int64) (hk : (k.toBitVec.smod 64).toNat = s) (hK : K < 2 ^ 40) {m : Int32} (hm : m.toBitVec.toNat = 2 ^ q - 1) (hq : q ≤ 16) : (Int64.ofNat K >>> k).toInt32 &&& m = nI (K / 2 ^ s % 2 ^ q) := by
  rw [ofN_sr k hk (by omega), ofN_32, pk_and _ q hm]
  congr 1
  show (BitVec.ofNat 32 (K / 2 ^ s)).toNat % 2 ^ q = _
  rw [BitVec.toNat_ofNat]
  have h32 : (2 : Nat) ^ 32 = 2 ^ q * 2 ^ (32 - q) := by rw [← Nat.pow_add]; congr 1; omega
  rw [h32]
  exact Nat.mod_mul_right_mod _ _ _
theorem pt_3 {K : Nat} (k : Int64) (hk : (k.toBitVec.smod 64).toNat = 0) (hK : K < 2 ^ 40) : (Int64.ofNat K >>> k).toInt32 &&& 255 = nI (K % 256) := by
  have h := pt_k (s := 0) (q := 8) k hk hK (m := 255) (by decide) (by decide)
  rw [Nat.pow_zero, Nat.div_one] at h
  exact h
theorem ov_1 {c : Int32} {t a : Nat} (ht : t ≤ 1000000) (ha : a ≤ 1000000) : (c ≤ nI t - nI a) ↔ c.toInt ≤ (t : Int) - a := by
  have e : (nI t - nI a).toInt = (t : Int) - a := by
    rw [Int32.toInt_sub, nI_toInt (by omega), nI_toInt (by omega)]
    exact Int.bmod_eq_of_le (by omega) (by omega)
  rw [Int32.le_iff_toInt_le, e]
/-- no chosen field: the chosen set is empty -/
theorem fM_0 {f : Nat → Int32} {b : Nat} (hb : b < 512) : ∀ m, dF f m → (fM f (nI b) m = 0 ↔ fS f (nI b) m = 0) := by
  intro m
  induction m with
  | zero => intro _; exact ⟨fun _ => rfl, fun _ => rfl⟩
  | succ m ih =>
    intro h
    have ih2 := ih (fun i hi => h i (by omega))
    by_cases hs : bitI (f m) (nI b)
    · rw [fM_y hs, fS_y hs]
      constructor
      · intro q
        omega
      · intro q
        exfalso
        obtain ⟨a, ha, -, e⟩ := fS_and hb m (fun i hi => h i (by omega))
        obtain ⟨⟨n, hn, en⟩, -⟩ := h m (Nat.lt_succ_self m)
        have hnew := fS_new hb h (Nat.lt_succ_self m)
        have hl : a &&& b < 512 := Nat.lt_of_le_of_lt Nat.and_le_left ha
        rw [e, en, bit_k _ hl n (by omega)] at hnew
        obtain ⟨g1, g2⟩ := or_k _ hl n (by omega) (by omega)
        rw [e, en, g1] at q
        have hp : 0 < 2 ^ n := Nat.pow_pos (by decide)
        have := (nI_eq (a := (a &&& b) + 2 ^ n) (b := 0) (by omega) (by omega)).mp q
        omega
    · rw [fM_n hs, fS_n hs]
      exact ih2
theorem CfA.ef1 {G : EnvG} {x t s u : Nat} {c : Cf} {Φ : Hm} (h : CfA G x t s c Φ) (hu : u < t) : efF c u = tfF c u &&& c 9 := by
  have h4 := h.1.2.1
  obtain ⟨m, f, h1, h2, h3, hd, -, -⟩ := h.1.wt (u := u) (by omega) (by omega)
  obtain ⟨hs, e9⟩ := h.2.1
  obtain ⟨e3, -⟩ := wt_fS (s := 511) h1 hu h3
  obtain ⟨e4, -⟩ := wt_fS (s := nI s) h1 hu h3
  obtain ⟨a, ha, g1, g2⟩ := fS_and hs m hd
  have k1 : tfF c u = nI a := by
    unfold tfF
    rw [← e3]
    exact g1
  have k2 : efF c u = nI (a &&& s) := by
    unfold efF
    rw [e9, ← e4]
    exact g2
  rw [k1, k2, e9]
  exact (and_k a ha s hs).symm
/-- the effective template of a key's protocol: none where nothing is supported -/
theorem CfA.sz0 {G : EnvG} {x t s u : Nat} {c : Cf} {Φ : Hm} (h : CfA G x t s c Φ) (hg : CfG c) (hu : u ≤ 3) : ∃ (m : Nat) (a b : Int32), m ≤ 9 ∧ Φ (x + (10 + 4 * u)) = some (o_ 12 [.ref (x + (10 + 4 * u + 1)), .int (nI m), .int a, .int b]) ∧ (m = 0 ↔ tfF c u &&& c 9 = 0) := by
  obtain ⟨m, f, g, h1, h2, h3, h4, h5, -, -⟩ := h.2.2 u (by omega)
  have hle := fM_le f (nI s) m
  refine ⟨_, _, _, by omega, h5, ?_⟩
  by_cases ht : u < t
  · have e1 := h.ef1 ht
    have e2 : efF c u = fS f (nI s) m := by
      unfold efF
      rw [h.2.1.2]
      exact (wt_fS (s := nI s) h1 ht h3).1.symm
    rw [← e1, e2]
    exact fM_0 h.2.1.1 m h4
  · have e0 := h2 (by omega)
    subst e0
    have e1 : szC c u = 0 := by
      unfold szC
      rw [hg.2.1 u t (by omega) h.1.1 (by omega)]
      decide
    have e2 : tfF c u = 0 := by
      unfold tfF
      rw [e1]
      rfl
    rw [e2, Int32.zero_and]
    exact ⟨fun _ => rfl, fun _ => rfl⟩
theorem CfA.set {G : EnvG} {x t s p : Nat} {c : Cf} {f : Nat → Int32} {Φ : Hm} (h : CfA G x t s c Φ) (hf : Φ (x + 4) = some (ai_ G 9 f)) (hp : p < 9) : f p = c p := h.1.row1 hf p hp
theorem CfA.use {G : EnvG} {x t s p : Nat} {c : Cf} {f : Nat → Int32} {Φ : Hm} (h : CfA G x t s c Φ) (hf : Φ (x + 5) = some (ai_ G 256 f)) (hp : p < 256) : f p = c (51 + p) := h.1.row2 hf p hp
theorem nadd2 (a : Int32) (i j : Nat) : a + nI i + nI j = a + nI (i + j) := by
  rw [Int32.add_assoc]
  exact congrArg (fun w => a + w) (nI_add i j)
theorem ex_1 (a b c : Int32) : a + b - c = a - c + b := by
  rw [Int32.sub_eq_add_neg, Int32.sub_eq_add_neg, Int32.add_assoc, Int32.add_assoc, Int32.add_comm b (-c)]
theorem ex_0 (a c : Int32) (i j : Nat) : a + nI (i + j) - c = a + nI i - c + nI j := by
  rw [← nadd2, ex_1]
theorem ex_z (a : Int32) (i j : Nat) : a + nI (i + j) - (a + nI i + nI j) = 0 := by
  rw [← nadd2]
  exact Int32.sub_self _
theorem ex_n (a : Int32) (i j k : Nat) : a + nI (i + (j + k)) - (a + nI i + nI j) = nI k := by
  have e : a + nI (i + (j + k)) = a + nI i + nI j + nI k := by rw [nadd2, nadd2]
  rw [e, Int32.add_comm (a + nI i + nI j) (nI k), ex_1, Int32.sub_eq_add_neg, Int32.add_assoc]
  have e2 : -(a + nI i + nI j) + (a + nI i + nI j) = 0 := by rw [Int32.add_comm, ← Int32.sub_eq_add_neg]; exact Int32.sub_self _
  rw [e2, Int32.add_zero]
/-- the number of a key's parts -/
noncomputable def kyN (a b d f : Int32) : Nat := ((a.toInt.toNat * 2 ^ 8 + b.toInt.toNat) * 2 ^ 16 + d.toInt.toNat) * 2 ^ 8 + f.toInt.toNat
theorem keyF_N {a b d f : Int32} (h : KyP a b d f) : keyF a b d f = Int64.ofNat (kyN a b d f) ∧ kyN a b d f < 2 ^ 40 := by
  rw [keyF_ok h]
  obtain ⟨a1, b1, d1, f1, e1, e2, e3, e4, rfl, rfl, rfl, rfl⟩ := KyP_nat h
  rw [keyE_nat e1 e2 e3 e4]
  unfold kyN
  rw [nI_toInt (by omega), nI_toInt (by omega), nI_toInt (by omega), nI_toInt (by omega)]
  refine ⟨rfl, ?_⟩
  omega
theorem keyF_0 {a b d f : Int32} (h : ¬ KyP a b d f) : keyF a b d f = -1 := keyF_m1.mpr h
theorem rmS_f {K n m t : Nat} {b : Int64} {F : Nat → Fl} (h : ixN F K n < n) : rmS K b m t (n, F) = (n, updF F (ixN F K n) ((F (ixN F K n)).1, (F (ixN F K n)).2.1 + (nI m).toInt64, (F (ixN F K n)).2.2.1 + (nI m).toInt64 * b, (F (ixN F K n)).2.2.2.1, (F (ixN F K n)).2.2.2.2)) := if_pos h
theorem rmS_24 {K n m t : Nat} {b : Int64} {F : Nat → Fl} (h : ¬ ixN F K n < n) (hn : n = 24) : rmS K b m t (n, F) = (n, F) := (if_neg h).trans (if_pos hn)
theorem rmS_no {K n m t : Nat} {b : Int64} {F : Nat → Fl} (h : ¬ ixN F K n < n) (hn : ¬ n = 24) : rmS K b m t (n, F) = (n + 1, updF F n (K, 0 + (nI m).toInt64, 0 + (nI m).toInt64 * b, t, t)) := (if_neg h).trans (if_neg hn)
theorem trL_f {K n : Nat} {w : Int32} {F : Nat → Fl} (h : ixN F K n < n) : trL K w (n, F) = if w = 0 then (F (ixN F K n)).2.1 else (F (ixN F K n)).2.2.1 := if_pos h
theorem trL_n {K n : Nat} {w : Int32} {F : Nat → Fl} (h : ¬ ixN F K n < n) : trL K w (n, F) = 0 := if_neg h

abbrev TbC (G : EnvG) (x n w : Nat) (Fs : Nat → Fl) (pp : Nat → Nat) (Φ : Hm) : Prop := TbR G x 81 12 n w Fs pp Φ
theorem TbC.fr {G : EnvG} {x n w : Nat} {Fs : Nat → Fl} {pp : Nat → Nat} {md : Nat → Prop} {Φ Φ1 : Hm} (h : TbC G x n w Fs pp Φ) (hF : Fr x md Φ Φ1) (hm : ∀ j, md j → ¬ (82 ≤ j ∧ j < 95)) : TbC G x n w Fs pp Φ1 := TbR.fr h hF hm
theorem TbC.off {G : EnvG} {x n w k : Nat} {Fs : Nat → Fl} {pp : Nat → Nat} {e : va_E} {Φ Φ1 : Hm} (h : TbC G x n w Fs pp Φ) (h1 : Φ1 = fset Φ (x + k) e) (hk : ¬ (82 ≤ k ∧ k < 95)) : TbC G x n w Fs pp Φ1 := TbR.off h h1 hk

abbrev TbT (G : EnvG) (x n w : Nat) (Fs : Nat → Fl) (pp : Nat → Nat) (Φ : Hm) : Prop := TbR G x 95 24 n w Fs pp Φ
theorem TbT.fr {G : EnvG} {x n w : Nat} {Fs : Nat → Fl} {pp : Nat → Nat} {md : Nat → Prop} {Φ Φ1 : Hm} (h : TbT G x n w Fs pp Φ) (hF : Fr x md Φ Φ1) (hm : ∀ j, md j → ¬ (96 ≤ j ∧ j < 121)) : TbT G x n w Fs pp Φ1 := TbR.fr h hF hm
theorem TbT.off {G : EnvG} {x n w k : Nat} {Fs : Nat → Fl} {pp : Nat → Nat} {e : va_E} {Φ Φ1 : Hm} (h : TbT G x n w Fs pp Φ) (h1 : Φ1 = fset Φ (x + k) e) (hk : ¬ (96 ≤ k ∧ k < 121)) : TbT G x n w Fs pp Φ1 := TbR.off h h1 hk

set_option maxHeartbeats 4000000 in
set_option maxRecDepth 100000 in
theorem s_X3_beginX (G : EnvG) (l : Launch) (Φ : Hm) (sz x ca : Nat) (k : Nat) (a : Int64) (b : Int32) (hx : G.2.2.2 ≤ x) (hI : In G x ca Φ) (hk_k : kd k = 19) : Ct G l yX3_begin wsX3_begin ({ frames := 0, cells := 0, slots := 0, locals := 0 }) 0 0 [.ref (x + (k)), .long a, .int b] Φ sz (fun v Φ1 sz1 => (v = none ∧ Φ1 (x + (k)) = some (o_ 5 [.long a, .long 0, .long 0, .int b, .int b])) ∧ sz1 = sz ∧ In G x (ca) Φ1 ∧ Fr x (fun j9 => j9 = k) Φ Φ1) := by
  refine Ct.of (cc := cX3_begin) (maxL := 4) (ret := none) (by decide) rfl (Nat.le_of_ble_eq_true rfl) ?_
  intro p9 e9 s9 m9 w9 t9 k9 B
  show Z p9 l e9 _ s9 m9 _ w9 t9 k9 _ G 4 0 [(0, .ref (x + (k))), (1, .long a), (3, .int b)] [] Φ sz 0 0
  refine z_aload_n B dX3_begin_0 rfl 0 rfl ?_
  refine z_lload_n B dX3_begin_1 rfl 1 rfl ?_
  obtain ⟨v_1, v_2, v_3, v_4, v_5, h_1⟩ := in19 (k := k) hI hk_k
  have h_2 : Φ (x + (k)) = some (o_ 5 [.long v_1, .long v_2, .long v_3, .int v_4, .int v_5]) := h_1
  refine z_put (ref := "FlowExporter$Flow") (C := RX3) (T := TX3) (N := 5) (ci := 5) (v := .long a) B hu_X3_begin_X3 tyX3 tyX3_ok nmX3 rfl 0 (Nat.le_of_ble_eq_true rfl) hv_X3_begin_9 rfl (Or.inl rfl) h_2 (by omega) rfl rfl (Nat.le_of_ble_eq_true rfl) dX3_begin_2 (fun Φ1 hΦ1 => ?_)
  have h_3 : Φ1 (x + (k)) = some (o_ 5 [.long a, .long v_2, .long v_3, .int v_4, .int v_5]) := fset_at hΦ1
  have hI1 : In G x (ca) Φ1 := In.put (k := k) hI hΦ1 (ok19 (k := k) hk_k ⟨a, v_2, v_3, v_4, v_5, rfl⟩)
  refine z_aload_n B dX3_begin_5 rfl 0 rfl ?_
  refine z_lconst (v := 0) B dX3_begin_6 rfl ?_
  refine z_put (ref := "FlowExporter$Flow") (C := RX3) (T := TX3) (N := 5) (ci := 5) (v := .long 0) B hu_X3_begin_X3 tyX3 tyX3_ok nmX3 rfl 1 (Nat.le_of_ble_eq_true rfl) hv_X3_begin_15 rfl (Or.inl rfl) h_3 (by omega) rfl rfl (Nat.le_of_ble_eq_true rfl) dX3_begin_7 (fun Φ2 hΦ2 => ?_)
  have h_4 : Φ2 (x + (k)) = some (o_ 5 [.long a, .long 0, .long v_3, .int v_4, .int v_5]) := fset_at hΦ2
  have hI2 : In G x (ca) Φ2 := In.put (k := k) hI1 hΦ2 (ok19 (k := k) hk_k ⟨a, 0, v_3, v_4, v_5, rfl⟩)
  refine z_aload_n B dX3_begin_10 rfl 0 rfl ?_
  refine z_lconst (v := 0) B dX3_begin_11 rfl ?_
  refine z_put (ref := "FlowExporter$Flow") (C := RX3) (T := TX3) (N := 5) (ci := 5) (v := .long 0) B hu_X3_begin_X3 tyX3 tyX3_ok nmX3 rfl 2 (Nat.le_of_ble_eq_true rfl) hv_X3_begin_18 rfl (Or.inl rfl) h_4 (by omega) rfl rfl (Nat.le_of_ble_eq_true rfl) dX3_begin_12 (fun Φ3 hΦ3 => ?_)
  have h_5 : Φ3 (x + (k)) = some (o_ 5 [.long a, .long 0, .long 0, .int v_4, .int v_5]) := fset_at hΦ3
  have hI3 : In G x (ca) Φ3 := In.put (k := k) hI2 hΦ3 (ok19 (k := k) hk_k ⟨a, 0, 0, v_4, v_5, rfl⟩)
  refine z_aload_n B dX3_begin_15 rfl 0 rfl ?_
  refine z_iload_n B dX3_begin_16 rfl 2 rfl ?_
  refine z_put (ref := "FlowExporter$Flow") (C := RX3) (T := TX3) (N := 5) (ci := 5) (v := .int b) B hu_X3_begin_X3 tyX3 tyX3_ok nmX3 rfl 3 (Nat.le_of_ble_eq_true rfl) hv_X3_begin_21 rfl (Or.inl rfl) h_5 (by omega) rfl rfl (Nat.le_of_ble_eq_true rfl) dX3_begin_17 (fun Φ4 hΦ4 => ?_)
  have h_6 : Φ4 (x + (k)) = some (o_ 5 [.long a, .long 0, .long 0, .int b, .int v_5]) := fset_at hΦ4
  have hI4 : In G x (ca) Φ4 := In.put (k := k) hI3 hΦ4 (ok19 (k := k) hk_k ⟨a, 0, 0, b, v_5, rfl⟩)
  refine z_aload_n B dX3_begin_20 rfl 0 rfl ?_
  refine z_iload_n B dX3_begin_21 rfl 2 rfl ?_
  refine z_put (ref := "FlowExporter$Flow") (C := RX3) (T := TX3) (N := 5) (ci := 5) (v := .int b) B hu_X3_begin_X3 tyX3 tyX3_ok nmX3 rfl 4 (Nat.le_of_ble_eq_true rfl) hv_X3_begin_25 rfl (Or.inl rfl) h_6 (by omega) rfl rfl (Nat.le_of_ble_eq_true rfl) dX3_begin_22 (fun Φ5 hΦ5 => ?_)
  have h_7 : Φ5 (x + (k)) = some (o_ 5 [.long a, .long 0, .long 0, .int b, .int b]) := fset_at hΦ5
  have hI5 : In G x (ca) Φ5 := In.put (k := k) hI4 hΦ5 (ok19 (k := k) hk_k ⟨a, 0, 0, b, b, rfl⟩)
  exact z_ret_v B dX3_begin_25 ⟨⟨rfl, h_7⟩, rfl, hI5, (fun b9 h9 => ((fset_fr hΦ5 (fun h8 => h9 (k) h8 (show k = k by omega))).trans ((fset_fr hΦ4 (fun h8 => h9 (k) h8 (show k = k by omega))).trans ((fset_fr hΦ3 (fun h8 => h9 (k) h8 (show k = k by omega))).trans ((fset_fr hΦ2 (fun h8 => h9 (k) h8 (show k = k by omega))).trans ((fset_fr hΦ1 (fun h8 => h9 (k) h8 (show k = k by omega))).trans rfl))))))⟩

set_option maxHeartbeats 4000000 in
set_option maxRecDepth 100000 in
theorem s_X4_isFull_81 (G : EnvG) (l : Launch) (Φ : Hm) (sz x ca : Nat) (n : Nat) (hx : G.2.2.2 ≤ x) (hI : In G x ca Φ) (hc0 : Φ (x + 81) = some (o_ 6 [.ref (x + 82), .int (nI n)])) (hn : n ≤ 12) : Ct G l yX4_isFull wsX4_isFull ({ frames := 0, cells := 0, slots := 0, locals := 0 }) 0 0 [.ref (x + 81)] Φ sz (fun v Φ1 sz1 => ((v = some (.int 1) ∧ 12 ≤ n) ∨ (v = some (.int 0) ∧ n < 12)) ∧ sz1 = sz ∧ In G x (ca) Φ1 ∧ Fr x (fun j9 => False) Φ Φ1) := by
  refine Ct.of (cc := cX4_isFull) (maxL := 1) (ret := (some .boolean)) (by decide) rfl (Nat.le_of_ble_eq_true rfl) ?_
  intro p9 e9 s9 m9 w9 t9 k9 B
  show Z p9 l e9 _ s9 m9 _ w9 t9 k9 _ G 1 0 [(0, .ref (x + 81))] [] Φ sz 0 0
  refine z_aload_n B dX4_isFull_0 rfl 0 rfl ?_
  refine z_get (ref := "FlowExporter$FlowTable") (C := RX4) (T := TX4) (N := 2) (ci := 6) (v := .int (nI n)) B hu_X4_isFull_X4 rfl 1 (Nat.le_of_ble_eq_true rfl) hv_X4_isFull_9 rfl hc0 rfl dX4_isFull_1 ?_
  refine z_aload_n B dX4_isFull_4 rfl 0 rfl ?_
  refine z_get (ref := "FlowExporter$FlowTable") (C := RX4) (T := TX4) (N := 2) (ci := 6) (v := .ref (x + 82)) B hu_X4_isFull_X4 rfl 0 (Nat.le_of_ble_eq_true rfl) hv_X4_isFull_23 rfl hc0 rfl dX4_isFull_5 ?_
  obtain ⟨f_1, h_1, r_1⟩ := in18 (k := 82) hI rfl
  replace r_1 : ∀ j, j < 12 → ∃ m, m < 12 ∧ f_1 j = some (x + (83 + m)) := r_1
  have h_2 : Φ (x + 82) = some (aq_ G 5 12 f_1) := h_1
  refine z_alen (t := 5) (v := 12) B rfl h_2 rfl dX4_isFull_8 ?_
  refine z_icmp_lt (tgt := 16) B dX4_isFull_9 rfl (fun c_1 => ?_) (fun c_1 => ?_)
  · have e_1 : n < 12 := (nI_ltI (a := n) (b := 12) (by omega) (by omega)).mp c_1
    refine z_iconst (v := 0) B dX4_isFull_16 rfl ?_
    exact z_ret_z B dX4_isFull_17 (by decide) ⟨(Or.inr ⟨rfl, by omega⟩), rfl, hI, (fun b9 h9 => rfl)⟩
  · have e_2 : ¬ (n < 12) := fun h9 => c_1 ((nI_ltI (a := n) (b := 12) (by omega) (by omega)).mpr h9)
    refine z_iconst (v := 1) B dX4_isFull_12 rfl ?_
    refine z_goto (tgt := 17) B dX4_isFull_13 rfl ?_
    exact z_ret_z B dX4_isFull_17 (by decide) ⟨(Or.inl ⟨rfl, by omega⟩), rfl, hI, (fun b9 h9 => rfl)⟩

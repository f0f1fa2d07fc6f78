set_option maxRecDepth 20000 in
theorem ggX11_observeMany_X3_keyOf : GoodIn wsX11_observeMany wsX3_keyOf := (goodIn_r _ [5, 6, 7] rfl (by decide +kernel))
set_option maxRecDepth 20000 in
theorem gX11_observeMany_X3_keyOf : GoodIn wsX11_observeMany (va_wsS RX11 119 yX3_keyOf wsX3_keyOf) := goodIn_app (goodIn_m (mem_cA (List.mem_cons_of_mem _ (List.mem_append_left _ (List.mem_append_left _ (List.mem_append_left _ (List.mem_append_left _ (List.mem_append_left _ (List.mem_append_left _ (List.mem_append_left _ (List.mem_append_left _ (List.mem_append_left _ (List.mem_append_left _ (List.mem_append_left _ (List.mem_append_left _ (List.mem_append_left _ (List.mem_of_getElem? (i := 1) rfl))))))))))))))) (mem_cA (List.mem_cons_of_mem _ (List.mem_append_left _ (List.mem_append_left _ (List.mem_append_left _ (List.mem_append_left _ (List.mem_append_left _ (List.mem_append_left _ (List.mem_append_left _ (List.mem_append_left _ (List.mem_append_left _ (List.mem_append_left _ (List.mem_append_left _ (List.mem_append_left _ (List.mem_append_left _ (List.mem_of_getElem? (i := 2) rfl))))))))))))))) (mem_cA (List.mem_cons_of_mem _ (List.mem_append_left _ (List.mem_append_left _ (List.mem_append_left _ (List.mem_append_left _ (List.mem_append_left _ (List.mem_append_left _ (List.mem_append_left _ (List.mem_append_left _ (List.mem_append_left _ (List.mem_append_left _ (List.mem_append_left _ (List.mem_append_left _ (List.mem_append_left _ (List.mem_of_getElem? (i := 3) rfl))))))))))))))) mem_cZ))) (by decide +kernel)) ggX11_observeMany_X3_keyOf
set_option maxRecDepth 20000 in
theorem ggX11_observeMany_X11_requirePackets : GoodIn wsX11_observeMany wsX11_requirePackets := goodIn_ca ((goodIn_r _ [11, 12, 13, 14, 15] rfl (by decide +kernel))) (goodIn_sub (fun _ h => List.mem_cons_of_mem _ (List.mem_append_left _ (List.mem_append_left _ (List.mem_append_right _ h)))) (all_fg _))
set_option maxRecDepth 20000 in
theorem gX11_observeMany_X11_requirePackets : GoodIn wsX11_observeMany (va_wsS RX11 125 yX11_requirePackets wsX11_requirePackets) := goodIn_app (goodIn_m (mem_cA (List.mem_cons_of_mem _ (List.mem_append_left _ (List.mem_append_left _ (List.mem_append_left _ (List.mem_append_left _ (List.mem_append_left _ (List.mem_append_left _ (List.mem_append_left _ (List.mem_append_left _ (List.mem_append_left _ (List.mem_append_left _ (List.mem_append_left _ (List.mem_append_left _ (List.mem_append_left _ (List.mem_of_getElem? (i := 7) rfl))))))))))))))) (mem_cA (List.mem_cons_of_mem _ (List.mem_append_left _ (List.mem_append_left _ (List.mem_append_left _ (List.mem_append_left _ (List.mem_append_left _ (List.mem_append_left _ (List.mem_append_left _ (List.mem_append_left _ (List.mem_append_left _ (List.mem_append_left _ (List.mem_append_left _ (List.mem_append_left _ (List.mem_append_left _ (List.mem_of_getElem? (i := 8) rfl))))))))))))))) (mem_cA (List.mem_cons_of_mem _ (List.mem_append_left _ (List.mem_append_left _ (List.mem_append_left _ (List.mem_append_left _ (List.mem_append_left _ (List.mem_append_left _ (List.mem_append_left _ (List.mem_append_left _ (List.mem_append_left _ (List.mem_append_left _ (List.mem_append_left _ (List.mem_append_left _ (List.mem_append_left _ (List.mem_of_getElem? (i := 9) rfl))))))))))))))) mem_cZ))) (by decide +kernel)) ggX11_observeMany_X11_requirePackets
set_option maxRecDepth 20000 in
theorem ggX11_observeMany_X2_takePackets : GoodIn wsX11_observeMany wsX2_takePackets := goodIn_ca (goodIn_ca ((goodIn_ca (goodIn_ca (goodIn_ca (goodIn_ca (goodIn_ca (goodIn_ca (goodIn_ca (goodIn_ca (goodIn_r _ [20, 21, 22, 23, 24, 25, 26, 27, 19, 28, 29, 30, 31, 32, 33, 34, 35, 36, 37, 38, 39, 40, 41, 42, 43, 44, 45, 46, 47, 48, 49, 50, 51, 52, 53, 54, 55, 56, 57, 58, 4, 59, 60, 61, 62, 63, 64, 65, 66, 67, 68, 69, 70, 71, 72, 73, 74, 75, 76, 77, 78, 79, 80, 81, 82, 83, 84, 85, 86, 87, 88, 89, 90, 91, 92, 93, 94, 95, 96, 97, 98, 99, 100, 101, 102, 103, 104, 105, 106, 107, 108, 109, 110, 111, 112, 113, 114, 115, 116, 117, 118, 119, 120, 121, 122, 123, 124, 125, 126, 127, 128, 129, 130, 131, 132, 133, 134, 135, 136, 137, 138, 139, 140, 141, 142, 10, 143, 144, 145, 146, 147, 148, 149, 150, 151, 152, 153, 154, 155, 156, 157, 158, 159, 160, 161, 162, 163, 164, 165, 166, 167, 168, 169, 170, 171, 172, 173, 174, 175, 176, 177, 178, 179, 180, 181, 182, 183, 184, 185, 186, 187, 188, 189, 190, 191, 192, 193, 194, 195, 196, 197, 198, 199, 200, 201, 202, 203, 204, 205, 206, 207, 208, 209, 210, 211, 212, 213, 214, 215, 216, 217, 218, 219, 220, 221, 222, 223, 224] rfl (by decide +kernel)) (goodIn_sub (fun _ h => List.mem_cons_of_mem _ (List.mem_append_left _ (List.mem_append_left _ (List.mem_append_left _ (List.mem_append_left _ (List.mem_append_left _ (List.mem_append_left _ (List.mem_append_left _ (List.mem_append_left _ (List.mem_append_left _ (List.mem_append_left _ (List.mem_append_right _ h)))))))))))) gw_wsX20)) (goodIn_sub (fun _ h => List.mem_cons_of_mem _ (List.mem_append_left _ (List.mem_append_left _ (List.mem_append_left _ (List.mem_append_left _ (List.mem_append_left _ (List.mem_append_left _ (List.mem_append_left _ (List.mem_append_left _ (List.mem_append_left _ (List.mem_append_right _ h))))))))))) gw_wsX30)) (goodIn_sub (fun _ h => List.mem_cons_of_mem _ (List.mem_append_left _ (List.mem_append_left _ (List.mem_append_left _ (List.mem_append_left _ (List.mem_append_left _ (List.mem_append_left _ (List.mem_append_left _ (List.mem_append_left _ (List.mem_append_right _ h)))))))))) gw_wsX40)) (goodIn_sub (fun _ h => List.mem_cons_of_mem _ (List.mem_append_left _ (List.mem_append_left _ (List.mem_append_left _ (List.mem_append_left _ (List.mem_append_left _ (List.mem_append_left _ (List.mem_append_left _ (List.mem_append_right _ h))))))))) gw_wsX100)) (goodIn_sub (fun _ h => List.mem_cons_of_mem _ (List.mem_append_left _ (List.mem_append_left _ (List.mem_append_left _ (List.mem_append_left _ (List.mem_append_left _ (List.mem_append_left _ (List.mem_append_right _ h)))))))) gw_wsX10)) (goodIn_sub (fun _ h => List.mem_cons_of_mem _ (List.mem_append_left _ (List.mem_append_left _ (List.mem_append_left _ (List.mem_append_left _ (List.mem_append_left _ (List.mem_append_right _ h))))))) gw_wsX80)) (goodIn_sub (fun _ h => List.mem_cons_of_mem _ (List.mem_append_left _ (List.mem_append_left _ (List.mem_append_left _ (List.mem_append_left _ (List.mem_append_right _ h)))))) gw_wsX50)) (goodIn_sub (fun _ h => List.mem_cons_of_mem _ (List.mem_append_left _ (List.mem_append_left _ (List.mem_append_left _ (List.mem_append_right _ h))))) gw_wsX70))) (goodIn_sub (fun _ h => List.mem_cons_of_mem _ (List.mem_append_left _ (List.mem_append_right _ h))) (all_fg _))) (goodIn_sub (fun _ h => List.mem_cons_of_mem _ (List.mem_append_right _ h)) (all_fg _))
set_option maxRecDepth 20000 in
theorem gX11_observeMany_X2_takePackets : GoodIn wsX11_observeMany (wsV RX11 129 RX2 yX2_takePackets wsX2_takePackets) := goodIn_app (goodIn_m (mem_cA (List.mem_cons_of_mem _ (List.mem_append_left _ (List.mem_append_left _ (List.mem_append_left _ (List.mem_append_left _ (List.mem_append_left _ (List.mem_append_left _ (List.mem_append_left _ (List.mem_append_left _ (List.mem_append_left _ (List.mem_append_left _ (List.mem_append_left _ (List.mem_append_left _ (List.mem_append_left _ (List.mem_of_getElem? (i := 15) rfl))))))))))))))) (mem_cA (List.mem_cons_of_mem _ (List.mem_append_left _ (List.mem_append_left _ (List.mem_append_left _ (List.mem_append_left _ (List.mem_append_left _ (List.mem_append_left _ (List.mem_append_left _ (List.mem_append_left _ (List.mem_append_left _ (List.mem_append_left _ (List.mem_append_left _ (List.mem_append_left _ (List.mem_append_left _ (List.mem_of_getElem? (i := 16) rfl))))))))))))))) (mem_cA (List.mem_cons_of_mem _ (List.mem_append_left _ (List.mem_append_left _ (List.mem_append_left _ (List.mem_append_left _ (List.mem_append_left _ (List.mem_append_left _ (List.mem_append_left _ (List.mem_append_left _ (List.mem_append_left _ (List.mem_append_left _ (List.mem_append_left _ (List.mem_append_left _ (List.mem_append_left _ (List.mem_of_getElem? (i := 17) rfl))))))))))))))) (mem_cA (List.mem_cons_of_mem _ (List.mem_append_left _ (List.mem_append_left _ (List.mem_append_left _ (List.mem_append_left _ (List.mem_append_left _ (List.mem_append_left _ (List.mem_append_left _ (List.mem_append_left _ (List.mem_append_left _ (List.mem_append_left _ (List.mem_append_left _ (List.mem_append_left _ (List.mem_append_left _ (List.mem_of_getElem? (i := 18) rfl))))))))))))))) mem_cZ)))) (by decide +kernel)) ggX11_observeMany_X2_takePackets
theorem dX11_observeMany_0 : decode cX11_observeMany 0 = .ok (.iload_n 1, 1) := by decide +kernel
theorem dX11_observeMany_1 : decode cX11_observeMany 1 = .ok (.iload_n 2, 1) := by decide +kernel
theorem dX11_observeMany_2 : decode cX11_observeMany 2 = .ok (.iload_n 3, 1) := by decide +kernel
theorem dX11_observeMany_3 : decode cX11_observeMany 3 = .ok (.iload 4, 2) := by decide +kernel
theorem dX11_observeMany_5 : decode cX11_observeMany 5 = .ok (.invokestatic 119, 3) := by decide +kernel
theorem dX11_observeMany_8 : decode cX11_observeMany 8 = .ok (.lstore 7, 2) := by decide +kernel
theorem dX11_observeMany_10 : decode cX11_observeMany 10 = .ok (.lload 7, 2) := by decide +kernel
theorem dX11_observeMany_12 : decode cX11_observeMany 12 = .ok (.iload 5, 2) := by decide +kernel
theorem dX11_observeMany_14 : decode cX11_observeMany 14 = .ok (.iload 6, 2) := by decide +kernel
theorem dX11_observeMany_16 : decode cX11_observeMany 16 = .ok (.invokestatic 125, 3) := by decide +kernel
theorem dX11_observeMany_19 : decode cX11_observeMany 19 = .ok (.aload_n 0, 1) := by decide +kernel
theorem dX11_observeMany_20 : decode cX11_observeMany 20 = .ok (.getfield 55, 3) := by decide +kernel
theorem dX11_observeMany_23 : decode cX11_observeMany 23 = .ok (.lload 7, 2) := by decide +kernel
theorem dX11_observeMany_25 : decode cX11_observeMany 25 = .ok (.iload 5, 2) := by decide +kernel
theorem dX11_observeMany_27 : decode cX11_observeMany 27 = .ok (.iload 6, 2) := by decide +kernel
theorem dX11_observeMany_29 : decode cX11_observeMany 29 = .ok (.invokevirtual 129, 3) := by decide +kernel
theorem dX11_observeMany_32 : decode cX11_observeMany 32 = .ok (.ireturn, 1) := by decide +kernel
set_option maxHeartbeats 4000000 in
set_option maxRecDepth 100000 in
theorem s_X11_setRateX (G : EnvG) (l : Launch) (Φ : Hm) (sz x ca : Nat) (tm : Nat) (r : Nat) (w : Nat) (aq : Int32) (xp : Int32) (xb : Int32) (ob : Int64) (sm : Int64) (un : UN) (n : Nat) (Fs : Nat → Fl) (pp : Nat → Nat) (t : Nat) (s : Nat) (c : Cf) (sn : SN) (qn : Nat) (qL : Nat → Nat) (qd : Int32) (qp : Nat → Nat) (a : Int32) (hx : G.2.2.2 ≤ x) (hI : In G x ca Φ) (hc0 : Φ (x + 80) = some (o_ 4 [.ref (x + 3), .ref (x + 74), .ref (x + 81), .ref (x + 95), .int (nI tm), .int (nI r), .int (nI w), .int aq, .int xp, .int xb, .long ob, .long sm, .long (un.1)])) (hc1 : Φ (x + 81) = some (o_ 6 [.ref (x + 82), .int (nI n)])) (hcf0 : TbC G x n 99 Fs pp Φ) (hcf1 : CfA G x t s c Φ) (hcf2 : SdP G x c sn un Φ) (hcf3 : QbR G x qn qL qd qp Φ) (hn : n ≤ 12) (hr : 1 ≤ r ∧ r ≤ 1024) (hg : CfG c) (had : aq = 0 ∨ aq = 1) (hu : un = uZ un) : Ct G l yX11_setRate wsX11_setRate ({ frames := 6, cells := 0, slots := 0, locals := 146 }) 0 0 [.ref x, .int a] Φ sz (fun v Φ1 sz1 => (∃ (v8 : Int32) (n8 : Nat) (F8 : Nat → Fl) (u8 : UN) (r8 : Nat) (d8 : Nat) (p8 : Nat → Nat) (s8 : SN) (qn8 : Nat) (qL8 : Nat → Nat) (qd8 : Int32), v = some (.int v8) ∧ Φ1 (x + 80) = some (o_ 4 [.ref (x + 3), .ref (x + 74), .ref (x + 81), .ref (x + 95), .int (nI tm), .int (nI r8), .int (nI w), .int aq, .int (xp + nI d8), .int xb, .long ob, .long sm, .long ((uZ u8).1)]) ∧ Φ1 (x + 81) = some (o_ 6 [.ref (x + 82), .int (nI n8)]) ∧ TbC G x n8 99 F8 p8 Φ1 ∧ SdP G x c s8 (uZ u8) Φ1 ∧ QbR G x qn8 qL8 qd8 qp Φ1 ∧ (srS c a (n, Fs, un) r = (v8, (n8, F8, u8), r8, d8)) ∧ (n8 ≤ 12) ∧ (1 ≤ r8 ∧ r8 ≤ 1024) ∧ (spS c (nI tm) u8.2.2 u8.2.1 sn (qn, qL, qd) = (s8, qn8, qL8, qd8))) ∧ sz1 = sz ∧ In G x (ca) Φ1 ∧ Fr x (fun j9 => 46 ≤ j9 ∧ j9 < 95) Φ Φ1) := by
  refine Ct.of (cc := cX11_setRate) (maxL := 3) (ret := (some .int)) (by decide) rfl (Nat.le_of_ble_eq_true rfl) ?_
  intro p9 e9 s9 m9 w9 t9 k9 B
  show Z p9 l e9 _ s9 m9 _ w9 t9 k9 _ G 3 0 [(0, .ref x), (1, .int a)] [] Φ sz 0 0
  refine z_iload_n B dX11_setRate_0 rfl 1 rfl ?_
  refine z_iconst (v := 1) B dX11_setRate_1 rfl ?_
  refine z_icmp_lt (tgt := 12) B dX11_setRate_2 rfl (fun c_1 => ?_) (fun c_1 => ?_)
  · refine z_iconst (v := (-1)) B dX11_setRate_12 rfl ?_
    have k_1 : (1 : Int32).toInt = 1 := by decide
    have q_1 : (a.toInt < (1 : Int32).toInt) := Int32.lt_iff_toInt_lt.mp c_1
    exact z_ret_i B dX11_setRate_13 ⟨⟨_, n, Fs, un, r, 0, pp, sn, qn, qL, qd, rfl, (hc0.trans (congrArg (fun w9 : Int32 => some (o_ 4 [.ref (x + 3), .ref (x + 74), .ref (x + 81), .ref (x + 95), .int (nI tm), .int (nI r), .int (nI w), .int aq, .int w9, .int xb, .long ob, .long sm, .long (un.1)])) nadd_0)), hc1, hcf0, SdP.eq1 hu.symm hcf2, hcf3, srS_no (fun h9 => by omega), by omega, hr, spS_0 (congrArg (fun w9 : UN => w9.2.1) hu)⟩, rfl, hI, (fun b9 h9 => rfl)⟩
  · obtain ⟨n_1, e_2, e_1, rfl⟩ := nI_ofge (c := 1) (by omega) c_1
    refine z_iload_n B dX11_setRate_5 rfl 1 rfl ?_
    refine z_sipush (v := 1024) B dX11_setRate_6 rfl ?_
    refine z_icmp_le (tgt := 14) B dX11_setRate_9 rfl (fun c_2 => ?_) (fun c_2 => ?_)
    · have e_3 : n_1 ≤ 1024 := (nI_leI (a := n_1) (b := 1024) (by omega) (by omega)).mp c_2
      refine z_iload_n B dX11_setRate_14 rfl 1 rfl ?_
      refine z_aload_n B dX11_setRate_15 rfl 0 rfl ?_
      have h_1 := in0 (k := 0) hI rfl
      have h_2 : Φ x = some (o_ 13 [.ref (x + 1), .ref (x + 3), .ref (x + 24), .ref (x + 46), .ref (x + 74), .ref (x + 80), .ref (x + 132), .ref (x + 121)]) := h_1
      refine z_get (ref := "FlowExporter") (C := RX11) (T := TX11) (N := 8) (ci := 13) (v := .ref (x + 80)) B hu_X11_setRate_X11 rfl 5 (Nat.le_of_ble_eq_true rfl) hv_X11_setRate_55 rfl h_2 rfl dX11_setRate_16 ?_
      refine z_get (ref := "FlowExporter$Exporter") (C := RX2) (T := TX2) (N := 13) (ci := 4) (v := .int (nI r)) B hu_X11_setRate_X2 rfl 5 (Nat.le_of_ble_eq_true rfl) hv_X11_setRate_164 rfl hc0 rfl dX11_setRate_19 ?_
      refine z_icmp_ne (tgt := 27) B dX11_setRate_22 rfl (fun c_3 => ?_) (fun c_3 => ?_)
      · have e_4 : ¬ (n_1 = r) := fun h9 => c_3 ((nI_eq (a := n_1) (b := r) (by omega) (by omega)).mpr h9)
        refine z_aload_n B dX11_setRate_27 rfl 0 rfl ?_
        refine z_get (ref := "FlowExporter") (C := RX11) (T := TX11) (N := 8) (ci := 13) (v := .ref (x + 80)) B hu_X11_setRate_X11 rfl 5 (Nat.le_of_ble_eq_true rfl) hv_X11_setRate_55 rfl h_2 rfl dX11_setRate_28 ?_
        refine z_callV (As := []) (rest := []) B (s_X2_exportAllAndSendX G l Φ sz x (ca) tm r w aq xp xb ob sm un n Fs pp t s c sn qn qL qd qp hx hI hc0 hc1 hcf0 hcf1 hcf2 hcf3 (show n ≤ 12 by omega) hg had) (cwV 0 B.1.2.2.2.2 gX11_setRate_X2_exportAllAndSend rfl rfl rfl (by decide +kernel) ⟨Nat.le_of_ble_eq_true rfl, Nat.le_of_ble_eq_true rfl⟩) hc0 rfl rfl rfl rfl (Nat.le_of_ble_eq_true rfl) dX11_setRate_31 ⟨Nat.le_of_ble_eq_true rfl, Nat.le_of_ble_eq_true rfl⟩ (fun r_1 Φ1 sz1 st1 hp1 hs1 => ?_)
        obtain ⟨⟨f_1, f_2, f_3, f_4, n_2, f_5, v_1, rfl, h_3, h_4, hcg1, hcg2, hcg3, e_5, e_6⟩, hq1, hI1, hF1⟩ := hp1
        subst sz1
        replace hs1 : st1 = [.int (nI n)] := hs1
        subst st1
        replace hI1 : In G x (ca) Φ1 := hI1
        replace e_5 : exI c (n, Fs, un) n = (0, f_1, f_2) := e_5
        replace e_6 : spS c (nI tm) f_2.2.2 f_2.2.1 sn (qn, qL, qd) = (f_4, n_2, f_5, v_1) := e_6
        refine z_istore_n (lv' := [(2, .int (nI n)), (0, .ref x), (1, .int (nI n_1))]) B dX11_setRate_34 rfl (Nat.le_of_ble_eq_true rfl) rfl ?_
        refine z_aload_n B dX11_setRate_35 rfl 1 rfl ?_
        have h_5 : Φ1 x = some (o_ 13 [.ref (x + 1), .ref (x + 3), .ref (x + 24), .ref (x + 46), .ref (x + 74), .ref (x + 80), .ref (x + 132), .ref (x + 121)]) := ((hF1 x fq_505).trans h_2)
        refine z_get (ref := "FlowExporter") (C := RX11) (T := TX11) (N := 8) (ci := 13) (v := .ref (x + 80)) B hu_X11_setRate_X11 rfl 5 (Nat.le_of_ble_eq_true rfl) hv_X11_setRate_55 rfl h_5 rfl dX11_setRate_36 ?_
        refine z_iload_n B dX11_setRate_39 rfl 2 rfl ?_
        refine z_put (ref := "FlowExporter$Exporter") (C := RX2) (T := TX2) (N := 13) (ci := 4) (v := .int (nI n_1)) B hu_X11_setRate_X2 tyX2 tyX2_ok nmX2 rfl 5 (Nat.le_of_ble_eq_true rfl) hv_X11_setRate_164 rfl (Or.inl rfl) h_3 (Nat.le_trans hx (Nat.le_add_right x 80)) rfl rfl (Nat.le_of_ble_eq_true rfl) dX11_setRate_40 (fun Φ2 hΦ1 => ?_)
        have h_6 : Φ2 (x + 80) = some (o_ 4 [.ref (x + 3), .ref (x + 74), .ref (x + 81), .ref (x + 95), .int (nI tm), .int (nI n_1), .int (nI w), .int aq, .int (xp + nI n), .int xb, .long ob, .long sm, .long ((uZ f_2).1)]) := fset_at hΦ1
        have hI2 : In G x (ca) Φ2 := In.put (k := 80) hI1 hΦ1 (ok16 (k := 80) rfl ⟨nI tm, nI n_1, nI w, aq, xp + nI n, xb, ob, sm, (uZ f_2).1, rfl, had⟩)
        refine z_iload_n B dX11_setRate_43 rfl 0 rfl ?_
        have hcg4 : TbC G x 0 99 f_1 f_3 Φ2 := (TbC.off (k := 80) hcg1 hΦ1 (by omega))
        have h_7 : Φ2 (x + 81) = some (o_ 6 [.ref (x + 82), .int (nI 0)]) := ((fset_fr hΦ1 (ne_off (x := x) (i := 81) (j := 80) rfl)).trans h_4)
        have hcg5 : SdP G x c f_4 (uZ f_2) Φ2 := (SdP.off (k := 80) hcg2 hΦ1 (by omega))
        have hcg6 : QbR G x n_2 f_5 v_1 qp Φ2 := (QbR.offw (k := 80) hcg3 hΦ1 (by omega))
        exact z_ret_i B dX11_setRate_44 ⟨⟨_, 0, f_1, f_2, n_1, n, f_3, f_4, n_2, f_5, v_1, rfl, h_6, h_7, hcg4, hcg5, hcg6, srS_ne (by omega) (by omega) e_5, by omega, by omega, e_6⟩, rfl, hI2, (fun b9 h9 => ((fset_fr hΦ1 (fun h8 => h9 (80) h8 (show 46 ≤ 80 ∧ 80 < 95 by decide))).trans ((hF1 b9 h9).trans rfl)))⟩
      · have e_7 : n_1 = r := (nI_eq (a := n_1) (b := r) (by omega) (by omega)).mp c_3
        refine z_iconst (v := 0) B dX11_setRate_25 rfl ?_
        exact z_ret_i B dX11_setRate_26 ⟨⟨_, n, Fs, un, r, 0, pp, sn, qn, qL, qd, rfl, (hc0.trans (congrArg (fun w9 : Int32 => some (o_ 4 [.ref (x + 3), .ref (x + 74), .ref (x + 81), .ref (x + 95), .int (nI tm), .int (nI r), .int (nI w), .int aq, .int w9, .int xb, .long ob, .long sm, .long un.1])) nadd_0)), hc1, hcf0, SdP.eq1 hu.symm hcf2, hcf3, srS_eq (by omega) (by omega), by omega, hr, spS_0 (congrArg (fun w9 : UN => w9.2.1) hu)⟩, rfl, hI, (fun b9 h9 => rfl)⟩
    · have e_8 : ¬ (n_1 ≤ 1024) := fun h9 => c_2 ((nI_leI (a := n_1) (b := 1024) (by omega) (by omega)).mpr h9)
      refine z_iconst (v := (-1)) B dX11_setRate_12 rfl ?_
      have k_2 : (nI n_1).toInt = ((n_1 : Nat) : Int) := nI_toInt (by omega)
      have k_3 : (1 : Int32).toInt = 1 := by decide
      have q_2 : ¬ ((nI n_1).toInt < (1 : Int32).toInt) := fun h9 => c_1 (Int32.lt_iff_toInt_lt.mpr h9)
      have k_4 : (1024 : Int32).toInt = 1024 := by decide
      have q_3 : ¬ ((nI n_1).toInt ≤ (1024 : Int32).toInt) := fun h9 => c_2 (Int32.le_iff_toInt_le.mpr h9)
      exact z_ret_i B dX11_setRate_13 ⟨⟨_, n, Fs, un, r, 0, pp, sn, qn, qL, qd, rfl, (hc0.trans (congrArg (fun w9 : Int32 => some (o_ 4 [.ref (x + 3), .ref (x + 74), .ref (x + 81), .ref (x + 95), .int (nI tm), .int (nI r), .int (nI w), .int aq, .int w9, .int xb, .long ob, .long sm, .long un.1])) nadd_0)), hc1, hcf0, SdP.eq1 hu.symm hcf2, hcf3, srS_no (fun h9 => by omega), by omega, hr, spS_0 (congrArg (fun w9 : UN => w9.2.1) hu)⟩, rfl, hI, (fun b9 h9 => rfl)⟩

theorem fq_753 {x : Nat} : ∀ j9 : Nat, x + 81 = x + j9 → (74 ≤ j9 ∧ j9 < 80) → False := by
  intro j9 h1 h2
  omega

theorem fq_754 : ∀ j9 : Nat, (74 ≤ j9 ∧ j9 < 80) → ¬ (82 ≤ j9 ∧ j9 < 95) := by
  intro j9 h
  omega

set_option maxHeartbeats 4000000 in
set_option maxRecDepth 100000 in
theorem s_X11_restartExporterX (G : EnvG) (l : Launch) (Φ : Hm) (sz x ca : Nat) (tm : Nat) (r : Nat) (w : Nat) (aq : Int32) (xp : Int32) (xb : Int32) (ob : Int64) (sm : Int64) (un : UN) (n : Nat) (Fs : Nat → Fl) (pp : Nat → Nat) (hx : G.2.2.2 ≤ x) (hI : In G x ca Φ) (hc0 : Φ (x + 80) = some (o_ 4 [.ref (x + 3), .ref (x + 74), .ref (x + 81), .ref (x + 95), .int (nI tm), .int (nI r), .int (nI w), .int aq, .int xp, .int xb, .long ob, .long sm, .long (un.1)])) (hc1 : Φ (x + 81) = some (o_ 6 [.ref (x + 82), .int (nI n)])) (hcf0 : TbC G x n 99 Fs pp Φ) (had : aq = 0 ∨ aq = 1) : Ct G l yX11_restartExporter wsX11_restartExporter ({ frames := 3, cells := 0, slots := 0, locals := 63 }) 0 0 [.ref x] Φ sz (fun v Φ1 sz1 => (v = some (.int (nI n)) ∧ Φ1 (x + 80) = some (o_ 4 [.ref (x + 3), .ref (x + 74), .ref (x + 81), .ref (x + 95), .int (nI tm), .int (nI r), .int (nI w), .int aq, .int xp, .int xb, .long ob, .long sm, .long (un.1)]) ∧ Φ1 (x + 81) = some (o_ 6 [.ref (x + 82), .int (nI 0)]) ∧ TbC G x 0 99 Fs pp Φ1) ∧ sz1 = sz ∧ In G x (ca) Φ1 ∧ Fr x (fun j9 => 74 ≤ j9 ∧ j9 < 82) Φ Φ1) := by
  refine Ct.of (cc := cX11_restartExporter) (maxL := 2) (ret := (some .int)) (by decide) rfl (Nat.le_of_ble_eq_true rfl) ?_
  intro p9 e9 s9 m9 w9 t9 k9 B
  show Z p9 l e9 _ s9 m9 _ w9 t9 k9 _ G 2 0 [(0, .ref x)] [] Φ sz 0 0
  refine z_aload_n B dX11_restartExporter_0 rfl 0 rfl ?_
  have h_1 := in0 (k := 0) hI rfl
  have h_2 : Φ x = some (o_ 13 [.ref (x + 1), .ref (x + 3), .ref (x + 24), .ref (x + 46), .ref (x + 74), .ref (x + 80), .ref (x + 132), .ref (x + 121)]) := h_1
  refine z_get (ref := "FlowExporter") (C := RX11) (T := TX11) (N := 8) (ci := 13) (v := .ref (x + 80)) B hu_X11_restartExporter_X11 rfl 5 (Nat.le_of_ble_eq_true rfl) hv_X11_restartExporter_55 rfl h_2 rfl dX11_restartExporter_1 ?_
  refine z_get (ref := "FlowExporter$Exporter") (C := RX2) (T := TX2) (N := 13) (ci := 4) (v := .ref (x + 81)) B hu_X11_restartExporter_X2 rfl 2 (Nat.le_of_ble_eq_true rfl) hv_X11_restartExporter_146 rfl hc0 rfl dX11_restartExporter_4 ?_
  refine z_get (ref := "FlowExporter$FlowTable") (C := RX4) (T := TX4) (N := 2) (ci := 6) (v := .int (nI n)) B hu_X11_restartExporter_X4 rfl 1 (Nat.le_of_ble_eq_true rfl) hv_X11_restartExporter_150 rfl hc1 rfl dX11_restartExporter_7 ?_
  refine z_istore_n (lv' := [(1, .int (nI n)), (0, .ref x)]) B dX11_restartExporter_10 rfl (Nat.le_of_ble_eq_true rfl) rfl ?_
  refine z_aload_n B dX11_restartExporter_11 rfl 1 rfl ?_
  refine z_get (ref := "FlowExporter") (C := RX11) (T := TX11) (N := 8) (ci := 13) (v := .ref (x + 80)) B hu_X11_restartExporter_X11 rfl 5 (Nat.le_of_ble_eq_true rfl) hv_X11_restartExporter_55 rfl h_2 rfl dX11_restartExporter_12 ?_
  refine z_get (ref := "FlowExporter$Exporter") (C := RX2) (T := TX2) (N := 13) (ci := 4) (v := .ref (x + 81)) B hu_X11_restartExporter_X2 rfl 2 (Nat.le_of_ble_eq_true rfl) hv_X11_restartExporter_146 rfl hc0 rfl dX11_restartExporter_15 ?_
  refine z_iconst (v := 0) B dX11_restartExporter_18 rfl ?_
  refine z_put (ref := "FlowExporter$FlowTable") (C := RX4) (T := TX4) (N := 2) (ci := 6) (v := .int 0) B hu_X11_restartExporter_X4 tyX4 tyX4_ok nmX4 rfl 1 (Nat.le_of_ble_eq_true rfl) hv_X11_restartExporter_150 rfl (Or.inl rfl) hc1 (Nat.le_trans hx (Nat.le_add_right x 81)) rfl rfl (Nat.le_of_ble_eq_true rfl) dX11_restartExporter_19 (fun Φ1 hΦ1 => ?_)
  have h_3 : Φ1 (x + 81) = some (o_ 6 [.ref (x + 82), .int 0]) := fset_at hΦ1
  have hI1 : In G x (ca) Φ1 := In.put (k := 81) hI hΦ1 (ok17 (k := 81) rfl ⟨0, rfl, (show 0 ≤ 12 by omega)⟩)
  refine z_aload_n B dX11_restartExporter_22 rfl 1 rfl ?_
  have h_4 : Φ1 x = some (o_ 13 [.ref (x + 1), .ref (x + 3), .ref (x + 24), .ref (x + 46), .ref (x + 74), .ref (x + 80), .ref (x + 132), .ref (x + 121)]) := ((fset_fr hΦ1 (ne_off (x := x) (i := 0) (j := 81) rfl)).trans h_2)
  refine z_get (ref := "FlowExporter") (C := RX11) (T := TX11) (N := 8) (ci := 13) (v := .ref (x + 74)) B hu_X11_restartExporter_X11 rfl 4 (Nat.le_of_ble_eq_true rfl) hv_X11_restartExporter_46 rfl h_4 rfl dX11_restartExporter_23 ?_
  obtain ⟨n_1, v_1, v_2, v_3, h_5, b_1⟩ := in13 (k := 74) hI1 rfl
  have h_6 : Φ1 (x + 74) = some (o_ 10 [.ref (x + 3), .ref (x + 46), .ref (x + 75), .ref (x + 77), .int (nI n_1), .ref (x + 78), .ref (x + 79), .int v_1, .long v_2, .int v_3]) := h_5
  refine z_callV (As := []) (rest := []) B (s_X8_restart G l Φ1 sz x (ca)  hx hI1 ) (cwV 0 B.1.2.2.2.2 gX11_restartExporter_X8_restart rfl rfl rfl (by decide +kernel) ⟨Nat.le_of_ble_eq_true rfl, Nat.le_of_ble_eq_true rfl⟩) h_6 rfl rfl rfl rfl (Nat.le_of_ble_eq_true rfl) dX11_restartExporter_26 ⟨Nat.le_of_ble_eq_true rfl, Nat.le_of_ble_eq_true rfl⟩ (fun r_1 Φ2 sz1 st1 hp1 hs1 => ?_)
  obtain ⟨rfl, hq1, hI2, hF1⟩ := hp1
  subst sz1
  replace hs1 : st1 = [] := hs1
  subst st1
  replace hI2 : In G x (ca) Φ2 := hI2
  refine z_iload_n B dX11_restartExporter_29 rfl 0 rfl ?_
  have h_7 : Φ2 (x + 80) = some (o_ 4 [.ref (x + 3), .ref (x + 74), .ref (x + 81), .ref (x + 95), .int (nI tm), .int (nI r), .int (nI w), .int aq, .int xp, .int xb, .long ob, .long sm, .long (un.1)]) := ((hF1 (x + 80) fq_394).trans ((fset_fr hΦ1 (ne_off (x := x) (i := 80) (j := 81) rfl)).trans hc0))
  have h_8 : Φ2 (x + 81) = some (o_ 6 [.ref (x + 82), .int 0]) := ((hF1 (x + 81) fq_753).trans h_3)
  have hcg1 : TbC G x n 99 Fs pp Φ2 := (TbC.fr (TbC.off (k := 81) hcf0 hΦ1 (by omega)) hF1 (fun j9 h7 => fq_754 j9 h7))
  exact z_ret_i B dX11_restartExporter_30 ⟨⟨rfl, h_7, h_8, (TbR.less hcg1 (Nat.zero_le _))⟩, rfl, hI2, (fun b9 h9 => ((hF1 b9 (fun j9 h8 h7 => h9 j9 h8 (fq_441 j9 h7))).trans ((fset_fr hΦ1 (fun h8 => h9 (81) h8 (show 74 ≤ 81 ∧ 81 < 82 by decide))).trans rfl)))⟩

set_option maxHeartbeats 4000000 in
set_option maxRecDepth 100000 in
theorem s_X11_setSeedX (G : EnvG) (l : Launch) (Φ : Hm) (sz x ca : Nat) (tm : Nat) (r : Nat) (w : Nat) (aq : Int32) (xp : Int32) (xb : Int32) (ob : Int64) (sm : Int64) (un : UN) (a : Int32) (hx : G.2.2.2 ≤ x) (hI : In G x ca Φ) (hc0 : Φ (x + 80) = some (o_ 4 [.ref (x + 3), .ref (x + 74), .ref (x + 81), .ref (x + 95), .int (nI tm), .int (nI r), .int (nI w), .int aq, .int xp, .int xb, .long ob, .long sm, .long (un.1)])) (hw : w < 2147483648) (had : aq = 0 ∨ aq = 1) : Ct G l yX11_setSeed wsX11_setSeed ({ frames := 0, cells := 0, slots := 0, locals := 0 }) 0 0 [.ref x, .int a] Φ sz (fun v Φ1 sz1 => (∃ r9 : Int32, v = some (.int r9) ∧ (r9 = 0 ∨ r9 = 1) ∧ Φ1 (x + 80) = some (o_ 4 [.ref (x + 3), .ref (x + 74), .ref (x + 81), .ref (x + 95), .int (nI tm), .int (nI r), .int (nI (sdN a w)), .int aq, .int xp, .int xb, .long ob, .long sm, .long (un.1)])) ∧ sz1 = sz ∧ In G x (ca) Φ1 ∧ Fr x (fun j9 => j9 = 80) Φ Φ1) := by
  refine Ct.of (cc := cX11_setSeed) (maxL := 2) (ret := (some .boolean)) (by decide) rfl (Nat.le_of_ble_eq_true rfl) ?_
  intro p9 e9 s9 m9 w9 t9 k9 B
  show Z p9 l e9 _ s9 m9 _ w9 t9 k9 _ G 2 0 [(0, .ref x), (1, .int a)] [] Φ sz 0 0
  refine z_iload_n B dX11_setSeed_0 rfl 1 rfl ?_
  refine z_if_ge (tgt := 6) B dX11_setSeed_1 rfl (fun c_1 => ?_) (fun c_1 => ?_)
  · obtain ⟨n_1, e_1, rfl⟩ := nI_of (Int32.not_lt.mpr c_1)
    refine z_aload_n B dX11_setSeed_6 rfl 0 rfl ?_
    have h_1 := in0 (k := 0) hI rfl
    have h_2 : Φ x = some (o_ 13 [.ref (x + 1), .ref (x + 3), .ref (x + 24), .ref (x + 46), .ref (x + 74), .ref (x + 80), .ref (x + 132), .ref (x + 121)]) := h_1
    refine z_get (ref := "FlowExporter") (C := RX11) (T := TX11) (N := 8) (ci := 13) (v := .ref (x + 80)) B hu_X11_setSeed_X11 rfl 5 (Nat.le_of_ble_eq_true rfl) hv_X11_setSeed_55 rfl h_2 rfl dX11_setSeed_7 ?_
    refine z_iload_n B dX11_setSeed_10 rfl 1 rfl ?_
    refine z_put (ref := "FlowExporter$Exporter") (C := RX2) (T := TX2) (N := 13) (ci := 4) (v := .int (nI n_1)) B hu_X11_setSeed_X2 tyX2 tyX2_ok nmX2 rfl 6 (Nat.le_of_ble_eq_true rfl) hv_X11_setSeed_175 rfl (Or.inl rfl) hc0 (Nat.le_trans hx (Nat.le_add_right x 80)) rfl rfl (Nat.le_of_ble_eq_true rfl) dX11_setSeed_11 (fun Φ1 hΦ1 => ?_)
    have h_3 : Φ1 (x + 80) = some (o_ 4 [.ref (x + 3), .ref (x + 74), .ref (x + 81), .ref (x + 95), .int (nI tm), .int (nI r), .int (nI n_1), .int aq, .int xp, .int xb, .long ob, .long sm, .long un.1]) := fset_at hΦ1
    have hI1 : In G x (ca) Φ1 := In.put (k := 80) hI hΦ1 (ok16 (k := 80) rfl ⟨nI tm, nI r, nI n_1, aq, xp, xb, ob, sm, un.1, rfl, had⟩)
    refine z_iconst (v := 1) B dX11_setSeed_14 rfl ?_
    have k_1 : (nI n_1).toInt = ((n_1 : Nat) : Int) := nI_toInt (by omega)
    have k_2 : (0 : Int32).toInt = 0 := by decide
    have q_1 : ((0 : Int32).toInt ≤ (nI n_1).toInt) := Int32.le_iff_toInt_le.mp c_1
    exact z_ret_z B dX11_setSeed_15 (by decide) ⟨⟨1, rfl, Or.inr rfl, (h_3.trans (congrArg (fun w9 : Nat => some (o_ 4 [.ref (x + 3), .ref (x + 74), .ref (x + 81), .ref (x + 95), .int (nI tm), .int (nI r), .int (nI w9), .int aq, .int xp, .int xb, .long ob, .long sm, .long (un.1)])) (sdN_ok (by omega)).symm))⟩, rfl, hI1, (fun b9 h9 => ((fset_fr hΦ1 (fun h8 => h9 (80) h8 (show 80 = 80 by decide))).trans rfl))⟩
  · refine z_iconst (v := 0) B dX11_setSeed_4 rfl ?_
    have k_3 : (0 : Int32).toInt = 0 := by decide
    have q_2 : ¬ ((0 : Int32).toInt ≤ a.toInt) := fun h9 => c_1 (Int32.le_iff_toInt_le.mpr h9)
    exact z_ret_z B dX11_setSeed_5 (by decide) ⟨⟨0, rfl, Or.inl rfl, (hc0.trans (congrArg (fun w9 : Nat => some (o_ 4 [.ref (x + 3), .ref (x + 74), .ref (x + 81), .ref (x + 95), .int (nI tm), .int (nI r), .int (nI w9), .int aq, .int xp, .int xb, .long ob, .long sm, .long (un.1)])) (sdN_no (by omega)).symm))⟩, rfl, hI, (fun b9 h9 => rfl)⟩

theorem rq_by {a : Int64} {b d : Int32} (h : ¬ RqP a b d) : ∃ n : Nat, (1 ≤ n ∧ n ≤ 65535) ∧ b = nI n := by
  unfold RqP at h
  refine ⟨b.toInt.toNat, by omega, ?_⟩
  apply Int32.toInt_inj.mp
  rw [nI_toInt (by omega)]
  omega

theorem hu_X11_observeMany_X11 : ∀ w ∈ u_ws RX11 TX11 8, w ∈ wsX11_observeMany := fun _ h => List.mem_cons_of_mem _ (List.mem_append_left _ (List.mem_append_left _ (List.mem_append_left _ (List.mem_append_left _ (List.mem_append_left _ (List.mem_append_left _ (List.mem_append_left _ (List.mem_append_left _ (List.mem_append_left _ (List.mem_append_left _ (List.mem_append_left _ (List.mem_append_right _ (h)))))))))))))

theorem hv_X11_observeMany_55 : Cond.fieldLink RX11 55 "FlowExporter" (TX11 5).2.1 (TX11 5).2.2.1 ∈ wsX11_observeMany := List.mem_cons_of_mem _ (List.mem_append_left _ (List.mem_append_left _ (List.mem_append_left _ (List.mem_append_left _ (List.mem_append_left _ (List.mem_append_left _ (List.mem_append_left _ (List.mem_append_left _ (List.mem_append_left _ (List.mem_append_left _ (List.mem_append_left _ (List.mem_append_left _ (List.mem_append_left _ (List.mem_of_getElem? (i := 0) rfl))))))))))))))

set_option maxHeartbeats 4000000 in
set_option maxRecDepth 100000 in
theorem s_X11_observeManyX (G : EnvG) (l : Launch) (hl9 : l.stackTraces = false) (Φ : Hm) (sz x ca : Nat) (tm : Nat) (r : Nat) (w : Nat) (aq : Int32) (xp : Int32) (xb : Int32) (ob : Int64) (sm : Int64) (un : UN) (n : Nat) (Fs : Nat → Fl) (pp : Nat → Nat) (nT : Nat) (Ft : Nat → Fl) (pt : Nat → Nat) (t : Nat) (s : Nat) (c : Cf) (sn : SN) (qn : Nat) (qL : Nat → Nat) (qd : Int32) (qp : Nat → Nat) (a : Int32) (b : Int32) (d : Int32) (f : Int32) (g : Int32) (h : Int32) (hx : G.2.2.2 ≤ x) (hI : In G x ca Φ) (hc0 : Φ (x + 80) = some (o_ 4 [.ref (x + 3), .ref (x + 74), .ref (x + 81), .ref (x + 95), .int (nI tm), .int (nI r), .int (nI w), .int aq, .int xp, .int xb, .long ob, .long sm, .long (un.1)])) (hc1 : Φ (x + 81) = some (o_ 6 [.ref (x + 82), .int (nI n)])) (hc2 : Φ (x + 95) = some (o_ 6 [.ref (x + 96), .int (nI nT)])) (hcf0 : TbC G x n 99 Fs pp Φ) (hcf1 : TbT G x nT 99 Ft pt Φ) (hcf2 : CfA G x t s c Φ) (hcf3 : SdP G x c sn un Φ) (hcf4 : QbR G x qn qL qd qp Φ) (hn : n ≤ 12) (hnT : nT ≤ 24) (htm : tm ≤ 1000000) (hr : 1 ≤ r ∧ r ≤ 1024) (hw : w < 2147483648) (hg : CfG c) (had : aq = 0 ∨ aq = 1) : CtB G l yX11_observeMany wsX11_observeMany ({ frames := 7, cells := 1, slots := 6, locals := 151 }) 1 6 [.ref x, .int a, .int b, .int d, .int f, .int g, .int h] Φ sz (fun v Φ1 sz1 => ((∃ (n8 : Nat) (F8 : Nat → Fl) (u8 : UN) (w8 : Nat) (k8 : Nat) (d8 : Nat) (p8 : Nat → Nat) (m8 : Nat) (G8 : Nat → Fl) (q8 : Nat → Nat) (s8 : SN) (qn8 : Nat) (qL8 : Nat → Nat) (qd8 : Int32), v = some (.int (nI k8)) ∧ Φ1 (x + 80) = some (o_ 4 [.ref (x + 3), .ref (x + 74), .ref (x + 81), .ref (x + 95), .int (nI tm), .int (nI r), .int (nI w8), .int aq, .int (xp + nI d8), .int xb, .long (ob + h.toInt64), .long (sm + (nI k8).toInt64), .long ((uZ u8).1)]) ∧ Φ1 (x + 81) = some (o_ 6 [.ref (x + 82), .int (nI n8)]) ∧ Φ1 (x + 95) = some (o_ 6 [.ref (x + 96), .int (nI m8)]) ∧ TbC G x n8 99 F8 p8 Φ1 ∧ TbT G x m8 99 G8 q8 Φ1 ∧ SdP G x c s8 (uZ u8) Φ1 ∧ QbR G x qn8 qL8 qd8 qp Φ1 ∧ (tkI c (kyN a b d f) g.toInt64 tm r ((n, Fs, un), w, 0, 0) h.toNatClampNeg = ((n8, F8, u8), w8, k8, d8)) ∧ (rmS (kyN a b d f) g.toInt64 h.toNatClampNeg tm (nT, Ft) = (m8, G8)) ∧ (n8 ≤ 12) ∧ (m8 ≤ 24) ∧ (w8 < 2147483648) ∧ (spS c (nI tm) u8.2.2 u8.2.1 sn (qn, qL, qd) = (s8, qn8, qL8, qd8))) ∧ ¬ RqP (keyF a b d f) g h) ∧ sz1 = sz ∧ In G x (ca) Φ1 ∧ Fr x (fun j9 => 46 ≤ j9 ∧ j9 < 121) Φ Φ1) (fun Φ1 => (RqP (keyF a b d f) g h) ∧ In G x ca Φ1 ∧ Fr x (fun j9 => False) Φ Φ1) [xIA] := by
  refine CtB.of (cc := cX11_observeMany) (maxL := 9) (ret := (some .int)) (by decide) rfl (Nat.le_of_ble_eq_true rfl) ?_
  intro p9 e9 s9 m9 w9 t9 k9 B htab9
  show Z p9 l e9 _ s9 m9 _ w9 t9 k9 _ G 9 0 [(0, .ref x), (1, .int a), (2, .int b), (3, .int d), (4, .int f), (5, .int g), (6, .int h)] [] Φ sz 0 0
  refine z_iload_n B dX11_observeMany_0 rfl 1 rfl ?_
  refine z_iload_n B dX11_observeMany_1 rfl 2 rfl ?_
  refine z_iload_n B dX11_observeMany_2 rfl 3 rfl ?_
  refine z_iload B dX11_observeMany_3 4 rfl ?_
  refine z_callS (As := [.int a, .int b, .int d, .int f]) (rest := []) B (s_X3_keyOf G l Φ sz x (ca) a b d f hx hI ) (va_cwS 4 B.1.2.2.2.2 gX11_observeMany_X3_keyOf rfl rfl rfl (by decide +kernel) ⟨Nat.le_of_ble_eq_true rfl, Nat.le_of_ble_eq_true rfl⟩) rfl rfl (Nat.le_of_ble_eq_true rfl) dX11_observeMany_5 ⟨Nat.le_of_ble_eq_true rfl, Nat.le_of_ble_eq_true rfl⟩ (fun r_1 Φ1 sz1 st1 hp1 hs1 => ?_)
  obtain ⟨rfl, hq1, hI1, hF1⟩ := hp1
  subst sz1
  replace hs1 : st1 = [.long (keyF a b d f)] := hs1
  subst st1
  replace hI1 : In G x (ca) Φ1 := hI1
  refine z_lstore (lv' := [(7, .long (keyF a b d f)), (0, .ref x), (1, .int a), (2, .int b), (3, .int d), (4, .int f), (5, .int g), (6, .int h)]) B dX11_observeMany_8 (Nat.le_of_ble_eq_true rfl) rfl ?_
  refine z_lload B dX11_observeMany_10 0 rfl ?_
  refine z_iload B dX11_observeMany_12 6 rfl ?_
  refine z_iload B dX11_observeMany_14 7 rfl ?_
  refine zb_callS (As := [.long (keyF a b d f), .int g, .int h]) (rest := []) B htab9 (s_X11_requirePackets G l hl9 Φ1 sz x (ca) (keyF a b d f) g h hx hI1 ) (va_cwS 3 B.1.2.2.2.2 gX11_observeMany_X11_requirePackets rfl rfl rfl (by decide +kernel) ⟨Nat.le_of_ble_eq_true rfl, Nat.le_of_ble_eq_true rfl⟩) rfl rfl (Nat.le_of_ble_eq_true rfl) dX11_observeMany_16 ⟨Nat.le_of_ble_eq_true rfl, Nat.le_of_ble_eq_true rfl⟩ ⟨Nat.le_of_ble_eq_true rfl, Nat.le_of_ble_eq_true rfl⟩ (by decide) (fun Φ9 h9 => ⟨h9.1, h9.2.1, fun b9 h8 => ((h9.2.2 b9 h8).trans ((fun b9 h9 => ((hF1 b9 (fun j9 h8 h7 => (show False from h7).elim)).trans rfl)) b9 h8))⟩) (fun r_2 Φ2 sz2 st2 hp2 hs2 => ?_)
  obtain ⟨⟨rfl, ⟨n_1, b_1, rfl⟩, hq3⟩, hq2, hI2, hF2⟩ := hp2
  subst sz2
  replace hs2 : st2 = [] := hs2
  subst st2
  replace hI2 : In G x (ca) Φ2 := hI2
  replace b_1 : n_1 ≤ 200 := b_1
  replace hq3 : ¬ RqP (keyF a b d f) g (nI n_1) := hq3
  refine z_aload_n B dX11_observeMany_19 rfl 1 rfl ?_
  have h_1 := in0 (k := 0) hI2 rfl
  have h_2 : Φ2 x = some (o_ 13 [.ref (x + 1), .ref (x + 3), .ref (x + 24), .ref (x + 46), .ref (x + 74), .ref (x + 80), .ref (x + 132), .ref (x + 121)]) := h_1
  refine z_get (ref := "FlowExporter") (C := RX11) (T := TX11) (N := 8) (ci := 13) (v := .ref (x + 80)) B hu_X11_observeMany_X11 rfl 5 (Nat.le_of_ble_eq_true rfl) hv_X11_observeMany_55 rfl h_2 rfl dX11_observeMany_20 ?_
  refine z_lload B dX11_observeMany_23 0 rfl ?_
  have hk9 : KyP a b d f := Classical.byContradiction (fun h9 => hq3 (Or.inl (keyF_no h9)))
  have hk8 := keyF_N hk9
  obtain ⟨n_2, b_2, rfl⟩ := rq_by hq3
  refine z_top (st1 := [.long (Int64.ofNat (kyN a b d f)), .ref (x + 80)]) (congrArg (fun w9 : Int64 => ([.long w9, .ref (x + 80)] : List Value)) hk8.1) ?_
  refine z_iload B dX11_observeMany_25 6 rfl ?_
  refine z_iload B dX11_observeMany_27 7 rfl ?_
  have h_3 : Φ2 (x + 80) = some (o_ 4 [.ref (x + 3), .ref (x + 74), .ref (x + 81), .ref (x + 95), .int (nI tm), .int (nI r), .int (nI w), .int aq, .int xp, .int xb, .long ob, .long sm, .long un.1]) := ((hF2 (x + 80) (fun j9 h8 h7 => (show False from h7).elim)).trans ((hF1 (x + 80) (fun j9 h8 h7 => (show False from h7).elim)).trans hc0))
  have h_4 : Φ2 (x + 81) = some (o_ 6 [.ref (x + 82), .int (nI n)]) := ((hF2 (x + 81) (fun j9 h8 h7 => (show False from h7).elim)).trans ((hF1 (x + 81) (fun j9 h8 h7 => (show False from h7).elim)).trans hc1))
  have h_5 : Φ2 (x + 95) = some (o_ 6 [.ref (x + 96), .int (nI nT)]) := ((hF2 (x + 95) (fun j9 h8 h7 => (show False from h7).elim)).trans ((hF1 (x + 95) (fun j9 h8 h7 => (show False from h7).elim)).trans hc2))
  have hcg1 : TbC G x n 99 Fs pp Φ2 := (TbC.fr (TbC.fr hcf0 hF1 (fun j9 h7 => (show False from h7).elim)) hF2 (fun j9 h7 => (show False from h7).elim))
  have hcg2 : TbT G x nT 99 Ft pt Φ2 := (TbT.fr (TbT.fr hcf1 hF1 (fun j9 h7 => (show False from h7).elim)) hF2 (fun j9 h7 => (show False from h7).elim))
  have hcg3 : CfA G x t s c Φ2 := (CfA.fr (CfA.fr hcf2 hF1 (fun j9 h7 => (show False from h7).elim)) hF2 (fun j9 h7 => (show False from h7).elim))
  have hcg4 : SdP G x c sn un Φ2 := (SdP.fr (SdP.fr hcf3 hF1 (fun j9 h7 => (show False from h7).elim)) hF2 (fun j9 h7 => (show False from h7).elim))
  have hcg5 : QbR G x qn qL qd qp Φ2 := (QbR.frw (QbR.frw hcf4 hF1 (fun j9 h7 => (show False from h7).elim)) hF2 (fun j9 h7 => (show False from h7).elim))
  refine z_callV (As := [.long (Int64.ofNat (kyN a b d f)), .int (nI n_2), .int (nI n_1)]) (rest := []) B (s_X2_takePacketsX G l Φ2 sz x (ca) tm r w aq xp xb ob sm un n Fs pp nT Ft pt t s c sn qn qL qd qp (kyN a b d f) n_2 n_1 hx hI2 h_3 h_4 h_5 hcg1 hcg2 hcg3 hcg4 hcg5 (show n ≤ 12 by omega) (show nT ≤ 24 by omega) hk8.2 (show tm ≤ 1000000 by omega) (show 1 ≤ r ∧ r ≤ 1024 by omega) (show w < 2147483648 by omega) (show n_1 ≤ 200 by omega) hg had) (cwV 3 B.1.2.2.2.2 gX11_observeMany_X2_takePackets rfl rfl rfl (by decide +kernel) ⟨Nat.le_of_ble_eq_true rfl, Nat.le_of_ble_eq_true rfl⟩) h_3 rfl rfl rfl rfl (Nat.le_of_ble_eq_true rfl) dX11_observeMany_29 ⟨Nat.le_of_ble_eq_true rfl, Nat.le_of_ble_eq_true rfl⟩ (fun r_3 Φ3 sz3 st3 hp3 hs3 => ?_)
  obtain ⟨⟨n_3, f_1, f_2, n_4, n_5, n_6, f_3, n_7, f_4, f_5, f_6, n_8, f_7, v_1, rfl, h_6, h_7, h_8, hcg6, hcg7, hcg8, hcg9, e_1, e_2, e_3, e_4, e_5, e_6, e_7⟩, hq4, hI3, hF3⟩ := hp3
  subst sz3
  replace hs3 : st3 = [.int (nI n_5)] := hs3
  subst st3
  replace hI3 : In G x (ca) Φ3 := hI3
  replace e_1 : tkI c (kyN a b d f) (nI n_2).toInt64 tm r ((n, Fs, un), w, 0, 0) n_1 = ((n_3, f_1, f_2), n_4, n_5, n_6) := e_1
  replace e_2 : rmS (kyN a b d f) (nI n_2).toInt64 n_1 tm (nT, Ft) = (n_7, f_4) := e_2
  replace e_3 : n_3 ≤ 12 := e_3
  replace e_4 : n_7 ≤ 24 := e_4
  replace e_5 : n_4 < 2147483648 := e_5
  replace e_6 : n_5 ≤ n_1 := e_6
  replace e_7 : spS c (nI tm) f_2.2.2 f_2.2.1 sn (qn, qL, qd) = (f_6, n_8, f_7, v_1) := e_7
  exact zb_ret (Nat.le_of_ble_eq_true rfl) (Nat.le_of_ble_eq_true rfl) (z_ret_i B dX11_observeMany_32 ⟨⟨⟨n_3, f_1, f_2, n_4, n_5, n_6, f_3, n_7, f_4, f_5, f_6, n_8, f_7, v_1, rfl, h_6, h_7, h_8, hcg6, hcg7, hcg8, hcg9, (tkI_c e_1 (by omega)), (rmS_c e_2 (by omega)), by omega, by omega, by omega, e_7⟩, hq3⟩, rfl, hI3, (fun b9 h9 => ((hF3 b9 h9).trans ((hF2 b9 (fun j9 h8 h7 => (show False from h7).elim)).trans ((hF1 b9 (fun j9 h8 h7 => (show False from h7).elim)).trans rfl))))⟩)

set_option maxHeartbeats 4000000 in
set_option maxRecDepth 100000 in
theorem s_X11_observeX (G : EnvG) (l : Launch) (hl9 : l.stackTraces = false) (Φ : Hm) (sz x ca : Nat) (tm : Nat) (r : Nat) (w : Nat) (aq : Int32) (xp : Int32) (xb : Int32) (ob : Int64) (sm : Int64) (un : UN) (n : Nat) (Fs : Nat → Fl) (pp : Nat → Nat) (nT : Nat) (Ft : Nat → Fl) (pt : Nat → Nat) (t : Nat) (s : Nat) (c : Cf) (sn : SN) (qn : Nat) (qL : Nat → Nat) (qd : Int32) (qp : Nat → Nat) (a : Int32) (b : Int32) (d : Int32) (f : Int32) (g : Int32) (hx : G.2.2.2 ≤ x) (hI : In G x ca Φ) (hc0 : Φ (x + 80) = some (o_ 4 [.ref (x + 3), .ref (x + 74), .ref (x + 81), .ref (x + 95), .int (nI tm), .int (nI r), .int (nI w), .int aq, .int xp, .int xb, .long ob, .long sm, .long (un.1)])) (hc1 : Φ (x + 81) = some (o_ 6 [.ref (x + 82), .int (nI n)])) (hc2 : Φ (x + 95) = some (o_ 6 [.ref (x + 96), .int (nI nT)])) (hcf0 : TbC G x n 99 Fs pp Φ) (hcf1 : TbT G x nT 99 Ft pt Φ) (hcf2 : CfA G x t s c Φ) (hcf3 : SdP G x c sn un Φ) (hcf4 : QbR G x qn qL qd qp Φ) (hn : n ≤ 12) (hnT : nT ≤ 24) (htm : tm ≤ 1000000) (hr : 1 ≤ r ∧ r ≤ 1024) (hw : w < 2147483648) (hg : CfG c) (had : aq = 0 ∨ aq = 1) : CtB G l yX11_observe wsX11_observe ({ frames := 7, cells := 1, slots := 6, locals := 151 }) 1 6 [.ref x, .int a, .int b, .int d, .int f, .int g] Φ sz (fun v Φ1 sz1 => ((∃ (n8 : Nat) (F8 : Nat → Fl) (u8 : UN) (w8 : Nat) (k8 : Nat) (d8 : Nat) (p8 : Nat → Nat) (m8 : Nat) (G8 : Nat → Fl) (q8 : Nat → Nat) (s8 : SN) (qn8 : Nat) (qL8 : Nat → Nat) (qd8 : Int32), v = some (.int (nI k8)) ∧ Φ1 (x + 80) = some (o_ 4 [.ref (x + 3), .ref (x + 74), .ref (x + 81), .ref (x + 95), .int (nI tm), .int (nI r), .int (nI w8), .int aq, .int (xp + nI d8), .int xb, .long (ob + (nI 1).toInt64), .long (sm + (nI k8).toInt64), .long ((uZ u8).1)]) ∧ Φ1 (x + 81) = some (o_ 6 [.ref (x + 82), .int (nI n8)]) ∧ Φ1 (x + 95) = some (o_ 6 [.ref (x + 96), .int (nI m8)]) ∧ TbC G x n8 99 F8 p8 Φ1 ∧ TbT G x m8 99 G8 q8 Φ1 ∧ SdP G x c s8 (uZ u8) Φ1 ∧ QbR G x qn8 qL8 qd8 qp Φ1 ∧ (tkI c (kyN a b d f) g.toInt64 tm r ((n, Fs, un), w, 0, 0) 1 = ((n8, F8, u8), w8, k8, d8)) ∧ (rmS (kyN a b d f) g.toInt64 1 tm (nT, Ft) = (m8, G8)) ∧ (n8 ≤ 12) ∧ (m8 ≤ 24) ∧ (w8 < 2147483648) ∧ (k8 ≤ 1) ∧ (spS c (nI tm) u8.2.2 u8.2.1 sn (qn, qL, qd) = (s8, qn8, qL8, qd8))) ∧ ¬ RqP (keyF a b d f) g 1) ∧ sz1 = sz ∧ In G x (ca) Φ1 ∧ Fr x (fun j9 => 46 ≤ j9 ∧ j9 < 121) Φ Φ1) (fun Φ1 => (RqP (keyF a b d f) g 1) ∧ In G x ca Φ1 ∧ Fr x (fun j9 => False) Φ Φ1) [xIA] := by
  refine CtB.of (cc := cX11_observe) (maxL := 8) (ret := (some .boolean)) (by decide) rfl (Nat.le_of_ble_eq_true rfl) ?_
  intro p9 e9 s9 m9 w9 t9 k9 B htab9
  show Z p9 l e9 _ s9 m9 _ w9 t9 k9 _ G 8 0 [(0, .ref x), (1, .int a), (2, .int b), (3, .int d), (4, .int f), (5, .int g)] [] Φ sz 0 0
  refine z_iload_n B dX11_observe_0 rfl 1 rfl ?_
  refine z_iload_n B dX11_observe_1 rfl 2 rfl ?_
  refine z_iload_n B dX11_observe_2 rfl 3 rfl ?_
  refine z_iload B dX11_observe_3 4 rfl ?_
  refine z_callS (As := [.int a, .int b, .int d, .int f]) (rest := []) B (s_X3_keyOf G l Φ sz x (ca) a b d f hx hI ) (va_cwS 4 B.1.2.2.2.2 gX11_observe_X3_keyOf rfl rfl rfl (by decide +kernel) ⟨Nat.le_of_ble_eq_true rfl, Nat.le_of_ble_eq_true rfl⟩) rfl rfl (Nat.le_of_ble_eq_true rfl) dX11_observe_5 ⟨Nat.le_of_ble_eq_true rfl, Nat.le_of_ble_eq_true rfl⟩ (fun r_1 Φ1 sz1 st1 hp1 hs1 => ?_)
  obtain ⟨rfl, hq1, hI1, hF1⟩ := hp1
  subst sz1
  replace hs1 : st1 = [.long (keyF a b d f)] := hs1
  subst st1
  replace hI1 : In G x (ca) Φ1 := hI1
  refine z_lstore (lv' := [(6, .long (keyF a b d f)), (0, .ref x), (1, .int a), (2, .int b), (3, .int d), (4, .int f), (5, .int g)]) B dX11_observe_8 (Nat.le_of_ble_eq_true rfl) rfl ?_
  refine z_lload B dX11_observe_10 0 rfl ?_
  refine z_iload B dX11_observe_12 6 rfl ?_
  refine z_iconst (v := 1) B dX11_observe_14 rfl ?_
  refine zb_callS (As := [.long (keyF a b d f), .int g, .int 1]) (rest := []) B htab9 (s_X11_requirePackets G l hl9 Φ1 sz x (ca) (keyF a b d f) g 1 hx hI1 ) (va_cwS 3 B.1.2.2.2.2 gX11_observe_X11_requirePackets rfl rfl rfl (by decide +kernel) ⟨Nat.le_of_ble_eq_true rfl, Nat.le_of_ble_eq_true rfl⟩) rfl rfl (Nat.le_of_ble_eq_true rfl) dX11_observe_15 ⟨Nat.le_of_ble_eq_true rfl, Nat.le_of_ble_eq_true rfl⟩ ⟨Nat.le_of_ble_eq_true rfl, Nat.le_of_ble_eq_true rfl⟩ (by decide) (fun Φ9 h9 => ⟨h9.1, h9.2.1, fun b9 h8 => ((h9.2.2 b9 h8).trans ((fun b9 h9 => ((hF1 b9 (fun j9 h8 h7 => (show False from h7).elim)).trans rfl)) b9 h8))⟩) (fun r_2 Φ2 sz2 st2 hp2 hs2 => ?_)
  obtain ⟨⟨rfl, -, hq3⟩, hq2, hI2, hF2⟩ := hp2
  subst sz2
  replace hs2 : st2 = [] := hs2
  subst st2
  replace hI2 : In G x (ca) Φ2 := hI2
  replace hq3 : ¬ RqP (keyF a b d f) g 1 := hq3
  refine z_aload_n B dX11_observe_18 rfl 1 rfl ?_
  have h_1 := in0 (k := 0) hI2 rfl
  have h_2 : Φ2 x = some (o_ 13 [.ref (x + 1), .ref (x + 3), .ref (x + 24), .ref (x + 46), .ref (x + 74), .ref (x + 80), .ref (x + 132), .ref (x + 121)]) := h_1
  refine z_get (ref := "FlowExporter") (C := RX11) (T := TX11) (N := 8) (ci := 13) (v := .ref (x + 80)) B hu_X11_observe_X11 rfl 5 (Nat.le_of_ble_eq_true rfl) hv_X11_observe_55 rfl h_2 rfl dX11_observe_19 ?_
  refine z_lload B dX11_observe_22 0 rfl ?_
  have hk9 : KyP a b d f := Classical.byContradiction (fun h9 => hq3 (Or.inl (keyF_no h9)))
  have hk8 := keyF_N hk9
  obtain ⟨n_2, b_2, rfl⟩ := rq_by hq3
  refine z_top (st1 := [.long (Int64.ofNat (kyN a b d f)), .ref (x + 80)]) (congrArg (fun w9 : Int64 => ([.long w9, .ref (x + 80)] : List Value)) hk8.1) ?_
  refine z_iload B dX11_observe_24 6 rfl ?_
  refine z_iconst (v := 1) B dX11_observe_26 rfl ?_
  have h_3 : Φ2 (x + 80) = some (o_ 4 [.ref (x + 3), .ref (x + 74), .ref (x + 81), .ref (x + 95), .int (nI tm), .int (nI r), .int (nI w), .int aq, .int xp, .int xb, .long ob, .long sm, .long un.1]) := ((hF2 (x + 80) (fun j9 h8 h7 => (show False from h7).elim)).trans ((hF1 (x + 80) (fun j9 h8 h7 => (show False from h7).elim)).trans hc0))
  have h_4 : Φ2 (x + 81) = some (o_ 6 [.ref (x + 82), .int (nI n)]) := ((hF2 (x + 81) (fun j9 h8 h7 => (show False from h7).elim)).trans ((hF1 (x + 81) (fun j9 h8 h7 => (show False from h7).elim)).trans hc1))
  have h_5 : Φ2 (x + 95) = some (o_ 6 [.ref (x + 96), .int (nI nT)]) := ((hF2 (x + 95) (fun j9 h8 h7 => (show False from h7).elim)).trans ((hF1 (x + 95) (fun j9 h8 h7 => (show False from h7).elim)).trans hc2))
  have hcg1 : TbC G x n 99 Fs pp Φ2 := (TbC.fr (TbC.fr hcf0 hF1 (fun j9 h7 => (show False from h7).elim)) hF2 (fun j9 h7 => (show False from h7).elim))
  have hcg2 : TbT G x nT 99 Ft pt Φ2 := (TbT.fr (TbT.fr hcf1 hF1 (fun j9 h7 => (show False from h7).elim)) hF2 (fun j9 h7 => (show False from h7).elim))
  have hcg3 : CfA G x t s c Φ2 := (CfA.fr (CfA.fr hcf2 hF1 (fun j9 h7 => (show False from h7).elim)) hF2 (fun j9 h7 => (show False from h7).elim))
  have hcg4 : SdP G x c sn un Φ2 := (SdP.fr (SdP.fr hcf3 hF1 (fun j9 h7 => (show False from h7).elim)) hF2 (fun j9 h7 => (show False from h7).elim))
  have hcg5 : QbR G x qn qL qd qp Φ2 := (QbR.frw (QbR.frw hcf4 hF1 (fun j9 h7 => (show False from h7).elim)) hF2 (fun j9 h7 => (show False from h7).elim))
  refine z_callV (As := [.long (Int64.ofNat (kyN a b d f)), .int (nI n_2), .int 1]) (rest := []) B (s_X2_takePacketsX G l Φ2 sz x (ca) tm r w aq xp xb ob sm un n Fs pp nT Ft pt t s c sn qn qL qd qp (kyN a b d f) n_2 1 hx hI2 h_3 h_4 h_5 hcg1 hcg2 hcg3 hcg4 hcg5 (show n ≤ 12 by omega) (show nT ≤ 24 by omega) hk8.2 (show tm ≤ 1000000 by omega) (show 1 ≤ r ∧ r ≤ 1024 by omega) (show w < 2147483648 by omega) (show 1 ≤ 200 by omega) hg had) (cwV 3 B.1.2.2.2.2 gX11_observe_X2_takePackets rfl rfl rfl (by decide +kernel) ⟨Nat.le_of_ble_eq_true rfl, Nat.le_of_ble_eq_true rfl⟩) h_3 rfl rfl rfl rfl (Nat.le_of_ble_eq_true rfl) dX11_observe_27 ⟨Nat.le_of_ble_eq_true rfl, Nat.le_of_ble_eq_true rfl⟩ (fun r_3 Φ3 sz3 st3 hp3 hs3 => ?_)
  obtain ⟨⟨n_3, f_1, f_2, n_4, n_5, n_6, f_3, n_7, f_4, f_5, f_6, n_8, f_7, v_1, rfl, h_6, h_7, h_8, hcg6, hcg7, hcg8, hcg9, e_1, e_2, e_3, e_4, e_5, e_6, e_7⟩, hq4, hI3, hF3⟩ := hp3
  subst sz3
  replace hs3 : st3 = [.int (nI n_5)] := hs3
  subst st3
  replace hI3 : In G x (ca) Φ3 := hI3
  replace e_1 : tkI c (kyN a b d f) (nI n_2).toInt64 tm r ((n, Fs, un), w, 0, 0) 1 = ((n_3, f_1, f_2), n_4, n_5, n_6) := e_1
  replace e_2 : rmS (kyN a b d f) (nI n_2).toInt64 1 tm (nT, Ft) = (n_7, f_4) := e_2
  replace e_3 : n_3 ≤ 12 := e_3
  replace e_4 : n_7 ≤ 24 := e_4
  replace e_5 : n_4 < 2147483648 := e_5
  replace e_6 : n_5 ≤ 1 := e_6
  replace e_7 : spS c (nI tm) f_2.2.2 f_2.2.1 sn (qn, qL, qd) = (f_6, n_8, f_7, v_1) := e_7
  refine z_iconst (v := 1) B dX11_observe_30 rfl ?_
  refine z_icmp_ne (tgt := 38) B dX11_observe_31 rfl (fun c_1 => ?_) (fun c_1 => ?_)
  · have e_8 : ¬ (n_5 = 1) := fun h9 => c_1 ((nI_eq (a := n_5) (b := 1) (by omega) (by omega)).mpr h9)
    refine z_iconst (v := 0) B dX11_observe_38 rfl ?_
    exact zb_ret (Nat.le_of_ble_eq_true rfl) (Nat.le_of_ble_eq_true rfl) (z_ret_z B dX11_observe_39 (by decide) ⟨⟨⟨n_3, f_1, f_2, n_4, n_5, n_6, f_3, n_7, f_4, f_5, f_6, n_8, f_7, v_1, (congrArg (fun w9 : Nat => some (Value.int (nI w9))) (show 0 = n_5 by omega)), h_6, h_7, h_8, hcg6, hcg7, hcg8, hcg9, e_1, e_2, by omega, by omega, by omega, by omega, e_7⟩, hq3⟩, rfl, hI3, (fun b9 h9 => ((hF3 b9 h9).trans ((hF2 b9 (fun j9 h8 h7 => (show False from h7).elim)).trans ((hF1 b9 (fun j9 h8 h7 => (show False from h7).elim)).trans rfl))))⟩)
  · have e_9 : n_5 = 1 := (nI_eq (a := n_5) (b := 1) (by omega) (by omega)).mp c_1
    refine z_iconst (v := 1) B dX11_observe_34 rfl ?_
    refine z_goto (tgt := 39) B dX11_observe_35 rfl ?_
    exact zb_ret (Nat.le_of_ble_eq_true rfl) (Nat.le_of_ble_eq_true rfl) (z_ret_z B dX11_observe_39 (by decide) ⟨⟨⟨n_3, f_1, f_2, n_4, n_5, n_6, f_3, n_7, f_4, f_5, f_6, n_8, f_7, v_1, (congrArg (fun w9 : Nat => some (Value.int (nI w9))) (show 1 = n_5 by omega)), h_6, h_7, h_8, hcg6, hcg7, hcg8, hcg9, e_1, e_2, by omega, by omega, by omega, by omega, e_7⟩, hq3⟩, rfl, hI3, (fun b9 h9 => ((hF3 b9 h9).trans ((hF2 b9 (fun j9 h8 h7 => (show False from h7).elim)).trans ((hF1 b9 (fun j9 h8 h7 => (show False from h7).elim)).trans rfl))))⟩)

/-! ticks with the sender: the exporter, the sender, the queue -/
abbrev KS : Type := KQ4 × SN × QN
noncomputable def txS (c : Cf) (aq : Int32) (t : Nat) (s : KS) : KS := ((((tiS c aq t s.1).1.1, (tiS c aq t s.1).1.2.1, uZ (tiS c aq t s.1).1.2.2), (tiS c aq t s.1).2), spS c (nI t) (tiS c aq t s.1).1.2.2.2.2 (tiS c aq t s.1).1.2.2.2.1 s.2.1 s.2.2)
theorem txS_e {c : Cf} {aq e e1 : Int32} {t n r d n1 r1 d1 : Nat} {F F1 : Nat → Fl} {u u1 : UN} {sn sn1 : SN} {q q1 : QN} (h : tiS c aq t ((n, F, u), r, e, d) = ((n1, F1, u1), r1, e1, d1)) (h2 : spS c (nI t) u1.2.2 u1.2.1 sn q = (sn1, q1)) : txS c aq t (((n, F, u), r, e, d), sn, q) = (((n1, F1, uZ u1), r1, e1, d1), sn1, q1) := by
  unfold txS
  show ((((tiS c aq t ((n, F, u), r, e, d)).1.1, (tiS c aq t ((n, F, u), r, e, d)).1.2.1, uZ (tiS c aq t ((n, F, u), r, e, d)).1.2.2), (tiS c aq t ((n, F, u), r, e, d)).2), spS c (nI t) (tiS c aq t ((n, F, u), r, e, d)).1.2.2.2.2 (tiS c aq t ((n, F, u), r, e, d)).1.2.2.2.1 sn q) = _
  rw [h]
  show (((n1, F1, uZ u1), r1, e1, d1), spS c (nI t) u1.2.2 u1.2.1 sn q) = _
  rw [h2]
/-- ticks from t0 on -/
noncomputable def txI (c : Cf) (aq : Int32) (t0 : Nat) (s : KS) : Nat → KS
  | 0 => s
  | i + 1 => txS c aq (t0 + i + 1) (txI c aq t0 s i)
theorem txI_s {c : Cf} {aq e e1 : Int32} {t0 i j n r d n1 r1 d1 : Nat} {F F1 : Nat → Fl} {u u1 : UN} {sn sn1 : SN} {q q1 : QN} {s : KS} (h : txI c aq t0 s i = (((n, F, u), r, e, d), sn, q)) (h2 : tiS c aq (t0 + i + 1) ((n, F, u), r, e, d) = ((n1, F1, u1), r1, e1, d1)) (h3 : spS c (nI (t0 + i + 1)) u1.2.2 u1.2.1 sn q = (sn1, q1)) (hj : j = i + 1) : txI c aq t0 s j = (((n1, F1, uZ u1), r1, e1, d1), sn1, q1) := by
  subst hj
  show txS c aq (t0 + i + 1) (txI c aq t0 s i) = _
  rw [h]
  exact txS_e h2 h3
/-- nothing is pending: whatever the configuration -/
noncomputable def uZ0 : UN := (0, 0, fun _ => 0)
theorem SdP.cz {G : EnvG} {x : Nat} {c d : Cf} {s : SN} {Φ : Hm} (h : SdP G x c s uZ0 Φ) : SdP G x d s uZ0 Φ := h
theorem SdP.z0 {G : EnvG} {x : Nat} {c : Cf} {s : SN} {u : UN} {Φ : Hm} (h : SdP G x c s (uZ u) Φ) : SdP G x c s uZ0 Φ := h
/-- load leaves of the sender and the queue -/
noncomputable def Ld5 (b : Nat → Int32) (s : SN × QN) (s1 : SN × QN) : Prop := (∃ (q m : Nat) (c : Cf), txA b 702 0 cB 0 = (0, q, m, c) ∧ s1 = (((fun _ => 0), s.1.2.1, 0, 0, 0), 0, (fun _ => 0), 0)) ∨ (∃ (er p m : Nat) (c : Cf), txA b 702 0 cB 0 = (er, p, m, c) ∧ ¬ er = 0 ∧ s1 = s)
theorem Ld5_fun {b : Nat → Int32} {s s1 s2 : SN × QN} (h : Ld5 b s s1) (h2 : Ld5 b s s2) : s1 = s2 := by
  rcases h with ⟨q, m, c, e, rfl⟩ | ⟨er, p, m, c, e, he, rfl⟩ <;> rcases h2 with ⟨q2, m2, d, g, rfl⟩ | ⟨er2, p2, m2, d, g, hg, rfl⟩
  · rfl
  · have h3 := e.symm.trans g
    injection h3 with h4 h5
    exact absurd h4.symm hg
  · have h3 := e.symm.trans g
    injection h3 with h4 h5
    exact absurd h4 he
  · rfl

theorem hu_X11_advance_X11 : ∀ w ∈ u_ws RX11 TX11 8, w ∈ wsX11_advance := fun _ h => List.mem_cons_of_mem _ (List.mem_append_left _ (List.mem_append_left _ (List.mem_append_left _ (List.mem_append_left _ (List.mem_append_left _ (List.mem_append_left _ (List.mem_append_left _ (List.mem_append_left _ (List.mem_append_left _ (List.mem_append_left _ (List.mem_append_left _ (List.mem_append_left _ (List.mem_append_right _ (h))))))))))))))

theorem hv_X11_advance_55 : Cond.fieldLink RX11 55 "FlowExporter" (TX11 5).2.1 (TX11 5).2.2.1 ∈ wsX11_advance := List.mem_cons_of_mem _ (List.mem_append_left _ (List.mem_append_left _ (List.mem_append_left _ (List.mem_append_left _ (List.mem_append_left _ (List.mem_append_left _ (List.mem_append_left _ (List.mem_append_left _ (List.mem_append_left _ (List.mem_append_left _ (List.mem_append_left _ (List.mem_append_left _ (List.mem_append_left _ (List.mem_append_left _ (List.mem_of_getElem? (i := 4) rfl)))))))))))))))

theorem hu_X11_advance_X2 : ∀ w ∈ u_ws RX2 TX2 13, w ∈ wsX11_advance := fun _ h => List.mem_cons_of_mem _ (List.mem_append_left _ (List.mem_append_left _ (List.mem_append_left _ (List.mem_append_left _ (List.mem_append_left _ (List.mem_append_left _ (List.mem_append_left _ (List.mem_append_left _ (List.mem_append_left _ (List.mem_append_left _ (List.mem_append_left _ (List.mem_append_right _ (h)))))))))))))

theorem hv_X11_advance_110 : Cond.fieldLink RX11 110 "FlowExporter$Exporter" (TX2 4).2.1 (TX2 4).2.2.1 ∈ wsX11_advance := List.mem_cons_of_mem _ (List.mem_append_left _ (List.mem_append_left _ (List.mem_append_left _ (List.mem_append_left _ (List.mem_append_left _ (List.mem_append_left _ (List.mem_append_left _ (List.mem_append_left _ (List.mem_append_left _ (List.mem_append_left _ (List.mem_append_left _ (List.mem_append_left _ (List.mem_append_left _ (List.mem_append_left _ (List.mem_of_getElem? (i := 5) rfl)))))))))))))))

theorem hv_X11_advance_137 : Cond.fieldLink RX11 137 "FlowExporter$Exporter" (TX2 8).2.1 (TX2 8).2.2.1 ∈ wsX11_advance := List.mem_cons_of_mem _ (List.mem_append_left _ (List.mem_append_left _ (List.mem_append_left _ (List.mem_append_left _ (List.mem_append_left _ (List.mem_append_left _ (List.mem_append_left _ (List.mem_append_left _ (List.mem_append_left _ (List.mem_append_left _ (List.mem_append_left _ (List.mem_append_left _ (List.mem_append_left _ (List.mem_append_left _ (List.mem_of_getElem? (i := 7) rfl)))))))))))))))

set_option maxRecDepth 20000 in
theorem ggX11_advance_X2_tick : GoodIn wsX11_advance wsX2_tick := goodIn_ca (goodIn_ca ((goodIn_ca (goodIn_ca (goodIn_ca (goodIn_ca (goodIn_ca (goodIn_ca (goodIn_ca (goodIn_ca (goodIn_r _ [13, 14, 15, 16, 17, 18, 19, 12, 20, 21, 22, 23, 24, 25, 26, 27, 28, 29, 30, 31, 32, 33, 34, 35, 36, 37, 38, 39, 40, 41, 42, 43, 44, 45, 46, 47, 48, 49, 50, 51, 52, 53, 54, 55, 56, 57, 58, 59, 60, 61, 62, 63, 64, 65, 66, 67, 68, 69, 70, 71, 72, 73, 74, 75, 76, 77, 78, 79, 80, 81, 82, 83, 84, 85, 86, 87, 88, 89, 90, 91, 92, 93, 94, 95, 96, 97, 98, 99, 100, 101, 102, 103, 104, 105, 106, 107, 108, 109, 110, 111, 112, 113, 114, 115, 116, 117, 118, 119, 120, 121, 122, 123, 124, 125, 126, 127, 128, 129, 130, 131, 132, 133, 134, 135, 136, 137, 138, 139, 140, 141, 142, 143, 144, 145, 146, 147, 148, 149, 150, 151, 152, 153, 154, 155, 156, 157, 158, 159, 160, 161, 162, 163, 164, 165, 166, 167, 168, 169, 170, 171, 172, 173, 174, 175, 176, 177, 178, 179, 180, 181, 182, 183, 184, 185, 186, 187, 188, 189, 190, 191, 192, 193] rfl (by decide +kernel)) (goodIn_sub (fun _ h => List.mem_cons_of_mem _ (List.mem_append_left _ (List.mem_append_left _ (List.mem_append_left _ (List.mem_append_left _ (List.mem_append_left _ (List.mem_append_left _ (List.mem_append_left _ (List.mem_append_left _ (List.mem_append_left _ (List.mem_append_left _ (List.mem_append_left _ (List.mem_append_right _ h))))))))))))) gw_wsX20)) (goodIn_sub (fun _ h => List.mem_cons_of_mem _ (List.mem_append_left _ (List.mem_append_left _ (List.mem_append_left _ (List.mem_append_left _ (List.mem_append_left _ (List.mem_append_left _ (List.mem_append_left _ (List.mem_append_left _ (List.mem_append_left _ (List.mem_append_left _ (List.mem_append_right _ h)))))))))))) gw_wsX40)) (goodIn_sub (fun _ h => List.mem_cons_of_mem _ (List.mem_append_left _ (List.mem_append_left _ (List.mem_append_left _ (List.mem_append_left _ (List.mem_append_left _ (List.mem_append_left _ (List.mem_append_left _ (List.mem_append_left _ (List.mem_append_left _ (List.mem_append_right _ h))))))))))) gw_wsX30)) (goodIn_sub (fun _ h => List.mem_cons_of_mem _ (List.mem_append_left _ (List.mem_append_left _ (List.mem_append_left _ (List.mem_append_left _ (List.mem_append_left _ (List.mem_append_left _ (List.mem_append_left _ (List.mem_append_left _ (List.mem_append_right _ h)))))))))) gw_wsX10)) (goodIn_sub (fun _ h => List.mem_cons_of_mem _ (List.mem_append_left _ (List.mem_append_left _ (List.mem_append_left _ (List.mem_append_left _ (List.mem_append_left _ (List.mem_append_left _ (List.mem_append_left _ (List.mem_append_right _ h))))))))) gw_wsX100)) (goodIn_sub (fun _ h => List.mem_cons_of_mem _ (List.mem_append_left _ (List.mem_append_left _ (List.mem_append_left _ (List.mem_append_left _ (List.mem_append_left _ (List.mem_append_left _ (List.mem_append_right _ h)))))))) gw_wsX80)) (goodIn_sub (fun _ h => List.mem_cons_of_mem _ (List.mem_append_left _ (List.mem_append_left _ (List.mem_append_left _ (List.mem_append_left _ (List.mem_append_left _ (List.mem_append_right _ h))))))) gw_wsX50)) (goodIn_sub (fun _ h => List.mem_cons_of_mem _ (List.mem_append_left _ (List.mem_append_left _ (List.mem_append_left _ (List.mem_append_left _ (List.mem_append_right _ h)))))) gw_wsX70))) (goodIn_sub (fun _ h => List.mem_cons_of_mem _ (List.mem_append_left _ (List.mem_append_right _ h))) (all_fg _))) (goodIn_sub (fun _ h => List.mem_cons_of_mem _ (List.mem_append_right _ h)) (all_fg _))
set_option maxRecDepth 20000 in
theorem gX11_advance_X2_tick : GoodIn wsX11_advance (wsV RX11 140 RX2 yX2_tick wsX2_tick) := goodIn_app (goodIn_m (mem_cA (List.mem_cons_of_mem _ (List.mem_append_left _ (List.mem_append_left _ (List.mem_append_left _ (List.mem_append_left _ (List.mem_append_left _ (List.mem_append_left _ (List.mem_append_left _ (List.mem_append_left _ (List.mem_append_left _ (List.mem_append_left _ (List.mem_append_left _ (List.mem_append_left _ (List.mem_append_left _ (List.mem_append_left _ (List.mem_of_getElem? (i := 8) rfl)))))))))))))))) (mem_cA (List.mem_cons_of_mem _ (List.mem_append_left _ (List.mem_append_left _ (List.mem_append_left _ (List.mem_append_left _ (List.mem_append_left _ (List.mem_append_left _ (List.mem_append_left _ (List.mem_append_left _ (List.mem_append_left _ (List.mem_append_left _ (List.mem_append_left _ (List.mem_append_left _ (List.mem_append_left _ (List.mem_append_left _ (List.mem_of_getElem? (i := 9) rfl)))))))))))))))) (mem_cA (List.mem_cons_of_mem _ (List.mem_append_left _ (List.mem_append_left _ (List.mem_append_left _ (List.mem_append_left _ (List.mem_append_left _ (List.mem_append_left _ (List.mem_append_left _ (List.mem_append_left _ (List.mem_append_left _ (List.mem_append_left _ (List.mem_append_left _ (List.mem_append_left _ (List.mem_append_left _ (List.mem_append_left _ (List.mem_of_getElem? (i := 10) rfl)))))))))))))))) (mem_cA (List.mem_cons_of_mem _ (List.mem_append_left _ (List.mem_append_left _ (List.mem_append_left _ (List.mem_append_left _ (List.mem_append_left _ (List.mem_append_left _ (List.mem_append_left _ (List.mem_append_left _ (List.mem_append_left _ (List.mem_append_left _ (List.mem_append_left _ (List.mem_append_left _ (List.mem_append_left _ (List.mem_append_left _ (List.mem_of_getElem? (i := 11) rfl)))))))))))))))) mem_cZ)))) (by decide +kernel)) ggX11_advance_X2_tick
theorem dX11_advance_0 : decode cX11_advance 0 = .ok (.iload_n 1, 1) := by decide +kernel
theorem dX11_advance_1 : decode cX11_advance 1 = .ok (.iconst 1, 1) := by decide +kernel
theorem dX11_advance_2 : decode cX11_advance 2 = .ok (.if_icmp .lt 10, 3) := by decide +kernel
theorem dX11_advance_5 : decode cX11_advance 5 = .ok (.iload_n 1, 1) := by decide +kernel
theorem dX11_advance_6 : decode cX11_advance 6 = .ok (.sipush 1000, 3) := by decide +kernel
theorem dX11_advance_9 : decode cX11_advance 9 = .ok (.if_icmp .le 11, 3) := by decide +kernel
theorem dX11_advance_12 : decode cX11_advance 12 = .ok (.new 116, 3) := by decide +kernel
theorem dX11_advance_15 : decode cX11_advance 15 = .ok (.dup, 1) := by decide +kernel
theorem dX11_advance_16 : decode cX11_advance 16 = .ok (.invokespecial 118, 3) := by decide +kernel
theorem dX11_advance_19 : decode cX11_advance 19 = .ok (.athrow, 1) := by decide +kernel
theorem dX11_advance_20 : decode cX11_advance 20 = .ok (.aload_n 0, 1) := by decide +kernel
theorem dX11_advance_21 : decode cX11_advance 21 = .ok (.getfield 55, 3) := by decide +kernel
theorem dX11_advance_24 : decode cX11_advance 24 = .ok (.getfield 110, 3) := by decide +kernel
theorem dX11_advance_27 : decode cX11_advance 27 = .ok (.iload_n 1, 1) := by decide +kernel
theorem dX11_advance_28 : decode cX11_advance 28 = .ok (.iadd, 1) := by decide +kernel
theorem dX11_advance_29 : decode cX11_advance 29 = .ok (.ldc 133, 2) := by decide +kernel
theorem dX11_advance_31 : decode cX11_advance 31 = .ok (.if_icmp .le 11, 3) := by decide +kernel
theorem dX11_advance_34 : decode cX11_advance 34 = .ok (.new 134, 3) := by decide +kernel
theorem dX11_advance_37 : decode cX11_advance 37 = .ok (.dup, 1) := by decide +kernel
theorem dX11_advance_38 : decode cX11_advance 38 = .ok (.invokespecial 136, 3) := by decide +kernel
theorem dX11_advance_41 : decode cX11_advance 41 = .ok (.athrow, 1) := by decide +kernel
theorem dX11_advance_42 : decode cX11_advance 42 = .ok (.aload_n 0, 1) := by decide +kernel
theorem dX11_advance_43 : decode cX11_advance 43 = .ok (.getfield 55, 3) := by decide +kernel
theorem dX11_advance_46 : decode cX11_advance 46 = .ok (.getfield 137, 3) := by decide +kernel
theorem dX11_advance_49 : decode cX11_advance 49 = .ok (.istore_n 2, 1) := by decide +kernel
theorem dX11_advance_50 : decode cX11_advance 50 = .ok (.iconst 0, 1) := by decide +kernel
theorem dX11_advance_51 : decode cX11_advance 51 = .ok (.istore_n 3, 1) := by decide +kernel
theorem dX11_advance_52 : decode cX11_advance 52 = .ok (.iload_n 3, 1) := by decide +kernel
theorem dX11_advance_53 : decode cX11_advance 53 = .ok (.iload_n 1, 1) := by decide +kernel
theorem dX11_advance_54 : decode cX11_advance 54 = .ok (.if_icmp .ge 16, 3) := by decide +kernel
theorem dX11_advance_57 : decode cX11_advance 57 = .ok (.aload_n 0, 1) := by decide +kernel
theorem dX11_advance_58 : decode cX11_advance 58 = .ok (.getfield 55, 3) := by decide +kernel
theorem dX11_advance_61 : decode cX11_advance 61 = .ok (.invokevirtual 140, 3) := by decide +kernel
theorem dX11_advance_64 : decode cX11_advance 64 = .ok (.iinc 3 1, 3) := by decide +kernel
theorem dX11_advance_67 : decode cX11_advance 67 = .ok (.goto (-15), 3) := by decide +kernel
theorem dX11_advance_70 : decode cX11_advance 70 = .ok (.aload_n 0, 1) := by decide +kernel
theorem dX11_advance_71 : decode cX11_advance 71 = .ok (.getfield 55, 3) := by decide +kernel
theorem dX11_advance_74 : decode cX11_advance 74 = .ok (.getfield 137, 3) := by decide +kernel
theorem dX11_advance_77 : decode cX11_advance 77 = .ok (.iload_n 2, 1) := by decide +kernel
theorem dX11_advance_78 : decode cX11_advance 78 = .ok (.isub, 1) := by decide +kernel
theorem dX11_advance_79 : decode cX11_advance 79 = .ok (.ireturn, 1) := by decide +kernel
set_option maxHeartbeats 4000000 in
set_option maxRecDepth 100000 in
theorem s_X11_advanceXa (G : EnvG) (l : Launch) (hl9 : l.stackTraces = false) (Φ : Hm) (sz x ca : Nat) (tm : Nat) (r : Nat) (w : Nat) (aq : Int32) (xp : Int32) (xb : Int32) (ob : Int64) (sm : Int64) (un : UN) (n : Nat) (Fs : Nat → Fl) (pp : Nat → Nat) (t : Nat) (s : Nat) (c : Cf) (sn : SN) (qn : Nat) (qL : Nat → Nat) (qd : Int32) (qp : Nat → Nat) (a : Int32) (hx : G.2.2.2 ≤ x) (hI : In G x ca Φ) (hc0 : Φ (x + 80) = some (o_ 4 [.ref (x + 3), .ref (x + 74), .ref (x + 81), .ref (x + 95), .int (nI tm), .int (nI r), .int (nI w), .int aq, .int xp, .int xb, .long ob, .long sm, .long (un.1)])) (hc1 : Φ (x + 81) = some (o_ 6 [.ref (x + 82), .int (nI n)])) (hcf0 : TbC G x n 99 Fs pp Φ) (hcf1 : CfA G x t s c Φ) (hcf2 : SdP G x c sn un Φ) (hcf3 : QbR G x qn qL qd qp Φ) (hn : n ≤ 12) (htm : tm ≤ 1000000) (hr : 1 ≤ r ∧ r ≤ 1024) (hyA : Av1 a) (hg : CfG c) (had : aq = 0 ∨ aq = 1) (hu : un = uZ un) : CtB G l yX11_advance wsX11_advance ({ frames := 6, cells := 1, slots := 6, locals := 146 }) 1 6 [.ref x, .int a] Φ sz (fun v Φ1 sz1 => (∃ (n8 : Nat) (F8 : Nat → Fl) (u8 : UN) (r8 : Nat) (e8 : Int32) (d8 : Nat) (b8 : Int32) (p8 : Nat → Nat) (s8 : SN) (qn8 : Nat) (qL8 : Nat → Nat) (qd8 : Int32), v = some (.int (nI d8)) ∧ Φ1 (x + 80) = some (o_ 4 [.ref (x + 3), .ref (x + 74), .ref (x + 81), .ref (x + 95), .int (nI (tm + a.toNatClampNeg)), .int (nI r8), .int (nI w), .int aq, .int (xp + nI d8), .int b8, .long ob, .long sm, .long (u8.1)]) ∧ Φ1 (x + 81) = some (o_ 6 [.ref (x + 82), .int (nI n8)]) ∧ TbC G x n8 99 F8 p8 Φ1 ∧ SdP G x c s8 u8 Φ1 ∧ QbR G x qn8 qL8 qd8 qp Φ1 ∧ (txI c aq tm (((n, Fs, un), r, xp - xb, 0), sn, qn, qL, qd) a.toNatClampNeg = (((n8, F8, u8), r8, e8, d8), s8, qn8, qL8, qd8)) ∧ (xp + nI d8 - b8 = e8) ∧ (n8 ≤ 12) ∧ (1 ≤ r8 ∧ r8 ≤ 1024) ∧ (Av2 tm a) ∧ (u8 = uZ u8)) ∧ sz1 = sz ∧ In G x (ca) Φ1 ∧ Fr x (fun j9 => 46 ≤ j9 ∧ j9 < 95) Φ Φ1) (fun Φ1 => (¬ Av2 tm a) ∧ In G x ca Φ1 ∧ Fr x (fun j9 => False) Φ Φ1) [xIS] := by
  refine CtB.of (cc := cX11_advance) (maxL := 4) (ret := (some .int)) (by decide) rfl (Nat.le_of_ble_eq_true rfl) ?_
  intro p9 e9 s9 m9 w9 t9 k9 B htab9
  show Z p9 l e9 _ s9 m9 _ w9 t9 k9 _ G 4 0 [(0, .ref x), (1, .int a)] [] Φ sz 0 0
  refine z_iload_n B dX11_advance_0 rfl 1 rfl ?_
  refine z_iconst (v := 1) B dX11_advance_1 rfl ?_
  refine z_icmp_lt (tgt := 12) B dX11_advance_2 rfl (fun c_1 => ?_) (fun c_1 => ?_)
  · have k_1 : (1 : Int32).toInt = 1 := by decide
    have q_1 : (a.toInt < (1 : Int32).toInt) := Int32.lt_iff_toInt_lt.mp c_1
    unfold Av1 at hyA
    exact ((show False by omega).elim)
  · obtain ⟨n_1, e_2, e_1, rfl⟩ := nI_ofge (c := 1) (by omega) c_1
    refine z_iload_n B dX11_advance_5 rfl 1 rfl ?_
    refine z_sipush (v := 1000) B dX11_advance_6 rfl ?_
    refine z_icmp_le (tgt := 20) B dX11_advance_9 rfl (fun c_2 => ?_) (fun c_2 => ?_)
    · have e_3 : n_1 ≤ 1000 := (nI_leI (a := n_1) (b := 1000) (by omega) (by omega)).mp c_2
      refine z_aload_n B dX11_advance_20 rfl 0 rfl ?_
      have h_1 := in0 (k := 0) hI rfl
      have h_2 : Φ x = some (o_ 13 [.ref (x + 1), .ref (x + 3), .ref (x + 24), .ref (x + 46), .ref (x + 74), .ref (x + 80), .ref (x + 132), .ref (x + 121)]) := h_1
      refine z_get (ref := "FlowExporter") (C := RX11) (T := TX11) (N := 8) (ci := 13) (v := .ref (x + 80)) B hu_X11_advance_X11 rfl 5 (Nat.le_of_ble_eq_true rfl) hv_X11_advance_55 rfl h_2 rfl dX11_advance_21 ?_
      refine z_get (ref := "FlowExporter$Exporter") (C := RX2) (T := TX2) (N := 13) (ci := 4) (v := .int (nI tm)) B hu_X11_advance_X2 rfl 4 (Nat.le_of_ble_eq_true rfl) hv_X11_advance_110 rfl hc0 rfl dX11_advance_24 ?_
      refine z_iload_n B dX11_advance_27 rfl 1 rfl ?_
      refine z_iadd B dX11_advance_28 ?_
      refine z_top (st1 := [.int (nI (tm + n_1))]) (congrArg (fun w9 : Int32 => ([.int w9] : List Value)) (nI_add tm n_1)) ?_
      refine z_ldc (v := 1000000) B (by decide +kernel) dX11_advance_29 ?_
      refine z_icmp_le (tgt := 42) B dX11_advance_31 rfl (fun c_3 => ?_) (fun c_3 => ?_)
      · have e_4 : tm + n_1 ≤ 1000000 := (nI_leI (a := tm + n_1) (b := 1000000) (by omega) (by omega)).mp c_3
        refine z_aload_n B dX11_advance_42 rfl 0 rfl ?_
        refine z_get (ref := "FlowExporter") (C := RX11) (T := TX11) (N := 8) (ci := 13) (v := .ref (x + 80)) B hu_X11_advance_X11 rfl 5 (Nat.le_of_ble_eq_true rfl) hv_X11_advance_55 rfl h_2 rfl dX11_advance_43 ?_
        refine z_get (ref := "FlowExporter$Exporter") (C := RX2) (T := TX2) (N := 13) (ci := 4) (v := .int xp) B hu_X11_advance_X2 rfl 8 (Nat.le_of_ble_eq_true rfl) hv_X11_advance_137 rfl hc0 rfl dX11_advance_46 ?_
        refine z_istore_n (lv' := [(2, .int xp), (0, .ref x), (1, .int (nI n_1))]) B dX11_advance_49 rfl (Nat.le_of_ble_eq_true rfl) rfl ?_
        refine z_iconst (v := 0) B dX11_advance_50 rfl ?_
        refine z_istore_n (lv' := [(3, .int 0), (2, .int xp), (0, .ref x), (1, .int (nI n_1))]) B dX11_advance_51 rfl (Nat.le_of_ble_eq_true rfl) rfl ?_
        refine z_lv [0, 1, 2, 3] rfl ?_
        refine z_loop (α := Nat × Nat × (Nat → Fl) × UN × Nat × Int32 × Nat × Int32 × (Nat → Nat) × SN × Nat × (Nat → Nat) × Int32) (fun (a9 : Nat × Nat × (Nat → Fl) × UN × Nat × Int32 × Nat × Int32 × (Nat → Nat) × SN × Nat × (Nat → Nat) × Int32) Φi => In G x (ca) Φi ∧ Fr x (fun j9 => 46 ≤ j9 ∧ j9 < 95) Φ Φi ∧ (a9.1 ≤ n_1) ∧ (a9.2.1 ≤ 12) ∧ (1 ≤ a9.2.2.2.2.1 ∧ a9.2.2.2.2.1 ≤ 1024) ∧ (txI c aq tm (((n, Fs, un), r, xp - xb, 0), sn, qn, qL, qd) a9.1 = (((a9.2.1, a9.2.2.1, a9.2.2.2.1), a9.2.2.2.2.1, a9.2.2.2.2.2.1, a9.2.2.2.2.2.2.1), a9.2.2.2.2.2.2.2.2.2.1, a9.2.2.2.2.2.2.2.2.2.2.1, a9.2.2.2.2.2.2.2.2.2.2.2.1, a9.2.2.2.2.2.2.2.2.2.2.2.2)) ∧ (xp + nI a9.2.2.2.2.2.2.1 - a9.2.2.2.2.2.2.2.1 = a9.2.2.2.2.2.1) ∧ (a9.2.2.2.1 = uZ a9.2.2.2.1) ∧ (TbC G x a9.2.1 99 a9.2.2.1 a9.2.2.2.2.2.2.2.2.1 Φi) ∧ (CfA G x t s c Φi) ∧ (SdP G x c a9.2.2.2.2.2.2.2.2.2.1 a9.2.2.2.1 Φi) ∧ (QbR G x a9.2.2.2.2.2.2.2.2.2.2.1 a9.2.2.2.2.2.2.2.2.2.2.2.1 a9.2.2.2.2.2.2.2.2.2.2.2.2 qp Φi) ∧ (Φi (x + 80) = some (o_ 4 [.ref (x + 3), .ref (x + 74), .ref (x + 81), .ref (x + 95), .int (nI (tm + a9.1)), .int (nI a9.2.2.2.2.1), .int (nI w), .int aq, .int (xp + nI a9.2.2.2.2.2.2.1), .int a9.2.2.2.2.2.2.2.1, .long ob, .long sm, .long (a9.2.2.2.1.1)])) ∧ (Φi (x + 81) = some (o_ 6 [.ref (x + 82), .int (nI (a9.2.1))])) ∧ True) (fun a9 => [(3, .int (nI (a9.1))), (2, .int xp), (0, .ref x), (1, .int (nI n_1))]) (fun a9 => n_1 - a9.1) ?_ (0, n, Fs, un, r, xp - xb, 0, xb, pp, sn, qn, qL, qd) ⟨hI, fun _ _ => rfl, (show 0 ≤ n_1 by omega), (show n ≤ 12 by omega), (show 1 ≤ r ∧ r ≤ 1024 by omega), rfl, (congrArg (fun w8 : Int32 => w8 - xb) nadd_0.symm), hu, hcf0, hcf1, hcf2, hcf3, ((hc0.trans (congrArg (fun w9 : Nat => some (o_ 4 [.ref (x + 3), .ref (x + 74), .ref (x + 81), .ref (x + 95), .int (nI w9), .int (nI r), .int (nI w), .int aq, .int xp, .int xb, .long ob, .long sm, .long un.1])) (show tm = tm + 0 by omega))).trans (congrArg (fun w9 : Int32 => some (o_ 4 [.ref (x + 3), .ref (x + 74), .ref (x + 81), .ref (x + 95), .int (nI (tm + 0)), .int (nI r), .int (nI w), .int aq, .int w9, .int xb, .long ob, .long sm, .long un.1])) nadd_0)), (hc1.trans (congrArg (fun w9 : Nat => some (o_ 6 [.ref (x + 82), .int (nI w9)])) (show n = n by omega))), trivial⟩
        rintro ⟨i_1, i_2, i_3, i_4, i_5, i_6, i_7, i_8, i_9, i_10, i_11, i_12, i_13⟩ Φl1 ⟨hI1, hF1, b_1, b_2, b_3, b_4, b_5, b_6, b_7, b_8, b_9, b_10, b_11, b_12, -⟩ ih1
        replace hI1 : In G x (ca) Φl1 := hI1
        replace b_1 : i_1 ≤ n_1 := b_1
        replace b_2 : i_2 ≤ 12 := b_2
        replace b_3 : 1 ≤ i_5 ∧ i_5 ≤ 1024 := b_3
        replace b_4 : txI c aq tm (((n, Fs, un), r, xp - xb, 0), sn, qn, qL, qd) i_1 = (((i_2, i_3, i_4), i_5, i_6, i_7), i_10, i_11, i_12, i_13) := b_4
        replace b_5 : xp + nI i_7 - i_8 = i_6 := b_5
        replace b_6 : i_4 = uZ i_4 := b_6
        replace b_7 : TbC G x i_2 99 i_3 i_9 Φl1 := b_7
        replace b_8 : CfA G x t s c Φl1 := b_8
        replace b_9 : SdP G x c i_10 i_4 Φl1 := b_9
        replace b_10 : QbR G x i_11 i_12 i_13 qp Φl1 := b_10
        replace b_11 : Φl1 (x + 80) = some (o_ 4 [.ref (x + 3), .ref (x + 74), .ref (x + 81), .ref (x + 95), .int (nI (tm + i_1)), .int (nI i_5), .int (nI w), .int aq, .int (xp + nI i_7), .int i_8, .long ob, .long sm, .long (i_4.1)]) := b_11
        replace b_12 : Φl1 (x + 81) = some (o_ 6 [.ref (x + 82), .int (nI (i_2))]) := b_12
        show Z p9 l e9 _ s9 m9 _ w9 t9 k9 _ G 4 52 [(3, .int (nI i_1)), (2, .int xp), (0, .ref x), (1, .int (nI n_1))] [] Φl1 _ _ _
        refine z_iload_n B dX11_advance_52 rfl 0 rfl ?_
        refine z_iload_n B dX11_advance_53 rfl 3 rfl ?_
        refine z_icmp_ge (tgt := 70) B dX11_advance_54 rfl (fun c_4 => ?_) (fun c_4 => ?_)
        · have e_5 : n_1 ≤ i_1 := (nI_leI (a := n_1) (b := i_1) (by omega) (by omega)).mp c_4
          refine z_aload_n B dX11_advance_70 rfl 2 rfl ?_
          have h_3 : Φl1 x = some (o_ 13 [.ref (x + 1), .ref (x + 3), .ref (x + 24), .ref (x + 46), .ref (x + 74), .ref (x + 80), .ref (x + 132), .ref (x + 121)]) := ((hF1 x fq_505).trans h_2)
          refine z_get (ref := "FlowExporter") (C := RX11) (T := TX11) (N := 8) (ci := 13) (v := .ref (x + 80)) B hu_X11_advance_X11 rfl 5 (Nat.le_of_ble_eq_true rfl) hv_X11_advance_55 rfl h_3 rfl dX11_advance_71 ?_
          refine z_get (ref := "FlowExporter$Exporter") (C := RX2) (T := TX2) (N := 13) (ci := 4) (v := .int (xp + nI i_7)) B hu_X11_advance_X2 rfl 8 (Nat.le_of_ble_eq_true rfl) hv_X11_advance_137 rfl b_11 rfl dX11_advance_74 ?_
          refine z_iload_n B dX11_advance_77 rfl 1 rfl ?_
          refine z_isub B dX11_advance_78 ?_
          refine z_top (st1 := [.int (nI i_7)]) (congrArg (fun w9 : Int32 => ([.int w9] : List Value)) (xp_d xp i_7)) ?_
          have k_2 : (nI n_1).toInt = ((n_1 : Nat) : Int) := nI_toInt (by omega)
          have k_3 : (1 : Int32).toInt = 1 := by decide
          have q_2 : ¬ ((nI n_1).toInt < (1 : Int32).toInt) := fun h9 => c_1 (Int32.lt_iff_toInt_lt.mpr h9)
          have k_4 : (1000 : Int32).toInt = 1000 := by decide
          have q_3 : ((nI n_1).toInt ≤ (1000 : Int32).toInt) := Int32.le_iff_toInt_le.mp c_2
          have k_5 : (nI (tm + n_1)).toInt = ((tm + n_1 : Nat) : Int) := nI_toInt (by omega)
          have k_6 : (1000000 : Int32).toInt = 1000000 := by decide
          have q_4 : ((nI (tm + n_1)).toInt ≤ (1000000 : Int32).toInt) := Int32.le_iff_toInt_le.mp c_3
          have k_7 : (nI i_1).toInt = ((i_1 : Nat) : Int) := nI_toInt (by omega)
          have q_5 : ((nI n_1).toInt ≤ (nI i_1).toInt) := Int32.le_iff_toInt_le.mp c_4
          have hi9 : i_1 = n_1 := by omega
          have hi8 : i_1 = (nI n_1).toNatClampNeg := hi9.trans (nI_clamp (by omega)).symm
          exact zb_ret (Nat.le_of_ble_eq_true rfl) (Nat.le_of_ble_eq_true rfl) (z_ret_i B dX11_advance_79 ⟨⟨i_2, i_3, i_4, i_5, i_6, i_7, i_8, i_9, i_10, i_11, i_12, i_13, rfl, (b_11.trans (congrArg (fun w9 : Int32 => some (o_ 4 [.ref (x + 3), .ref (x + 74), .ref (x + 81), .ref (x + 95), .int w9, .int (nI i_5), .int (nI w), .int aq, .int (xp + nI i_7), .int i_8, .long ob, .long sm, .long (i_4.1)])) (congrArg (fun w8 : Nat => nI (tm + w8)) hi8))), b_12, b_7, b_9, b_10, (congrArg (fun w9 : Nat => txI c aq tm (((n, Fs, un), r, xp - xb, 0), sn, qn, qL, qd) w9) hi8.symm).trans b_4, b_5, by omega, by omega, by unfold Av2; omega, b_6⟩, rfl, hI1, (fun b9 h9 => ((hF1 b9 h9).trans rfl))⟩)
        · have e_6 : ¬ (n_1 ≤ i_1) := fun h9 => c_4 ((nI_leI (a := n_1) (b := i_1) (by omega) (by omega)).mpr h9)
          refine z_aload_n B dX11_advance_57 rfl 2 rfl ?_
          have h_4 : Φl1 x = some (o_ 13 [.ref (x + 1), .ref (x + 3), .ref (x + 24), .ref (x + 46), .ref (x + 74), .ref (x + 80), .ref (x + 132), .ref (x + 121)]) := ((hF1 x fq_505).trans h_2)
          refine z_get (ref := "FlowExporter") (C := RX11) (T := TX11) (N := 8) (ci := 13) (v := .ref (x + 80)) B hu_X11_advance_X11 rfl 5 (Nat.le_of_ble_eq_true rfl) hv_X11_advance_55 rfl h_4 rfl dX11_advance_58 ?_
          refine z_callV (As := []) (rest := []) B (s_X2_tickX G l Φl1 sz x (ca) (tm + i_1) i_5 w aq xp i_7 i_8 ob sm i_4 i_2 i_3 i_9 t s c i_10 i_11 i_12 i_13 qp hx hI1 b_11 b_12 b_7 b_8 b_9 b_10 (show i_2 ≤ 12 by omega) (show (tm + i_1) < 1000000 by omega) (show 1 ≤ i_5 ∧ i_5 ≤ 1024 by omega) hg had) (cwV 0 B.1.2.2.2.2 gX11_advance_X2_tick rfl rfl rfl (by decide +kernel) ⟨Nat.le_of_ble_eq_true rfl, Nat.le_of_ble_eq_true rfl⟩) b_11 rfl rfl rfl rfl (Nat.le_of_ble_eq_true rfl) dX11_advance_61 ⟨Nat.le_of_ble_eq_true rfl, Nat.le_of_ble_eq_true rfl⟩ (fun r_1 Φ1 sz1 st1 hp1 hs1 => ?_)
          obtain ⟨⟨n_2, f_1, f_2, n_3, v_1, n_4, v_2, f_3, f_4, n_5, f_5, v_3, rfl, h_5, h_6, hcg1, hcg2, hcg3, e_7, e_8, e_9, e_10, e_11⟩, hq1, hI2, hF2⟩ := hp1
          subst sz1
          replace hs1 : st1 = [] := hs1
          subst st1
          replace hI2 : In G x (ca) Φ1 := hI2
          replace e_7 : tiS c aq ((tm + i_1) + 1) ((i_2, i_3, i_4), i_5, xp + nI i_7 - i_8, i_7) = ((n_2, f_1, f_2), n_3, v_1, n_4) := e_7
          replace e_8 : xp + nI n_4 - v_2 = v_1 := e_8
          replace e_9 : n_2 ≤ 12 := e_9
          replace e_10 : 1 ≤ n_3 ∧ n_3 ≤ 1024 := e_10
          replace e_11 : spS c (nI ((tm + i_1) + 1)) f_2.2.2 f_2.2.1 i_10 (i_11, i_12, i_13) = (f_4, n_5, f_5, v_3) := e_11
          refine z_iinc (k := 0) (v := nI (i_1 + 1)) (lv' := [(3, .int (nI (i_1 + 1))), (2, .int xp), (0, .ref x), (1, .int (nI n_1))]) B dX11_advance_64 rfl (nI_add i_1 1) (Nat.le_of_ble_eq_true rfl) rfl ?_
          refine z_goto (tgt := 52) B dX11_advance_67 rfl ?_
          refine z_lv [0, 1, 2, 3] rfl ?_
          have hcg4 : CfA G x t s c Φ1 := (CfA.fr b_8 hF2 (fun j9 h7 => by have h6 : 46 ≤ j9 ∧ j9 < 95 := h7; intros; omega))
          exact ih1 (i_1 + 1, n_2, f_1, uZ f_2, n_3, v_1, n_4, v_2, f_3, f_4, n_5, f_5, v_3) Φ1 (show n_1 - (i_1 + 1) < n_1 - i_1 by omega) ⟨hI2, (fun b9 h9 => ((hF2 b9 h9).trans ((hF1 b9 h9).trans rfl))), (show (i_1 + 1) ≤ n_1 by omega), (show n_2 ≤ 12 by omega), (show 1 ≤ n_3 ∧ n_3 ≤ 1024 by omega), (txI_s b_4 ((congrArg (fun w9 : Int32 => tiS c aq (tm + i_1 + 1) ((i_2, i_3, i_4), i_5, w9, i_7)) b_5.symm).trans e_7) e_11 rfl), e_8, rfl, hcg1, hcg4, hcg2, hcg3, (h_5.trans (congrArg (fun w9 : Nat => some (o_ 4 [.ref (x + 3), .ref (x + 74), .ref (x + 81), .ref (x + 95), .int (nI w9), .int (nI n_3), .int (nI w), .int aq, .int (xp + nI n_4), .int (v_2), .long ob, .long sm, .long ((uZ f_2).1)])) (show (tm + i_1) + 1 = tm + (i_1 + 1) by omega))), (h_6.trans (congrArg (fun w9 : Nat => some (o_ 6 [.ref (x + 82), .int (nI w9)])) (show n_2 = n_2 by omega))), trivial⟩
      · have e_12 : ¬ (tm + n_1 ≤ 1000000) := fun h9 => c_3 ((nI_leI (a := tm + n_1) (b := 1000000) (by omega) (by omega)).mpr h9)
        have k_8 : (nI n_1).toInt = ((n_1 : Nat) : Int) := nI_toInt (by omega)
        have k_9 : (1 : Int32).toInt = 1 := by decide
        have q_6 : ¬ ((nI n_1).toInt < (1 : Int32).toInt) := fun h9 => c_1 (Int32.lt_iff_toInt_lt.mpr h9)
        have k_10 : (1000 : Int32).toInt = 1000 := by decide
        have q_7 : ((nI n_1).toInt ≤ (1000 : Int32).toInt) := Int32.le_iff_toInt_le.mp c_2
        have k_11 : (nI (tm + n_1)).toInt = ((tm + n_1 : Nat) : Int) := nI_toInt (by omega)
        have k_12 : (1000000 : Int32).toInt = 1000000 := by decide
        have q_8 : ¬ ((nI (tm + n_1)).toInt ≤ (1000000 : Int32).toInt) := fun h9 => c_3 (Int32.le_iff_toInt_le.mpr h9)
        exact zb_throw (cls := xIS) (ik := 134) (ic := 136) B hl9 htab9 (by decide) ⟨(fun h9 => by unfold Av2 at h9; omega), hI, (fun b9 h9 => rfl)⟩ (by decide) (by decide +kernel) (by decide +kernel) (by decide +kernel) (by decide +kernel) (by decide +kernel) (by decide +kernel) (by decide +kernel) dX11_advance_34 dX11_advance_37 dX11_advance_38 dX11_advance_41 ⟨Nat.le_of_ble_eq_true rfl, Nat.le_of_ble_eq_true rfl, Nat.le_of_ble_eq_true rfl, Nat.le_of_ble_eq_true rfl⟩ ⟨Nat.le_of_ble_eq_true rfl, Nat.le_of_ble_eq_true rfl⟩
    · have e_13 : ¬ (n_1 ≤ 1000) := fun h9 => c_2 ((nI_leI (a := n_1) (b := 1000) (by omega) (by omega)).mpr h9)
      have k_13 : (nI n_1).toInt = ((n_1 : Nat) : Int) := nI_toInt (by omega)
      have k_14 : (1 : Int32).toInt = 1 := by decide
      have q_9 : ¬ ((nI n_1).toInt < (1 : Int32).toInt) := fun h9 => c_1 (Int32.lt_iff_toInt_lt.mpr h9)
      have k_15 : (1000 : Int32).toInt = 1000 := by decide
      have q_10 : ¬ ((nI n_1).toInt ≤ (1000 : Int32).toInt) := fun h9 => c_2 (Int32.le_iff_toInt_le.mpr h9)
      unfold Av1 at hyA
      exact ((show False by omega).elim)

set_option maxHeartbeats 4000000 in
set_option maxRecDepth 100000 in
theorem s_X11_advanceXb (G : EnvG) (l : Launch) (hl9 : l.stackTraces = false) (Φ : Hm) (sz x ca : Nat) (a : Int32) (hx : G.2.2.2 ≤ x) (hI : In G x ca Φ) (hyA : ¬ Av1 a) : CtB G l yX11_advance wsX11_advance ({ frames := 6, cells := 1, slots := 6, locals := 81 }) 1 6 [.ref x, .int a] Φ sz (fun v Φ1 sz1 => (False) ∧ sz1 = sz ∧ In G x (ca) Φ1 ∧ Fr x (fun j9 => False) Φ Φ1) (fun Φ1 => In G x ca Φ1 ∧ Fr x (fun j9 => False) Φ Φ1) [xIA] := by
  refine CtB.of (cc := cX11_advance) (maxL := 4) (ret := (some .int)) (by decide) rfl (Nat.le_of_ble_eq_true rfl) ?_
  intro p9 e9 s9 m9 w9 t9 k9 B htab9
  show Z p9 l e9 _ s9 m9 _ w9 t9 k9 _ G 4 0 [(0, .ref x), (1, .int a)] [] Φ sz 0 0
  refine z_iload_n B dX11_advance_0 rfl 1 rfl ?_
  refine z_iconst (v := 1) B dX11_advance_1 rfl ?_
  refine z_icmp_lt (tgt := 12) B dX11_advance_2 rfl (fun c_1 => ?_) (fun c_1 => ?_)
  · exact zb_throw (cls := xIA) (ik := 116) (ic := 118) B hl9 htab9 (by decide) ⟨hI, (fun b9 h9 => rfl)⟩ (by decide) (by decide +kernel) (by decide +kernel) (by decide +kernel) (by decide +kernel) (by decide +kernel) (by decide +kernel) (by decide +kernel) dX11_advance_12 dX11_advance_15 dX11_advance_16 dX11_advance_19 ⟨Nat.le_of_ble_eq_true rfl, Nat.le_of_ble_eq_true rfl, Nat.le_of_ble_eq_true rfl, Nat.le_of_ble_eq_true rfl⟩ ⟨Nat.le_of_ble_eq_true rfl, Nat.le_of_ble_eq_true rfl⟩
  · obtain ⟨n_1, e_2, e_1, rfl⟩ := nI_ofge (c := 1) (by omega) c_1
    refine z_iload_n B dX11_advance_5 rfl 1 rfl ?_
    refine z_sipush (v := 1000) B dX11_advance_6 rfl ?_
    refine z_icmp_le (tgt := 20) B dX11_advance_9 rfl (fun c_2 => ?_) (fun c_2 => ?_)
    · have e_3 : n_1 ≤ 1000 := (nI_leI (a := n_1) (b := 1000) (by omega) (by omega)).mp c_2
      have k_1 : (nI n_1).toInt = ((n_1 : Nat) : Int) := nI_toInt (by omega)
      have k_2 : (1 : Int32).toInt = 1 := by decide
      have q_1 : ¬ ((nI n_1).toInt < (1 : Int32).toInt) := fun h9 => c_1 (Int32.lt_iff_toInt_lt.mpr h9)
      have k_3 : (1000 : Int32).toInt = 1000 := by decide
      have q_2 : ((nI n_1).toInt ≤ (1000 : Int32).toInt) := Int32.le_iff_toInt_le.mp c_2
      unfold Av1 at hyA
      exact ((show False by omega).elim)
    · have e_4 : ¬ (n_1 ≤ 1000) := fun h9 => c_2 ((nI_leI (a := n_1) (b := 1000) (by omega) (by omega)).mpr h9)
      exact zb_throw (cls := xIA) (ik := 116) (ic := 118) B hl9 htab9 (by decide) ⟨hI, (fun b9 h9 => rfl)⟩ (by decide) (by decide +kernel) (by decide +kernel) (by decide +kernel) (by decide +kernel) (by decide +kernel) (by decide +kernel) (by decide +kernel) dX11_advance_12 dX11_advance_15 dX11_advance_16 dX11_advance_19 ⟨Nat.le_of_ble_eq_true rfl, Nat.le_of_ble_eq_true rfl, Nat.le_of_ble_eq_true rfl, Nat.le_of_ble_eq_true rfl⟩ ⟨Nat.le_of_ble_eq_true rfl, Nat.le_of_ble_eq_true rfl⟩

set_option maxHeartbeats 4000000 in
set_option maxRecDepth 100000 in
theorem s_X11_cachedXa (G : EnvG) (l : Launch) (hl9 : l.stackTraces = false) (Φ : Hm) (sz x ca : Nat) (n : Nat) (Fs : Nat → Fl) (pp : Nat → Nat) (a : Int32) (b : Int32) (hx : G.2.2.2 ≤ x) (hI : In G x ca Φ) (hc0 : Φ (x + 81) = some (o_ 6 [.ref (x + 82), .int (nI n)])) (hcf0 : TbC G x n 99 Fs pp Φ) (hn : n ≤ 12) (hyA : Ca1 n a) : CtB G l yX11_cached wsX11_cached ({ frames := 6, cells := 1, slots := 6, locals := 81 }) 1 6 [.ref x, .int a, .int b] Φ sz (fun v Φ1 sz1 => (v = some (.long (vlL (Fs a.toNatClampNeg) b.toNatClampNeg)) ∧ Ca2 b) ∧ sz1 = sz ∧ In G x (ca) Φ1 ∧ Fr x (fun j9 => False) Φ Φ1) (fun Φ1 => (¬ Ca2 b) ∧ In G x ca Φ1 ∧ Fr x (fun j9 => False) Φ Φ1) [xIA] := by
  refine CtB.of (cc := cX11_cached) (maxL := 3) (ret := (some .long)) (by decide) rfl (Nat.le_of_ble_eq_true rfl) ?_
  intro p9 e9 s9 m9 w9 t9 k9 B htab9
  show Z p9 l e9 _ s9 m9 _ w9 t9 k9 _ G 3 0 [(0, .ref x), (1, .int a), (2, .int b)] [] Φ sz 0 0
  refine z_iload_n B dX11_cached_0 rfl 1 rfl ?_
  refine z_if_lt (tgt := 18) B dX11_cached_1 rfl (fun c_1 => ?_) (fun c_1 => ?_)
  · have k_1 : (0 : Int32).toInt = 0 := by decide
    have q_1 : (a.toInt < (0 : Int32).toInt) := Int32.lt_iff_toInt_lt.mp c_1
    unfold Ca1 at hyA
    exact ((show False by omega).elim)
  · obtain ⟨n_1, e_1, rfl⟩ := nI_of c_1
    refine z_iload_n B dX11_cached_4 rfl 1 rfl ?_
    refine z_aload_n B dX11_cached_5 rfl 0 rfl ?_
    have h_1 := in0 (k := 0) hI rfl
    have h_2 : Φ x = some (o_ 13 [.ref (x + 1), .ref (x + 3), .ref (x + 24), .ref (x + 46), .ref (x + 74), .ref (x + 80), .ref (x + 132), .ref (x + 121)]) := h_1
    refine z_get (ref := "FlowExporter") (C := RX11) (T := TX11) (N := 8) (ci := 13) (v := .ref (x + 80)) B hu_X11_cached_X11 rfl 5 (Nat.le_of_ble_eq_true rfl) hv_X11_cached_55 rfl h_2 rfl dX11_cached_6 ?_
    obtain ⟨v_1, v_2, v_3, v_4, v_5, v_6, v_7, v_8, v_9, h_3, b_1⟩ := in16 (k := 80) hI rfl
    have h_4 : Φ (x + 80) = some (o_ 4 [.ref (x + 3), .ref (x + 74), .ref (x + 81), .ref (x + 95), .int v_1, .int v_2, .int v_3, .int v_4, .int v_5, .int v_6, .long v_7, .long v_8, .long v_9]) := h_3
    refine z_get (ref := "FlowExporter$Exporter") (C := RX2) (T := TX2) (N := 13) (ci := 4) (v := .ref (x + 81)) B hu_X11_cached_X2 rfl 2 (Nat.le_of_ble_eq_true rfl) hv_X11_cached_146 rfl h_4 rfl dX11_cached_9 ?_
    refine z_get (ref := "FlowExporter$FlowTable") (C := RX4) (T := TX4) (N := 2) (ci := 6) (v := .int (nI n)) B hu_X11_cached_X4 rfl 1 (Nat.le_of_ble_eq_true rfl) hv_X11_cached_150 rfl hc0 rfl dX11_cached_12 ?_
    refine z_icmp_lt (tgt := 26) B dX11_cached_15 rfl (fun c_2 => ?_) (fun c_2 => ?_)
    · have e_2 : n_1 < n := (nI_ltI (a := n_1) (b := n) (by omega) (by omega)).mp c_2
      refine z_iload_n B dX11_cached_26 rfl 2 rfl ?_
      refine z_if_lt (tgt := 36) B dX11_cached_27 rfl (fun c_3 => ?_) (fun c_3 => ?_)
      · have k_2 : (nI n_1).toInt = ((n_1 : Nat) : Int) := nI_toInt (by omega)
        have k_3 : (0 : Int32).toInt = 0 := by decide
        have q_2 : ¬ ((nI n_1).toInt < (0 : Int32).toInt) := fun h9 => c_1 (Int32.lt_iff_toInt_lt.mpr h9)
        have k_4 : (nI n).toInt = ((n : Nat) : Int) := nI_toInt (by omega)
        have q_3 : ((nI n_1).toInt < (nI n).toInt) := Int32.lt_iff_toInt_lt.mp c_2
        have q_4 : (b.toInt < (0 : Int32).toInt) := Int32.lt_iff_toInt_lt.mp c_3
        exact zb_throw (cls := xIA) (ik := 116) (ic := 118) B hl9 htab9 (by decide) ⟨(fun h9 => by unfold Ca2 at h9; omega), hI, (fun b9 h9 => rfl)⟩ (by decide) (by decide +kernel) (by decide +kernel) (by decide +kernel) (by decide +kernel) (by decide +kernel) (by decide +kernel) (by decide +kernel) dX11_cached_36 dX11_cached_39 dX11_cached_40 dX11_cached_43 ⟨Nat.le_of_ble_eq_true rfl, Nat.le_of_ble_eq_true rfl, Nat.le_of_ble_eq_true rfl, Nat.le_of_ble_eq_true rfl⟩ ⟨Nat.le_of_ble_eq_true rfl, Nat.le_of_ble_eq_true rfl⟩
      · obtain ⟨n_2, e_3, rfl⟩ := nI_of c_3
        refine z_iload_n B dX11_cached_30 rfl 2 rfl ?_
        refine z_bipush (v := 7) B dX11_cached_31 rfl ?_
        refine z_icmp_le (tgt := 44) B dX11_cached_33 rfl (fun c_4 => ?_) (fun c_4 => ?_)
        · have e_4 : n_2 ≤ 7 := (nI_leI (a := n_2) (b := 7) (by omega) (by omega)).mp c_4
          by_cases e_5 : n_2 = 0
          · subst e_5
            refine z_aload_n B dX11_cached_44 rfl 0 rfl ?_
            refine z_get (ref := "FlowExporter") (C := RX11) (T := TX11) (N := 8) (ci := 13) (v := .ref (x + 80)) B hu_X11_cached_X11 rfl 5 (Nat.le_of_ble_eq_true rfl) hv_X11_cached_55 rfl h_2 rfl dX11_cached_45 ?_
            refine z_get (ref := "FlowExporter$Exporter") (C := RX2) (T := TX2) (N := 13) (ci := 4) (v := .ref (x + 81)) B hu_X11_cached_X2 rfl 2 (Nat.le_of_ble_eq_true rfl) hv_X11_cached_146 rfl h_4 rfl dX11_cached_48 ?_
            refine z_iload_n B dX11_cached_51 rfl 1 rfl ?_
            have e_6 := TbR.fl hcf0 (show n_1 < n by omega) (show ¬ n_1 = 99 by omega)
            have b_2 : (Fs n_1).1 < 2 ^ 40 ∧ (Fs n_1).2.2.2.1 ≤ 1000000 ∧ (Fs n_1).2.2.2.2 ≤ 1000000 := e_6.1
            have h_5 : Φ (x + (83 + pp n_1)) = some (o_ 5 [.long (Int64.ofNat (Fs n_1).1), .long ((Fs n_1).2.1), .long ((Fs n_1).2.2.1), .int (nI ((Fs n_1).2.2.2.1)), .int (nI ((Fs n_1).2.2.2.2))]) := e_6.2
            refine z_callV (As := [.int (nI n_1)]) (rest := []) B (s_X4_flowAt_81 G l Φ sz x (ca) n 99 Fs pp n_1 hx hI hc0 hcf0 (show n_1 < 12 by omega)) (cwV 1 B.1.2.2.2.2 gX11_cached_X4_flowAt rfl rfl rfl (by decide +kernel) ⟨Nat.le_of_ble_eq_true rfl, Nat.le_of_ble_eq_true rfl⟩) hc0 rfl rfl rfl rfl (Nat.le_of_ble_eq_true rfl) dX11_cached_52 ⟨Nat.le_of_ble_eq_true rfl, Nat.le_of_ble_eq_true rfl⟩ (fun r_1 Φ1 sz1 st1 hp1 hs1 => ?_)
            obtain ⟨rfl, hq1, hI1, hF1⟩ := hp1
            subst sz1
            replace hs1 : st1 = [.ref (x + (83 + pp n_1))] := hs1
            subst st1
            replace hI1 : In G x (ca) Φ1 := hI1
            refine z_iload_n B dX11_cached_55 rfl 2 rfl ?_
            have h_6 : Φ1 (x + (83 + pp n_1)) = some (o_ 5 [.long (Int64.ofNat (Fs n_1).1), .long ((Fs n_1).2.1), .long ((Fs n_1).2.2.1), .int (nI ((Fs n_1).2.2.2.1)), .int (nI ((Fs n_1).2.2.2.2))]) := ((hF1 (x + (83 + pp n_1)) (fun j9 h8 h7 => (show False from h7).elim)).trans h_5)
            refine z_callV (As := [.int 0]) (rest := []) B (s_X3_value0X G l Φ1 sz x (ca) ((Fs n_1).1) ((Fs n_1).2.1) ((Fs n_1).2.2.1) ((Fs n_1).2.2.2.1) ((Fs n_1).2.2.2.2) (83 + pp n_1) hx hI1 (kd_f (k := 82) rfl (show pp n_1 < 12 from TbR.lt hcf0 (by omega))) h_6 (show ((Fs n_1).1) < 2 ^ 40 by omega)) (cwV 1 B.1.2.2.2.2 gX11_cached_X3_value rfl rfl rfl (by decide +kernel) ⟨Nat.le_of_ble_eq_true rfl, Nat.le_of_ble_eq_true rfl⟩) h_6 rfl rfl rfl rfl (Nat.le_of_ble_eq_true rfl) dX11_cached_56 ⟨Nat.le_of_ble_eq_true rfl, Nat.le_of_ble_eq_true rfl⟩ (fun r_2 Φ2 sz2 st2 hp2 hs2 => ?_)
            obtain ⟨rfl, hq2, hI2, hF2⟩ := hp2
            subst sz2
            replace hs2 : st2 = [.long ((nI (((Fs n_1).1) / 2 ^ 32 % 2 ^ 8)).toInt64)] := hs2
            subst st2
            replace hI2 : In G x (ca) Φ2 := hI2
            have k_5 : (nI n_1).toInt = ((n_1 : Nat) : Int) := nI_toInt (by omega)
            have k_6 : (0 : Int32).toInt = 0 := by decide
            have q_5 : ¬ ((nI n_1).toInt < (0 : Int32).toInt) := fun h9 => c_1 (Int32.lt_iff_toInt_lt.mpr h9)
            have k_7 : (nI n).toInt = ((n : Nat) : Int) := nI_toInt (by omega)
            have q_6 : ((nI n_1).toInt < (nI n).toInt) := Int32.lt_iff_toInt_lt.mp c_2
            have k_8 : (nI 0).toInt = ((0 : Nat) : Int) := nI_toInt (by omega)
            have q_7 : ¬ ((nI 0).toInt < (0 : Int32).toInt) := fun h9 => c_3 (Int32.lt_iff_toInt_lt.mpr h9)
            have k_9 : (7 : Int32).toInt = 7 := by decide
            have q_8 : ((nI 0).toInt ≤ (7 : Int32).toInt) := Int32.le_iff_toInt_le.mp c_4
            have hj9 : (nI n_1).toNatClampNeg = n_1 := nI_clamp (by omega)
            have hk9 : (nI 0).toNatClampNeg = 0 := nI_clamp (by decide)
            have hk7 : (nI 0).toInt = (0 : Nat) := nI_toInt (by decide)
            exact zb_ret (Nat.le_of_ble_eq_true rfl) (Nat.le_of_ble_eq_true rfl) (z_ret_l B dX11_cached_59 ⟨⟨by rw [hj9, hk9]; rfl, by unfold Ca2; omega⟩, rfl, hI2, (fun b9 h9 => ((hF2 b9 (fun j9 h8 h7 => (show False from h7).elim)).trans ((hF1 b9 (fun j9 h8 h7 => (show False from h7).elim)).trans rfl)))⟩)
          by_cases e_7 : n_2 = 1
          · subst e_7
            refine z_aload_n B dX11_cached_44 rfl 0 rfl ?_
            refine z_get (ref := "FlowExporter") (C := RX11) (T := TX11) (N := 8) (ci := 13) (v := .ref (x + 80)) B hu_X11_cached_X11 rfl 5 (Nat.le_of_ble_eq_true rfl) hv_X11_cached_55 rfl h_2 rfl dX11_cached_45 ?_
            refine z_get (ref := "FlowExporter$Exporter") (C := RX2) (T := TX2) (N := 13) (ci := 4) (v := .ref (x + 81)) B hu_X11_cached_X2 rfl 2 (Nat.le_of_ble_eq_true rfl) hv_X11_cached_146 rfl h_4 rfl dX11_cached_48 ?_
            refine z_iload_n B dX11_cached_51 rfl 1 rfl ?_
            have e_8 := TbR.fl hcf0 (show n_1 < n by omega) (show ¬ n_1 = 99 by omega)
            have b_3 : (Fs n_1).1 < 2 ^ 40 ∧ (Fs n_1).2.2.2.1 ≤ 1000000 ∧ (Fs n_1).2.2.2.2 ≤ 1000000 := e_8.1
            have h_7 : Φ (x + (83 + pp n_1)) = some (o_ 5 [.long (Int64.ofNat (Fs n_1).1), .long ((Fs n_1).2.1), .long ((Fs n_1).2.2.1), .int (nI ((Fs n_1).2.2.2.1)), .int (nI ((Fs n_1).2.2.2.2))]) := e_8.2
            refine z_callV (As := [.int (nI n_1)]) (rest := []) B (s_X4_flowAt_81 G l Φ sz x (ca) n 99 Fs pp n_1 hx hI hc0 hcf0 (show n_1 < 12 by omega)) (cwV 1 B.1.2.2.2.2 gX11_cached_X4_flowAt rfl rfl rfl (by decide +kernel) ⟨Nat.le_of_ble_eq_true rfl, Nat.le_of_ble_eq_true rfl⟩) hc0 rfl rfl rfl rfl (Nat.le_of_ble_eq_true rfl) dX11_cached_52 ⟨Nat.le_of_ble_eq_true rfl, Nat.le_of_ble_eq_true rfl⟩ (fun r_3 Φ3 sz3 st3 hp3 hs3 => ?_)
            obtain ⟨rfl, hq3, hI3, hF3⟩ := hp3
            subst sz3
            replace hs3 : st3 = [.ref (x + (83 + pp n_1))] := hs3
            subst st3
            replace hI3 : In G x (ca) Φ3 := hI3
            refine z_iload_n B dX11_cached_55 rfl 2 rfl ?_
            have h_8 : Φ3 (x + (83 + pp n_1)) = some (o_ 5 [.long (Int64.ofNat (Fs n_1).1), .long ((Fs n_1).2.1), .long ((Fs n_1).2.2.1), .int (nI ((Fs n_1).2.2.2.1)), .int (nI ((Fs n_1).2.2.2.2))]) := ((hF3 (x + (83 + pp n_1)) (fun j9 h8 h7 => (show False from h7).elim)).trans h_7)
            refine z_callV (As := [.int 1]) (rest := []) B (s_X3_value1X G l Φ3 sz x (ca) ((Fs n_1).1) ((Fs n_1).2.1) ((Fs n_1).2.2.1) ((Fs n_1).2.2.2.1) ((Fs n_1).2.2.2.2) (83 + pp n_1) hx hI3 (kd_f (k := 82) rfl (show pp n_1 < 12 from TbR.lt hcf0 (by omega))) h_8 (show ((Fs n_1).1) < 2 ^ 40 by omega)) (cwV 1 B.1.2.2.2.2 gX11_cached_X3_value rfl rfl rfl (by decide +kernel) ⟨Nat.le_of_ble_eq_true rfl, Nat.le_of_ble_eq_true rfl⟩) h_8 rfl rfl rfl rfl (Nat.le_of_ble_eq_true rfl) dX11_cached_56 ⟨Nat.le_of_ble_eq_true rfl, Nat.le_of_ble_eq_true rfl⟩ (fun r_4 Φ4 sz4 st4 hp4 hs4 => ?_)
            obtain ⟨rfl, hq4, hI4, hF4⟩ := hp4
            subst sz4
            replace hs4 : st4 = [.long ((nI (((Fs n_1).1) / 2 ^ 24 % 2 ^ 8)).toInt64)] := hs4
            subst st4
            replace hI4 : In G x (ca) Φ4 := hI4
            have k_10 : (nI n_1).toInt = ((n_1 : Nat) : Int) := nI_toInt (by omega)
            have k_11 : (1 : Int32).toInt = 1 := by decide
            have k_12 : (0 : Int32).toInt = 0 := by decide
            have q_9 : ¬ ((nI n_1).toInt < (0 : Int32).toInt) := fun h9 => c_1 (Int32.lt_iff_toInt_lt.mpr h9)
            have k_13 : (nI n).toInt = ((n : Nat) : Int) := nI_toInt (by omega)
            have q_10 : ((nI n_1).toInt < (nI n).toInt) := Int32.lt_iff_toInt_lt.mp c_2
            have k_14 : (nI 1).toInt = ((1 : Nat) : Int) := nI_toInt (by omega)
            have q_11 : ¬ ((nI 1).toInt < (0 : Int32).toInt) := fun h9 => c_3 (Int32.lt_iff_toInt_lt.mpr h9)
            have k_15 : (7 : Int32).toInt = 7 := by decide
            have q_12 : ((nI 1).toInt ≤ (7 : Int32).toInt) := Int32.le_iff_toInt_le.mp c_4
            have hj9 : (nI n_1).toNatClampNeg = n_1 := nI_clamp (by omega)
            have hk9 : (nI 1).toNatClampNeg = 1 := nI_clamp (by decide)
            have hk7 : (nI 1).toInt = (1 : Nat) := nI_toInt (by decide)
            exact zb_ret (Nat.le_of_ble_eq_true rfl) (Nat.le_of_ble_eq_true rfl) (z_ret_l B dX11_cached_59 ⟨⟨by rw [hj9, hk9]; rfl, by unfold Ca2; omega⟩, rfl, hI4, (fun b9 h9 => ((hF4 b9 (fun j9 h8 h7 => (show False from h7).elim)).trans ((hF3 b9 (fun j9 h8 h7 => (show False from h7).elim)).trans rfl)))⟩)
          by_cases e_9 : n_2 = 2
          · subst e_9
            refine z_aload_n B dX11_cached_44 rfl 0 rfl ?_
            refine z_get (ref := "FlowExporter") (C := RX11) (T := TX11) (N := 8) (ci := 13) (v := .ref (x + 80)) B hu_X11_cached_X11 rfl 5 (Nat.le_of_ble_eq_true rfl) hv_X11_cached_55 rfl h_2 rfl dX11_cached_45 ?_
            refine z_get (ref := "FlowExporter$Exporter") (C := RX2) (T := TX2) (N := 13) (ci := 4) (v := .ref (x + 81)) B hu_X11_cached_X2 rfl 2 (Nat.le_of_ble_eq_true rfl) hv_X11_cached_146 rfl h_4 rfl dX11_cached_48 ?_
            refine z_iload_n B dX11_cached_51 rfl 1 rfl ?_
            have e_10 := TbR.fl hcf0 (show n_1 < n by omega) (show ¬ n_1 = 99 by omega)
            have b_4 : (Fs n_1).1 < 2 ^ 40 ∧ (Fs n_1).2.2.2.1 ≤ 1000000 ∧ (Fs n_1).2.2.2.2 ≤ 1000000 := e_10.1
            have h_9 : Φ (x + (83 + pp n_1)) = some (o_ 5 [.long (Int64.ofNat (Fs n_1).1), .long ((Fs n_1).2.1), .long ((Fs n_1).2.2.1), .int (nI ((Fs n_1).2.2.2.1)), .int (nI ((Fs n_1).2.2.2.2))]) := e_10.2
            refine z_callV (As := [.int (nI n_1)]) (rest := []) B (s_X4_flowAt_81 G l Φ sz x (ca) n 99 Fs pp n_1 hx hI hc0 hcf0 (show n_1 < 12 by omega)) (cwV 1 B.1.2.2.2.2 gX11_cached_X4_flowAt rfl rfl rfl (by decide +kernel) ⟨Nat.le_of_ble_eq_true rfl, Nat.le_of_ble_eq_true rfl⟩) hc0 rfl rfl rfl rfl (Nat.le_of_ble_eq_true rfl) dX11_cached_52 ⟨Nat.le_of_ble_eq_true rfl, Nat.le_of_ble_eq_true rfl⟩ (fun r_5 Φ5 sz5 st5 hp5 hs5 => ?_)
            obtain ⟨rfl, hq5, hI5, hF5⟩ := hp5
            subst sz5
            replace hs5 : st5 = [.ref (x + (83 + pp n_1))] := hs5
            subst st5
            replace hI5 : In G x (ca) Φ5 := hI5
            refine z_iload_n B dX11_cached_55 rfl 2 rfl ?_
            have h_10 : Φ5 (x + (83 + pp n_1)) = some (o_ 5 [.long (Int64.ofNat (Fs n_1).1), .long ((Fs n_1).2.1), .long ((Fs n_1).2.2.1), .int (nI ((Fs n_1).2.2.2.1)), .int (nI ((Fs n_1).2.2.2.2))]) := ((hF5 (x + (83 + pp n_1)) (fun j9 h8 h7 => (show False from h7).elim)).trans h_9)
            refine z_callV (As := [.int 2]) (rest := []) B (s_X3_value2X G l Φ5 sz x (ca) ((Fs n_1).1) ((Fs n_1).2.1) ((Fs n_1).2.2.1) ((Fs n_1).2.2.2.1) ((Fs n_1).2.2.2.2) (83 + pp n_1) hx hI5 (kd_f (k := 82) rfl (show pp n_1 < 12 from TbR.lt hcf0 (by omega))) h_10 (show ((Fs n_1).1) < 2 ^ 40 by omega)) (cwV 1 B.1.2.2.2.2 gX11_cached_X3_value rfl rfl rfl (by decide +kernel) ⟨Nat.le_of_ble_eq_true rfl, Nat.le_of_ble_eq_true rfl⟩) h_10 rfl rfl rfl rfl (Nat.le_of_ble_eq_true rfl) dX11_cached_56 ⟨Nat.le_of_ble_eq_true rfl, Nat.le_of_ble_eq_true rfl⟩ (fun r_6 Φ6 sz6 st6 hp6 hs6 => ?_)
            obtain ⟨rfl, hq6, hI6, hF6⟩ := hp6
            subst sz6
            replace hs6 : st6 = [.long ((nI (((Fs n_1).1) / 2 ^ 8 % 2 ^ 16)).toInt64)] := hs6
            subst st6
            replace hI6 : In G x (ca) Φ6 := hI6
            have k_16 : (nI n_1).toInt = ((n_1 : Nat) : Int) := nI_toInt (by omega)
            have k_17 : (2 : Int32).toInt = 2 := by decide
            have k_18 : (0 : Int32).toInt = 0 := by decide
            have q_13 : ¬ ((nI n_1).toInt < (0 : Int32).toInt) := fun h9 => c_1 (Int32.lt_iff_toInt_lt.mpr h9)
            have k_19 : (nI n).toInt = ((n : Nat) : Int) := nI_toInt (by omega)
            have q_14 : ((nI n_1).toInt < (nI n).toInt) := Int32.lt_iff_toInt_lt.mp c_2
            have k_20 : (nI 2).toInt = ((2 : Nat) : Int) := nI_toInt (by omega)
            have q_15 : ¬ ((nI 2).toInt < (0 : Int32).toInt) := fun h9 => c_3 (Int32.lt_iff_toInt_lt.mpr h9)
            have k_21 : (7 : Int32).toInt = 7 := by decide
            have q_16 : ((nI 2).toInt ≤ (7 : Int32).toInt) := Int32.le_iff_toInt_le.mp c_4
            have hj9 : (nI n_1).toNatClampNeg = n_1 := nI_clamp (by omega)
            have hk9 : (nI 2).toNatClampNeg = 2 := nI_clamp (by decide)
            have hk7 : (nI 2).toInt = (2 : Nat) := nI_toInt (by decide)
            exact zb_ret (Nat.le_of_ble_eq_true rfl) (Nat.le_of_ble_eq_true rfl) (z_ret_l B dX11_cached_59 ⟨⟨by rw [hj9, hk9]; rfl, by unfold Ca2; omega⟩, rfl, hI6, (fun b9 h9 => ((hF6 b9 (fun j9 h8 h7 => (show False from h7).elim)).trans ((hF5 b9 (fun j9 h8 h7 => (show False from h7).elim)).trans rfl)))⟩)
          by_cases e_11 : n_2 = 3
          · subst e_11
            refine z_aload_n B dX11_cached_44 rfl 0 rfl ?_
            refine z_get (ref := "FlowExporter") (C := RX11) (T := TX11) (N := 8) (ci := 13) (v := .ref (x + 80)) B hu_X11_cached_X11 rfl 5 (Nat.le_of_ble_eq_true rfl) hv_X11_cached_55 rfl h_2 rfl dX11_cached_45 ?_
            refine z_get (ref := "FlowExporter$Exporter") (C := RX2) (T := TX2) (N := 13) (ci := 4) (v := .ref (x + 81)) B hu_X11_cached_X2 rfl 2 (Nat.le_of_ble_eq_true rfl) hv_X11_cached_146 rfl h_4 rfl dX11_cached_48 ?_
            refine z_iload_n B dX11_cached_51 rfl 1 rfl ?_
            have e_12 := TbR.fl hcf0 (show n_1 < n by omega) (show ¬ n_1 = 99 by omega)
            have b_5 : (Fs n_1).1 < 2 ^ 40 ∧ (Fs n_1).2.2.2.1 ≤ 1000000 ∧ (Fs n_1).2.2.2.2 ≤ 1000000 := e_12.1
            have h_11 : Φ (x + (83 + pp n_1)) = some (o_ 5 [.long (Int64.ofNat (Fs n_1).1), .long ((Fs n_1).2.1), .long ((Fs n_1).2.2.1), .int (nI ((Fs n_1).2.2.2.1)), .int (nI ((Fs n_1).2.2.2.2))]) := e_12.2
            refine z_callV (As := [.int (nI n_1)]) (rest := []) B (s_X4_flowAt_81 G l Φ sz x (ca) n 99 Fs pp n_1 hx hI hc0 hcf0 (show n_1 < 12 by omega)) (cwV 1 B.1.2.2.2.2 gX11_cached_X4_flowAt rfl rfl rfl (by decide +kernel) ⟨Nat.le_of_ble_eq_true rfl, Nat.le_of_ble_eq_true rfl⟩) hc0 rfl rfl rfl rfl (Nat.le_of_ble_eq_true rfl) dX11_cached_52 ⟨Nat.le_of_ble_eq_true rfl, Nat.le_of_ble_eq_true rfl⟩ (fun r_7 Φ7 sz7 st7 hp7 hs7 => ?_)
            obtain ⟨rfl, hq7, hI7, hF7⟩ := hp7
            subst sz7
            replace hs7 : st7 = [.ref (x + (83 + pp n_1))] := hs7
            subst st7
            replace hI7 : In G x (ca) Φ7 := hI7
            refine z_iload_n B dX11_cached_55 rfl 2 rfl ?_
            have h_12 : Φ7 (x + (83 + pp n_1)) = some (o_ 5 [.long (Int64.ofNat (Fs n_1).1), .long ((Fs n_1).2.1), .long ((Fs n_1).2.2.1), .int (nI ((Fs n_1).2.2.2.1)), .int (nI ((Fs n_1).2.2.2.2))]) := ((hF7 (x + (83 + pp n_1)) (fun j9 h8 h7 => (show False from h7).elim)).trans h_11)
            refine z_callV (As := [.int 3]) (rest := []) B (s_X3_value3X G l Φ7 sz x (ca) ((Fs n_1).1) ((Fs n_1).2.1) ((Fs n_1).2.2.1) ((Fs n_1).2.2.2.1) ((Fs n_1).2.2.2.2) (83 + pp n_1) hx hI7 (kd_f (k := 82) rfl (show pp n_1 < 12 from TbR.lt hcf0 (by omega))) h_12 (show ((Fs n_1).1) < 2 ^ 40 by omega)) (cwV 1 B.1.2.2.2.2 gX11_cached_X3_value rfl rfl rfl (by decide +kernel) ⟨Nat.le_of_ble_eq_true rfl, Nat.le_of_ble_eq_true rfl⟩) h_12 rfl rfl rfl rfl (Nat.le_of_ble_eq_true rfl) dX11_cached_56 ⟨Nat.le_of_ble_eq_true rfl, Nat.le_of_ble_eq_true rfl⟩ (fun r_8 Φ8 sz8 st8 hp8 hs8 => ?_)
            obtain ⟨rfl, hq8, hI8, hF8⟩ := hp8
            subst sz8
            replace hs8 : st8 = [.long ((nI (((Fs n_1).1) % 256)).toInt64)] := hs8
            subst st8
            replace hI8 : In G x (ca) Φ8 := hI8
            have k_22 : (nI n_1).toInt = ((n_1 : Nat) : Int) := nI_toInt (by omega)
            have k_23 : (3 : Int32).toInt = 3 := by decide
            have k_24 : (0 : Int32).toInt = 0 := by decide
            have q_17 : ¬ ((nI n_1).toInt < (0 : Int32).toInt) := fun h9 => c_1 (Int32.lt_iff_toInt_lt.mpr h9)
            have k_25 : (nI n).toInt = ((n : Nat) : Int) := nI_toInt (by omega)
            have q_18 : ((nI n_1).toInt < (nI n).toInt) := Int32.lt_iff_toInt_lt.mp c_2
            have k_26 : (nI 3).toInt = ((3 : Nat) : Int) := nI_toInt (by omega)
            have q_19 : ¬ ((nI 3).toInt < (0 : Int32).toInt) := fun h9 => c_3 (Int32.lt_iff_toInt_lt.mpr h9)
            have k_27 : (7 : Int32).toInt = 7 := by decide
            have q_20 : ((nI 3).toInt ≤ (7 : Int32).toInt) := Int32.le_iff_toInt_le.mp c_4
            have hj9 : (nI n_1).toNatClampNeg = n_1 := nI_clamp (by omega)
            have hk9 : (nI 3).toNatClampNeg = 3 := nI_clamp (by decide)
            have hk7 : (nI 3).toInt = (3 : Nat) := nI_toInt (by decide)
            exact zb_ret (Nat.le_of_ble_eq_true rfl) (Nat.le_of_ble_eq_true rfl) (z_ret_l B dX11_cached_59 ⟨⟨by rw [hj9, hk9]; rfl, by unfold Ca2; omega⟩, rfl, hI8, (fun b9 h9 => ((hF8 b9 (fun j9 h8 h7 => (show False from h7).elim)).trans ((hF7 b9 (fun j9 h8 h7 => (show False from h7).elim)).trans rfl)))⟩)
          by_cases e_13 : n_2 = 4
          · subst e_13
            refine z_aload_n B dX11_cached_44 rfl 0 rfl ?_
            refine z_get (ref := "FlowExporter") (C := RX11) (T := TX11) (N := 8) (ci := 13) (v := .ref (x + 80)) B hu_X11_cached_X11 rfl 5 (Nat.le_of_ble_eq_true rfl) hv_X11_cached_55 rfl h_2 rfl dX11_cached_45 ?_
            refine z_get (ref := "FlowExporter$Exporter") (C := RX2) (T := TX2) (N := 13) (ci := 4) (v := .ref (x + 81)) B hu_X11_cached_X2 rfl 2 (Nat.le_of_ble_eq_true rfl) hv_X11_cached_146 rfl h_4 rfl dX11_cached_48 ?_
            refine z_iload_n B dX11_cached_51 rfl 1 rfl ?_
            have e_14 := TbR.fl hcf0 (show n_1 < n by omega) (show ¬ n_1 = 99 by omega)
            have b_6 : (Fs n_1).1 < 2 ^ 40 ∧ (Fs n_1).2.2.2.1 ≤ 1000000 ∧ (Fs n_1).2.2.2.2 ≤ 1000000 := e_14.1
            have h_13 : Φ (x + (83 + pp n_1)) = some (o_ 5 [.long (Int64.ofNat (Fs n_1).1), .long ((Fs n_1).2.1), .long ((Fs n_1).2.2.1), .int (nI ((Fs n_1).2.2.2.1)), .int (nI ((Fs n_1).2.2.2.2))]) := e_14.2
            refine z_callV (As := [.int (nI n_1)]) (rest := []) B (s_X4_flowAt_81 G l Φ sz x (ca) n 99 Fs pp n_1 hx hI hc0 hcf0 (show n_1 < 12 by omega)) (cwV 1 B.1.2.2.2.2 gX11_cached_X4_flowAt rfl rfl rfl (by decide +kernel) ⟨Nat.le_of_ble_eq_true rfl, Nat.le_of_ble_eq_true rfl⟩) hc0 rfl rfl rfl rfl (Nat.le_of_ble_eq_true rfl) dX11_cached_52 ⟨Nat.le_of_ble_eq_true rfl, Nat.le_of_ble_eq_true rfl⟩ (fun r_9 Φ9 sz9 st9 hp9 hs9 => ?_)
            obtain ⟨rfl, hq9, hI9, hF9⟩ := hp9
            subst sz9
            replace hs9 : st9 = [.ref (x + (83 + pp n_1))] := hs9
            subst st9
            replace hI9 : In G x (ca) Φ9 := hI9
            refine z_iload_n B dX11_cached_55 rfl 2 rfl ?_
            have h_14 : Φ9 (x + (83 + pp n_1)) = some (o_ 5 [.long (Int64.ofNat (Fs n_1).1), .long ((Fs n_1).2.1), .long ((Fs n_1).2.2.1), .int (nI ((Fs n_1).2.2.2.1)), .int (nI ((Fs n_1).2.2.2.2))]) := ((hF9 (x + (83 + pp n_1)) (fun j9 h8 h7 => (show False from h7).elim)).trans h_13)
            refine z_callV (As := [.int 4]) (rest := []) B (s_X3_value4X G l Φ9 sz x (ca) ((Fs n_1).1) ((Fs n_1).2.1) ((Fs n_1).2.2.1) ((Fs n_1).2.2.2.1) ((Fs n_1).2.2.2.2) (83 + pp n_1) hx hI9 (kd_f (k := 82) rfl (show pp n_1 < 12 from TbR.lt hcf0 (by omega))) h_14 (show ((Fs n_1).1) < 2 ^ 40 by omega)) (cwV 1 B.1.2.2.2.2 gX11_cached_X3_value rfl rfl rfl (by decide +kernel) ⟨Nat.le_of_ble_eq_true rfl, Nat.le_of_ble_eq_true rfl⟩) h_14 rfl rfl rfl rfl (Nat.le_of_ble_eq_true rfl) dX11_cached_56 ⟨Nat.le_of_ble_eq_true rfl, Nat.le_of_ble_eq_true rfl⟩ (fun r_10 Φ10 sz10 st10 hp10 hs10 => ?_)
            obtain ⟨rfl, hq10, hI10, hF10⟩ := hp10
            subst sz10
            replace hs10 : st10 = [.long ((Fs n_1).2.1)] := hs10
            subst st10
            replace hI10 : In G x (ca) Φ10 := hI10
            have k_28 : (nI n_1).toInt = ((n_1 : Nat) : Int) := nI_toInt (by omega)
            have k_29 : (4 : Int32).toInt = 4 := by decide
            have k_30 : (0 : Int32).toInt = 0 := by decide
            have q_21 : ¬ ((nI n_1).toInt < (0 : Int32).toInt) := fun h9 => c_1 (Int32.lt_iff_toInt_lt.mpr h9)
            have k_31 : (nI n).toInt = ((n : Nat) : Int) := nI_toInt (by omega)
            have q_22 : ((nI n_1).toInt < (nI n).toInt) := Int32.lt_iff_toInt_lt.mp c_2
            have k_32 : (nI 4).toInt = ((4 : Nat) : Int) := nI_toInt (by omega)
            have q_23 : ¬ ((nI 4).toInt < (0 : Int32).toInt) := fun h9 => c_3 (Int32.lt_iff_toInt_lt.mpr h9)
            have k_33 : (7 : Int32).toInt = 7 := by decide
            have q_24 : ((nI 4).toInt ≤ (7 : Int32).toInt) := Int32.le_iff_toInt_le.mp c_4
            have hj9 : (nI n_1).toNatClampNeg = n_1 := nI_clamp (by omega)
            have hk9 : (nI 4).toNatClampNeg = 4 := nI_clamp (by decide)
            have hk7 : (nI 4).toInt = (4 : Nat) := nI_toInt (by decide)
            exact zb_ret (Nat.le_of_ble_eq_true rfl) (Nat.le_of_ble_eq_true rfl) (z_ret_l B dX11_cached_59 ⟨⟨by rw [hj9, hk9]; rfl, by unfold Ca2; omega⟩, rfl, hI10, (fun b9 h9 => ((hF10 b9 (fun j9 h8 h7 => (show False from h7).elim)).trans ((hF9 b9 (fun j9 h8 h7 => (show False from h7).elim)).trans rfl)))⟩)
          by_cases e_15 : n_2 = 5
          · subst e_15
            refine z_aload_n B dX11_cached_44 rfl 0 rfl ?_
            refine z_get (ref := "FlowExporter") (C := RX11) (T := TX11) (N := 8) (ci := 13) (v := .ref (x + 80)) B hu_X11_cached_X11 rfl 5 (Nat.le_of_ble_eq_true rfl) hv_X11_cached_55 rfl h_2 rfl dX11_cached_45 ?_
            refine z_get (ref := "FlowExporter$Exporter") (C := RX2) (T := TX2) (N := 13) (ci := 4) (v := .ref (x + 81)) B hu_X11_cached_X2 rfl 2 (Nat.le_of_ble_eq_true rfl) hv_X11_cached_146 rfl h_4 rfl dX11_cached_48 ?_
            refine z_iload_n B dX11_cached_51 rfl 1 rfl ?_
            have e_16 := TbR.fl hcf0 (show n_1 < n by omega) (show ¬ n_1 = 99 by omega)
            have b_7 : (Fs n_1).1 < 2 ^ 40 ∧ (Fs n_1).2.2.2.1 ≤ 1000000 ∧ (Fs n_1).2.2.2.2 ≤ 1000000 := e_16.1
            have h_15 : Φ (x + (83 + pp n_1)) = some (o_ 5 [.long (Int64.ofNat (Fs n_1).1), .long ((Fs n_1).2.1), .long ((Fs n_1).2.2.1), .int (nI ((Fs n_1).2.2.2.1)), .int (nI ((Fs n_1).2.2.2.2))]) := e_16.2
            refine z_callV (As := [.int (nI n_1)]) (rest := []) B (s_X4_flowAt_81 G l Φ sz x (ca) n 99 Fs pp n_1 hx hI hc0 hcf0 (show n_1 < 12 by omega)) (cwV 1 B.1.2.2.2.2 gX11_cached_X4_flowAt rfl rfl rfl (by decide +kernel) ⟨Nat.le_of_ble_eq_true rfl, Nat.le_of_ble_eq_true rfl⟩) hc0 rfl rfl rfl rfl (Nat.le_of_ble_eq_true rfl) dX11_cached_52 ⟨Nat.le_of_ble_eq_true rfl, Nat.le_of_ble_eq_true rfl⟩ (fun r_11 Φ11 sz11 st11 hp11 hs11 => ?_)
            obtain ⟨rfl, hq11, hI11, hF11⟩ := hp11
            subst sz11
            replace hs11 : st11 = [.ref (x + (83 + pp n_1))] := hs11
            subst st11
            replace hI11 : In G x (ca) Φ11 := hI11
            refine z_iload_n B dX11_cached_55 rfl 2 rfl ?_
            have h_16 : Φ11 (x + (83 + pp n_1)) = some (o_ 5 [.long (Int64.ofNat (Fs n_1).1), .long ((Fs n_1).2.1), .long ((Fs n_1).2.2.1), .int (nI ((Fs n_1).2.2.2.1)), .int (nI ((Fs n_1).2.2.2.2))]) := ((hF11 (x + (83 + pp n_1)) (fun j9 h8 h7 => (show False from h7).elim)).trans h_15)
            refine z_callV (As := [.int 5]) (rest := []) B (s_X3_value5X G l Φ11 sz x (ca) ((Fs n_1).1) ((Fs n_1).2.1) ((Fs n_1).2.2.1) ((Fs n_1).2.2.2.1) ((Fs n_1).2.2.2.2) (83 + pp n_1) hx hI11 (kd_f (k := 82) rfl (show pp n_1 < 12 from TbR.lt hcf0 (by omega))) h_16 (show ((Fs n_1).1) < 2 ^ 40 by omega)) (cwV 1 B.1.2.2.2.2 gX11_cached_X3_value rfl rfl rfl (by decide +kernel) ⟨Nat.le_of_ble_eq_true rfl, Nat.le_of_ble_eq_true rfl⟩) h_16 rfl rfl rfl rfl (Nat.le_of_ble_eq_true rfl) dX11_cached_56 ⟨Nat.le_of_ble_eq_true rfl, Nat.le_of_ble_eq_true rfl⟩ (fun r_12 Φ12 sz12 st12 hp12 hs12 => ?_)
            obtain ⟨rfl, hq12, hI12, hF12⟩ := hp12
            subst sz12
            replace hs12 : st12 = [.long ((Fs n_1).2.2.1)] := hs12
            subst st12
            replace hI12 : In G x (ca) Φ12 := hI12
            have k_34 : (nI n_1).toInt = ((n_1 : Nat) : Int) := nI_toInt (by omega)
            have k_35 : (5 : Int32).toInt = 5 := by decide
            have k_36 : (0 : Int32).toInt = 0 := by decide
            have q_25 : ¬ ((nI n_1).toInt < (0 : Int32).toInt) := fun h9 => c_1 (Int32.lt_iff_toInt_lt.mpr h9)
            have k_37 : (nI n).toInt = ((n : Nat) : Int) := nI_toInt (by omega)
            have q_26 : ((nI n_1).toInt < (nI n).toInt) := Int32.lt_iff_toInt_lt.mp c_2
            have k_38 : (nI 5).toInt = ((5 : Nat) : Int) := nI_toInt (by omega)
            have q_27 : ¬ ((nI 5).toInt < (0 : Int32).toInt) := fun h9 => c_3 (Int32.lt_iff_toInt_lt.mpr h9)
            have k_39 : (7 : Int32).toInt = 7 := by decide
            have q_28 : ((nI 5).toInt ≤ (7 : Int32).toInt) := Int32.le_iff_toInt_le.mp c_4
            have hj9 : (nI n_1).toNatClampNeg = n_1 := nI_clamp (by omega)
            have hk9 : (nI 5).toNatClampNeg = 5 := nI_clamp (by decide)
            have hk7 : (nI 5).toInt = (5 : Nat) := nI_toInt (by decide)
            exact zb_ret (Nat.le_of_ble_eq_true rfl) (Nat.le_of_ble_eq_true rfl) (z_ret_l B dX11_cached_59 ⟨⟨by rw [hj9, hk9]; rfl, by unfold Ca2; omega⟩, rfl, hI12, (fun b9 h9 => ((hF12 b9 (fun j9 h8 h7 => (show False from h7).elim)).trans ((hF11 b9 (fun j9 h8 h7 => (show False from h7).elim)).trans rfl)))⟩)
          by_cases e_17 : n_2 = 6
          · subst e_17
            refine z_aload_n B dX11_cached_44 rfl 0 rfl ?_
            refine z_get (ref := "FlowExporter") (C := RX11) (T := TX11) (N := 8) (ci := 13) (v := .ref (x + 80)) B hu_X11_cached_X11 rfl 5 (Nat.le_of_ble_eq_true rfl) hv_X11_cached_55 rfl h_2 rfl dX11_cached_45 ?_
            refine z_get (ref := "FlowExporter$Exporter") (C := RX2) (T := TX2) (N := 13) (ci := 4) (v := .ref (x + 81)) B hu_X11_cached_X2 rfl 2 (Nat.le_of_ble_eq_true rfl) hv_X11_cached_146 rfl h_4 rfl dX11_cached_48 ?_
            refine z_iload_n B dX11_cached_51 rfl 1 rfl ?_
            have e_18 := TbR.fl hcf0 (show n_1 < n by omega) (show ¬ n_1 = 99 by omega)
            have b_8 : (Fs n_1).1 < 2 ^ 40 ∧ (Fs n_1).2.2.2.1 ≤ 1000000 ∧ (Fs n_1).2.2.2.2 ≤ 1000000 := e_18.1
            have h_17 : Φ (x + (83 + pp n_1)) = some (o_ 5 [.long (Int64.ofNat (Fs n_1).1), .long ((Fs n_1).2.1), .long ((Fs n_1).2.2.1), .int (nI ((Fs n_1).2.2.2.1)), .int (nI ((Fs n_1).2.2.2.2))]) := e_18.2
            refine z_callV (As := [.int (nI n_1)]) (rest := []) B (s_X4_flowAt_81 G l Φ sz x (ca) n 99 Fs pp n_1 hx hI hc0 hcf0 (show n_1 < 12 by omega)) (cwV 1 B.1.2.2.2.2 gX11_cached_X4_flowAt rfl rfl rfl (by decide +kernel) ⟨Nat.le_of_ble_eq_true rfl, Nat.le_of_ble_eq_true rfl⟩) hc0 rfl rfl rfl rfl (Nat.le_of_ble_eq_true rfl) dX11_cached_52 ⟨Nat.le_of_ble_eq_true rfl, Nat.le_of_ble_eq_true rfl⟩ (fun r_13 Φ13 sz13 st13 hp13 hs13 => ?_)
            obtain ⟨rfl, hq13, hI13, hF13⟩ := hp13
            subst sz13
            replace hs13 : st13 = [.ref (x + (83 + pp n_1))] := hs13
            subst st13
            replace hI13 : In G x (ca) Φ13 := hI13
            refine z_iload_n B dX11_cached_55 rfl 2 rfl ?_
            have h_18 : Φ13 (x + (83 + pp n_1)) = some (o_ 5 [.long (Int64.ofNat (Fs n_1).1), .long ((Fs n_1).2.1), .long ((Fs n_1).2.2.1), .int (nI ((Fs n_1).2.2.2.1)), .int (nI ((Fs n_1).2.2.2.2))]) := ((hF13 (x + (83 + pp n_1)) (fun j9 h8 h7 => (show False from h7).elim)).trans h_17)
            refine z_callV (As := [.int 6]) (rest := []) B (s_X3_value6X G l Φ13 sz x (ca) ((Fs n_1).1) ((Fs n_1).2.1) ((Fs n_1).2.2.1) ((Fs n_1).2.2.2.1) ((Fs n_1).2.2.2.2) (83 + pp n_1) hx hI13 (kd_f (k := 82) rfl (show pp n_1 < 12 from TbR.lt hcf0 (by omega))) h_18 (show ((Fs n_1).1) < 2 ^ 40 by omega)) (cwV 1 B.1.2.2.2.2 gX11_cached_X3_value rfl rfl rfl (by decide +kernel) ⟨Nat.le_of_ble_eq_true rfl, Nat.le_of_ble_eq_true rfl⟩) h_18 rfl rfl rfl rfl (Nat.le_of_ble_eq_true rfl) dX11_cached_56 ⟨Nat.le_of_ble_eq_true rfl, Nat.le_of_ble_eq_true rfl⟩ (fun r_14 Φ14 sz14 st14 hp14 hs14 => ?_)
            obtain ⟨rfl, hq14, hI14, hF14⟩ := hp14
            subst sz14
            replace hs14 : st14 = [.long ((nI ((Fs n_1).2.2.2.1)).toInt64)] := hs14
            subst st14
            replace hI14 : In G x (ca) Φ14 := hI14
            have k_40 : (nI n_1).toInt = ((n_1 : Nat) : Int) := nI_toInt (by omega)
            have k_41 : (6 : Int32).toInt = 6 := by decide
            have k_42 : (0 : Int32).toInt = 0 := by decide
            have q_29 : ¬ ((nI n_1).toInt < (0 : Int32).toInt) := fun h9 => c_1 (Int32.lt_iff_toInt_lt.mpr h9)
            have k_43 : (nI n).toInt = ((n : Nat) : Int) := nI_toInt (by omega)
            have q_30 : ((nI n_1).toInt < (nI n).toInt) := Int32.lt_iff_toInt_lt.mp c_2
            have k_44 : (nI 6).toInt = ((6 : Nat) : Int) := nI_toInt (by omega)
            have q_31 : ¬ ((nI 6).toInt < (0 : Int32).toInt) := fun h9 => c_3 (Int32.lt_iff_toInt_lt.mpr h9)
            have k_45 : (7 : Int32).toInt = 7 := by decide
            have q_32 : ((nI 6).toInt ≤ (7 : Int32).toInt) := Int32.le_iff_toInt_le.mp c_4
            have hj9 : (nI n_1).toNatClampNeg = n_1 := nI_clamp (by omega)
            have hk9 : (nI 6).toNatClampNeg = 6 := nI_clamp (by decide)
            have hk7 : (nI 6).toInt = (6 : Nat) := nI_toInt (by decide)
            exact zb_ret (Nat.le_of_ble_eq_true rfl) (Nat.le_of_ble_eq_true rfl) (z_ret_l B dX11_cached_59 ⟨⟨by rw [hj9, hk9]; rfl, by unfold Ca2; omega⟩, rfl, hI14, (fun b9 h9 => ((hF14 b9 (fun j9 h8 h7 => (show False from h7).elim)).trans ((hF13 b9 (fun j9 h8 h7 => (show False from h7).elim)).trans rfl)))⟩)
          by_cases e_19 : n_2 = 7
          · subst e_19
            refine z_aload_n B dX11_cached_44 rfl 0 rfl ?_
            refine z_get (ref := "FlowExporter") (C := RX11) (T := TX11) (N := 8) (ci := 13) (v := .ref (x + 80)) B hu_X11_cached_X11 rfl 5 (Nat.le_of_ble_eq_true rfl) hv_X11_cached_55 rfl h_2 rfl dX11_cached_45 ?_
            refine z_get (ref := "FlowExporter$Exporter") (C := RX2) (T := TX2) (N := 13) (ci := 4) (v := .ref (x + 81)) B hu_X11_cached_X2 rfl 2 (Nat.le_of_ble_eq_true rfl) hv_X11_cached_146 rfl h_4 rfl dX11_cached_48 ?_
            refine z_iload_n B dX11_cached_51 rfl 1 rfl ?_
            have e_20 := TbR.fl hcf0 (show n_1 < n by omega) (show ¬ n_1 = 99 by omega)
            have b_9 : (Fs n_1).1 < 2 ^ 40 ∧ (Fs n_1).2.2.2.1 ≤ 1000000 ∧ (Fs n_1).2.2.2.2 ≤ 1000000 := e_20.1
            have h_19 : Φ (x + (83 + pp n_1)) = some (o_ 5 [.long (Int64.ofNat (Fs n_1).1), .long ((Fs n_1).2.1), .long ((Fs n_1).2.2.1), .int (nI ((Fs n_1).2.2.2.1)), .int (nI ((Fs n_1).2.2.2.2))]) := e_20.2
            refine z_callV (As := [.int (nI n_1)]) (rest := []) B (s_X4_flowAt_81 G l Φ sz x (ca) n 99 Fs pp n_1 hx hI hc0 hcf0 (show n_1 < 12 by omega)) (cwV 1 B.1.2.2.2.2 gX11_cached_X4_flowAt rfl rfl rfl (by decide +kernel) ⟨Nat.le_of_ble_eq_true rfl, Nat.le_of_ble_eq_true rfl⟩) hc0 rfl rfl rfl rfl (Nat.le_of_ble_eq_true rfl) dX11_cached_52 ⟨Nat.le_of_ble_eq_true rfl, Nat.le_of_ble_eq_true rfl⟩ (fun r_15 Φ15 sz15 st15 hp15 hs15 => ?_)
            obtain ⟨rfl, hq15, hI15, hF15⟩ := hp15
            subst sz15
            replace hs15 : st15 = [.ref (x + (83 + pp n_1))] := hs15
            subst st15
            replace hI15 : In G x (ca) Φ15 := hI15
            refine z_iload_n B dX11_cached_55 rfl 2 rfl ?_
            have h_20 : Φ15 (x + (83 + pp n_1)) = some (o_ 5 [.long (Int64.ofNat (Fs n_1).1), .long ((Fs n_1).2.1), .long ((Fs n_1).2.2.1), .int (nI ((Fs n_1).2.2.2.1)), .int (nI ((Fs n_1).2.2.2.2))]) := ((hF15 (x + (83 + pp n_1)) (fun j9 h8 h7 => (show False from h7).elim)).trans h_19)
            refine z_callV (As := [.int 7]) (rest := []) B (s_X3_value7X G l Φ15 sz x (ca) ((Fs n_1).1) ((Fs n_1).2.1) ((Fs n_1).2.2.1) ((Fs n_1).2.2.2.1) ((Fs n_1).2.2.2.2) (83 + pp n_1) hx hI15 (kd_f (k := 82) rfl (show pp n_1 < 12 from TbR.lt hcf0 (by omega))) h_20 (show ((Fs n_1).1) < 2 ^ 40 by omega)) (cwV 1 B.1.2.2.2.2 gX11_cached_X3_value rfl rfl rfl (by decide +kernel) ⟨Nat.le_of_ble_eq_true rfl, Nat.le_of_ble_eq_true rfl⟩) h_20 rfl rfl rfl rfl (Nat.le_of_ble_eq_true rfl) dX11_cached_56 ⟨Nat.le_of_ble_eq_true rfl, Nat.le_of_ble_eq_true rfl⟩ (fun r_16 Φ16 sz16 st16 hp16 hs16 => ?_)
            obtain ⟨rfl, hq16, hI16, hF16⟩ := hp16
            subst sz16
            replace hs16 : st16 = [.long ((nI ((Fs n_1).2.2.2.2)).toInt64)] := hs16
            subst st16
            replace hI16 : In G x (ca) Φ16 := hI16
            have k_46 : (nI n_1).toInt = ((n_1 : Nat) : Int) := nI_toInt (by omega)
            have k_47 : (7 : Int32).toInt = 7 := by decide
            have k_48 : (0 : Int32).toInt = 0 := by decide
            have q_33 : ¬ ((nI n_1).toInt < (0 : Int32).toInt) := fun h9 => c_1 (Int32.lt_iff_toInt_lt.mpr h9)
            have k_49 : (nI n).toInt = ((n : Nat) : Int) := nI_toInt (by omega)
            have q_34 : ((nI n_1).toInt < (nI n).toInt) := Int32.lt_iff_toInt_lt.mp c_2
            have k_50 : (nI 7).toInt = ((7 : Nat) : Int) := nI_toInt (by omega)
            have q_35 : ¬ ((nI 7).toInt < (0 : Int32).toInt) := fun h9 => c_3 (Int32.lt_iff_toInt_lt.mpr h9)
            have q_36 : ((nI 7).toInt ≤ (7 : Int32).toInt) := Int32.le_iff_toInt_le.mp c_4
            have hj9 : (nI n_1).toNatClampNeg = n_1 := nI_clamp (by omega)
            have hk9 : (nI 7).toNatClampNeg = 7 := nI_clamp (by decide)
            have hk7 : (nI 7).toInt = (7 : Nat) := nI_toInt (by decide)
            exact zb_ret (Nat.le_of_ble_eq_true rfl) (Nat.le_of_ble_eq_true rfl) (z_ret_l B dX11_cached_59 ⟨⟨by rw [hj9, hk9]; rfl, by unfold Ca2; omega⟩, rfl, hI16, (fun b9 h9 => ((hF16 b9 (fun j9 h8 h7 => (show False from h7).elim)).trans ((hF15 b9 (fun j9 h8 h7 => (show False from h7).elim)).trans rfl)))⟩)
          exact ((show False by omega).elim)
        · have e_21 : ¬ (n_2 ≤ 7) := fun h9 => c_4 ((nI_leI (a := n_2) (b := 7) (by omega) (by omega)).mpr h9)
          have k_51 : (nI n_1).toInt = ((n_1 : Nat) : Int) := nI_toInt (by omega)
          have k_52 : (nI n_2).toInt = ((n_2 : Nat) : Int) := nI_toInt (by omega)
          have k_53 : (0 : Int32).toInt = 0 := by decide
          have q_37 : ¬ ((nI n_1).toInt < (0 : Int32).toInt) := fun h9 => c_1 (Int32.lt_iff_toInt_lt.mpr h9)
          have k_54 : (nI n).toInt = ((n : Nat) : Int) := nI_toInt (by omega)
          have q_38 : ((nI n_1).toInt < (nI n).toInt) := Int32.lt_iff_toInt_lt.mp c_2
          have q_39 : ¬ ((nI n_2).toInt < (0 : Int32).toInt) := fun h9 => c_3 (Int32.lt_iff_toInt_lt.mpr h9)
          have k_55 : (7 : Int32).toInt = 7 := by decide
          have q_40 : ¬ ((nI n_2).toInt ≤ (7 : Int32).toInt) := fun h9 => c_4 (Int32.le_iff_toInt_le.mpr h9)
          exact zb_throw (cls := xIA) (ik := 116) (ic := 118) B hl9 htab9 (by decide) ⟨(fun h9 => by unfold Ca2 at h9; omega), hI, (fun b9 h9 => rfl)⟩ (by decide) (by decide +kernel) (by decide +kernel) (by decide +kernel) (by decide +kernel) (by decide +kernel) (by decide +kernel) (by decide +kernel) dX11_cached_36 dX11_cached_39 dX11_cached_40 dX11_cached_43 ⟨Nat.le_of_ble_eq_true rfl, Nat.le_of_ble_eq_true rfl, Nat.le_of_ble_eq_true rfl, Nat.le_of_ble_eq_true rfl⟩ ⟨Nat.le_of_ble_eq_true rfl, Nat.le_of_ble_eq_true rfl⟩
    · have e_22 : ¬ (n_1 < n) := fun h9 => c_2 ((nI_ltI (a := n_1) (b := n) (by omega) (by omega)).mpr h9)
      have k_56 : (nI n_1).toInt = ((n_1 : Nat) : Int) := nI_toInt (by omega)
      have k_57 : (0 : Int32).toInt = 0 := by decide
      have q_41 : ¬ ((nI n_1).toInt < (0 : Int32).toInt) := fun h9 => c_1 (Int32.lt_iff_toInt_lt.mpr h9)
      have k_58 : (nI n).toInt = ((n : Nat) : Int) := nI_toInt (by omega)
      have q_42 : ¬ ((nI n_1).toInt < (nI n).toInt) := fun h9 => c_2 (Int32.lt_iff_toInt_lt.mpr h9)
      unfold Ca1 at hyA
      exact ((show False by omega).elim)

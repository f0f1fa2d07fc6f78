set_option maxRecDepth 20000 in
theorem ggX11_advance_X2_tick : GoodIn wsX11_advance wsX2_tick := goodIn_ca (goodIn_ca ((goodIn_ca (goodIn_ca (goodIn_ca (goodIn_ca (goodIn_ca (goodIn_ca (goodIn_ca (goodIn_ca (goodIn_r _ [13, 14, 15, 16, 17, 18, 19, 12, 20, 21, 22, 23, 24, 25, 26, 27, 28, 29, 30, 31, 32, 33, 34, 35, 36, 37, 38, 39, 40, 41, 42, 43, 44, 45, 46, 47, 48, 49, 50, 51, 52, 53, 54, 55, 56, 57, 58, 59, 60, 61, 62, 63, 64, 65, 66, 67, 68, 69, 70, 71, 72, 73, 74, 75, 76, 77, 78, 79, 80, 81, 82, 83, 84, 85, 86, 87, 88, 89, 90, 91, 92, 93, 94, 95, 96, 97, 98, 99, 100, 101, 102, 103, 104, 105, 106, 107, 108, 109, 110, 111, 112, 113, 114, 115, 116, 117, 118, 119, 120, 121, 122, 123, 124, 125, 126, 127, 128, 129, 130, 131, 132, 133, 134, 135, 136, 137, 138, 139, 140, 141, 142, 143, 144, 145, 146, 147, 148, 149, 150, 151, 152, 153, 154, 155, 156, 157, 158, 159, 160, 161, 162, 163, 164, 165, 166, 167, 168, 169, 170, 171, 172, 173, 174, 175, 176, 177, 178, 179, 180, 181, 182, 183, 184, 185, 186, 187, 188, 189, 190, 191, 192, 193] rfl (by decide +kernel)) (goodIn_sub (fun _ h => List.mem_cons_of_mem _ (List.mem_append_left _ (List.mem_append_left _ (List.mem_append_left _ (List.mem_append_left _ (List.mem_append_left _ (List.mem_append_left _ (List.mem_append_left _ (List.mem_append_left _ (List.mem_append_left _ (List.mem_append_left _ (List.mem_append_left _ (List.mem_append_right _ h))))))))))))) gw_wsX20)) (goodIn_sub (fun _ h => List.mem_cons_of_mem _ (List.mem_append_left _ (List.mem_append_left _ (List.mem_append_left _ (List.mem_append_left _ (List.mem_append_left _ (List.mem_append_left _ (List.mem_append_left _ (List.mem_append_left _ (List.mem_append_left _ (List.mem_append_left _ (List.mem_append_right _ h)))))))))))) gw_wsX40)) (goodIn_sub (fun _ h => List.mem_cons_of_mem _ (List.mem_append_left _ (List.mem_append_left _ (List.mem_append_left _ (List.mem_append_left _ (List.mem_append_left _ (List.mem_append_left _ (List.mem_append_left _ (List.mem_append_left _ (List.mem_append_left _ (List.mem_append_right _ h))))))))))) gw_wsX30)) (goodIn_sub (fun _ h => List.mem_cons_of_mem _ (List.mem_append_left _ (List.mem_append_left _ (List.mem_append_left _ (List.mem_append_left _ (List.mem_append_left _ (List.mem_append_left _ (List.mem_append_left _ (List.mem_append_left _ (List.mem_append_right _ h)))))))))) gw_wsX10)) (goodIn_sub (fun _ h => List.mem_cons_of_mem _ (List.mem_append_left _ (List.mem_append_left _ (List.mem_append_left _ (List.mem_append_left _ (List.mem_append_left _ (List.mem_append_left _ (List.mem_append_left _ (List.mem_append_right _ h))))))))) gw_wsX100)) (goodIn_sub (fun _ h => List.mem_cons_of_mem _ (List.mem_append_left _ (List.mem_append_left _ (List.mem_append_left _ (List.mem_append_left _ (List.mem_append_left _ (List.mem_append_left _ (List.mem_append_right _ h)))))))) gw_wsX80)) (goodIn_sub (fun _ h => List.mem_cons_of_mem _ (List.mem_append_left _ (List.mem_append_left _ (List.mem_append_left _ (List.mem_append_left _ (List.mem_append_left _ (List.mem_append_right _ h))))))) gw_wsX50)) (goodIn_sub (fun _ h => List.mem_cons_of_mem _ (List.mem_append_left _ (List.mem_append_left _ (List.mem_append_left _ (List.mem_append_left _ (List.mem_append_right _ h)))))) gw_wsX70))) (goodIn_sub (fun _ h => List.mem_cons_of_mem _ (List.mem_append_left _ (List.mem_append_right _ h))) (all_fg _))) (goodIn_sub (fun _ h => List.mem_cons_of_mem _ (List.mem_append_right _ h)) (all_fg _))
set_option maxRecDepth 20000 in
theorem gX11_advance_X2_tick : GoodIn wsX11_advance (wsV RX11 140 RX2 yX2_tick wsX2_tick) := goodIn_app (goodIn_m (mem_cA (List.mem_cons_of_mem _ (List.mem_append_left _ (List.mem_append_left _ (List.mem_append_left _ (List.mem_append_left _ (List.mem_append_left _ (List.mem_append_left _ (List.mem_append_left _ (List.mem_append_left _ (List.mem_append_left _ (List.mem_append_left _ (List.mem_append_left _ (List.mem_append_left _ (List.mem_append_left _ (List.mem_append_left _ (List.mem_of_getElem? (i := 8) rfl)))))))))))))))) (mem_cA (List.mem_cons_of_mem _ (List.mem_append_left _ (List.mem_append_left _ (List.mem_append_left _ (List.mem_append_left _ (List.mem_append_left _ (List.mem_append_left _ (List.mem_append_left _ (List.mem_append_left _ (List.mem_append_left _ (List.mem_append_left _ (List.mem_append_left _ (List.mem_append_left _ (List.mem_append_left _ (List.mem_append_left _ (List.mem_of_getElem? (i := 9) rfl)))))))))))))))) (mem_cA (List.mem_cons_of_mem _ (List.mem_append_left _ (List.mem_append_left _ (List.mem_append_left _ (List.mem_append_left _ (List.mem_append_left _ (List.mem_append_left _ (List.mem_append_left _ (List.mem_append_left _ (List.mem_append_left _ (List.mem_append_left _ (List.mem_append_left _ (List.mem_append_left _ (List.mem_append_left _ (List.mem_append_left _ (List.mem_of_getElem? (i := 10) rfl)))))))))))))))) (mem_cA (List.mem_cons_of_mem _ (List.mem_append_left _ (List.mem_append_left _ (List.mem_append_left _ (List.mem_append_left _ (List.mem_append_left _ (List.mem_append_left _ (List.mem_append_left _ (List.mem_append_left _ (List.mem_append_left _ (List.mem_append_left _ (List.mem_append_left _ (List.mem_append_left _ (List.mem_append_left _ (List.mem_append_left _ (List.mem_of_getElem? (i := 11) rfl)))))))))))))))) mem_cZ)))) (by decide +kernel)) ggX11_advance_X2_tick
theorem dX11_advance_0 : decode cX11_advance 0 = .ok (.iload_n 1, 1) := by decide +kernel
theorem dX11_advance_1 : decode cX11_advance 1 = .ok (.iconst 1, 1) := by decide +kernel
theorem dX11_advance_2 : decode cX11_advance 2 = .ok (.if_icmp .lt 10, 3) := by decide +kernel
theorem dX11_advance_5 : decode cX11_advance 5 = .ok (.iload_n 1, 1) := by decide +kernel
theorem dX11_advance_6 : decode cX11_advance 6 = .ok (.sipush 1000, 3) := by decide +kernel
theorem dX11_advance_9 : decode cX11_advance 9 = .ok (.if_icmp .le 11, 3) := by decide +kernel
theorem dX11_advance_12 : decode cX11_advance 12 = .ok (.new 116, 3) := by decide +kernel
theorem dX11_advance_15 : decode cX11_advance 15 = .ok (.dup, 1) := by decide +kernel
theorem dX11_advance_16 : decode cX11_advance 16 = .ok (.invokespecial 118, 3) := by decide +kernel
theorem dX11_advance_19 : decode cX11_advance 19 = .ok (.athrow, 1) := by decide +kernel
theorem dX11_advance_20 : decode cX11_advance 20 = .ok (.aload_n 0, 1) := by decide +kernel
theorem dX11_advance_21 : decode cX11_advance 21 = .ok (.getfield 55, 3) := by decide +kernel
theorem dX11_advance_24 : decode cX11_advance 24 = .ok (.getfield 110, 3) := by decide +kernel
theorem dX11_advance_27 : decode cX11_advance 27 = .ok (.iload_n 1, 1) := by decide +kernel
theorem dX11_advance_28 : decode cX11_advance 28 = .ok (.iadd, 1) := by decide +kernel
theorem dX11_advance_29 : decode cX11_advance 29 = .ok (.ldc 133, 2) := by decide +kernel
theorem dX11_advance_31 : decode cX11_advance 31 = .ok (.if_icmp .le 11, 3) := by decide +kernel
theorem dX11_advance_34 : decode cX11_advance 34 = .ok (.new 134, 3) := by decide +kernel
theorem dX11_advance_37 : decode cX11_advance 37 = .ok (.dup, 1) := by decide +kernel
theorem dX11_advance_38 : decode cX11_advance 38 = .ok (.invokespecial 136, 3) := by decide +kernel
theorem dX11_advance_41 : decode cX11_advance 41 = .ok (.athrow, 1) := by decide +kernel
theorem dX11_advance_42 : decode cX11_advance 42 = .ok (.aload_n 0, 1) := by decide +kernel
theorem dX11_advance_43 : decode cX11_advance 43 = .ok (.getfield 55, 3) := by decide +kernel
theorem dX11_advance_46 : decode cX11_advance 46 = .ok (.getfield 137, 3) := by decide +kernel
theorem dX11_advance_49 : decode cX11_advance 49 = .ok (.istore_n 2, 1) := by decide +kernel
theorem dX11_advance_50 : decode cX11_advance 50 = .ok (.iconst 0, 1) := by decide +kernel
theorem dX11_advance_51 : decode cX11_advance 51 = .ok (.istore_n 3, 1) := by decide +kernel
theorem dX11_advance_52 : decode cX11_advance 52 = .ok (.iload_n 3, 1) := by decide +kernel
theorem dX11_advance_53 : decode cX11_advance 53 = .ok (.iload_n 1, 1) := by decide +kernel
theorem dX11_advance_54 : decode cX11_advance 54 = .ok (.if_icmp .ge 16, 3) := by decide +kernel
theorem dX11_advance_57 : decode cX11_advance 57 = .ok (.aload_n 0, 1) := by decide +kernel
theorem dX11_advance_58 : decode cX11_advance 58 = .ok (.getfield 55, 3) := by decide +kernel
theorem dX11_advance_61 : decode cX11_advance 61 = .ok (.invokevirtual 140, 3) := by decide +kernel
theorem dX11_advance_64 : decode cX11_advance 64 = .ok (.iinc 3 1, 3) := by decide +kernel
theorem dX11_advance_67 : decode cX11_advance 67 = .ok (.goto (-15), 3) := by decide +kernel
theorem dX11_advance_70 : decode cX11_advance 70 = .ok (.aload_n 0, 1) := by decide +kernel
theorem dX11_advance_71 : decode cX11_advance 71 = .ok (.getfield 55, 3) := by decide +kernel
theorem dX11_advance_74 : decode cX11_advance 74 = .ok (.getfield 137, 3) := by decide +kernel
theorem dX11_advance_77 : decode cX11_advance 77 = .ok (.iload_n 2, 1) := by decide +kernel
theorem dX11_advance_78 : decode cX11_advance 78 = .ok (.isub, 1) := by decide +kernel
theorem dX11_advance_79 : decode cX11_advance 79 = .ok (.ireturn, 1) := by decide +kernel
set_option maxHeartbeats 4000000 in
set_option maxRecDepth 100000 in
theorem s_X11_observeX (G : EnvG) (l : Launch) (hl9 : l.stackTraces = false) (Φ : Hm) (sz x ca : Nat) (tm : Nat) (r : Nat) (w : Nat) (aq : Int32) (xp : Int32) (xb : Int32) (ob : Int64) (sm : Int64) (un : Int64) (n : Nat) (Fs : Nat → Fl) (pp : Nat → Nat) (nT : Nat) (Ft : Nat → Fl) (pt : Nat → Nat) (t : Nat) (s : Nat) (c : Cf) (a : Int32) (b : Int32) (d : Int32) (f : Int32) (g : Int32) (hx : G.2.2.2 ≤ x) (hI : In G x ca Φ) (hc0 : Φ (x + 80) = some (o_ 4 [.ref (x + 3), .ref (x + 74), .ref (x + 81), .ref (x + 95), .int (nI tm), .int (nI r), .int (nI w), .int aq, .int xp, .int xb, .long ob, .long sm, .long un])) (hc1 : Φ (x + 81) = some (o_ 6 [.ref (x + 82), .int (nI n)])) (hc2 : Φ (x + 95) = some (o_ 6 [.ref (x + 96), .int (nI nT)])) (hcf0 : TbC G x n 99 Fs pp Φ) (hcf1 : TbT G x nT 99 Ft pt Φ) (hcf2 : CfA G x t s c Φ) (hn : n ≤ 12) (hnT : nT ≤ 24) (htm : tm ≤ 1000000) (hr : 1 ≤ r ∧ r ≤ 1024) (hw : w < 2147483648) (hg : CfG c) (had : aq = 0 ∨ aq = 1) : CtB G l yX11_observe wsX11_observe ({ frames := 7, cells := 1, slots := 6, locals := 151 }) 1 6 [.ref x, .int a, .int b, .int d, .int f, .int g] Φ sz (fun v Φ1 sz1 => ((∃ (n8 : Nat) (F8 : Nat → Fl) (u8 : Int64) (w8 : Nat) (k8 : Nat) (d8 : Nat) (p8 : Nat → Nat) (m8 : Nat) (G8 : Nat → Fl) (q8 : Nat → Nat), v = some (.int (nI k8)) ∧ Φ1 (x + 80) = some (o_ 4 [.ref (x + 3), .ref (x + 74), .ref (x + 81), .ref (x + 95), .int (nI tm), .int (nI r), .int (nI w8), .int aq, .int (xp + nI d8), .int xb, .long (ob + (nI 1).toInt64), .long (sm + (nI k8).toInt64), .long u8]) ∧ Φ1 (x + 81) = some (o_ 6 [.ref (x + 82), .int (nI n8)]) ∧ Φ1 (x + 95) = some (o_ 6 [.ref (x + 96), .int (nI m8)]) ∧ TbC G x n8 99 F8 p8 Φ1 ∧ TbT G x m8 99 G8 q8 Φ1 ∧ (tkI c (kyN a b d f) g.toInt64 tm r ((n, Fs, un), w, 0, 0) 1 = ((n8, F8, u8), w8, k8, d8)) ∧ (rmS (kyN a b d f) g.toInt64 1 tm (nT, Ft) = (m8, G8)) ∧ (n8 ≤ 12) ∧ (m8 ≤ 24) ∧ (w8 < 2147483648) ∧ (k8 ≤ 1)) ∧ ¬ RqP (keyF a b d f) g 1) ∧ sz1 = sz ∧ In G x (ca) Φ1 ∧ Fr x (fun j9 => 46 ≤ j9 ∧ j9 < 121) Φ Φ1) (fun Φ1 => (RqP (keyF a b d f) g 1) ∧ In G x ca Φ1 ∧ Fr x (fun j9 => False) Φ Φ1) [xIA] := by
  refine CtB.of (cc := cX11_observe) (maxL := 8) (ret := (some .boolean)) (by decide) rfl (Nat.le_of_ble_eq_true rfl) ?_
  intro p9 e9 s9 m9 w9 t9 k9 B htab9
  show Z p9 l e9 _ s9 m9 _ w9 t9 k9 _ G 8 0 [(0, .ref x), (1, .int a), (2, .int b), (3, .int d), (4, .int f), (5, .int g)] [] Φ sz 0 0
  refine z_iload_n B dX11_observe_0 rfl 1 rfl ?_
  refine z_iload_n B dX11_observe_1 rfl 2 rfl ?_
  refine z_iload_n B dX11_observe_2 rfl 3 rfl ?_
  refine z_iload B dX11_observe_3 4 rfl ?_
  refine z_callS (As := [.int a, .int b, .int d, .int f]) (rest := []) B (s_X3_keyOf G l Φ sz x (ca) a b d f hx hI ) (va_cwS 4 B.1.2.2.2.2 gX11_observe_X3_keyOf rfl rfl rfl (by decide +kernel) ⟨Nat.le_of_ble_eq_true rfl, Nat.le_of_ble_eq_true rfl⟩) rfl rfl (Nat.le_of_ble_eq_true rfl) dX11_observe_5 ⟨Nat.le_of_ble_eq_true rfl, Nat.le_of_ble_eq_true rfl⟩ (fun r_1 Φ1 sz1 st1 hp1 hs1 => ?_)
  obtain ⟨rfl, hq1, hI1, hF1⟩ := hp1
  subst sz1
  replace hs1 : st1 = [.long (keyF a b d f)] := hs1
  subst st1
  replace hI1 : In G x (ca) Φ1 := hI1
  refine z_lstore (lv' := [(6, .long (keyF a b d f)), (0, .ref x), (1, .int a), (2, .int b), (3, .int d), (4, .int f), (5, .int g)]) B dX11_observe_8 (Nat.le_of_ble_eq_true rfl) rfl ?_
  refine z_lload B dX11_observe_10 0 rfl ?_
  refine z_iload B dX11_observe_12 6 rfl ?_
  refine z_iconst (v := 1) B dX11_observe_14 rfl ?_
  refine zb_callS (As := [.long (keyF a b d f), .int g, .int 1]) (rest := []) B htab9 (s_X11_requirePackets G l hl9 Φ1 sz x (ca) (keyF a b d f) g 1 hx hI1 ) (va_cwS 3 B.1.2.2.2.2 gX11_observe_X11_requirePackets rfl rfl rfl (by decide +kernel) ⟨Nat.le_of_ble_eq_true rfl, Nat.le_of_ble_eq_true rfl⟩) rfl rfl (Nat.le_of_ble_eq_true rfl) dX11_observe_15 ⟨Nat.le_of_ble_eq_true rfl, Nat.le_of_ble_eq_true rfl⟩ ⟨Nat.le_of_ble_eq_true rfl, Nat.le_of_ble_eq_true rfl⟩ (by decide) (fun Φ9 h9 => ⟨h9.1, h9.2.1, fun b9 h8 => ((h9.2.2 b9 h8).trans ((fun b9 h9 => ((hF1 b9 (fun j9 h8 h7 => (show False from h7).elim)).trans rfl)) b9 h8))⟩) (fun r_2 Φ2 sz2 st2 hp2 hs2 => ?_)
  obtain ⟨⟨rfl, -, hq3⟩, hq2, hI2, hF2⟩ := hp2
  subst sz2
  replace hs2 : st2 = [] := hs2
  subst st2
  replace hI2 : In G x (ca) Φ2 := hI2
  replace hq3 : ¬ RqP (keyF a b d f) g 1 := hq3
  refine z_aload_n B dX11_observe_18 rfl 1 rfl ?_
  have h_1 := in0 (k := 0) hI2 rfl
  have h_2 : Φ2 x = some (o_ 13 [.ref (x + 1), .ref (x + 3), .ref (x + 24), .ref (x + 46), .ref (x + 74), .ref (x + 80), .ref (x + 132), .ref (x + 121)]) := h_1
  refine z_get (ref := "FlowExporter") (C := RX11) (T := TX11) (N := 8) (ci := 13) (v := .ref (x + 80)) B hu_X11_observe_X11 rfl 5 (Nat.le_of_ble_eq_true rfl) hv_X11_observe_55 rfl h_2 rfl dX11_observe_19 ?_
  refine z_lload B dX11_observe_22 0 rfl ?_
  have hk9 : KyP a b d f := Classical.byContradiction (fun h9 => hq3 (Or.inl (keyF_no h9)))
  have hk8 := keyF_N hk9
  obtain ⟨n_2, b_2, rfl⟩ := rq_by hq3
  refine z_top (st1 := [.long (Int64.ofNat (kyN a b d f)), .ref (x + 80)]) (congrArg (fun w9 : Int64 => ([.long w9, .ref (x + 80)] : List Value)) hk8.1) ?_
  refine z_iload B dX11_observe_24 6 rfl ?_
  refine z_iconst (v := 1) B dX11_observe_26 rfl ?_
  have h_3 : Φ2 (x + 80) = some (o_ 4 [.ref (x + 3), .ref (x + 74), .ref (x + 81), .ref (x + 95), .int (nI tm), .int (nI r), .int (nI w), .int aq, .int xp, .int xb, .long ob, .long sm, .long un]) := ((hF2 (x + 80) (fun j9 h8 h7 => (show False from h7).elim)).trans ((hF1 (x + 80) (fun j9 h8 h7 => (show False from h7).elim)).trans hc0))
  have h_4 : Φ2 (x + 81) = some (o_ 6 [.ref (x + 82), .int (nI n)]) := ((hF2 (x + 81) (fun j9 h8 h7 => (show False from h7).elim)).trans ((hF1 (x + 81) (fun j9 h8 h7 => (show False from h7).elim)).trans hc1))
  have h_5 : Φ2 (x + 95) = some (o_ 6 [.ref (x + 96), .int (nI nT)]) := ((hF2 (x + 95) (fun j9 h8 h7 => (show False from h7).elim)).trans ((hF1 (x + 95) (fun j9 h8 h7 => (show False from h7).elim)).trans hc2))
  have hcg1 : TbC G x n 99 Fs pp Φ2 := (TbC.fr (TbC.fr hcf0 hF1 (fun j9 h7 => (show False from h7).elim)) hF2 (fun j9 h7 => (show False from h7).elim))
  have hcg2 : TbT G x nT 99 Ft pt Φ2 := (TbT.fr (TbT.fr hcf1 hF1 (fun j9 h7 => (show False from h7).elim)) hF2 (fun j9 h7 => (show False from h7).elim))
  have hcg3 : CfA G x t s c Φ2 := (CfA.fr (CfA.fr hcf2 hF1 (fun j9 h7 => (show False from h7).elim)) hF2 (fun j9 h7 => (show False from h7).elim))
  refine z_callV (As := [.long (Int64.ofNat (kyN a b d f)), .int (nI n_2), .int 1]) (rest := []) B (s_X2_takePacketsX G l Φ2 sz x (ca) tm r w aq xp xb ob sm un n Fs pp nT Ft pt t s c (kyN a b d f) n_2 1 hx hI2 h_3 h_4 h_5 hcg1 hcg2 hcg3 (show n ≤ 12 by omega) (show nT ≤ 24 by omega) hk8.2 (show tm ≤ 1000000 by omega) (show 1 ≤ r ∧ r ≤ 1024 by omega) (show w < 2147483648 by omega) (show 1 ≤ 200 by omega) hg had) (cwV 3 B.1.2.2.2.2 gX11_observe_X2_takePackets rfl rfl rfl (by decide +kernel) ⟨Nat.le_of_ble_eq_true rfl, Nat.le_of_ble_eq_true rfl⟩) h_3 rfl rfl rfl rfl (Nat.le_of_ble_eq_true rfl) dX11_observe_27 ⟨Nat.le_of_ble_eq_true rfl, Nat.le_of_ble_eq_true rfl⟩ (fun r_3 Φ3 sz3 st3 hp3 hs3 => ?_)
  obtain ⟨⟨n_3, f_1, v_1, n_4, n_5, n_6, f_2, n_7, f_3, f_4, rfl, h_6, h_7, h_8, hcg4, hcg5, e_1, e_2, e_3, e_4, e_5, e_6⟩, hq4, hI3, hF3⟩ := hp3
  subst sz3
  replace hs3 : st3 = [.int (nI n_5)] := hs3
  subst st3
  replace hI3 : In G x (ca) Φ3 := hI3
  replace e_1 : tkI c (kyN a b d f) (nI n_2).toInt64 tm r ((n, Fs, un), w, 0, 0) 1 = ((n_3, f_1, v_1), n_4, n_5, n_6) := e_1
  replace e_2 : rmS (kyN a b d f) (nI n_2).toInt64 1 tm (nT, Ft) = (n_7, f_3) := e_2
  replace e_3 : n_3 ≤ 12 := e_3
  replace e_4 : n_7 ≤ 24 := e_4
  replace e_5 : n_4 < 2147483648 := e_5
  replace e_6 : n_5 ≤ 1 := e_6
  refine z_iconst (v := 1) B dX11_observe_30 rfl ?_
  refine z_icmp_ne (tgt := 38) B dX11_observe_31 rfl (fun c_1 => ?_) (fun c_1 => ?_)
  · have e_7 : ¬ (n_5 = 1) := fun h9 => c_1 ((nI_eq (a := n_5) (b := 1) (by omega) (by omega)).mpr h9)
    refine z_iconst (v := 0) B dX11_observe_38 rfl ?_
    exact zb_ret (Nat.le_of_ble_eq_true rfl) (Nat.le_of_ble_eq_true rfl) (z_ret_z B dX11_observe_39 (by decide) ⟨⟨⟨n_3, f_1, v_1, n_4, n_5, n_6, f_2, n_7, f_3, f_4, (congrArg (fun w9 : Nat => some (Value.int (nI w9))) (show 0 = n_5 by omega)), h_6, h_7, h_8, hcg4, hcg5, e_1, e_2, by omega, by omega, by omega, by omega⟩, hq3⟩, rfl, hI3, (fun b9 h9 => ((hF3 b9 h9).trans ((hF2 b9 (fun j9 h8 h7 => (show False from h7).elim)).trans ((hF1 b9 (fun j9 h8 h7 => (show False from h7).elim)).trans rfl))))⟩)
  · have e_8 : n_5 = 1 := (nI_eq (a := n_5) (b := 1) (by omega) (by omega)).mp c_1
    refine z_iconst (v := 1) B dX11_observe_34 rfl ?_
    refine z_goto (tgt := 39) B dX11_observe_35 rfl ?_
    exact zb_ret (Nat.le_of_ble_eq_true rfl) (Nat.le_of_ble_eq_true rfl) (z_ret_z B dX11_observe_39 (by decide) ⟨⟨⟨n_3, f_1, v_1, n_4, n_5, n_6, f_2, n_7, f_3, f_4, (congrArg (fun w9 : Nat => some (Value.int (nI w9))) (show 1 = n_5 by omega)), h_6, h_7, h_8, hcg4, hcg5, e_1, e_2, by omega, by omega, by omega, by omega⟩, hq3⟩, rfl, hI3, (fun b9 h9 => ((hF3 b9 h9).trans ((hF2 b9 (fun j9 h8 h7 => (show False from h7).elim)).trans ((hF1 b9 (fun j9 h8 h7 => (show False from h7).elim)).trans rfl))))⟩)

theorem hu_X11_advance_X11 : ∀ w ∈ u_ws RX11 TX11 8, w ∈ wsX11_advance := fun _ h => List.mem_cons_of_mem _ (List.mem_append_left _ (List.mem_append_left _ (List.mem_append_left _ (List.mem_append_left _ (List.mem_append_left _ (List.mem_append_left _ (List.mem_append_left _ (List.mem_append_left _ (List.mem_append_left _ (List.mem_append_left _ (List.mem_append_left _ (List.mem_append_left _ (List.mem_append_right _ (h))))))))))))))

theorem hv_X11_advance_55 : Cond.fieldLink RX11 55 "FlowExporter" (TX11 5).2.1 (TX11 5).2.2.1 ∈ wsX11_advance := List.mem_cons_of_mem _ (List.mem_append_left _ (List.mem_append_left _ (List.mem_append_left _ (List.mem_append_left _ (List.mem_append_left _ (List.mem_append_left _ (List.mem_append_left _ (List.mem_append_left _ (List.mem_append_left _ (List.mem_append_left _ (List.mem_append_left _ (List.mem_append_left _ (List.mem_append_left _ (List.mem_append_left _ (List.mem_of_getElem? (i := 4) rfl)))))))))))))))

theorem hu_X11_advance_X2 : ∀ w ∈ u_ws RX2 TX2 13, w ∈ wsX11_advance := fun _ h => List.mem_cons_of_mem _ (List.mem_append_left _ (List.mem_append_left _ (List.mem_append_left _ (List.mem_append_left _ (List.mem_append_left _ (List.mem_append_left _ (List.mem_append_left _ (List.mem_append_left _ (List.mem_append_left _ (List.mem_append_left _ (List.mem_append_left _ (List.mem_append_right _ (h)))))))))))))

theorem hv_X11_advance_110 : Cond.fieldLink RX11 110 "FlowExporter$Exporter" (TX2 4).2.1 (TX2 4).2.2.1 ∈ wsX11_advance := List.mem_cons_of_mem _ (List.mem_append_left _ (List.mem_append_left _ (List.mem_append_left _ (List.mem_append_left _ (List.mem_append_left _ (List.mem_append_left _ (List.mem_append_left _ (List.mem_append_left _ (List.mem_append_left _ (List.mem_append_left _ (List.mem_append_left _ (List.mem_append_left _ (List.mem_append_left _ (List.mem_append_left _ (List.mem_of_getElem? (i := 5) rfl)))))))))))))))

theorem hv_X11_advance_137 : Cond.fieldLink RX11 137 "FlowExporter$Exporter" (TX2 8).2.1 (TX2 8).2.2.1 ∈ wsX11_advance := List.mem_cons_of_mem _ (List.mem_append_left _ (List.mem_append_left _ (List.mem_append_left _ (List.mem_append_left _ (List.mem_append_left _ (List.mem_append_left _ (List.mem_append_left _ (List.mem_append_left _ (List.mem_append_left _ (List.mem_append_left _ (List.mem_append_left _ (List.mem_append_left _ (List.mem_append_left _ (List.mem_append_left _ (List.mem_of_getElem? (i := 7) rfl)))))))))))))))

set_option maxHeartbeats 4000000 in
set_option maxRecDepth 100000 in
theorem s_X11_advanceXa (G : EnvG) (l : Launch) (hl9 : l.stackTraces = false) (Φ : Hm) (sz x ca : Nat) (tm : Nat) (r : Nat) (w : Nat) (aq : Int32) (xp : Int32) (xb : Int32) (ob : Int64) (sm : Int64) (un : Int64) (n : Nat) (Fs : Nat → Fl) (pp : Nat → Nat) (t : Nat) (s : Nat) (c : Cf) (a : Int32) (hx : G.2.2.2 ≤ x) (hI : In G x ca Φ) (hc0 : Φ (x + 80) = some (o_ 4 [.ref (x + 3), .ref (x + 74), .ref (x + 81), .ref (x + 95), .int (nI tm), .int (nI r), .int (nI w), .int aq, .int xp, .int xb, .long ob, .long sm, .long un])) (hc1 : Φ (x + 81) = some (o_ 6 [.ref (x + 82), .int (nI n)])) (hcf0 : TbC G x n 99 Fs pp Φ) (hcf1 : CfA G x t s c Φ) (hn : n ≤ 12) (htm : tm ≤ 1000000) (hr : 1 ≤ r ∧ r ≤ 1024) (hyA : Av1 a) (hg : CfG c) (had : aq = 0 ∨ aq = 1) : CtB G l yX11_advance wsX11_advance ({ frames := 6, cells := 1, slots := 6, locals := 146 }) 1 6 [.ref x, .int a] Φ sz (fun v Φ1 sz1 => (∃ (n8 : Nat) (F8 : Nat → Fl) (u8 : Int64) (r8 : Nat) (e8 : Int32) (d8 : Nat) (b8 : Int32) (p8 : Nat → Nat), v = some (.int (nI d8)) ∧ Φ1 (x + 80) = some (o_ 4 [.ref (x + 3), .ref (x + 74), .ref (x + 81), .ref (x + 95), .int (nI (tm + a.toNatClampNeg)), .int (nI r8), .int (nI w), .int aq, .int (xp + nI d8), .int b8, .long ob, .long sm, .long u8]) ∧ Φ1 (x + 81) = some (o_ 6 [.ref (x + 82), .int (nI n8)]) ∧ TbC G x n8 99 F8 p8 Φ1 ∧ (tiI c aq tm ((n, Fs, un), r, xp - xb, 0) a.toNatClampNeg = ((n8, F8, u8), r8, e8, d8)) ∧ (xp + nI d8 - b8 = e8) ∧ (n8 ≤ 12) ∧ (1 ≤ r8 ∧ r8 ≤ 1024) ∧ (Av2 tm a)) ∧ sz1 = sz ∧ In G x (ca) Φ1 ∧ Fr x (fun j9 => 46 ≤ j9 ∧ j9 < 95) Φ Φ1) (fun Φ1 => (¬ Av2 tm a) ∧ In G x ca Φ1 ∧ Fr x (fun j9 => False) Φ Φ1) [xIS] := by
  refine CtB.of (cc := cX11_advance) (maxL := 4) (ret := (some .int)) (by decide) rfl (Nat.le_of_ble_eq_true rfl) ?_
  intro p9 e9 s9 m9 w9 t9 k9 B htab9
  show Z p9 l e9 _ s9 m9 _ w9 t9 k9 _ G 4 0 [(0, .ref x), (1, .int a)] [] Φ sz 0 0
  refine z_iload_n B dX11_advance_0 rfl 1 rfl ?_
  refine z_iconst (v := 1) B dX11_advance_1 rfl ?_
  refine z_icmp_lt (tgt := 12) B dX11_advance_2 rfl (fun c_1 => ?_) (fun c_1 => ?_)
  · have k_1 : (1 : Int32).toInt = 1 := by decide
    have q_1 : (a.toInt < (1 : Int32).toInt) := Int32.lt_iff_toInt_lt.mp c_1
    unfold Av1 at hyA
    exact ((show False by omega).elim)
  · obtain ⟨n_1, e_2, e_1, rfl⟩ := nI_ofge (c := 1) (by omega) c_1
    refine z_iload_n B dX11_advance_5 rfl 1 rfl ?_
    refine z_sipush (v := 1000) B dX11_advance_6 rfl ?_
    refine z_icmp_le (tgt := 20) B dX11_advance_9 rfl (fun c_2 => ?_) (fun c_2 => ?_)
    · have e_3 : n_1 ≤ 1000 := (nI_leI (a := n_1) (b := 1000) (by omega) (by omega)).mp c_2
      refine z_aload_n B dX11_advance_20 rfl 0 rfl ?_
      have h_1 := in0 (k := 0) hI rfl
      have h_2 : Φ x = some (o_ 13 [.ref (x + 1), .ref (x + 3), .ref (x + 24), .ref (x + 46), .ref (x + 74), .ref (x + 80), .ref (x + 132), .ref (x + 121)]) := h_1
      refine z_get (ref := "FlowExporter") (C := RX11) (T := TX11) (N := 8) (ci := 13) (v := .ref (x + 80)) B hu_X11_advance_X11 rfl 5 (Nat.le_of_ble_eq_true rfl) hv_X11_advance_55 rfl h_2 rfl dX11_advance_21 ?_
      refine z_get (ref := "FlowExporter$Exporter") (C := RX2) (T := TX2) (N := 13) (ci := 4) (v := .int (nI tm)) B hu_X11_advance_X2 rfl 4 (Nat.le_of_ble_eq_true rfl) hv_X11_advance_110 rfl hc0 rfl dX11_advance_24 ?_
      refine z_iload_n B dX11_advance_27 rfl 1 rfl ?_
      refine z_iadd B dX11_advance_28 ?_
      refine z_top (st1 := [.int (nI (tm + n_1))]) (congrArg (fun w9 : Int32 => ([.int w9] : List Value)) (nI_add tm n_1)) ?_
      refine z_ldc (v := 1000000) B (by decide +kernel) dX11_advance_29 ?_
      refine z_icmp_le (tgt := 42) B dX11_advance_31 rfl (fun c_3 => ?_) (fun c_3 => ?_)
      · have e_4 : tm + n_1 ≤ 1000000 := (nI_leI (a := tm + n_1) (b := 1000000) (by omega) (by omega)).mp c_3
        refine z_aload_n B dX11_advance_42 rfl 0 rfl ?_
        refine z_get (ref := "FlowExporter") (C := RX11) (T := TX11) (N := 8) (ci := 13) (v := .ref (x + 80)) B hu_X11_advance_X11 rfl 5 (Nat.le_of_ble_eq_true rfl) hv_X11_advance_55 rfl h_2 rfl dX11_advance_43 ?_
        refine z_get (ref := "FlowExporter$Exporter") (C := RX2) (T := TX2) (N := 13) (ci := 4) (v := .int xp) B hu_X11_advance_X2 rfl 8 (Nat.le_of_ble_eq_true rfl) hv_X11_advance_137 rfl hc0 rfl dX11_advance_46 ?_
        refine z_istore_n (lv' := [(2, .int xp), (0, .ref x), (1, .int (nI n_1))]) B dX11_advance_49 rfl (Nat.le_of_ble_eq_true rfl) rfl ?_
        refine z_iconst (v := 0) B dX11_advance_50 rfl ?_
        refine z_istore_n (lv' := [(3, .int 0), (2, .int xp), (0, .ref x), (1, .int (nI n_1))]) B dX11_advance_51 rfl (Nat.le_of_ble_eq_true rfl) rfl ?_
        refine z_lv [0, 1, 2, 3] rfl ?_
        refine z_loop (α := Nat × Nat × (Nat → Fl) × Int64 × Nat × Int32 × Nat × Int32 × (Nat → Nat)) (fun (a9 : Nat × Nat × (Nat → Fl) × Int64 × Nat × Int32 × Nat × Int32 × (Nat → Nat)) Φi => In G x (ca) Φi ∧ Fr x (fun j9 => 46 ≤ j9 ∧ j9 < 95) Φ Φi ∧ (a9.1 ≤ n_1) ∧ (a9.2.1 ≤ 12) ∧ (1 ≤ a9.2.2.2.2.1 ∧ a9.2.2.2.2.1 ≤ 1024) ∧ (tiI c aq tm ((n, Fs, un), r, xp - xb, 0) a9.1 = ((a9.2.1, a9.2.2.1, a9.2.2.2.1), a9.2.2.2.2.1, a9.2.2.2.2.2.1, a9.2.2.2.2.2.2.1)) ∧ (xp + nI a9.2.2.2.2.2.2.1 - a9.2.2.2.2.2.2.2.1 = a9.2.2.2.2.2.1) ∧ (TbC G x a9.2.1 99 a9.2.2.1 a9.2.2.2.2.2.2.2.2 Φi) ∧ (CfA G x t s c Φi) ∧ (Φi (x + 80) = some (o_ 4 [.ref (x + 3), .ref (x + 74), .ref (x + 81), .ref (x + 95), .int (nI (tm + a9.1)), .int (nI a9.2.2.2.2.1), .int (nI w), .int aq, .int (xp + nI a9.2.2.2.2.2.2.1), .int a9.2.2.2.2.2.2.2.1, .long ob, .long sm, .long a9.2.2.2.1])) ∧ (Φi (x + 81) = some (o_ 6 [.ref (x + 82), .int (nI (a9.2.1))])) ∧ True) (fun a9 => [(3, .int (nI (a9.1))), (2, .int xp), (0, .ref x), (1, .int (nI n_1))]) (fun a9 => n_1 - a9.1) ?_ (0, n, Fs, un, r, xp - xb, 0, xb, pp) ⟨hI, fun _ _ => rfl, (show 0 ≤ n_1 by omega), (show n ≤ 12 by omega), (show 1 ≤ r ∧ r ≤ 1024 by omega), rfl, (congrArg (fun w8 : Int32 => w8 - xb) nadd_0.symm), hcf0, hcf1, ((hc0.trans (congrArg (fun w9 : Nat => some (o_ 4 [.ref (x + 3), .ref (x + 74), .ref (x + 81), .ref (x + 95), .int (nI w9), .int (nI r), .int (nI w), .int aq, .int xp, .int xb, .long ob, .long sm, .long un])) (show tm = tm + 0 by omega))).trans (congrArg (fun w9 : Int32 => some (o_ 4 [.ref (x + 3), .ref (x + 74), .ref (x + 81), .ref (x + 95), .int (nI (tm + 0)), .int (nI r), .int (nI w), .int aq, .int w9, .int xb, .long ob, .long sm, .long un])) nadd_0)), (hc1.trans (congrArg (fun w9 : Nat => some (o_ 6 [.ref (x + 82), .int (nI w9)])) (show n = n by omega))), trivial⟩
        rintro ⟨i_1, i_2, i_3, i_4, i_5, i_6, i_7, i_8, i_9⟩ Φl1 ⟨hI1, hF1, b_1, b_2, b_3, b_4, b_5, b_6, b_7, b_8, b_9, -⟩ ih1
        replace hI1 : In G x (ca) Φl1 := hI1
        replace b_1 : i_1 ≤ n_1 := b_1
        replace b_2 : i_2 ≤ 12 := b_2
        replace b_3 : 1 ≤ i_5 ∧ i_5 ≤ 1024 := b_3
        replace b_4 : tiI c aq tm ((n, Fs, un), r, xp - xb, 0) i_1 = ((i_2, i_3, i_4), i_5, i_6, i_7) := b_4
        replace b_5 : xp + nI i_7 - i_8 = i_6 := b_5
        replace b_6 : TbC G x i_2 99 i_3 i_9 Φl1 := b_6
        replace b_7 : CfA G x t s c Φl1 := b_7
        replace b_8 : Φl1 (x + 80) = some (o_ 4 [.ref (x + 3), .ref (x + 74), .ref (x + 81), .ref (x + 95), .int (nI (tm + i_1)), .int (nI i_5), .int (nI w), .int aq, .int (xp + nI i_7), .int i_8, .long ob, .long sm, .long i_4]) := b_8
        replace b_9 : Φl1 (x + 81) = some (o_ 6 [.ref (x + 82), .int (nI (i_2))]) := b_9
        show Z p9 l e9 _ s9 m9 _ w9 t9 k9 _ G 4 52 [(3, .int (nI i_1)), (2, .int xp), (0, .ref x), (1, .int (nI n_1))] [] Φl1 _ _ _
        refine z_iload_n B dX11_advance_52 rfl 0 rfl ?_
        refine z_iload_n B dX11_advance_53 rfl 3 rfl ?_
        refine z_icmp_ge (tgt := 70) B dX11_advance_54 rfl (fun c_4 => ?_) (fun c_4 => ?_)
        · have e_5 : n_1 ≤ i_1 := (nI_leI (a := n_1) (b := i_1) (by omega) (by omega)).mp c_4
          refine z_aload_n B dX11_advance_70 rfl 2 rfl ?_
          have h_3 : Φl1 x = some (o_ 13 [.ref (x + 1), .ref (x + 3), .ref (x + 24), .ref (x + 46), .ref (x + 74), .ref (x + 80), .ref (x + 132), .ref (x + 121)]) := ((hF1 x fq_505).trans h_2)
          refine z_get (ref := "FlowExporter") (C := RX11) (T := TX11) (N := 8) (ci := 13) (v := .ref (x + 80)) B hu_X11_advance_X11 rfl 5 (Nat.le_of_ble_eq_true rfl) hv_X11_advance_55 rfl h_3 rfl dX11_advance_71 ?_
          refine z_get (ref := "FlowExporter$Exporter") (C := RX2) (T := TX2) (N := 13) (ci := 4) (v := .int (xp + nI i_7)) B hu_X11_advance_X2 rfl 8 (Nat.le_of_ble_eq_true rfl) hv_X11_advance_137 rfl b_8 rfl dX11_advance_74 ?_
          refine z_iload_n B dX11_advance_77 rfl 1 rfl ?_
          refine z_isub B dX11_advance_78 ?_
          refine z_top (st1 := [.int (nI i_7)]) (congrArg (fun w9 : Int32 => ([.int w9] : List Value)) (xp_d xp i_7)) ?_
          have k_2 : (nI n_1).toInt = ((n_1 : Nat) : Int) := nI_toInt (by omega)
          have k_3 : (1 : Int32).toInt = 1 := by decide
          have q_2 : ¬ ((nI n_1).toInt < (1 : Int32).toInt) := fun h9 => c_1 (Int32.lt_iff_toInt_lt.mpr h9)
          have k_4 : (1000 : Int32).toInt = 1000 := by decide
          have q_3 : ((nI n_1).toInt ≤ (1000 : Int32).toInt) := Int32.le_iff_toInt_le.mp c_2
          have k_5 : (nI (tm + n_1)).toInt = ((tm + n_1 : Nat) : Int) := nI_toInt (by omega)
          have k_6 : (1000000 : Int32).toInt = 1000000 := by decide
          have q_4 : ((nI (tm + n_1)).toInt ≤ (1000000 : Int32).toInt) := Int32.le_iff_toInt_le.mp c_3
          have k_7 : (nI i_1).toInt = ((i_1 : Nat) : Int) := nI_toInt (by omega)
          have q_5 : ((nI n_1).toInt ≤ (nI i_1).toInt) := Int32.le_iff_toInt_le.mp c_4
          have hi9 : i_1 = n_1 := by omega
          have hi8 : i_1 = (nI n_1).toNatClampNeg := hi9.trans (nI_clamp (by omega)).symm
          exact zb_ret (Nat.le_of_ble_eq_true rfl) (Nat.le_of_ble_eq_true rfl) (z_ret_i B dX11_advance_79 ⟨⟨i_2, i_3, i_4, i_5, i_6, i_7, i_8, i_9, rfl, (b_8.trans (congrArg (fun w9 : Int32 => some (o_ 4 [.ref (x + 3), .ref (x + 74), .ref (x + 81), .ref (x + 95), .int w9, .int (nI i_5), .int (nI w), .int aq, .int (xp + nI i_7), .int i_8, .long ob, .long sm, .long i_4])) (congrArg (fun w8 : Nat => nI (tm + w8)) hi8))), b_9, b_6, (congrArg (fun w9 : Nat => tiI c aq tm ((n, Fs, un), r, xp - xb, 0) w9) hi8.symm).trans b_4, b_5, by omega, by omega, by unfold Av2; omega⟩, rfl, hI1, (fun b9 h9 => ((hF1 b9 h9).trans rfl))⟩)
        · have e_6 : ¬ (n_1 ≤ i_1) := fun h9 => c_4 ((nI_leI (a := n_1) (b := i_1) (by omega) (by omega)).mpr h9)
          refine z_aload_n B dX11_advance_57 rfl 2 rfl ?_
          have h_4 : Φl1 x = some (o_ 13 [.ref (x + 1), .ref (x + 3), .ref (x + 24), .ref (x + 46), .ref (x + 74), .ref (x + 80), .ref (x + 132), .ref (x + 121)]) := ((hF1 x fq_505).trans h_2)
          refine z_get (ref := "FlowExporter") (C := RX11) (T := TX11) (N := 8) (ci := 13) (v := .ref (x + 80)) B hu_X11_advance_X11 rfl 5 (Nat.le_of_ble_eq_true rfl) hv_X11_advance_55 rfl h_4 rfl dX11_advance_58 ?_
          refine z_callV (As := []) (rest := []) B (s_X2_tickX G l Φl1 sz x (ca) (tm + i_1) i_5 w aq xp i_7 i_8 ob sm i_4 i_2 i_3 i_9 t s c hx hI1 b_8 b_9 b_6 b_7 (show i_2 ≤ 12 by omega) (show (tm + i_1) < 1000000 by omega) (show 1 ≤ i_5 ∧ i_5 ≤ 1024 by omega) hg had) (cwV 0 B.1.2.2.2.2 gX11_advance_X2_tick rfl rfl rfl (by decide +kernel) ⟨Nat.le_of_ble_eq_true rfl, Nat.le_of_ble_eq_true rfl⟩) b_8 rfl rfl rfl rfl (Nat.le_of_ble_eq_true rfl) dX11_advance_61 ⟨Nat.le_of_ble_eq_true rfl, Nat.le_of_ble_eq_true rfl⟩ (fun r_1 Φ1 sz1 st1 hp1 hs1 => ?_)
          obtain ⟨⟨n_2, f_1, v_1, n_3, v_2, n_4, v_3, f_2, rfl, h_5, h_6, hcg1, e_7, e_8, e_9, e_10⟩, hq1, hI2, hF2⟩ := hp1
          subst sz1
          replace hs1 : st1 = [] := hs1
          subst st1
          replace hI2 : In G x (ca) Φ1 := hI2
          replace e_7 : tiS c aq ((tm + i_1) + 1) ((i_2, i_3, i_4), i_5, xp + nI i_7 - i_8, i_7) = ((n_2, f_1, v_1), n_3, v_2, n_4) := e_7
          replace e_8 : xp + nI n_4 - v_3 = v_2 := e_8
          replace e_9 : n_2 ≤ 12 := e_9
          replace e_10 : 1 ≤ n_3 ∧ n_3 ≤ 1024 := e_10
          refine z_iinc (k := 0) (v := nI (i_1 + 1)) (lv' := [(3, .int (nI (i_1 + 1))), (2, .int xp), (0, .ref x), (1, .int (nI n_1))]) B dX11_advance_64 rfl (nI_add i_1 1) (Nat.le_of_ble_eq_true rfl) rfl ?_
          refine z_goto (tgt := 52) B dX11_advance_67 rfl ?_
          refine z_lv [0, 1, 2, 3] rfl ?_
          have hcg2 : CfA G x t s c Φ1 := (CfA.fr b_7 hF2 (fun j9 h7 => by have h6 : 46 ≤ j9 ∧ j9 < 95 := h7; intros; omega))
          exact ih1 (i_1 + 1, n_2, f_1, v_1, n_3, v_2, n_4, v_3, f_2) Φ1 (show n_1 - (i_1 + 1) < n_1 - i_1 by omega) ⟨hI2, (fun b9 h9 => ((hF2 b9 h9).trans ((hF1 b9 h9).trans rfl))), (show (i_1 + 1) ≤ n_1 by omega), (show n_2 ≤ 12 by omega), (show 1 ≤ n_3 ∧ n_3 ≤ 1024 by omega), (tiI_s b_4 ((congrArg (fun w9 : Int32 => tiS c aq (tm + i_1 + 1) ((i_2, i_3, i_4), i_5, w9, i_7)) b_5.symm).trans e_7) rfl), e_8, hcg1, hcg2, (h_5.trans (congrArg (fun w9 : Nat => some (o_ 4 [.ref (x + 3), .ref (x + 74), .ref (x + 81), .ref (x + 95), .int (nI w9), .int (nI n_3), .int (nI w), .int aq, .int (xp + nI n_4), .int (v_3), .long ob, .long sm, .long (v_1)])) (show (tm + i_1) + 1 = tm + (i_1 + 1) by omega))), (h_6.trans (congrArg (fun w9 : Nat => some (o_ 6 [.ref (x + 82), .int (nI w9)])) (show n_2 = n_2 by omega))), trivial⟩
      · have e_11 : ¬ (tm + n_1 ≤ 1000000) := fun h9 => c_3 ((nI_leI (a := tm + n_1) (b := 1000000) (by omega) (by omega)).mpr h9)
        have k_8 : (nI n_1).toInt = ((n_1 : Nat) : Int) := nI_toInt (by omega)
        have k_9 : (1 : Int32).toInt = 1 := by decide
        have q_6 : ¬ ((nI n_1).toInt < (1 : Int32).toInt) := fun h9 => c_1 (Int32.lt_iff_toInt_lt.mpr h9)
        have k_10 : (1000 : Int32).toInt = 1000 := by decide
        have q_7 : ((nI n_1).toInt ≤ (1000 : Int32).toInt) := Int32.le_iff_toInt_le.mp c_2
        have k_11 : (nI (tm + n_1)).toInt = ((tm + n_1 : Nat) : Int) := nI_toInt (by omega)
        have k_12 : (1000000 : Int32).toInt = 1000000 := by decide
        have q_8 : ¬ ((nI (tm + n_1)).toInt ≤ (1000000 : Int32).toInt) := fun h9 => c_3 (Int32.le_iff_toInt_le.mpr h9)
        exact zb_throw (cls := xIS) (ik := 134) (ic := 136) B hl9 htab9 (by decide) ⟨(fun h9 => by unfold Av2 at h9; omega), hI, (fun b9 h9 => rfl)⟩ (by decide) (by decide +kernel) (by decide +kernel) (by decide +kernel) (by decide +kernel) (by decide +kernel) (by decide +kernel) (by decide +kernel) dX11_advance_34 dX11_advance_37 dX11_advance_38 dX11_advance_41 ⟨Nat.le_of_ble_eq_true rfl, Nat.le_of_ble_eq_true rfl, Nat.le_of_ble_eq_true rfl, Nat.le_of_ble_eq_true rfl⟩ ⟨Nat.le_of_ble_eq_true rfl, Nat.le_of_ble_eq_true rfl⟩
    · have e_12 : ¬ (n_1 ≤ 1000) := fun h9 => c_2 ((nI_leI (a := n_1) (b := 1000) (by omega) (by omega)).mpr h9)
      have k_13 : (nI n_1).toInt = ((n_1 : Nat) : Int) := nI_toInt (by omega)
      have k_14 : (1 : Int32).toInt = 1 := by decide
      have q_9 : ¬ ((nI n_1).toInt < (1 : Int32).toInt) := fun h9 => c_1 (Int32.lt_iff_toInt_lt.mpr h9)
      have k_15 : (1000 : Int32).toInt = 1000 := by decide
      have q_10 : ¬ ((nI n_1).toInt ≤ (1000 : Int32).toInt) := fun h9 => c_2 (Int32.le_iff_toInt_le.mpr h9)
      unfold Av1 at hyA
      exact ((show False by omega).elim)

set_option maxHeartbeats 4000000 in
set_option maxRecDepth 100000 in
theorem s_X11_advanceXb (G : EnvG) (l : Launch) (hl9 : l.stackTraces = false) (Φ : Hm) (sz x ca : Nat) (a : Int32) (hx : G.2.2.2 ≤ x) (hI : In G x ca Φ) (hyA : ¬ Av1 a) : CtB G l yX11_advance wsX11_advance ({ frames := 6, cells := 1, slots := 6, locals := 81 }) 1 6 [.ref x, .int a] Φ sz (fun v Φ1 sz1 => (False) ∧ sz1 = sz ∧ In G x (ca) Φ1 ∧ Fr x (fun j9 => False) Φ Φ1) (fun Φ1 => In G x ca Φ1 ∧ Fr x (fun j9 => False) Φ Φ1) [xIA] := by
  refine CtB.of (cc := cX11_advance) (maxL := 4) (ret := (some .int)) (by decide) rfl (Nat.le_of_ble_eq_true rfl) ?_
  intro p9 e9 s9 m9 w9 t9 k9 B htab9
  show Z p9 l e9 _ s9 m9 _ w9 t9 k9 _ G 4 0 [(0, .ref x), (1, .int a)] [] Φ sz 0 0
  refine z_iload_n B dX11_advance_0 rfl 1 rfl ?_
  refine z_iconst (v := 1) B dX11_advance_1 rfl ?_
  refine z_icmp_lt (tgt := 12) B dX11_advance_2 rfl (fun c_1 => ?_) (fun c_1 => ?_)
  · exact zb_throw (cls := xIA) (ik := 116) (ic := 118) B hl9 htab9 (by decide) ⟨hI, (fun b9 h9 => rfl)⟩ (by decide) (by decide +kernel) (by decide +kernel) (by decide +kernel) (by decide +kernel) (by decide +kernel) (by decide +kernel) (by decide +kernel) dX11_advance_12 dX11_advance_15 dX11_advance_16 dX11_advance_19 ⟨Nat.le_of_ble_eq_true rfl, Nat.le_of_ble_eq_true rfl, Nat.le_of_ble_eq_true rfl, Nat.le_of_ble_eq_true rfl⟩ ⟨Nat.le_of_ble_eq_true rfl, Nat.le_of_ble_eq_true rfl⟩
  · obtain ⟨n_1, e_2, e_1, rfl⟩ := nI_ofge (c := 1) (by omega) c_1
    refine z_iload_n B dX11_advance_5 rfl 1 rfl ?_
    refine z_sipush (v := 1000) B dX11_advance_6 rfl ?_
    refine z_icmp_le (tgt := 20) B dX11_advance_9 rfl (fun c_2 => ?_) (fun c_2 => ?_)
    · have e_3 : n_1 ≤ 1000 := (nI_leI (a := n_1) (b := 1000) (by omega) (by omega)).mp c_2
      have k_1 : (nI n_1).toInt = ((n_1 : Nat) : Int) := nI_toInt (by omega)
      have k_2 : (1 : Int32).toInt = 1 := by decide
      have q_1 : ¬ ((nI n_1).toInt < (1 : Int32).toInt) := fun h9 => c_1 (Int32.lt_iff_toInt_lt.mpr h9)
      have k_3 : (1000 : Int32).toInt = 1000 := by decide
      have q_2 : ((nI n_1).toInt ≤ (1000 : Int32).toInt) := Int32.le_iff_toInt_le.mp c_2
      unfold Av1 at hyA
      exact ((show False by omega).elim)
    · have e_4 : ¬ (n_1 ≤ 1000) := fun h9 => c_2 ((nI_leI (a := n_1) (b := 1000) (by omega) (by omega)).mpr h9)
      exact zb_throw (cls := xIA) (ik := 116) (ic := 118) B hl9 htab9 (by decide) ⟨hI, (fun b9 h9 => rfl)⟩ (by decide) (by decide +kernel) (by decide +kernel) (by decide +kernel) (by decide +kernel) (by decide +kernel) (by decide +kernel) (by decide +kernel) dX11_advance_12 dX11_advance_15 dX11_advance_16 dX11_advance_19 ⟨Nat.le_of_ble_eq_true rfl, Nat.le_of_ble_eq_true rfl, Nat.le_of_ble_eq_true rfl, Nat.le_of_ble_eq_true rfl⟩ ⟨Nat.le_of_ble_eq_true rfl, Nat.le_of_ble_eq_true rfl⟩

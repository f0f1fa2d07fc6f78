set_option maxRecDepth 20000 in
theorem ggX12_changeRate_X12_exportAll : GoodIn wsX12_changeRate wsX12_exportAll := goodIn_ca ((goodIn_ca (goodIn_r _ [6, 7, 8, 9, 10, 5, 11, 12, 13, 14, 15, 16, 17, 18, 19, 20, 21, 22, 23, 24, 25, 26, 27, 28, 29, 30, 31, 32, 33, 34, 35, 36, 37, 38, 39, 40, 41, 42, 43, 44, 45, 46, 47, 48, 49, 50, 1, 51, 52, 53, 54, 55, 56, 57, 58, 59, 60, 61, 62] rfl (by decide +kernel)) (goodIn_sub (fun _ h => List.mem_cons_of_mem _ (List.mem_append_left _ (List.mem_append_right _ h))) gw_wsX120))) (goodIn_sub (fun _ h => List.mem_cons_of_mem _ (List.mem_append_right _ h)) (all_fg _))
set_option maxRecDepth 20000 in
theorem gX12_changeRate_X12_exportAll : GoodIn wsX12_changeRate (wsV RX12 259 RX12 yX12_exportAll wsX12_exportAll) := goodIn_app (goodIn_m (mem_cA (List.mem_cons_of_mem _ (List.mem_append_left _ (List.mem_append_left _ (List.mem_append_left _ (List.mem_of_getElem? (i := 1) rfl))))) (mem_cA (List.mem_cons_of_mem _ (List.mem_append_left _ (List.mem_append_left _ (List.mem_append_left _ (List.mem_of_getElem? (i := 2) rfl))))) (mem_cA (List.mem_cons_of_mem _ (List.mem_append_left _ (List.mem_append_left _ (List.mem_append_left _ (List.mem_of_getElem? (i := 3) rfl))))) (mem_cA (List.mem_cons_of_mem _ (List.mem_append_left _ (List.mem_append_left _ (List.mem_append_left _ (List.mem_of_getElem? (i := 4) rfl))))) mem_cZ)))) (by decide +kernel)) ggX12_changeRate_X12_exportAll
theorem dX12_changeRate_0 : decode cX12_changeRate 0 = .ok (.iload_n 1, 1) := by decide +kernel
theorem dX12_changeRate_1 : decode cX12_changeRate 1 = .ok (.aload_n 0, 1) := by decide +kernel
theorem dX12_changeRate_2 : decode cX12_changeRate 2 = .ok (.getfield 107, 3) := by decide +kernel
theorem dX12_changeRate_5 : decode cX12_changeRate 5 = .ok (.if_icmp .ne 5, 3) := by decide +kernel
theorem dX12_changeRate_8 : decode cX12_changeRate 8 = .ok (.iconst 0, 1) := by decide +kernel
theorem dX12_changeRate_9 : decode cX12_changeRate 9 = .ok (.ireturn, 1) := by decide +kernel
theorem dX12_changeRate_10 : decode cX12_changeRate 10 = .ok (.aload_n 0, 1) := by decide +kernel
theorem dX12_changeRate_11 : decode cX12_changeRate 11 = .ok (.invokevirtual 259, 3) := by decide +kernel
theorem dX12_changeRate_14 : decode cX12_changeRate 14 = .ok (.istore_n 2, 1) := by decide +kernel
theorem dX12_changeRate_15 : decode cX12_changeRate 15 = .ok (.aload_n 0, 1) := by decide +kernel
theorem dX12_changeRate_16 : decode cX12_changeRate 16 = .ok (.iload_n 1, 1) := by decide +kernel
theorem dX12_changeRate_17 : decode cX12_changeRate 17 = .ok (.putfield 107, 3) := by decide +kernel
theorem dX12_changeRate_20 : decode cX12_changeRate 20 = .ok (.iload_n 2, 1) := by decide +kernel
theorem dX12_changeRate_21 : decode cX12_changeRate 21 = .ok (.ireturn, 1) := by decide +kernel
theorem dX12_isOver_0 : decode cX12_isOver 0 = .ok (.aload_n 0, 1) := by decide +kernel
theorem dX12_isOver_1 : decode cX12_isOver 1 = .ok (.getfield 101, 3) := by decide +kernel
theorem dX12_isOver_4 : decode cX12_isOver 4 = .ok (.i2l, 1) := by decide +kernel
theorem dX12_isOver_5 : decode cX12_isOver 5 = .ok (.aload_n 0, 1) := by decide +kernel
theorem dX12_isOver_6 : decode cX12_isOver 6 = .ok (.getfield 26, 3) := by decide +kernel
theorem dX12_isOver_9 : decode cX12_isOver 9 = .ok (.bipush 8, 2) := by decide +kernel
theorem dX12_isOver_11 : decode cX12_isOver 11 = .ok (.iload_n 1, 1) := by decide +kernel
theorem dX12_isOver_12 : decode cX12_isOver 12 = .ok (.imul, 1) := by decide +kernel
theorem dX12_isOver_13 : decode cX12_isOver 13 = .ok (.bipush 6, 2) := by decide +kernel
theorem dX12_isOver_15 : decode cX12_isOver 15 = .ok (.iadd, 1) := by decide +kernel
theorem dX12_isOver_16 : decode cX12_isOver 16 = .ok (.laload, 1) := by decide +kernel
theorem dX12_isOver_17 : decode cX12_isOver 17 = .ok (.lsub, 1) := by decide +kernel
theorem dX12_isOver_18 : decode cX12_isOver 18 = .ok (.aload_n 0, 1) := by decide +kernel
theorem dX12_isOver_19 : decode cX12_isOver 19 = .ok (.getfield 17, 3) := by decide +kernel
theorem dX12_isOver_22 : decode cX12_isOver 22 = .ok (.iconst 2, 1) := by decide +kernel
theorem dX12_isOver_23 : decode cX12_isOver 23 = .ok (.iaload, 1) := by decide +kernel
theorem dX12_isOver_24 : decode cX12_isOver 24 = .ok (.i2l, 1) := by decide +kernel
theorem dX12_isOver_25 : decode cX12_isOver 25 = .ok (.lcmp, 1) := by decide +kernel
theorem dX12_isOver_26 : decode cX12_isOver 26 = .ok (.ifCond .ge 32, 3) := by decide +kernel
theorem dX12_isOver_29 : decode cX12_isOver 29 = .ok (.aload_n 0, 1) := by decide +kernel
theorem dX12_isOver_30 : decode cX12_isOver 30 = .ok (.getfield 101, 3) := by decide +kernel
theorem dX12_isOver_33 : decode cX12_isOver 33 = .ok (.i2l, 1) := by decide +kernel
theorem dX12_isOver_34 : decode cX12_isOver 34 = .ok (.aload_n 0, 1) := by decide +kernel
theorem dX12_isOver_35 : decode cX12_isOver 35 = .ok (.getfield 26, 3) := by decide +kernel
theorem dX12_isOver_38 : decode cX12_isOver 38 = .ok (.bipush 8, 2) := by decide +kernel
theorem dX12_isOver_40 : decode cX12_isOver 40 = .ok (.iload_n 1, 1) := by decide +kernel
theorem dX12_isOver_41 : decode cX12_isOver 41 = .ok (.imul, 1) := by decide +kernel
theorem dX12_isOver_42 : decode cX12_isOver 42 = .ok (.bipush 7, 2) := by decide +kernel
theorem dX12_isOver_44 : decode cX12_isOver 44 = .ok (.iadd, 1) := by decide +kernel
theorem dX12_isOver_45 : decode cX12_isOver 45 = .ok (.laload, 1) := by decide +kernel
theorem dX12_isOver_46 : decode cX12_isOver 46 = .ok (.lsub, 1) := by decide +kernel
theorem dX12_isOver_47 : decode cX12_isOver 47 = .ok (.aload_n 0, 1) := by decide +kernel
theorem dX12_isOver_48 : decode cX12_isOver 48 = .ok (.getfield 17, 3) := by decide +kernel
theorem dX12_isOver_51 : decode cX12_isOver 51 = .ok (.iconst 3, 1) := by decide +kernel
theorem dX12_isOver_52 : decode cX12_isOver 52 = .ok (.iaload, 1) := by decide +kernel
theorem dX12_isOver_53 : decode cX12_isOver 53 = .ok (.i2l, 1) := by decide +kernel
theorem dX12_isOver_54 : decode cX12_isOver 54 = .ok (.lcmp, 1) := by decide +kernel
theorem dX12_isOver_55 : decode cX12_isOver 55 = .ok (.ifCond .lt 7, 3) := by decide +kernel
theorem dX12_isOver_58 : decode cX12_isOver 58 = .ok (.iconst 1, 1) := by decide +kernel
theorem dX12_isOver_59 : decode cX12_isOver 59 = .ok (.goto 4, 3) := by decide +kernel
theorem dX12_isOver_62 : decode cX12_isOver 62 = .ok (.iconst 0, 1) := by decide +kernel
theorem dX12_isOver_63 : decode cX12_isOver 63 = .ok (.ireturn, 1) := by decide +kernel
set_option maxRecDepth 20000 in
theorem ggX12_adapt_X12_changeRate : GoodIn wsX12_adapt wsX12_changeRate := goodIn_ca ((goodIn_ca (goodIn_r _ [9, 4, 10, 11, 12, 8, 13, 14, 15, 16, 17, 18, 3, 19, 20, 1, 21, 22, 23, 24, 25, 26, 27, 28, 29, 30, 31, 32, 33, 34, 35, 36, 37, 38, 39, 40, 41, 42, 43, 44, 45, 46, 47, 48, 49, 50, 51, 52, 53, 54, 55, 56, 57, 58, 59, 60, 61, 62, 63, 64, 65, 66, 67] rfl (by decide +kernel)) (goodIn_sub (fun _ h => List.mem_cons_of_mem _ (List.mem_append_left _ (List.mem_append_right _ h))) gw_wsX120))) (goodIn_sub (fun _ h => List.mem_cons_of_mem _ (List.mem_append_right _ h)) (all_fg _))
set_option maxRecDepth 20000 in
theorem gX12_adapt_X12_changeRate : GoodIn wsX12_adapt (wsV RX12 265 RX12 yX12_changeRate wsX12_changeRate) := goodIn_app (goodIn_m (mem_cA (List.mem_cons_of_mem _ (List.mem_append_left _ (List.mem_append_left _ (List.mem_append_left _ (List.mem_of_getElem? (i := 4) rfl))))) (mem_cA (List.mem_cons_of_mem _ (List.mem_append_left _ (List.mem_append_left _ (List.mem_append_left _ (List.mem_of_getElem? (i := 5) rfl))))) (mem_cA (List.mem_cons_of_mem _ (List.mem_append_left _ (List.mem_append_left _ (List.mem_append_left _ (List.mem_of_getElem? (i := 6) rfl))))) (mem_cA (List.mem_cons_of_mem _ (List.mem_append_left _ (List.mem_append_left _ (List.mem_append_left _ (List.mem_of_getElem? (i := 7) rfl))))) mem_cZ)))) (by decide +kernel)) ggX12_adapt_X12_changeRate
theorem dX12_adapt_0 : decode cX12_adapt 0 = .ok (.aload_n 0, 1) := by decide +kernel
theorem dX12_adapt_1 : decode cX12_adapt 1 = .ok (.getfield 114, 3) := by decide +kernel
theorem dX12_adapt_4 : decode cX12_adapt 4 = .ok (.istore_n 1, 1) := by decide +kernel
theorem dX12_adapt_5 : decode cX12_adapt 5 = .ok (.aload_n 0, 1) := by decide +kernel
theorem dX12_adapt_6 : decode cX12_adapt 6 = .ok (.iconst 0, 1) := by decide +kernel
theorem dX12_adapt_7 : decode cX12_adapt 7 = .ok (.putfield 114, 3) := by decide +kernel
theorem dX12_adapt_10 : decode cX12_adapt 10 = .ok (.aload_n 0, 1) := by decide +kernel
theorem dX12_adapt_11 : decode cX12_adapt 11 = .ok (.getfield 110, 3) := by decide +kernel
theorem dX12_adapt_14 : decode cX12_adapt 14 = .ok (.ifCond .ne 5, 3) := by decide +kernel
theorem dX12_adapt_17 : decode cX12_adapt 17 = .ok (.iconst 0, 1) := by decide +kernel
theorem dX12_adapt_18 : decode cX12_adapt 18 = .ok (.ireturn, 1) := by decide +kernel
theorem dX12_adapt_19 : decode cX12_adapt 19 = .ok (.iload_n 1, 1) := by decide +kernel
theorem dX12_adapt_20 : decode cX12_adapt 20 = .ok (.aload_n 0, 1) := by decide +kernel
theorem dX12_adapt_21 : decode cX12_adapt 21 = .ok (.getfield 17, 3) := by decide +kernel
theorem dX12_adapt_24 : decode cX12_adapt 24 = .ok (.iconst 1, 1) := by decide +kernel
theorem dX12_adapt_25 : decode cX12_adapt 25 = .ok (.iaload, 1) := by decide +kernel
theorem dX12_adapt_26 : decode cX12_adapt 26 = .ok (.if_icmp .le 24, 3) := by decide +kernel
theorem dX12_adapt_29 : decode cX12_adapt 29 = .ok (.aload_n 0, 1) := by decide +kernel
theorem dX12_adapt_30 : decode cX12_adapt 30 = .ok (.getfield 107, 3) := by decide +kernel
theorem dX12_adapt_33 : decode cX12_adapt 33 = .ok (.sipush 512, 3) := by decide +kernel
theorem dX12_adapt_36 : decode cX12_adapt 36 = .ok (.if_icmp .gt 14, 3) := by decide +kernel
theorem dX12_adapt_39 : decode cX12_adapt 39 = .ok (.aload_n 0, 1) := by decide +kernel
theorem dX12_adapt_40 : decode cX12_adapt 40 = .ok (.iconst 2, 1) := by decide +kernel
theorem dX12_adapt_41 : decode cX12_adapt 41 = .ok (.aload_n 0, 1) := by decide +kernel
theorem dX12_adapt_42 : decode cX12_adapt 42 = .ok (.getfield 107, 3) := by decide +kernel
theorem dX12_adapt_45 : decode cX12_adapt 45 = .ok (.imul, 1) := by decide +kernel
theorem dX12_adapt_46 : decode cX12_adapt 46 = .ok (.invokevirtual 265, 3) := by decide +kernel
theorem dX12_adapt_49 : decode cX12_adapt 49 = .ok (.ireturn, 1) := by decide +kernel
theorem dX12_adapt_50 : decode cX12_adapt 50 = .ok (.iconst 2, 1) := by decide +kernel
theorem dX12_adapt_51 : decode cX12_adapt 51 = .ok (.iload_n 1, 1) := by decide +kernel
theorem dX12_adapt_52 : decode cX12_adapt 52 = .ok (.imul, 1) := by decide +kernel
theorem dX12_adapt_53 : decode cX12_adapt 53 = .ok (.aload_n 0, 1) := by decide +kernel
theorem dX12_adapt_54 : decode cX12_adapt 54 = .ok (.getfield 17, 3) := by decide +kernel
theorem dX12_adapt_57 : decode cX12_adapt 57 = .ok (.iconst 1, 1) := by decide +kernel
theorem dX12_adapt_58 : decode cX12_adapt 58 = .ok (.iaload, 1) := by decide +kernel
theorem dX12_adapt_59 : decode cX12_adapt 59 = .ok (.if_icmp .ge 24, 3) := by decide +kernel
theorem dX12_adapt_62 : decode cX12_adapt 62 = .ok (.aload_n 0, 1) := by decide +kernel
theorem dX12_adapt_63 : decode cX12_adapt 63 = .ok (.getfield 107, 3) := by decide +kernel
theorem dX12_adapt_66 : decode cX12_adapt 66 = .ok (.iconst 2, 1) := by decide +kernel
theorem dX12_adapt_67 : decode cX12_adapt 67 = .ok (.if_icmp .lt 16, 3) := by decide +kernel
theorem dX12_adapt_70 : decode cX12_adapt 70 = .ok (.aload_n 0, 1) := by decide +kernel
theorem dX12_adapt_71 : decode cX12_adapt 71 = .ok (.aload_n 0, 1) := by decide +kernel
theorem dX12_adapt_72 : decode cX12_adapt 72 = .ok (.getfield 107, 3) := by decide +kernel
theorem dX12_adapt_75 : decode cX12_adapt 75 = .ok (.iconst 2, 1) := by decide +kernel
theorem dX12_adapt_76 : decode cX12_adapt 76 = .ok (.idiv, 1) := by decide +kernel
theorem dX12_adapt_77 : decode cX12_adapt 77 = .ok (.invokevirtual 265, 3) := by decide +kernel
theorem dX12_adapt_80 : decode cX12_adapt 80 = .ok (.goto 4, 3) := by decide +kernel
theorem dX12_adapt_83 : decode cX12_adapt 83 = .ok (.iconst 0, 1) := by decide +kernel
theorem dX12_adapt_84 : decode cX12_adapt 84 = .ok (.ireturn, 1) := by decide +kernel
set_option maxHeartbeats 4000000 in
set_option maxRecDepth 100000 in
theorem r_changeRate (G : EnvG) (l : Launch) (Φ : Hm) (sz x : Nat) (rd : (Nat → Int32) → Prop) (tp : (Nat → Int32) → Prop) (tt : (Nat → Int64) → Prop) (sI : (Nat → Int32) → Prop) (sT : (Nat → Int32) → Prop) (ql : (Nat → Int32) → Prop) (fl : Nat) (pe : Nat) (le : Nat) (nx : Nat) (il : Nat) (qu : Nat) (kn : Int32) (ec : Int32) (nu : Int32) (va : Int64) (st : Nat) (ep : Int32) (ti : Int32) (ad : Int32) (ob : Int64) (ra : Int32) (rt : Nat) (ex : Int32) (sa : Int64) (us : Int64) (tk : Nat) (th : Int32) (me : Int32) (dr : Int32) (se : Int64) (sn : Int64) (c : Cf) (Fs : Nat → Fl) (P : Nat → Nat) (a : Nat) (hx : G.2.2.2 ≤ x) (hI : Im G x (rd, (NNq c), (CaQ fl Fs), tp, tt, sI, sT, (PtQ pe P), ql, fl, pe, le, nx, il, qu, kn, ec, nu, va, st, ep, ti, ad, ob, ra, rt, ex, sa, us, tk, th, me, dr, se, sn) Φ) (ha : 1 ≤ a) (ha2 : a ≤ 1024) (hp : pe + fl ≤ 12) : Ct G l yX12_changeRate wsX12_changeRate ({ frames := 6, cells := 0, slots := 0, locals := 132 }) 0 0 [.ref x, .int (nI a)] Φ sz (fun v Φ1 sz1 => (∃ r9 : Int32, v = some (.int r9)) ∧ sz1 = sz ∧ (∃ (u1 : UN) (fl1 : Nat) (ex1 : Int32) (F1 : Nat → Fl), (fl1 ≤ fl) ∧ (u1.2.1 ≤ pe + fl) ∧ ((a = rt ∧ v = some (.int 0) ∧ fl1 = fl ∧ F1 = Fs ∧ u1 = (us, pe, P) ∧ ex1 = ex) ∨ (¬ a = rt ∧ v = some (.int (nI fl)) ∧ fl1 = 0 ∧ exI c (fl, Fs, us, pe, P) fl = (0, F1, u1) ∧ ex1 = ex + nI fl)) ∧ Im G x (rd, (NNq c), (CaQ fl1 F1), tp, tt, sI, sT, (PtQ u1.2.1 u1.2.2), ql, fl1, u1.2.1, le, nx, il, qu, kn, ec, nu, va, st, ep, ti, ad, ob, ra, a, ex1, sa, u1.1, tk, th, me, dr, se, sn) Φ1) ∧ Fr x (fun j9 => j9 = 0 ∨ j9 = 5 ∨ j9 = 6 ∨ j9 = 7) Φ Φ1) := by
  refine Ct.of (cc := cX12_changeRate) (maxL := 3) (ret := (some .int)) (by decide) rfl (Nat.le_of_ble_eq_true rfl) ?_
  intro p9 e9 s9 m9 w9 t9 k9 B
  show Z p9 l e9 _ s9 m9 _ w9 t9 k9 _ G 3 0 [(0, .ref x), (1, .int (nI a))] [] Φ sz 0 0
  refine z_iload_n B dX12_changeRate_0 rfl 1 rfl ?_
  refine z_aload_n B dX12_changeRate_1 rfl 0 rfl ?_
  obtain ⟨n_1, v_1, n_2, h_1, b_13, b_1, b_2, b_3, b_4, b_5, b_6, b_7, b_8, b_9, b_10, b_11, b_12⟩ := im0 hI
  replace b_1 : 1 ≤ rt := b_1
  replace b_2 : rt ≤ 1024 := b_2
  replace b_3 : fl ≤ 12 := b_3
  replace b_4 : pe ≤ 24 := b_4
  replace b_5 : le ≤ 700 := b_5
  replace b_6 : qu ≤ 12 := b_6
  replace b_7 : n_1 ≤ 8 := b_7
  replace b_8 : n_2 ≤ 24 := b_8
  replace b_9 : tk ≤ 24 := b_9
  replace b_10 : il ≤ 700 := b_10
  replace b_11 : nx ≤ 701 := b_11
  replace b_12 : st ≤ 701 := b_12
  have h_2 : Φ x = some (o_ 14 [.int th, .ref (x + 1), .ref (x + 2), .int ti, .int ra, .int (nI rt), .int ex, .int ad, .ref (x + 3), .ref (x + 4), .int me, .long se, .ref (x + 5), .int (nI fl), .int dr, .long ob, .long sa, .long sn, .long us, .ref (x + 6), .ref (x + 7), .int (nI pe), .ref (x + 8), .int (nI le), .ref (x + 9), .ref (x + 10), .int (nI qu), .ref (x + 11), .ref (x + 12), .ref (x + 13), .ref (x + 14), .ref (x + 15), .ref (x + 16), .int (nI n_1), .long v_1, .ref (x + 17), .ref (x + 18), .ref (x + 19), .ref (x + 20), .ref (x + 21), .ref (x + 22), .int (nI n_2), .ref (x + 23), .ref (x + 24), .int (nI tk), .ref (x + 25), .int (nI il), .int (nI nx), .int ec, .int ep, .int kn, .int (nI st), .int nu, .long va]) := h_1
  refine z_get (ref := "FlowExporterModel") (C := RX12) (T := TX12) (N := 54) (ci := 14) (v := .int (nI rt)) B hu_X12_changeRate_X12 rfl 5 (Nat.le_of_ble_eq_true rfl) hv_X12_changeRate_107 rfl h_2 rfl dX12_changeRate_2 ?_
  refine z_icmp_ne (tgt := 10) B dX12_changeRate_5 rfl (fun c_1 => ?_) (fun c_1 => ?_)
  · have e_1 : ¬ (a = rt) := fun h9 => c_1 ((nI_eq (a := a) (b := rt) (by omega) (by omega)).mpr h9)
    refine z_aload_n B dX12_changeRate_10 rfl 0 rfl ?_
    refine z_callV (As := []) (rest := []) B (r_exportAll G l Φ sz x rd tp tt sI sT ql fl pe le nx il qu kn ec nu va st ep ti ad ob ra rt ex sa us tk th me dr se sn c Fs P hx hI (show pe + fl ≤ 12 by omega)) (cwV 0 B.1.2.2.2.2 gX12_changeRate_X12_exportAll rfl rfl rfl (by decide +kernel) ⟨Nat.le_of_ble_eq_true rfl, Nat.le_of_ble_eq_true rfl⟩) h_2 rfl rfl rfl rfl (Nat.le_of_ble_eq_true rfl) dX12_changeRate_11 ⟨Nat.le_of_ble_eq_true rfl, Nat.le_of_ble_eq_true rfl⟩ (fun r_1 Φ1 sz1 st1 hp1 hs1 => ?_)
    obtain ⟨rfl, hq1, ⟨n_3, n_4, b_14, b_15, hI1⟩, hF1⟩ := hp1
    subst sz1
    replace hs1 : st1 = [.int (nI fl)] := hs1
    subst st1
    replace hI1 : Im G x (rd, (NNq c), CaQ 0 n_4, tp, tt, sI, sT, PtQ n_3.2.1 n_3.2.2, ql, 0, n_3.2.1, le, nx, il, qu, kn, ec, nu, va, st, ep, ti, ad, ob, ra, rt, ex + nI fl, sa, n_3.1, tk, th, me, dr, se, sn) Φ1 := hI1
    replace b_14 : n_3.2.1 ≤ pe + fl := b_14
    replace b_15 : exI c (fl, Fs, us, pe, P) fl = (0, n_4, n_3) := b_15
    refine z_istore_n (lv' := [(2, .int (nI fl)), (0, .ref x), (1, .int (nI a))]) B dX12_changeRate_14 rfl (Nat.le_of_ble_eq_true rfl) rfl ?_
    refine z_aload_n B dX12_changeRate_15 rfl 1 rfl ?_
    refine z_iload_n B dX12_changeRate_16 rfl 2 rfl ?_
    obtain ⟨n_5, v_2, n_6, h_3, b_28, b_16, b_17, b_18, b_19, b_20, b_21, b_22, b_23, b_24, b_25, b_26, b_27⟩ := im0 hI1
    replace b_16 : 1 ≤ rt := b_16
    replace b_17 : rt ≤ 1024 := b_17
    replace b_18 : 0 ≤ 12 := b_18
    replace b_19 : n_3.2.1 ≤ 24 := b_19
    replace b_20 : le ≤ 700 := b_20
    replace b_21 : qu ≤ 12 := b_21
    replace b_22 : n_5 ≤ 8 := b_22
    replace b_23 : n_6 ≤ 24 := b_23
    replace b_24 : tk ≤ 24 := b_24
    replace b_25 : il ≤ 700 := b_25
    replace b_26 : nx ≤ 701 := b_26
    replace b_27 : st ≤ 701 := b_27
    have h_4 : Φ1 x = some (o_ 14 [.int th, .ref (x + 1), .ref (x + 2), .int ti, .int ra, .int (nI rt), .int (ex + nI fl), .int ad, .ref (x + 3), .ref (x + 4), .int me, .long se, .ref (x + 5), .int (nI 0), .int dr, .long ob, .long sa, .long sn, .long n_3.1, .ref (x + 6), .ref (x + 7), .int (nI n_3.2.1), .ref (x + 8), .int (nI le), .ref (x + 9), .ref (x + 10), .int (nI qu), .ref (x + 11), .ref (x + 12), .ref (x + 13), .ref (x + 14), .ref (x + 15), .ref (x + 16), .int (nI n_5), .long v_2, .ref (x + 17), .ref (x + 18), .ref (x + 19), .ref (x + 20), .ref (x + 21), .ref (x + 22), .int (nI n_6), .ref (x + 23), .ref (x + 24), .int (nI tk), .ref (x + 25), .int (nI il), .int (nI nx), .int ec, .int ep, .int kn, .int (nI st), .int nu, .long va]) := h_3
    refine z_put (ref := "FlowExporterModel") (C := RX12) (T := TX12) (N := 54) (ci := 14) (v := .int (nI a)) B hu_X12_changeRate_X12 tyX12 tyX12_ok nmX12 rfl 5 (Nat.le_of_ble_eq_true rfl) hv_X12_changeRate_107 rfl (Or.inl rfl) h_4 hx rfl rfl (Nat.le_of_ble_eq_true rfl) dX12_changeRate_17 (fun Φ2 hΦ1 => ?_)
    have h_5 : Φ2 x = some (o_ 14 [.int th, .ref (x + 1), .ref (x + 2), .int ti, .int ra, .int (nI a), .int (ex + nI fl), .int ad, .ref (x + 3), .ref (x + 4), .int me, .long se, .ref (x + 5), .int (nI 0), .int dr, .long ob, .long sa, .long sn, .long n_3.1, .ref (x + 6), .ref (x + 7), .int (nI n_3.2.1), .ref (x + 8), .int (nI le), .ref (x + 9), .ref (x + 10), .int (nI qu), .ref (x + 11), .ref (x + 12), .ref (x + 13), .ref (x + 14), .ref (x + 15), .ref (x + 16), .int (nI n_5), .long v_2, .ref (x + 17), .ref (x + 18), .ref (x + 19), .ref (x + 20), .ref (x + 21), .ref (x + 22), .int (nI n_6), .ref (x + 23), .ref (x + 24), .int (nI tk), .ref (x + 25), .int (nI il), .int (nI nx), .int ec, .int ep, .int kn, .int (nI st), .int nu, .long va]) := fset_at hΦ1
    have hI2 : Im G x (rd, (NNq c), CaQ 0 n_4, tp, tt, sI, sT, PtQ n_3.2.1 n_3.2.2, ql, 0, n_3.2.1, le, nx, il, qu, kn, ec, nu, va, st, ep, ti, ad, ob, ra, a, ex + nI fl, sa, n_3.1, tk, th, me, dr, se, sn) Φ2 := Im.put0 hI1 hΦ1 ⟨n_5, v_2, n_6, rfl, b_28, (show 1 ≤ a by omega), (show a ≤ 1024 by omega), b_18, b_19, b_20, b_21, b_22, b_23, b_24, b_25, b_26, b_27⟩
    refine z_iload_n B dX12_changeRate_20 rfl 0 rfl ?_
    exact z_ret_i B dX12_changeRate_21 ⟨⟨_, rfl⟩, rfl, ⟨n_3, 0, ex + nI fl, n_4, (show 0 ≤ fl by omega), (show n_3.2.1 ≤ pe + fl by omega), (Or.inr ⟨by omega, rfl, rfl, b_15, rfl⟩), hI2⟩, (fun b9 h9 => ((fset_fr hΦ1 (fun h8 => h9 (0) h8 (show 0 = 0 ∨ 0 = 5 ∨ 0 = 6 ∨ 0 = 7 by decide))).trans ((hF1 b9 h9).trans rfl)))⟩
  · have e_2 : a = rt := (nI_eq (a := a) (b := rt) (by omega) (by omega)).mp c_1
    have hI3 : Im G x (rd, (NNq c), (CaQ fl Fs), tp, tt, sI, sT, (PtQ pe P), ql, fl, pe, le, nx, il, qu, kn, ec, nu, va, st, ep, ti, ad, ob, ra, a, ex, sa, us, tk, th, me, dr, se, sn) Φ := Eq.mp (congrArg (fun w9 : Nat => Im G x (rd, (NNq c), (CaQ fl Fs), tp, tt, sI, sT, (PtQ pe P), ql, fl, pe, le, nx, il, qu, kn, ec, nu, va, st, ep, ti, ad, ob, ra, w9, ex, sa, us, tk, th, me, dr, se, sn) Φ) (show rt = a by omega)) hI
    refine z_iconst (v := 0) B dX12_changeRate_8 rfl ?_
    exact z_ret_i B dX12_changeRate_9 ⟨⟨_, rfl⟩, rfl, ⟨(us, pe, P), fl, ex, Fs, (show fl ≤ fl by omega), (show pe ≤ pe + fl by omega), (Or.inl ⟨by omega, rfl, rfl, rfl, rfl, rfl⟩), hI3⟩, (fun b9 h9 => rfl)⟩

theorem hu_X12_isOver_X12 : ∀ w ∈ u_ws RX12 TX12 54, w ∈ wsX12_isOver := fun _ h => List.mem_cons_of_mem _ (List.mem_append_left _ (List.mem_append_right _ (h)))

theorem hv_X12_isOver_101 : Cond.fieldLink RX12 101 "FlowExporterModel" (TX12 3).2.1 (TX12 3).2.2.1 ∈ wsX12_isOver := List.mem_cons_of_mem _ (List.mem_append_left _ (List.mem_append_left _ (List.mem_of_getElem? (i := 0) rfl)))

theorem hv_X12_isOver_26 : Cond.fieldLink RX12 26 "FlowExporterModel" (TX12 12).2.1 (TX12 12).2.2.1 ∈ wsX12_isOver := List.mem_cons_of_mem _ (List.mem_append_left _ (List.mem_append_left _ (List.mem_of_getElem? (i := 1) rfl)))

theorem hv_X12_isOver_17 : Cond.fieldLink RX12 17 "FlowExporterModel" (TX12 2).2.1 (TX12 2).2.2.1 ∈ wsX12_isOver := List.mem_cons_of_mem _ (List.mem_append_left _ (List.mem_append_left _ (List.mem_of_getElem? (i := 2) rfl)))

set_option maxHeartbeats 4000000 in
set_option maxRecDepth 100000 in
theorem r_isOver (G : EnvG) (l : Launch) (Φ : Hm) (sz x : Nat) (rd : (Nat → Int32) → Prop) (tp : (Nat → Int32) → Prop) (tt : (Nat → Int64) → Prop) (sI : (Nat → Int32) → Prop) (sT : (Nat → Int32) → Prop) (pt : (Nat → Int32) → Prop) (ql : (Nat → Int32) → Prop) (fl : Nat) (pe : Nat) (le : Nat) (nx : Nat) (il : Nat) (qu : Nat) (kn : Int32) (ec : Int32) (nu : Int32) (va : Int64) (st : Nat) (ep : Int32) (ad : Int32) (ob : Int64) (ra : Int32) (rt : Nat) (ex : Int32) (sa : Int64) (us : Int64) (tk : Nat) (th : Int32) (me : Int32) (dr : Int32) (se : Int64) (sn : Int64) (c : Cf) (Fs : Nat → Fl) (tm : Nat) (f : Nat) (hx : G.2.2.2 ≤ x) (hI : Im G x (rd, (NNq c), (CaQ fl Fs), tp, tt, sI, sT, pt, ql, fl, pe, le, nx, il, qu, kn, ec, nu, va, st, ep, (nI tm), ad, ob, ra, rt, ex, sa, us, tk, th, me, dr, se, sn) Φ) (hf : f < fl) (hf2 : f < 12) (htm : tm ≤ 1000000) : Ct G l yX12_isOver wsX12_isOver ({ frames := 0, cells := 0, slots := 0, locals := 0 }) 0 0 [.ref x, .int (nI f)] Φ sz (fun v Φ1 sz1 => ((v = some (.int 1) ∧ ovr c tm (Fs f)) ∨ (v = some (.int 0) ∧ ¬ ovr c tm (Fs f))) ∧ sz1 = sz ∧ (Im G x (rd, (NNq c), (CaQ fl Fs), tp, tt, sI, sT, pt, ql, fl, pe, le, nx, il, qu, kn, ec, nu, va, st, ep, (nI tm), ad, ob, ra, rt, ex, sa, us, tk, th, me, dr, se, sn) Φ1) ∧ Fr x (fun j9 => False) Φ Φ1) := by
  refine Ct.of (cc := cX12_isOver) (maxL := 2) (ret := (some .boolean)) (by decide) rfl (Nat.le_of_ble_eq_true rfl) ?_
  intro p9 e9 s9 m9 w9 t9 k9 B
  show Z p9 l e9 _ s9 m9 _ w9 t9 k9 _ G 2 0 [(0, .ref x), (1, .int (nI f))] [] Φ sz 0 0
  refine z_aload_n B dX12_isOver_0 rfl 0 rfl ?_
  obtain ⟨n_1, v_1, n_2, h_1, b_13, b_1, b_2, b_3, b_4, b_5, b_6, b_7, b_8, b_9, b_10, b_11, b_12⟩ := im0 hI
  replace b_1 : 1 ≤ rt := b_1
  replace b_2 : rt ≤ 1024 := b_2
  replace b_3 : fl ≤ 12 := b_3
  replace b_4 : pe ≤ 24 := b_4
  replace b_5 : le ≤ 700 := b_5
  replace b_6 : qu ≤ 12 := b_6
  replace b_7 : n_1 ≤ 8 := b_7
  replace b_8 : n_2 ≤ 24 := b_8
  replace b_9 : tk ≤ 24 := b_9
  replace b_10 : il ≤ 700 := b_10
  replace b_11 : nx ≤ 701 := b_11
  replace b_12 : st ≤ 701 := b_12
  have h_2 : Φ x = some (o_ 14 [.int th, .ref (x + 1), .ref (x + 2), .int (nI tm), .int ra, .int (nI rt), .int ex, .int ad, .ref (x + 3), .ref (x + 4), .int me, .long se, .ref (x + 5), .int (nI fl), .int dr, .long ob, .long sa, .long sn, .long us, .ref (x + 6), .ref (x + 7), .int (nI pe), .ref (x + 8), .int (nI le), .ref (x + 9), .ref (x + 10), .int (nI qu), .ref (x + 11), .ref (x + 12), .ref (x + 13), .ref (x + 14), .ref (x + 15), .ref (x + 16), .int (nI n_1), .long v_1, .ref (x + 17), .ref (x + 18), .ref (x + 19), .ref (x + 20), .ref (x + 21), .ref (x + 22), .int (nI n_2), .ref (x + 23), .ref (x + 24), .int (nI tk), .ref (x + 25), .int (nI il), .int (nI nx), .int ec, .int ep, .int kn, .int (nI st), .int nu, .long va]) := h_1
  refine z_get (ref := "FlowExporterModel") (C := RX12) (T := TX12) (N := 54) (ci := 14) (v := .int (nI tm)) B hu_X12_isOver_X12 rfl 3 (Nat.le_of_ble_eq_true rfl) hv_X12_isOver_101 rfl h_2 rfl dX12_isOver_1 ?_
  refine z_i2l (v := (nI tm).toInt64) B dX12_isOver_4 rfl ?_
  refine z_aload_n B dX12_isOver_5 rfl 0 rfl ?_
  refine z_get (ref := "FlowExporterModel") (C := RX12) (T := TX12) (N := 54) (ci := 14) (v := .ref (x + 5)) B hu_X12_isOver_X12 rfl 12 (Nat.le_of_ble_eq_true rfl) hv_X12_isOver_26 rfl h_2 rfl dX12_isOver_6 ?_
  refine z_bipush (v := 8) B dX12_isOver_9 rfl ?_
  refine z_iload_n B dX12_isOver_11 rfl 1 rfl ?_
  refine z_imul B dX12_isOver_12 ?_
  refine z_top (st1 := [.int (nI (8 * f)), .ref (x + 5), .long ((nI tm).toInt64)]) (congrArg (fun w9 : Int32 => ([.int w9, .ref (x + 5), .long ((nI tm).toInt64)] : List Value)) (nI_mul 8 f)) ?_
  refine z_bipush (v := 6) B dX12_isOver_13 rfl ?_
  refine z_iadd B dX12_isOver_15 ?_
  refine z_top (st1 := [.int (nI (8 * f + 6)), .ref (x + 5), .long ((nI tm).toInt64)]) (congrArg (fun w9 : Int32 => ([.int w9, .ref (x + 5), .long ((nI tm).toInt64)] : List Value)) (nI_add (8 * f) 6)) ?_
  obtain ⟨f_1, h_3, r_1, r_2⟩ := imk (k := 5) hI
  replace r_2 : (CaQ fl Fs) f_1 := r_2
  replace r_1 : CC f_1 := r_1
  have h_4 : Φ (x + 5) = some (al_ G 96 f_1) := h_3
  refine z_lald B h_4 (vp_in_nI (by omega) (by omega)) dX12_isOver_16 ?_
  have b_14 := (r_2 f (by omega)).1
  have b_15 := b_14.2
  refine z_top (st1 := [.long ((nI (Fs f).2.2.2.1).toInt64), .long ((nI tm).toInt64)]) (congrArg (fun w9 : Int64 => ([.long w9, .long ((nI tm).toInt64)] : List Value)) ((congrArg f_1 (nI_clamp (by omega))).trans (CaQ.at r_2 (j := f) (by omega) 6 (by decide) rfl))) ?_
  refine z_lsub B dX12_isOver_17 ?_
  refine z_aload_n B dX12_isOver_18 rfl 0 rfl ?_
  refine z_get (ref := "FlowExporterModel") (C := RX12) (T := TX12) (N := 54) (ci := 14) (v := .ref (x + 2)) B hu_X12_isOver_X12 rfl 2 (Nat.le_of_ble_eq_true rfl) hv_X12_isOver_17 rfl h_2 rfl dX12_isOver_19 ?_
  refine z_iconst (v := 2) B dX12_isOver_22 rfl ?_
  obtain ⟨f_2, h_5, r_3⟩ := imk (k := 2) hI
  replace r_3 : (NNq c) f_2 := r_3
  have r_4 : NN f_2 := r_3.1
  have h_6 : Φ (x + 2) = some (ai_ G 307 f_2) := h_5
  refine z_iald B h_6 (vin rfl) dX12_isOver_23 ?_
  refine z_top (st1 := [.int (c 2), .long (((nI tm).toInt64) - ((nI (Fs f).2.2.2.1).toInt64))]) (congrArg (fun w9 : Int32 => ([.int w9, .long (((nI tm).toInt64) - ((nI (Fs f).2.2.2.1).toInt64))] : List Value)) ((congrArg f_2 (show (2 : Int32).toNatClampNeg = 2 by decide)).trans (r_3.2 2 (by decide)))) ?_
  refine z_i2l (v := (c 2).toInt64) B dX12_isOver_24 rfl ?_
  refine z_lcmp B dX12_isOver_25 ?_
  refine z_if_ge (tgt := 58) B dX12_isOver_26 rfl (fun c_1 => ?_) (fun c_1 => ?_)
  · refine z_iconst (v := 1) B dX12_isOver_58 rfl ?_
    refine z_goto (tgt := 63) B dX12_isOver_59 rfl ?_
    exact z_ret_z B dX12_isOver_63 (by decide) ⟨(Or.inl ⟨rfl, Or.inl ((ov_L (by omega) (by omega)).mp (Int64.not_lt.mp (fun h9 => (Int32.not_lt.mpr c_1) ((lg_cmp_lt _ _).mpr h9))))⟩), rfl, hI, (fun b9 h9 => rfl)⟩
  · refine z_aload_n B dX12_isOver_29 rfl 0 rfl ?_
    refine z_get (ref := "FlowExporterModel") (C := RX12) (T := TX12) (N := 54) (ci := 14) (v := .int (nI tm)) B hu_X12_isOver_X12 rfl 3 (Nat.le_of_ble_eq_true rfl) hv_X12_isOver_101 rfl h_2 rfl dX12_isOver_30 ?_
    refine z_i2l (v := (nI tm).toInt64) B dX12_isOver_33 rfl ?_
    refine z_aload_n B dX12_isOver_34 rfl 0 rfl ?_
    refine z_get (ref := "FlowExporterModel") (C := RX12) (T := TX12) (N := 54) (ci := 14) (v := .ref (x + 5)) B hu_X12_isOver_X12 rfl 12 (Nat.le_of_ble_eq_true rfl) hv_X12_isOver_26 rfl h_2 rfl dX12_isOver_35 ?_
    refine z_bipush (v := 8) B dX12_isOver_38 rfl ?_
    refine z_iload_n B dX12_isOver_40 rfl 1 rfl ?_
    refine z_imul B dX12_isOver_41 ?_
    refine z_top (st1 := [.int (nI (8 * f)), .ref (x + 5), .long ((nI tm).toInt64)]) (congrArg (fun w9 : Int32 => ([.int w9, .ref (x + 5), .long ((nI tm).toInt64)] : List Value)) (nI_mul 8 f)) ?_
    refine z_bipush (v := 7) B dX12_isOver_42 rfl ?_
    refine z_iadd B dX12_isOver_44 ?_
    refine z_top (st1 := [.int (nI (8 * f + 7)), .ref (x + 5), .long ((nI tm).toInt64)]) (congrArg (fun w9 : Int32 => ([.int w9, .ref (x + 5), .long ((nI tm).toInt64)] : List Value)) (nI_add (8 * f) 7)) ?_
    refine z_lald B h_4 (vp_in_nI (by omega) (by omega)) dX12_isOver_45 ?_
    have b_16 := (r_2 f (by omega)).1
    have b_17 := b_16.2
    refine z_top (st1 := [.long ((nI (Fs f).2.2.2.2).toInt64), .long ((nI tm).toInt64)]) (congrArg (fun w9 : Int64 => ([.long w9, .long ((nI tm).toInt64)] : List Value)) ((congrArg f_1 (nI_clamp (by omega))).trans (CaQ.at r_2 (j := f) (by omega) 7 (by decide) rfl))) ?_
    refine z_lsub B dX12_isOver_46 ?_
    refine z_aload_n B dX12_isOver_47 rfl 0 rfl ?_
    refine z_get (ref := "FlowExporterModel") (C := RX12) (T := TX12) (N := 54) (ci := 14) (v := .ref (x + 2)) B hu_X12_isOver_X12 rfl 2 (Nat.le_of_ble_eq_true rfl) hv_X12_isOver_17 rfl h_2 rfl dX12_isOver_48 ?_
    refine z_iconst (v := 3) B dX12_isOver_51 rfl ?_
    refine z_iald B h_6 (vin rfl) dX12_isOver_52 ?_
    refine z_top (st1 := [.int (c 3), .long (((nI tm).toInt64) - ((nI (Fs f).2.2.2.2).toInt64))]) (congrArg (fun w9 : Int32 => ([.int w9, .long (((nI tm).toInt64) - ((nI (Fs f).2.2.2.2).toInt64))] : List Value)) ((congrArg f_2 (show (3 : Int32).toNatClampNeg = 3 by decide)).trans (r_3.2 3 (by decide)))) ?_
    refine z_i2l (v := (c 3).toInt64) B dX12_isOver_53 rfl ?_
    refine z_lcmp B dX12_isOver_54 ?_
    refine z_if_lt (tgt := 62) B dX12_isOver_55 rfl (fun c_2 => ?_) (fun c_2 => ?_)
    · refine z_iconst (v := 0) B dX12_isOver_62 rfl ?_
      exact z_ret_z B dX12_isOver_63 (by decide) ⟨(Or.inr ⟨rfl, fun h9 => h9.elim (fun h9 => (Int64.not_lt.mpr ((ov_L (by omega) (by omega)).mpr h9)) ((lg_cmp_lt _ _).mp (Int32.not_le.mp c_1))) (fun h9 => (Int64.not_lt.mpr ((ov_L (by omega) (by omega)).mpr h9)) ((lg_cmp_lt _ _).mp c_2))⟩), rfl, hI, (fun b9 h9 => rfl)⟩
    · refine z_iconst (v := 1) B dX12_isOver_58 rfl ?_
      refine z_goto (tgt := 63) B dX12_isOver_59 rfl ?_
      exact z_ret_z B dX12_isOver_63 (by decide) ⟨(Or.inl ⟨rfl, Or.inr ((ov_L (by omega) (by omega)).mp (Int64.not_lt.mp (fun h9 => c_2 ((lg_cmp_lt _ _).mpr h9))))⟩), rfl, hI, (fun b9 h9 => rfl)⟩

theorem hu_X12_adapt_X12 : ∀ w ∈ u_ws RX12 TX12 54, w ∈ wsX12_adapt := fun _ h => List.mem_cons_of_mem _ (List.mem_append_left _ (List.mem_append_right _ (h)))

theorem hv_X12_adapt_114 : Cond.fieldLink RX12 114 "FlowExporterModel" (TX12 6).2.1 (TX12 6).2.2.1 ∈ wsX12_adapt := List.mem_cons_of_mem _ (List.mem_append_left _ (List.mem_append_left _ (List.mem_append_left _ (List.mem_of_getElem? (i := 0) rfl))))

theorem hv_X12_adapt_110 : Cond.fieldLink RX12 110 "FlowExporterModel" (TX12 7).2.1 (TX12 7).2.2.1 ∈ wsX12_adapt := List.mem_cons_of_mem _ (List.mem_append_left _ (List.mem_append_left _ (List.mem_append_left _ (List.mem_of_getElem? (i := 1) rfl))))

theorem hv_X12_adapt_17 : Cond.fieldLink RX12 17 "FlowExporterModel" (TX12 2).2.1 (TX12 2).2.2.1 ∈ wsX12_adapt := List.mem_cons_of_mem _ (List.mem_append_left _ (List.mem_append_left _ (List.mem_append_left _ (List.mem_of_getElem? (i := 2) rfl))))

theorem hv_X12_adapt_107 : Cond.fieldLink RX12 107 "FlowExporterModel" (TX12 5).2.1 (TX12 5).2.2.1 ∈ wsX12_adapt := List.mem_cons_of_mem _ (List.mem_append_left _ (List.mem_append_left _ (List.mem_append_left _ (List.mem_of_getElem? (i := 3) rfl))))

set_option maxHeartbeats 4000000 in
set_option maxRecDepth 100000 in
theorem r_adapt (G : EnvG) (l : Launch) (Φ : Hm) (sz x : Nat) (rd : (Nat → Int32) → Prop) (tp : (Nat → Int32) → Prop) (tt : (Nat → Int64) → Prop) (sI : (Nat → Int32) → Prop) (sT : (Nat → Int32) → Prop) (ql : (Nat → Int32) → Prop) (fl : Nat) (pe : Nat) (le : Nat) (nx : Nat) (il : Nat) (qu : Nat) (kn : Int32) (ec : Int32) (nu : Int32) (va : Int64) (st : Nat) (ep : Int32) (ti : Int32) (ad : Int32) (ob : Int64) (ra : Int32) (rt : Nat) (ex : Int32) (sa : Int64) (us : Int64) (tk : Nat) (th : Int32) (me : Int32) (dr : Int32) (se : Int64) (sn : Int64) (c : Cf) (Fs : Nat → Fl) (P : Nat → Nat) (hx : G.2.2.2 ≤ x) (hI : Im G x (rd, (NNq c), (CaQ fl Fs), tp, tt, sI, sT, (PtQ pe P), ql, fl, pe, le, nx, il, qu, kn, ec, nu, va, st, ep, ti, ad, ob, ra, rt, ex, sa, us, tk, th, me, dr, se, sn) Φ) (hp : pe + fl ≤ 12) : Ct G l yX12_adapt wsX12_adapt ({ frames := 7, cells := 0, slots := 0, locals := 154 }) 0 0 [.ref x] Φ sz (fun v Φ1 sz1 => (∃ r9 : Int32, v = some (.int r9)) ∧ sz1 = sz ∧ (∃ (u1 : UN) (fl1 : Nat) (ex1 : Int32) (F1 : Nat → Fl) (rt1 : Nat) (k1 : Nat), (fl1 ≤ fl) ∧ (u1.2.1 ≤ pe + fl) ∧ (v = some (.int (nI k1)) ∧ adF c ad (fl, Fs, us, pe, P) ex rt = (k1, (fl1, F1, u1), ex1, rt1)) ∧ Im G x (rd, (NNq c), (CaQ fl1 F1), tp, tt, sI, sT, (PtQ u1.2.1 u1.2.2), ql, fl1, u1.2.1, le, nx, il, qu, kn, ec, nu, va, st, ep, ti, ad, ob, ra, rt1, ex1, sa, u1.1, tk, th, me, dr, se, sn) Φ1) ∧ Fr x (fun j9 => j9 = 0 ∨ j9 = 5 ∨ j9 = 6 ∨ j9 = 7) Φ Φ1) := by
  refine Ct.of (cc := cX12_adapt) (maxL := 2) (ret := (some .int)) (by decide) rfl (Nat.le_of_ble_eq_true rfl) ?_
  intro p9 e9 s9 m9 w9 t9 k9 B
  show Z p9 l e9 _ s9 m9 _ w9 t9 k9 _ G 2 0 [(0, .ref x)] [] Φ sz 0 0
  refine z_aload_n B dX12_adapt_0 rfl 0 rfl ?_
  obtain ⟨n_1, v_1, n_2, h_1, b_13, b_1, b_2, b_3, b_4, b_5, b_6, b_7, b_8, b_9, b_10, b_11, b_12⟩ := im0 hI
  replace b_1 : 1 ≤ rt := b_1
  replace b_2 : rt ≤ 1024 := b_2
  replace b_3 : fl ≤ 12 := b_3
  replace b_4 : pe ≤ 24 := b_4
  replace b_5 : le ≤ 700 := b_5
  replace b_6 : qu ≤ 12 := b_6
  replace b_7 : n_1 ≤ 8 := b_7
  replace b_8 : n_2 ≤ 24 := b_8
  replace b_9 : tk ≤ 24 := b_9
  replace b_10 : il ≤ 700 := b_10
  replace b_11 : nx ≤ 701 := b_11
  replace b_12 : st ≤ 701 := b_12
  have h_2 : Φ x = some (o_ 14 [.int th, .ref (x + 1), .ref (x + 2), .int ti, .int ra, .int (nI rt), .int ex, .int ad, .ref (x + 3), .ref (x + 4), .int me, .long se, .ref (x + 5), .int (nI fl), .int dr, .long ob, .long sa, .long sn, .long us, .ref (x + 6), .ref (x + 7), .int (nI pe), .ref (x + 8), .int (nI le), .ref (x + 9), .ref (x + 10), .int (nI qu), .ref (x + 11), .ref (x + 12), .ref (x + 13), .ref (x + 14), .ref (x + 15), .ref (x + 16), .int (nI n_1), .long v_1, .ref (x + 17), .ref (x + 18), .ref (x + 19), .ref (x + 20), .ref (x + 21), .ref (x + 22), .int (nI n_2), .ref (x + 23), .ref (x + 24), .int (nI tk), .ref (x + 25), .int (nI il), .int (nI nx), .int ec, .int ep, .int kn, .int (nI st), .int nu, .long va]) := h_1
  refine z_get (ref := "FlowExporterModel") (C := RX12) (T := TX12) (N := 54) (ci := 14) (v := .int ex) B hu_X12_adapt_X12 rfl 6 (Nat.le_of_ble_eq_true rfl) hv_X12_adapt_114 rfl h_2 rfl dX12_adapt_1 ?_
  refine z_istore_n (lv' := [(1, .int ex), (0, .ref x)]) B dX12_adapt_4 rfl (Nat.le_of_ble_eq_true rfl) rfl ?_
  refine z_aload_n B dX12_adapt_5 rfl 1 rfl ?_
  refine z_iconst (v := 0) B dX12_adapt_6 rfl ?_
  refine z_put (ref := "FlowExporterModel") (C := RX12) (T := TX12) (N := 54) (ci := 14) (v := .int 0) B hu_X12_adapt_X12 tyX12 tyX12_ok nmX12 rfl 6 (Nat.le_of_ble_eq_true rfl) hv_X12_adapt_114 rfl (Or.inl rfl) h_2 hx rfl rfl (Nat.le_of_ble_eq_true rfl) dX12_adapt_7 (fun Φ1 hΦ1 => ?_)
  have h_3 : Φ1 x = some (o_ 14 [.int th, .ref (x + 1), .ref (x + 2), .int ti, .int ra, .int (nI rt), .int 0, .int ad, .ref (x + 3), .ref (x + 4), .int me, .long se, .ref (x + 5), .int (nI fl), .int dr, .long ob, .long sa, .long sn, .long us, .ref (x + 6), .ref (x + 7), .int (nI pe), .ref (x + 8), .int (nI le), .ref (x + 9), .ref (x + 10), .int (nI qu), .ref (x + 11), .ref (x + 12), .ref (x + 13), .ref (x + 14), .ref (x + 15), .ref (x + 16), .int (nI n_1), .long v_1, .ref (x + 17), .ref (x + 18), .ref (x + 19), .ref (x + 20), .ref (x + 21), .ref (x + 22), .int (nI n_2), .ref (x + 23), .ref (x + 24), .int (nI tk), .ref (x + 25), .int (nI il), .int (nI nx), .int ec, .int ep, .int kn, .int (nI st), .int nu, .long va]) := fset_at hΦ1
  have hI1 : Im G x (rd, (NNq c), (CaQ fl Fs), tp, tt, sI, sT, (PtQ pe P), ql, fl, pe, le, nx, il, qu, kn, ec, nu, va, st, ep, ti, ad, ob, ra, rt, 0, sa, us, tk, th, me, dr, se, sn) Φ1 := Im.put0 hI hΦ1 ⟨n_1, v_1, n_2, rfl, b_13, b_1, b_2, b_3, b_4, b_5, b_6, b_7, b_8, b_9, b_10, b_11, b_12⟩
  refine z_aload_n B dX12_adapt_10 rfl 1 rfl ?_
  refine z_get (ref := "FlowExporterModel") (C := RX12) (T := TX12) (N := 54) (ci := 14) (v := .int ad) B hu_X12_adapt_X12 rfl 7 (Nat.le_of_ble_eq_true rfl) hv_X12_adapt_110 rfl h_3 rfl dX12_adapt_11 ?_
  refine z_if_ne (tgt := 19) B dX12_adapt_14 rfl (fun c_1 => ?_) (fun c_1 => ?_)
  · refine z_iload_n B dX12_adapt_19 rfl 0 rfl ?_
    refine z_aload_n B dX12_adapt_20 rfl 1 rfl ?_
    refine z_get (ref := "FlowExporterModel") (C := RX12) (T := TX12) (N := 54) (ci := 14) (v := .ref (x + 2)) B hu_X12_adapt_X12 rfl 2 (Nat.le_of_ble_eq_true rfl) hv_X12_adapt_17 rfl h_3 rfl dX12_adapt_21 ?_
    refine z_iconst (v := 1) B dX12_adapt_24 rfl ?_
    obtain ⟨f_1, h_4, r_1⟩ := imk (k := 2) hI1
    replace r_1 : (NNq c) f_1 := r_1
    have r_2 : NN f_1 := r_1.1
    have h_5 : Φ1 (x + 2) = some (ai_ G 307 f_1) := h_4
    refine z_iald B h_5 (vin rfl) dX12_adapt_25 ?_
    refine z_top (st1 := [.int (c 1), .int ex]) (congrArg (fun w9 : Int32 => ([.int w9, .int ex] : List Value)) ((congrArg f_1 (show (1 : Int32).toNatClampNeg = 1 by decide)).trans (r_1.2 1 (by decide)))) ?_
    refine z_icmp_le (tgt := 50) B dX12_adapt_26 rfl (fun c_2 => ?_) (fun c_2 => ?_)
    · refine z_iconst (v := 2) B dX12_adapt_50 rfl ?_
      refine z_iload_n B dX12_adapt_51 rfl 0 rfl ?_
      refine z_imul B dX12_adapt_52 ?_
      refine z_aload_n B dX12_adapt_53 rfl 1 rfl ?_
      refine z_get (ref := "FlowExporterModel") (C := RX12) (T := TX12) (N := 54) (ci := 14) (v := .ref (x + 2)) B hu_X12_adapt_X12 rfl 2 (Nat.le_of_ble_eq_true rfl) hv_X12_adapt_17 rfl h_3 rfl dX12_adapt_54 ?_
      refine z_iconst (v := 1) B dX12_adapt_57 rfl ?_
      refine z_iald B h_5 (vin rfl) dX12_adapt_58 ?_
      refine z_top (st1 := [.int (c 1), .int (2 * ex)]) (congrArg (fun w9 : Int32 => ([.int w9, .int (2 * ex)] : List Value)) ((congrArg f_1 (show (1 : Int32).toNatClampNeg = 1 by decide)).trans (r_1.2 1 (by decide)))) ?_
      refine z_icmp_ge (tgt := 83) B dX12_adapt_59 rfl (fun c_3 => ?_) (fun c_3 => ?_)
      · refine z_iconst (v := 0) B dX12_adapt_83 rfl ?_
        have k_1 : (0 : Int32).toInt = 0 := by decide
        have q_1 : ¬ (ad.toInt = (0 : Int32).toInt) := fun h9 => c_1 (Int32.toInt_inj.mp h9)
        have q_2 : (ex.toInt ≤ (c 1).toInt) := Int32.le_iff_toInt_le.mp c_2
        have q_3 : ((c 1).toInt ≤ (2 * ex).toInt) := Int32.le_iff_toInt_le.mp c_3
        have ha9 : ad = 1 ∨ ad.toInt = 0 := b_13.elim (fun q => Or.inr (by rw [q]; decide)) Or.inl
        have hN9 : nrN c ad ex rt = rt := nrN_c (fun h9 => by obtain ⟨g1, g2, g3⟩ := h9; have g4 := congrArg Int32.toInt g1; have g5 : (1 : Int32).toInt = 1 := (by decide); omega) (fun h9 => by obtain ⟨g1, g2, g3⟩ := h9; have g4 := congrArg Int32.toInt g1; have g5 : (1 : Int32).toInt = 1 := (by decide); omega)
        exact z_ret_i B dX12_adapt_84 ⟨⟨_, rfl⟩, rfl, ⟨(us, pe, P), fl, 0, Fs, rt, 0, (show fl ≤ fl by omega), (show pe ≤ pe + fl by omega), ⟨rfl, adF_0 hN9⟩, hI1⟩, (fun b9 h9 => ((fset_fr hΦ1 (fun h8 => h9 (0) h8 (show 0 = 0 ∨ 0 = 5 ∨ 0 = 6 ∨ 0 = 7 by decide))).trans rfl))⟩
      · refine z_aload_n B dX12_adapt_62 rfl 1 rfl ?_
        refine z_get (ref := "FlowExporterModel") (C := RX12) (T := TX12) (N := 54) (ci := 14) (v := .int (nI rt)) B hu_X12_adapt_X12 rfl 5 (Nat.le_of_ble_eq_true rfl) hv_X12_adapt_107 rfl h_3 rfl dX12_adapt_63 ?_
        refine z_iconst (v := 2) B dX12_adapt_66 rfl ?_
        refine z_icmp_lt (tgt := 83) B dX12_adapt_67 rfl (fun c_4 => ?_) (fun c_4 => ?_)
        · have e_1 : rt < 2 := (nI_ltI (a := rt) (b := 2) (by omega) (by omega)).mp c_4
          refine z_iconst (v := 0) B dX12_adapt_83 rfl ?_
          have k_2 : (0 : Int32).toInt = 0 := by decide
          have q_4 : ¬ (ad.toInt = (0 : Int32).toInt) := fun h9 => c_1 (Int32.toInt_inj.mp h9)
          have q_5 : (ex.toInt ≤ (c 1).toInt) := Int32.le_iff_toInt_le.mp c_2
          have q_6 : ¬ ((c 1).toInt ≤ (2 * ex).toInt) := fun h9 => c_3 (Int32.le_iff_toInt_le.mpr h9)
          have k_3 : (nI rt).toInt = ((rt : Nat) : Int) := nI_toInt (by omega)
          have k_4 : (2 : Int32).toInt = 2 := by decide
          have q_7 : ((nI rt).toInt < (2 : Int32).toInt) := Int32.lt_iff_toInt_lt.mp c_4
          have ha9 : ad = 1 ∨ ad.toInt = 0 := b_13.elim (fun q => Or.inr (by rw [q]; decide)) Or.inl
          have hN9 : nrN c ad ex rt = rt := nrN_c (fun h9 => by obtain ⟨g1, g2, g3⟩ := h9; have g4 := congrArg Int32.toInt g1; have g5 : (1 : Int32).toInt = 1 := (by decide); omega) (fun h9 => by obtain ⟨g1, g2, g3⟩ := h9; have g4 := congrArg Int32.toInt g1; have g5 : (1 : Int32).toInt = 1 := (by decide); omega)
          exact z_ret_i B dX12_adapt_84 ⟨⟨_, rfl⟩, rfl, ⟨(us, pe, P), fl, 0, Fs, rt, 0, (show fl ≤ fl by omega), (show pe ≤ pe + fl by omega), ⟨rfl, adF_0 hN9⟩, hI1⟩, (fun b9 h9 => ((fset_fr hΦ1 (fun h8 => h9 (0) h8 (show 0 = 0 ∨ 0 = 5 ∨ 0 = 6 ∨ 0 = 7 by decide))).trans rfl))⟩
        · have e_2 : ¬ (rt < 2) := fun h9 => c_4 ((nI_ltI (a := rt) (b := 2) (by omega) (by omega)).mpr h9)
          refine z_aload_n B dX12_adapt_70 rfl 1 rfl ?_
          refine z_aload_n B dX12_adapt_71 rfl 1 rfl ?_
          refine z_get (ref := "FlowExporterModel") (C := RX12) (T := TX12) (N := 54) (ci := 14) (v := .int (nI rt)) B hu_X12_adapt_X12 rfl 5 (Nat.le_of_ble_eq_true rfl) hv_X12_adapt_107 rfl h_3 rfl dX12_adapt_72 ?_
          refine z_iconst (v := 2) B dX12_adapt_75 rfl ?_
          refine z_idiv B dX12_adapt_76 (by decide) ?_
          refine z_top (st1 := [.int (nI (rt / 2)), .ref x]) (congrArg (fun w9 : Int32 => ([.int w9, .ref x] : List Value)) (pk_div (d := 2) (show rt < 2 ^ 31 by omega) (by decide) (by decide))) ?_
          refine z_callV (As := [.int (nI (rt / 2))]) (rest := []) B (r_changeRate G l Φ1 sz x rd tp tt sI sT ql fl pe le nx il qu kn ec nu va st ep ti ad ob ra rt 0 sa us tk th me dr se sn c Fs P (rt / 2) hx hI1 (show 1 ≤ (rt / 2) by omega) (show (rt / 2) ≤ 1024 by omega) (show pe + fl ≤ 12 by omega)) (cwV 1 B.1.2.2.2.2 gX12_adapt_X12_changeRate rfl rfl rfl (by decide +kernel) ⟨Nat.le_of_ble_eq_true rfl, Nat.le_of_ble_eq_true rfl⟩) h_3 rfl rfl rfl rfl (Nat.le_of_ble_eq_true rfl) dX12_adapt_77 ⟨Nat.le_of_ble_eq_true rfl, Nat.le_of_ble_eq_true rfl⟩ (fun r_3 Φ2 sz1 st1 hp1 hs1 => ?_)
          obtain ⟨⟨v_3, rfl⟩, hq1, ⟨n_3, n_4, v_2, n_5, b_14, b_15, b_16, hI2⟩, hF1⟩ := hp1
          subst sz1
          replace hs1 : st1 = [.int v_3] := hs1
          subst st1
          replace hI2 : Im G x (rd, (NNq c), CaQ n_4 n_5, tp, tt, sI, sT, PtQ n_3.2.1 n_3.2.2, ql, n_4, n_3.2.1, le, nx, il, qu, kn, ec, nu, va, st, ep, ti, ad, ob, ra, rt / 2, v_2, sa, n_3.1, tk, th, me, dr, se, sn) Φ2 := hI2
          replace b_14 : n_4 ≤ fl := b_14
          replace b_15 : n_3.2.1 ≤ pe + fl := b_15
          replace b_16 : ((rt / 2) = rt ∧ (some (Value.int v_3)) = some (.int 0) ∧ n_4 = fl ∧ n_5 = Fs ∧ n_3 = (us, pe, P) ∧ v_2 = 0) ∨ (¬ (rt / 2) = rt ∧ (some (Value.int v_3)) = some (.int (nI fl)) ∧ n_4 = 0 ∧ exI c (fl, Fs, us, pe, P) fl = (0, n_5, n_3) ∧ v_2 = 0 + nI fl) := b_16
          have hq2 := Or.resolve_left b_16 (fun h9 => absurd h9.1 (by omega))
          obtain ⟨-, hv1, hf1, hx1, he1⟩ := hq2
          subst hf1
          subst he1
          have hI3 : Im G x (rd, (NNq c), CaQ 0 n_5, tp, tt, sI, sT, PtQ n_3.2.1 n_3.2.2, ql, 0, n_3.2.1, le, nx, il, qu, kn, ec, nu, va, st, ep, ti, ad, ob, ra, rt / 2, nI fl, sa, n_3.1, tk, th, me, dr, se, sn) Φ2 := Eq.mp (congrArg (fun w9 : Int32 => Im G x (rd, (NNq c), CaQ 0 n_5, tp, tt, sI, sT, PtQ n_3.2.1 n_3.2.2, ql, 0, n_3.2.1, le, nx, il, qu, kn, ec, nu, va, st, ep, ti, ad, ob, ra, rt / 2, w9, sa, n_3.1, tk, th, me, dr, se, sn) Φ2) (Int32.zero_add _)) hI2
          refine z_goto (tgt := 84) B dX12_adapt_80 rfl ?_
          have k_5 : (0 : Int32).toInt = 0 := by decide
          have q_8 : ¬ (ad.toInt = (0 : Int32).toInt) := fun h9 => c_1 (Int32.toInt_inj.mp h9)
          have q_9 : (ex.toInt ≤ (c 1).toInt) := Int32.le_iff_toInt_le.mp c_2
          have q_10 : ¬ ((c 1).toInt ≤ (2 * ex).toInt) := fun h9 => c_3 (Int32.le_iff_toInt_le.mpr h9)
          have k_6 : (nI rt).toInt = ((rt : Nat) : Int) := nI_toInt (by omega)
          have k_7 : (2 : Int32).toInt = 2 := by decide
          have q_11 : ¬ ((nI rt).toInt < (2 : Int32).toInt) := fun h9 => c_4 (Int32.lt_iff_toInt_lt.mpr h9)
          have ha9 : ad = 1 ∨ ad.toInt = 0 := b_13.elim (fun q => Or.inr (by rw [q]; decide)) Or.inl
          have hN9 : nrN c ad ex rt = rt / 2 := nrN_b (fun h9 => by obtain ⟨g1, g2, g3⟩ := h9; have g4 := congrArg Int32.toInt g1; have g5 : (1 : Int32).toInt = 1 := (by decide); omega) ⟨ha9.resolve_right (by omega), by omega, by omega⟩
          exact z_ret_i B dX12_adapt_84 ⟨⟨_, rfl⟩, rfl, ⟨n_3, 0, nI fl, n_5, rt / 2, fl, (show 0 ≤ fl by omega), (show n_3.2.1 ≤ pe + fl by omega), ⟨hv1, (adF_n (by rw [hN9]; omega) hx1).trans (by rw [hN9])⟩, hI3⟩, (fun b9 h9 => ((hF1 b9 h9).trans ((fset_fr hΦ1 (fun h8 => h9 (0) h8 (show 0 = 0 ∨ 0 = 5 ∨ 0 = 6 ∨ 0 = 7 by decide))).trans rfl)))⟩
    · refine z_aload_n B dX12_adapt_29 rfl 1 rfl ?_
      refine z_get (ref := "FlowExporterModel") (C := RX12) (T := TX12) (N := 54) (ci := 14) (v := .int (nI rt)) B hu_X12_adapt_X12 rfl 5 (Nat.le_of_ble_eq_true rfl) hv_X12_adapt_107 rfl h_3 rfl dX12_adapt_30 ?_
      refine z_sipush (v := 512) B dX12_adapt_33 rfl ?_
      refine z_icmp_gt (tgt := 50) B dX12_adapt_36 rfl (fun c_5 => ?_) (fun c_5 => ?_)
      · have e_3 : 512 < rt := (nI_ltI (a := 512) (b := rt) (by omega) (by omega)).mp c_5
        refine z_iconst (v := 2) B dX12_adapt_50 rfl ?_
        refine z_iload_n B dX12_adapt_51 rfl 0 rfl ?_
        refine z_imul B dX12_adapt_52 ?_
        refine z_aload_n B dX12_adapt_53 rfl 1 rfl ?_
        refine z_get (ref := "FlowExporterModel") (C := RX12) (T := TX12) (N := 54) (ci := 14) (v := .ref (x + 2)) B hu_X12_adapt_X12 rfl 2 (Nat.le_of_ble_eq_true rfl) hv_X12_adapt_17 rfl h_3 rfl dX12_adapt_54 ?_
        refine z_iconst (v := 1) B dX12_adapt_57 rfl ?_
        refine z_iald B h_5 (vin rfl) dX12_adapt_58 ?_
        refine z_top (st1 := [.int (c 1), .int (2 * ex)]) (congrArg (fun w9 : Int32 => ([.int w9, .int (2 * ex)] : List Value)) ((congrArg f_1 (show (1 : Int32).toNatClampNeg = 1 by decide)).trans (r_1.2 1 (by decide)))) ?_
        refine z_icmp_ge (tgt := 83) B dX12_adapt_59 rfl (fun c_6 => ?_) (fun c_6 => ?_)
        · refine z_iconst (v := 0) B dX12_adapt_83 rfl ?_
          have k_8 : (0 : Int32).toInt = 0 := by decide
          have q_12 : ¬ (ad.toInt = (0 : Int32).toInt) := fun h9 => c_1 (Int32.toInt_inj.mp h9)
          have q_13 : ¬ (ex.toInt ≤ (c 1).toInt) := fun h9 => c_2 (Int32.le_iff_toInt_le.mpr h9)
          have k_9 : (512 : Int32).toInt = 512 := by decide
          have k_10 : (nI rt).toInt = ((rt : Nat) : Int) := nI_toInt (by omega)
          have q_14 : ((512 : Int32).toInt < (nI rt).toInt) := Int32.lt_iff_toInt_lt.mp c_5
          have q_15 : ((c 1).toInt ≤ (2 * ex).toInt) := Int32.le_iff_toInt_le.mp c_6
          have ha9 : ad = 1 ∨ ad.toInt = 0 := b_13.elim (fun q => Or.inr (by rw [q]; decide)) Or.inl
          have hN9 : nrN c ad ex rt = rt := nrN_c (fun h9 => by obtain ⟨g1, g2, g3⟩ := h9; have g4 := congrArg Int32.toInt g1; have g5 : (1 : Int32).toInt = 1 := (by decide); omega) (fun h9 => by obtain ⟨g1, g2, g3⟩ := h9; have g4 := congrArg Int32.toInt g1; have g5 : (1 : Int32).toInt = 1 := (by decide); omega)
          exact z_ret_i B dX12_adapt_84 ⟨⟨_, rfl⟩, rfl, ⟨(us, pe, P), fl, 0, Fs, rt, 0, (show fl ≤ fl by omega), (show pe ≤ pe + fl by omega), ⟨rfl, adF_0 hN9⟩, hI1⟩, (fun b9 h9 => ((fset_fr hΦ1 (fun h8 => h9 (0) h8 (show 0 = 0 ∨ 0 = 5 ∨ 0 = 6 ∨ 0 = 7 by decide))).trans rfl))⟩
        · refine z_aload_n B dX12_adapt_62 rfl 1 rfl ?_
          refine z_get (ref := "FlowExporterModel") (C := RX12) (T := TX12) (N := 54) (ci := 14) (v := .int (nI rt)) B hu_X12_adapt_X12 rfl 5 (Nat.le_of_ble_eq_true rfl) hv_X12_adapt_107 rfl h_3 rfl dX12_adapt_63 ?_
          refine z_iconst (v := 2) B dX12_adapt_66 rfl ?_
          refine z_icmp_lt (tgt := 83) B dX12_adapt_67 rfl (fun c_7 => ?_) (fun c_7 => ?_)
          · have e_4 : rt < 2 := (nI_ltI (a := rt) (b := 2) (by omega) (by omega)).mp c_7
            refine z_iconst (v := 0) B dX12_adapt_83 rfl ?_
            have k_11 : (0 : Int32).toInt = 0 := by decide
            have q_16 : ¬ (ad.toInt = (0 : Int32).toInt) := fun h9 => c_1 (Int32.toInt_inj.mp h9)
            have q_17 : ¬ (ex.toInt ≤ (c 1).toInt) := fun h9 => c_2 (Int32.le_iff_toInt_le.mpr h9)
            have k_12 : (512 : Int32).toInt = 512 := by decide
            have k_13 : (nI rt).toInt = ((rt : Nat) : Int) := nI_toInt (by omega)
            have q_18 : ((512 : Int32).toInt < (nI rt).toInt) := Int32.lt_iff_toInt_lt.mp c_5
            have q_19 : ¬ ((c 1).toInt ≤ (2 * ex).toInt) := fun h9 => c_6 (Int32.le_iff_toInt_le.mpr h9)
            have k_14 : (2 : Int32).toInt = 2 := by decide
            have q_20 : ((nI rt).toInt < (2 : Int32).toInt) := Int32.lt_iff_toInt_lt.mp c_7
            have ha9 : ad = 1 ∨ ad.toInt = 0 := b_13.elim (fun q => Or.inr (by rw [q]; decide)) Or.inl
            have hN9 : nrN c ad ex rt = rt := nrN_c (fun h9 => by obtain ⟨g1, g2, g3⟩ := h9; have g4 := congrArg Int32.toInt g1; have g5 : (1 : Int32).toInt = 1 := (by decide); omega) (fun h9 => by obtain ⟨g1, g2, g3⟩ := h9; have g4 := congrArg Int32.toInt g1; have g5 : (1 : Int32).toInt = 1 := (by decide); omega)
            exact z_ret_i B dX12_adapt_84 ⟨⟨_, rfl⟩, rfl, ⟨(us, pe, P), fl, 0, Fs, rt, 0, (show fl ≤ fl by omega), (show pe ≤ pe + fl by omega), ⟨rfl, adF_0 hN9⟩, hI1⟩, (fun b9 h9 => ((fset_fr hΦ1 (fun h8 => h9 (0) h8 (show 0 = 0 ∨ 0 = 5 ∨ 0 = 6 ∨ 0 = 7 by decide))).trans rfl))⟩
          · have e_5 : ¬ (rt < 2) := fun h9 => c_7 ((nI_ltI (a := rt) (b := 2) (by omega) (by omega)).mpr h9)
            refine z_aload_n B dX12_adapt_70 rfl 1 rfl ?_
            refine z_aload_n B dX12_adapt_71 rfl 1 rfl ?_
            refine z_get (ref := "FlowExporterModel") (C := RX12) (T := TX12) (N := 54) (ci := 14) (v := .int (nI rt)) B hu_X12_adapt_X12 rfl 5 (Nat.le_of_ble_eq_true rfl) hv_X12_adapt_107 rfl h_3 rfl dX12_adapt_72 ?_
            refine z_iconst (v := 2) B dX12_adapt_75 rfl ?_
            refine z_idiv B dX12_adapt_76 (by decide) ?_
            refine z_top (st1 := [.int (nI (rt / 2)), .ref x]) (congrArg (fun w9 : Int32 => ([.int w9, .ref x] : List Value)) (pk_div (d := 2) (show rt < 2 ^ 31 by omega) (by decide) (by decide))) ?_
            refine z_callV (As := [.int (nI (rt / 2))]) (rest := []) B (r_changeRate G l Φ1 sz x rd tp tt sI sT ql fl pe le nx il qu kn ec nu va st ep ti ad ob ra rt 0 sa us tk th me dr se sn c Fs P (rt / 2) hx hI1 (show 1 ≤ (rt / 2) by omega) (show (rt / 2) ≤ 1024 by omega) (show pe + fl ≤ 12 by omega)) (cwV 1 B.1.2.2.2.2 gX12_adapt_X12_changeRate rfl rfl rfl (by decide +kernel) ⟨Nat.le_of_ble_eq_true rfl, Nat.le_of_ble_eq_true rfl⟩) h_3 rfl rfl rfl rfl (Nat.le_of_ble_eq_true rfl) dX12_adapt_77 ⟨Nat.le_of_ble_eq_true rfl, Nat.le_of_ble_eq_true rfl⟩ (fun r_4 Φ3 sz2 st2 hp2 hs2 => ?_)
            obtain ⟨⟨v_5, rfl⟩, hq3, ⟨n_6, n_7, v_4, n_8, b_17, b_18, b_19, hI4⟩, hF2⟩ := hp2
            subst sz2
            replace hs2 : st2 = [.int v_5] := hs2
            subst st2
            replace hI4 : Im G x (rd, (NNq c), CaQ n_7 n_8, tp, tt, sI, sT, PtQ n_6.2.1 n_6.2.2, ql, n_7, n_6.2.1, le, nx, il, qu, kn, ec, nu, va, st, ep, ti, ad, ob, ra, rt / 2, v_4, sa, n_6.1, tk, th, me, dr, se, sn) Φ3 := hI4
            replace b_17 : n_7 ≤ fl := b_17
            replace b_18 : n_6.2.1 ≤ pe + fl := b_18
            replace b_19 : ((rt / 2) = rt ∧ (some (Value.int v_5)) = some (.int 0) ∧ n_7 = fl ∧ n_8 = Fs ∧ n_6 = (us, pe, P) ∧ v_4 = 0) ∨ (¬ (rt / 2) = rt ∧ (some (Value.int v_5)) = some (.int (nI fl)) ∧ n_7 = 0 ∧ exI c (fl, Fs, us, pe, P) fl = (0, n_8, n_6) ∧ v_4 = 0 + nI fl) := b_19
            have hq4 := Or.resolve_left b_19 (fun h9 => absurd h9.1 (by omega))
            obtain ⟨-, hv2, hf2, hx2, he2⟩ := hq4
            subst hf2
            subst he2
            have hI5 : Im G x (rd, (NNq c), CaQ 0 n_8, tp, tt, sI, sT, PtQ n_6.2.1 n_6.2.2, ql, 0, n_6.2.1, le, nx, il, qu, kn, ec, nu, va, st, ep, ti, ad, ob, ra, rt / 2, nI fl, sa, n_6.1, tk, th, me, dr, se, sn) Φ3 := Eq.mp (congrArg (fun w9 : Int32 => Im G x (rd, (NNq c), CaQ 0 n_8, tp, tt, sI, sT, PtQ n_6.2.1 n_6.2.2, ql, 0, n_6.2.1, le, nx, il, qu, kn, ec, nu, va, st, ep, ti, ad, ob, ra, rt / 2, w9, sa, n_6.1, tk, th, me, dr, se, sn) Φ3) (Int32.zero_add _)) hI4
            refine z_goto (tgt := 84) B dX12_adapt_80 rfl ?_
            have k_15 : (0 : Int32).toInt = 0 := by decide
            have q_21 : ¬ (ad.toInt = (0 : Int32).toInt) := fun h9 => c_1 (Int32.toInt_inj.mp h9)
            have q_22 : ¬ (ex.toInt ≤ (c 1).toInt) := fun h9 => c_2 (Int32.le_iff_toInt_le.mpr h9)
            have k_16 : (512 : Int32).toInt = 512 := by decide
            have k_17 : (nI rt).toInt = ((rt : Nat) : Int) := nI_toInt (by omega)
            have q_23 : ((512 : Int32).toInt < (nI rt).toInt) := Int32.lt_iff_toInt_lt.mp c_5
            have q_24 : ¬ ((c 1).toInt ≤ (2 * ex).toInt) := fun h9 => c_6 (Int32.le_iff_toInt_le.mpr h9)
            have k_18 : (2 : Int32).toInt = 2 := by decide
            have q_25 : ¬ ((nI rt).toInt < (2 : Int32).toInt) := fun h9 => c_7 (Int32.lt_iff_toInt_lt.mpr h9)
            have ha9 : ad = 1 ∨ ad.toInt = 0 := b_13.elim (fun q => Or.inr (by rw [q]; decide)) Or.inl
            have hN9 : nrN c ad ex rt = rt / 2 := nrN_b (fun h9 => by obtain ⟨g1, g2, g3⟩ := h9; have g4 := congrArg Int32.toInt g1; have g5 : (1 : Int32).toInt = 1 := (by decide); omega) ⟨ha9.resolve_right (by omega), by omega, by omega⟩
            exact z_ret_i B dX12_adapt_84 ⟨⟨_, rfl⟩, rfl, ⟨n_6, 0, nI fl, n_8, rt / 2, fl, (show 0 ≤ fl by omega), (show n_6.2.1 ≤ pe + fl by omega), ⟨hv2, (adF_n (by rw [hN9]; omega) hx2).trans (by rw [hN9])⟩, hI5⟩, (fun b9 h9 => ((hF2 b9 h9).trans ((fset_fr hΦ1 (fun h8 => h9 (0) h8 (show 0 = 0 ∨ 0 = 5 ∨ 0 = 6 ∨ 0 = 7 by decide))).trans rfl)))⟩
      · have e_6 : ¬ (512 < rt) := fun h9 => c_5 ((nI_ltI (a := 512) (b := rt) (by omega) (by omega)).mpr h9)
        refine z_aload_n B dX12_adapt_39 rfl 1 rfl ?_
        refine z_iconst (v := 2) B dX12_adapt_40 rfl ?_
        refine z_aload_n B dX12_adapt_41 rfl 1 rfl ?_
        refine z_get (ref := "FlowExporterModel") (C := RX12) (T := TX12) (N := 54) (ci := 14) (v := .int (nI rt)) B hu_X12_adapt_X12 rfl 5 (Nat.le_of_ble_eq_true rfl) hv_X12_adapt_107 rfl h_3 rfl dX12_adapt_42 ?_
        refine z_imul B dX12_adapt_45 ?_
        refine z_top (st1 := [.int (nI (2 * rt)), .ref x]) (congrArg (fun w9 : Int32 => ([.int w9, .ref x] : List Value)) (nI_mul 2 rt)) ?_
        refine z_callV (As := [.int (nI (2 * rt))]) (rest := []) B (r_changeRate G l Φ1 sz x rd tp tt sI sT ql fl pe le nx il qu kn ec nu va st ep ti ad ob ra rt 0 sa us tk th me dr se sn c Fs P (2 * rt) hx hI1 (show 1 ≤ (2 * rt) by omega) (show (2 * rt) ≤ 1024 by omega) (show pe + fl ≤ 12 by omega)) (cwV 1 B.1.2.2.2.2 gX12_adapt_X12_changeRate rfl rfl rfl (by decide +kernel) ⟨Nat.le_of_ble_eq_true rfl, Nat.le_of_ble_eq_true rfl⟩) h_3 rfl rfl rfl rfl (Nat.le_of_ble_eq_true rfl) dX12_adapt_46 ⟨Nat.le_of_ble_eq_true rfl, Nat.le_of_ble_eq_true rfl⟩ (fun r_5 Φ4 sz3 st3 hp3 hs3 => ?_)
        obtain ⟨⟨v_7, rfl⟩, hq5, ⟨n_9, n_10, v_6, n_11, b_20, b_21, b_22, hI6⟩, hF3⟩ := hp3
        subst sz3
        replace hs3 : st3 = [.int v_7] := hs3
        subst st3
        replace hI6 : Im G x (rd, (NNq c), CaQ n_10 n_11, tp, tt, sI, sT, PtQ n_9.2.1 n_9.2.2, ql, n_10, n_9.2.1, le, nx, il, qu, kn, ec, nu, va, st, ep, ti, ad, ob, ra, 2 * rt, v_6, sa, n_9.1, tk, th, me, dr, se, sn) Φ4 := hI6
        replace b_20 : n_10 ≤ fl := b_20
        replace b_21 : n_9.2.1 ≤ pe + fl := b_21
        replace b_22 : ((2 * rt) = rt ∧ (some (Value.int v_7)) = some (.int 0) ∧ n_10 = fl ∧ n_11 = Fs ∧ n_9 = (us, pe, P) ∧ v_6 = 0) ∨ (¬ (2 * rt) = rt ∧ (some (Value.int v_7)) = some (.int (nI fl)) ∧ n_10 = 0 ∧ exI c (fl, Fs, us, pe, P) fl = (0, n_11, n_9) ∧ v_6 = 0 + nI fl) := b_22
        have hq6 := Or.resolve_left b_22 (fun h9 => absurd h9.1 (by omega))
        obtain ⟨-, hv3, hf3, hx3, he3⟩ := hq6
        subst hf3
        subst he3
        have hI7 : Im G x (rd, (NNq c), CaQ 0 n_11, tp, tt, sI, sT, PtQ n_9.2.1 n_9.2.2, ql, 0, n_9.2.1, le, nx, il, qu, kn, ec, nu, va, st, ep, ti, ad, ob, ra, 2 * rt, nI fl, sa, n_9.1, tk, th, me, dr, se, sn) Φ4 := Eq.mp (congrArg (fun w9 : Int32 => Im G x (rd, (NNq c), CaQ 0 n_11, tp, tt, sI, sT, PtQ n_9.2.1 n_9.2.2, ql, 0, n_9.2.1, le, nx, il, qu, kn, ec, nu, va, st, ep, ti, ad, ob, ra, 2 * rt, w9, sa, n_9.1, tk, th, me, dr, se, sn) Φ4) (Int32.zero_add _)) hI6
        have k_19 : (0 : Int32).toInt = 0 := by decide
        have q_26 : ¬ (ad.toInt = (0 : Int32).toInt) := fun h9 => c_1 (Int32.toInt_inj.mp h9)
        have q_27 : ¬ (ex.toInt ≤ (c 1).toInt) := fun h9 => c_2 (Int32.le_iff_toInt_le.mpr h9)
        have k_20 : (512 : Int32).toInt = 512 := by decide
        have k_21 : (nI rt).toInt = ((rt : Nat) : Int) := nI_toInt (by omega)
        have q_28 : ¬ ((512 : Int32).toInt < (nI rt).toInt) := fun h9 => c_5 (Int32.lt_iff_toInt_lt.mpr h9)
        have ha9 : ad = 1 ∨ ad.toInt = 0 := b_13.elim (fun q => Or.inr (by rw [q]; decide)) Or.inl
        have hN9 : nrN c ad ex rt = 2 * rt := nrN_a ⟨ha9.resolve_right (by omega), by omega, by omega⟩
        exact z_ret_i B dX12_adapt_49 ⟨⟨_, rfl⟩, rfl, ⟨n_9, 0, nI fl, n_11, 2 * rt, fl, (show 0 ≤ fl by omega), (show n_9.2.1 ≤ pe + fl by omega), ⟨hv3, (adF_n (by rw [hN9]; omega) hx3).trans (by rw [hN9])⟩, hI7⟩, (fun b9 h9 => ((hF3 b9 h9).trans ((fset_fr hΦ1 (fun h8 => h9 (0) h8 (show 0 = 0 ∨ 0 = 5 ∨ 0 = 6 ∨ 0 = 7 by decide))).trans rfl)))⟩
  · refine z_iconst (v := 0) B dX12_adapt_17 rfl ?_
    have k_22 : (0 : Int32).toInt = 0 := by decide
    have q_29 : (ad.toInt = (0 : Int32).toInt) := congrArg Int32.toInt c_1
    have ha9 : ad = 1 ∨ ad.toInt = 0 := b_13.elim (fun q => Or.inr (by rw [q]; decide)) Or.inl
    have hN9 : nrN c ad ex rt = rt := nrN_c (fun h9 => by obtain ⟨g1, g2, g3⟩ := h9; have g4 := congrArg Int32.toInt g1; have g5 : (1 : Int32).toInt = 1 := (by decide); omega) (fun h9 => by obtain ⟨g1, g2, g3⟩ := h9; have g4 := congrArg Int32.toInt g1; have g5 : (1 : Int32).toInt = 1 := (by decide); omega)
    exact z_ret_i B dX12_adapt_18 ⟨⟨_, rfl⟩, rfl, ⟨(us, pe, P), fl, 0, Fs, rt, 0, (show fl ≤ fl by omega), (show pe ≤ pe + fl by omega), ⟨rfl, adF_0 hN9⟩, hI1⟩, (fun b9 h9 => ((fset_fr hΦ1 (fun h8 => h9 (0) h8 (show 0 = 0 ∨ 0 = 5 ∨ 0 = 6 ∨ 0 = 7 by decide))).trans rfl))⟩

theorem hu_X12_tick_X12 : ∀ w ∈ u_ws RX12 TX12 54, w ∈ wsX12_tick := fun _ h => List.mem_cons_of_mem _ (List.mem_append_left _ (List.mem_append_right _ (h)))

theorem hv_X12_tick_101 : Cond.fieldLink RX12 101 "FlowExporterModel" (TX12 3).2.1 (TX12 3).2.2.1 ∈ wsX12_tick := List.mem_cons_of_mem _ (List.mem_append_left _ (List.mem_append_left _ (List.mem_append_left _ (List.mem_of_getElem? (i := 0) rfl))))

theorem hv_X12_tick_133 : Cond.fieldLink RX12 133 "FlowExporterModel" (TX12 13).2.1 (TX12 13).2.2.1 ∈ wsX12_tick := List.mem_cons_of_mem _ (List.mem_append_left _ (List.mem_append_left _ (List.mem_append_left _ (List.mem_of_getElem? (i := 1) rfl))))

theorem fq_1032 : ∀ j9 : Nat, (j9 = 0 ∨ j9 = 5 ∨ j9 = 6 ∨ j9 = 7) → (j9 = 0 ∨ j9 = 3 ∨ j9 = 4 ∨ j9 = 5 ∨ j9 = 6 ∨ j9 = 7 ∨ j9 = 8 ∨ j9 = 9 ∨ j9 = 10) := by
  intro j9 h
  omega

theorem fq_1033 : ∀ j9 : Nat, (j9 = 0 ∨ j9 = 3 ∨ j9 = 4 ∨ j9 = 8 ∨ j9 = 9 ∨ j9 = 10) → (j9 = 0 ∨ j9 = 3 ∨ j9 = 4 ∨ j9 = 5 ∨ j9 = 6 ∨ j9 = 7 ∨ j9 = 8 ∨ j9 = 9 ∨ j9 = 10) := by
  intro j9 h
  omega

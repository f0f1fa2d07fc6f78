set_option maxRecDepth 20000 in
theorem ggX12_deliver_X12_isMessage : GoodIn wsX12_deliver wsX12_isMessage := (goodIn_ca (goodIn_r _ [10, 11, 12, 13, 9, 14] rfl (by decide +kernel)) (goodIn_sub (fun _ h => List.mem_cons_of_mem _ (List.mem_append_left _ (List.mem_append_right _ h))) gw_wsX120))
set_option maxRecDepth 20000 in
theorem gX12_deliver_X12_isMessage : GoodIn wsX12_deliver (wsV RX12 311 RX12 yX12_isMessage wsX12_isMessage) := goodIn_app (goodIn_m (mem_cA (List.mem_cons_of_mem _ (List.mem_append_left _ (List.mem_append_left _ (List.mem_append_left _ (List.mem_of_getElem? (i := 5) rfl))))) (mem_cA (List.mem_cons_of_mem _ (List.mem_append_left _ (List.mem_append_left _ (List.mem_append_left _ (List.mem_of_getElem? (i := 6) rfl))))) (mem_cA (List.mem_cons_of_mem _ (List.mem_append_left _ (List.mem_append_left _ (List.mem_append_left _ (List.mem_of_getElem? (i := 7) rfl))))) (mem_cA (List.mem_cons_of_mem _ (List.mem_append_left _ (List.mem_append_left _ (List.mem_append_left _ (List.mem_of_getElem? (i := 8) rfl))))) mem_cZ)))) (by decide +kernel)) ggX12_deliver_X12_isMessage
set_option maxRecDepth 20000 in
theorem ggX12_deliver_X12_throwsIf : GoodIn wsX12_deliver wsX12_throwsIf := (goodIn_ca (goodIn_r _ [18, 1] rfl (by decide +kernel)) (goodIn_sub (fun _ h => List.mem_cons_of_mem _ (List.mem_append_left _ (List.mem_append_right _ h))) gw_wsX120))
set_option maxRecDepth 20000 in
theorem gX12_deliver_X12_throwsIf : GoodIn wsX12_deliver (wsV RX12 185 RX12 yX12_throwsIf wsX12_throwsIf) := goodIn_app (goodIn_m (mem_cA (List.mem_cons_of_mem _ (List.mem_append_left _ (List.mem_append_left _ (List.mem_append_left _ (List.mem_of_getElem? (i := 14) rfl))))) (mem_cA (List.mem_cons_of_mem _ (List.mem_append_left _ (List.mem_append_left _ (List.mem_append_left _ (List.mem_of_getElem? (i := 15) rfl))))) (mem_cA (List.mem_cons_of_mem _ (List.mem_append_left _ (List.mem_append_left _ (List.mem_append_left _ (List.mem_of_getElem? (i := 16) rfl))))) (mem_cA (List.mem_cons_of_mem _ (List.mem_append_left _ (List.mem_append_left _ (List.mem_append_left _ (List.mem_of_getElem? (i := 8) rfl))))) mem_cZ)))) (by decide +kernel)) ggX12_deliver_X12_throwsIf
set_option maxRecDepth 20000 in
theorem ggX12_deliver_X12_remove : GoodIn wsX12_deliver wsX12_remove := goodIn_ca ((goodIn_ca (goodIn_r _ [22, 11, 23, 24, 25, 9, 26, 4, 2] rfl (by decide +kernel)) (goodIn_sub (fun _ h => List.mem_cons_of_mem _ (List.mem_append_left _ (List.mem_append_right _ h))) gw_wsX120))) (goodIn_sub (fun _ h => List.mem_cons_of_mem _ (List.mem_append_right _ h)) (all_fg _))
set_option maxRecDepth 20000 in
theorem gX12_deliver_X12_remove : GoodIn wsX12_deliver (wsV RX12 317 RX12 yX12_remove wsX12_remove) := goodIn_app (goodIn_m (mem_cA (List.mem_cons_of_mem _ (List.mem_append_left _ (List.mem_append_left _ (List.mem_append_left _ (List.mem_of_getElem? (i := 18) rfl))))) (mem_cA (List.mem_cons_of_mem _ (List.mem_append_left _ (List.mem_append_left _ (List.mem_append_left _ (List.mem_of_getElem? (i := 19) rfl))))) (mem_cA (List.mem_cons_of_mem _ (List.mem_append_left _ (List.mem_append_left _ (List.mem_append_left _ (List.mem_of_getElem? (i := 20) rfl))))) (mem_cA (List.mem_cons_of_mem _ (List.mem_append_left _ (List.mem_append_left _ (List.mem_append_left _ (List.mem_of_getElem? (i := 8) rfl))))) mem_cZ)))) (by decide +kernel)) ggX12_deliver_X12_remove
set_option maxRecDepth 20000 in
theorem ggX12_deliver_X12_accept : GoodIn wsX12_deliver wsX12_accept := goodIn_ca ((goodIn_ca (goodIn_r _ [30, 31, 5, 32, 33, 34, 35, 36, 9, 37, 3, 38, 39, 40, 41, 42, 43, 44, 45, 46, 47, 48, 49, 50, 51, 52, 53, 54, 55, 56, 57, 58, 59, 60, 61, 62, 63, 64, 65, 66, 67, 12, 13, 14, 68, 69, 70, 71, 72, 73, 74, 75, 76, 77, 78, 79, 80, 81, 82, 83, 84, 85, 86, 87, 88, 89, 90, 91, 92, 93, 94, 95, 96, 97, 98, 99, 100, 101, 102, 103, 104, 105, 106, 107, 108, 109, 110, 111, 112, 113, 114] rfl (by decide +kernel)) (goodIn_sub (fun _ h => List.mem_cons_of_mem _ (List.mem_append_left _ (List.mem_append_right _ h))) gw_wsX120))) (goodIn_sub (fun _ h => List.mem_cons_of_mem _ (List.mem_append_right _ h)) (all_fg _))
set_option maxRecDepth 20000 in
theorem gX12_deliver_X12_accept : GoodIn wsX12_deliver (wsV RX12 320 RX12 yX12_accept wsX12_accept) := goodIn_app (goodIn_m (mem_cA (List.mem_cons_of_mem _ (List.mem_append_left _ (List.mem_append_left _ (List.mem_append_right _ (List.mem_append_left _ (List.mem_of_getElem? (i := 2) rfl)))))) (mem_cA (List.mem_cons_of_mem _ (List.mem_append_left _ (List.mem_append_left _ (List.mem_append_right _ (List.mem_append_left _ (List.mem_of_getElem? (i := 3) rfl)))))) (mem_cA (List.mem_cons_of_mem _ (List.mem_append_left _ (List.mem_append_left _ (List.mem_append_right _ (List.mem_append_left _ (List.mem_of_getElem? (i := 4) rfl)))))) (mem_cA (List.mem_cons_of_mem _ (List.mem_append_left _ (List.mem_append_left _ (List.mem_append_left _ (List.mem_of_getElem? (i := 8) rfl))))) mem_cZ)))) (by decide +kernel)) ggX12_deliver_X12_accept
theorem dX12_deliver_0 : decode cX12_deliver 0 = .ok (.aload_n 0, 1) := by decide +kernel
theorem dX12_deliver_1 : decode cX12_deliver 1 = .ok (.iconst 0, 1) := by decide +kernel
theorem dX12_deliver_2 : decode cX12_deliver 2 = .ok (.putfield 1, 3) := by decide +kernel
theorem dX12_deliver_5 : decode cX12_deliver 5 = .ok (.aload_n 0, 1) := by decide +kernel
theorem dX12_deliver_6 : decode cX12_deliver 6 = .ok (.aload_n 0, 1) := by decide +kernel
theorem dX12_deliver_7 : decode cX12_deliver 7 = .ok (.iload_n 1, 1) := by decide +kernel
theorem dX12_deliver_8 : decode cX12_deliver 8 = .ok (.invokevirtual 311, 3) := by decide +kernel
theorem dX12_deliver_11 : decode cX12_deliver 11 = .ok (.ifCond .ne 7, 3) := by decide +kernel
theorem dX12_deliver_14 : decode cX12_deliver 14 = .ok (.iconst 1, 1) := by decide +kernel
theorem dX12_deliver_15 : decode cX12_deliver 15 = .ok (.goto 4, 3) := by decide +kernel
theorem dX12_deliver_18 : decode cX12_deliver 18 = .ok (.iconst 0, 1) := by decide +kernel
theorem dX12_deliver_19 : decode cX12_deliver 19 = .ok (.iconst 1, 1) := by decide +kernel
theorem dX12_deliver_20 : decode cX12_deliver 20 = .ok (.invokevirtual 185, 3) := by decide +kernel
theorem dX12_deliver_23 : decode cX12_deliver 23 = .ok (.ifCond .eq 5, 3) := by decide +kernel
theorem dX12_deliver_26 : decode cX12_deliver 26 = .ok (.iconst 0, 1) := by decide +kernel
theorem dX12_deliver_27 : decode cX12_deliver 27 = .ok (.ireturn, 1) := by decide +kernel
theorem dX12_deliver_28 : decode cX12_deliver 28 = .ok (.iconst 0, 1) := by decide +kernel
theorem dX12_deliver_29 : decode cX12_deliver 29 = .ok (.istore_n 2, 1) := by decide +kernel
theorem dX12_deliver_30 : decode cX12_deliver 30 = .ok (.iload_n 2, 1) := by decide +kernel
theorem dX12_deliver_31 : decode cX12_deliver 31 = .ok (.aload_n 0, 1) := by decide +kernel
theorem dX12_deliver_32 : decode cX12_deliver 32 = .ok (.getfield 42, 3) := by decide +kernel
theorem dX12_deliver_35 : decode cX12_deliver 35 = .ok (.iload_n 1, 1) := by decide +kernel
theorem dX12_deliver_36 : decode cX12_deliver 36 = .ok (.iaload, 1) := by decide +kernel
theorem dX12_deliver_37 : decode cX12_deliver 37 = .ok (.if_icmp .ge 27, 3) := by decide +kernel
theorem dX12_deliver_40 : decode cX12_deliver 40 = .ok (.aload_n 0, 1) := by decide +kernel
theorem dX12_deliver_41 : decode cX12_deliver 41 = .ok (.getfield 36, 3) := by decide +kernel
theorem dX12_deliver_44 : decode cX12_deliver 44 = .ok (.iload_n 2, 1) := by decide +kernel
theorem dX12_deliver_45 : decode cX12_deliver 45 = .ok (.aload_n 0, 1) := by decide +kernel
theorem dX12_deliver_46 : decode cX12_deliver 46 = .ok (.getfield 39, 3) := by decide +kernel
theorem dX12_deliver_49 : decode cX12_deliver 49 = .ok (.sipush 600, 3) := by decide +kernel
theorem dX12_deliver_52 : decode cX12_deliver 52 = .ok (.iload_n 1, 1) := by decide +kernel
theorem dX12_deliver_53 : decode cX12_deliver 53 = .ok (.imul, 1) := by decide +kernel
theorem dX12_deliver_54 : decode cX12_deliver 54 = .ok (.iload_n 2, 1) := by decide +kernel
theorem dX12_deliver_55 : decode cX12_deliver 55 = .ok (.iadd, 1) := by decide +kernel
theorem dX12_deliver_56 : decode cX12_deliver 56 = .ok (.iaload, 1) := by decide +kernel
theorem dX12_deliver_57 : decode cX12_deliver 57 = .ok (.iastore, 1) := by decide +kernel
theorem dX12_deliver_58 : decode cX12_deliver 58 = .ok (.iinc 2 1, 3) := by decide +kernel
theorem dX12_deliver_61 : decode cX12_deliver 61 = .ok (.goto (-31), 3) := by decide +kernel
theorem dX12_deliver_64 : decode cX12_deliver 64 = .ok (.aload_n 0, 1) := by decide +kernel
theorem dX12_deliver_65 : decode cX12_deliver 65 = .ok (.aload_n 0, 1) := by decide +kernel
theorem dX12_deliver_66 : decode cX12_deliver 66 = .ok (.getfield 42, 3) := by decide +kernel
theorem dX12_deliver_69 : decode cX12_deliver 69 = .ok (.iload_n 1, 1) := by decide +kernel
theorem dX12_deliver_70 : decode cX12_deliver 70 = .ok (.iaload, 1) := by decide +kernel
theorem dX12_deliver_71 : decode cX12_deliver 71 = .ok (.putfield 280, 3) := by decide +kernel
theorem dX12_deliver_74 : decode cX12_deliver 74 = .ok (.aload_n 0, 1) := by decide +kernel
theorem dX12_deliver_75 : decode cX12_deliver 75 = .ok (.iload_n 1, 1) := by decide +kernel
theorem dX12_deliver_76 : decode cX12_deliver 76 = .ok (.invokevirtual 317, 3) := by decide +kernel
theorem dX12_deliver_79 : decode cX12_deliver 79 = .ok (.aload_n 0, 1) := by decide +kernel
theorem dX12_deliver_80 : decode cX12_deliver 80 = .ok (.invokevirtual 320, 3) := by decide +kernel
theorem dX12_deliver_83 : decode cX12_deliver 83 = .ok (.ireturn, 1) := by decide +kernel
set_option maxRecDepth 20000 in
theorem ggX12_deliverAll_X12_deliver : GoodIn wsX12_deliverAll wsX12_deliver := goodIn_ca ((goodIn_ca (goodIn_r _ [7, 1, 8, 9, 10, 11, 12, 13, 14, 6, 15, 2, 16, 17, 18, 19, 20, 21, 22, 23, 24, 25, 26, 27, 28, 29, 30, 31, 32, 33, 34, 35, 36, 37, 38, 39, 40, 41, 42, 43, 44, 45, 46, 47, 48, 49, 50, 51, 52, 53, 54, 55, 56, 57, 58, 59, 60, 61, 62, 63, 64, 65, 66, 67, 68, 69, 70, 71, 72, 73, 74, 75, 76, 77, 78, 79, 80, 81, 82, 83, 84, 85, 86, 87, 88, 89, 90, 91, 92, 93, 94, 95, 96, 97, 98, 99, 100, 101, 102, 103, 104, 105, 106, 107, 108, 109, 110, 111, 112, 113, 114, 115, 116, 117, 118] rfl (by decide +kernel)) (goodIn_sub (fun _ h => List.mem_cons_of_mem _ (List.mem_append_left _ (List.mem_append_right _ h))) gw_wsX120))) (goodIn_sub (fun _ h => List.mem_cons_of_mem _ (List.mem_append_right _ h)) (all_fg _))
set_option maxRecDepth 20000 in
theorem gX12_deliverAll_X12_deliver : GoodIn wsX12_deliverAll (wsV RX12 323 RX12 yX12_deliver wsX12_deliver) := goodIn_app (goodIn_m (mem_cA (List.mem_cons_of_mem _ (List.mem_append_left _ (List.mem_append_left _ (List.mem_append_left _ (List.mem_of_getElem? (i := 2) rfl))))) (mem_cA (List.mem_cons_of_mem _ (List.mem_append_left _ (List.mem_append_left _ (List.mem_append_left _ (List.mem_of_getElem? (i := 3) rfl))))) (mem_cA (List.mem_cons_of_mem _ (List.mem_append_left _ (List.mem_append_left _ (List.mem_append_left _ (List.mem_of_getElem? (i := 4) rfl))))) (mem_cA (List.mem_cons_of_mem _ (List.mem_append_left _ (List.mem_append_left _ (List.mem_append_left _ (List.mem_of_getElem? (i := 5) rfl))))) mem_cZ)))) (by decide +kernel)) ggX12_deliverAll_X12_deliver
theorem dX12_deliverAll_0 : decode cX12_deliverAll 0 = .ok (.aload_n 0, 1) := by decide +kernel
theorem dX12_deliverAll_1 : decode cX12_deliverAll 1 = .ok (.iconst 0, 1) := by decide +kernel
theorem dX12_deliverAll_2 : decode cX12_deliverAll 2 = .ok (.putfield 1, 3) := by decide +kernel
theorem dX12_deliverAll_5 : decode cX12_deliverAll 5 = .ok (.iconst 0, 1) := by decide +kernel
theorem dX12_deliverAll_6 : decode cX12_deliverAll 6 = .ok (.istore_n 1, 1) := by decide +kernel
theorem dX12_deliverAll_7 : decode cX12_deliverAll 7 = .ok (.aload_n 0, 1) := by decide +kernel
theorem dX12_deliverAll_8 : decode cX12_deliverAll 8 = .ok (.getfield 139, 3) := by decide +kernel
theorem dX12_deliverAll_11 : decode cX12_deliverAll 11 = .ok (.ifCond .le 14, 3) := by decide +kernel
theorem dX12_deliverAll_14 : decode cX12_deliverAll 14 = .ok (.iload_n 1, 1) := by decide +kernel
theorem dX12_deliverAll_15 : decode cX12_deliverAll 15 = .ok (.aload_n 0, 1) := by decide +kernel
theorem dX12_deliverAll_16 : decode cX12_deliverAll 16 = .ok (.iconst 0, 1) := by decide +kernel
theorem dX12_deliverAll_17 : decode cX12_deliverAll 17 = .ok (.invokevirtual 323, 3) := by decide +kernel
theorem dX12_deliverAll_20 : decode cX12_deliverAll 20 = .ok (.iadd, 1) := by decide +kernel
theorem dX12_deliverAll_21 : decode cX12_deliverAll 21 = .ok (.istore_n 1, 1) := by decide +kernel
theorem dX12_deliverAll_22 : decode cX12_deliverAll 22 = .ok (.goto (-15), 3) := by decide +kernel
theorem dX12_deliverAll_25 : decode cX12_deliverAll 25 = .ok (.iload_n 1, 1) := by decide +kernel
theorem dX12_deliverAll_26 : decode cX12_deliverAll 26 = .ok (.ireturn, 1) := by decide +kernel
set_option maxHeartbeats 4000000 in
set_option maxRecDepth 100000 in
theorem r_deliver (G : EnvG) (l : Launch) (Φ : Hm) (sz x : Nat) (rd : (Nat → Int32) → Prop) (nw : (Nat → Int32) → Prop) (cr : (Nat → Int64) → Prop) (tp : (Nat → Int32) → Prop) (tt : (Nat → Int64) → Prop) (sI : (Nat → Int32) → Prop) (sT : (Nat → Int32) → Prop) (pt : (Nat → Int32) → Prop) (fl : Nat) (pe : Nat) (le : Nat) (nx : Nat) (il : Nat) (qu : Nat) (kn : Int32) (ec : Int32) (nu : Int32) (va : Int64) (st : Nat) (ep : Int32) (ti : Int32) (ad : Int32) (ob : Int64) (ra : Int32) (rt : Nat) (ex : Int32) (sa : Int64) (us : Int64) (tk : Nat) (th : Int32) (me : Int32) (dr : Int32) (se : Int64) (sn : Int64) (L : Nat → Nat) (a : Int32) (hx : G.2.2.2 ≤ x) (hI : Im G x (rd, nw, cr, tp, tt, sI, sT, pt, (QlQ qu L), fl, pe, le, nx, il, qu, kn, ec, nu, va, st, ep, ti, ad, ob, ra, rt, ex, sa, us, tk, th, me, dr, se, sn) Φ) (hnw : ∀ f9 : Nat → Int32, nw f9 → NN f9) : CtD G l yX12_deliver wsX12_deliver ({ frames := 7, cells := 0, slots := 0, locals := 186 }) 0 0 [.ref x, .int a] Φ sz (fun v Φ1 sz1 => (∃ r9 : Int32, v = some (.int r9)) ∧ sz1 = sz ∧ (∃ (le1 : Nat) (qu1 : Nat) (L1 : Nat → Nat) (th1 : Int32), ((¬ InQ qu a ∧ (qu1, L1) = (qu, L)) ∨ (∃ u9 : Nat, u9 < qu ∧ a = nI u9 ∧ (qu1, L1) = (qu - 1, rmL L u9))) ∧ Im G x (rd, nw, cr, tp, tt, sI, sT, pt, (QlQ qu1 L1), fl, pe, le1, nx, il, qu1, kn, ec, nu, va, st, ep, ti, ad, ob, ra, rt, ex, sa, us, tk, th1, me, dr, se, sn) Φ1) ∧ Fr x (fun j9 => j9 = 0 ∨ j9 = 8 ∨ j9 = 9 ∨ j9 = 10 ∨ j9 = 11 ∨ j9 = 12 ∨ j9 = 13 ∨ j9 = 14 ∨ j9 = 15 ∨ j9 = 16 ∨ j9 = 17 ∨ j9 = 18 ∨ j9 = 19 ∨ j9 = 20 ∨ j9 = 21 ∨ j9 = 22) Φ Φ1) := by
  refine CtD.of (cc := cX12_deliver) (maxL := 3) (ret := (some .int)) (by decide) rfl (Nat.le_of_ble_eq_true rfl) ?_
  intro p9 e9 s9 m9 w9 t9 k9 d9 hd9 B
  show Z p9 l e9 _ (s9.setDrawn d9) m9 _ w9 t9 k9 _ G 3 0 [(0, .ref x), (1, .int a)] [] Φ sz 0 0
  refine z_aload_n B dX12_deliver_0 rfl 0 rfl ?_
  refine z_iconst (v := 0) B dX12_deliver_1 rfl ?_
  obtain ⟨n_1, v_1, n_2, h_1, b_13, b_1, b_2, b_3, b_4, b_5, b_6, b_7, b_8, b_9, b_10, b_11, b_12⟩ := im0 hI
  replace b_1 : 1 ≤ rt := b_1
  replace b_2 : rt ≤ 1024 := b_2
  replace b_3 : fl ≤ 12 := b_3
  replace b_4 : pe ≤ 24 := b_4
  replace b_5 : le ≤ 700 := b_5
  replace b_6 : qu ≤ 12 := b_6
  replace b_7 : n_1 ≤ 8 := b_7
  replace b_8 : n_2 ≤ 24 := b_8
  replace b_9 : tk ≤ 24 := b_9
  replace b_10 : il ≤ 700 := b_10
  replace b_11 : nx ≤ 701 := b_11
  replace b_12 : st ≤ 701 := b_12
  have h_2 : Φ x = some (o_ 14 [.int th, .ref (x + 1), .ref (x + 2), .int ti, .int ra, .int (nI rt), .int ex, .int ad, .ref (x + 3), .ref (x + 4), .int me, .long se, .ref (x + 5), .int (nI fl), .int dr, .long ob, .long sa, .long sn, .long us, .ref (x + 6), .ref (x + 7), .int (nI pe), .ref (x + 8), .int (nI le), .ref (x + 9), .ref (x + 10), .int (nI qu), .ref (x + 11), .ref (x + 12), .ref (x + 13), .ref (x + 14), .ref (x + 15), .ref (x + 16), .int (nI n_1), .long v_1, .ref (x + 17), .ref (x + 18), .ref (x + 19), .ref (x + 20), .ref (x + 21), .ref (x + 22), .int (nI n_2), .ref (x + 23), .ref (x + 24), .int (nI tk), .ref (x + 25), .int (nI il), .int (nI nx), .int ec, .int ep, .int kn, .int (nI st), .int nu, .long va]) := h_1
  refine z_put (ref := "FlowExporterModel") (C := RX12) (T := TX12) (N := 54) (ci := 14) (v := .int 0) B hu_X12_deliver_X12 tyX12 tyX12_ok nmX12 rfl 0 (Nat.le_of_ble_eq_true rfl) hv_X12_deliver_1 rfl (Or.inl rfl) h_2 hx rfl rfl (Nat.le_of_ble_eq_true rfl) dX12_deliver_2 (fun Φ1 hΦ1 => ?_)
  have h_3 : Φ1 x = some (o_ 14 [.int 0, .ref (x + 1), .ref (x + 2), .int ti, .int ra, .int (nI rt), .int ex, .int ad, .ref (x + 3), .ref (x + 4), .int me, .long se, .ref (x + 5), .int (nI fl), .int dr, .long ob, .long sa, .long sn, .long us, .ref (x + 6), .ref (x + 7), .int (nI pe), .ref (x + 8), .int (nI le), .ref (x + 9), .ref (x + 10), .int (nI qu), .ref (x + 11), .ref (x + 12), .ref (x + 13), .ref (x + 14), .ref (x + 15), .ref (x + 16), .int (nI n_1), .long v_1, .ref (x + 17), .ref (x + 18), .ref (x + 19), .ref (x + 20), .ref (x + 21), .ref (x + 22), .int (nI n_2), .ref (x + 23), .ref (x + 24), .int (nI tk), .ref (x + 25), .int (nI il), .int (nI nx), .int ec, .int ep, .int kn, .int (nI st), .int nu, .long va]) := fset_at hΦ1
  have hI1 : Im G x (rd, nw, cr, tp, tt, sI, sT, pt, (QlQ qu L), fl, pe, le, nx, il, qu, kn, ec, nu, va, st, ep, ti, ad, ob, ra, rt, ex, sa, us, tk, 0, me, dr, se, sn) Φ1 := Im.put0 hI hΦ1 ⟨n_1, v_1, n_2, rfl, b_13, b_1, b_2, b_3, b_4, b_5, b_6, b_7, b_8, b_9, b_10, b_11, b_12⟩
  refine z_aload_n B dX12_deliver_5 rfl 0 rfl ?_
  refine z_aload_n B dX12_deliver_6 rfl 0 rfl ?_
  refine z_iload_n B dX12_deliver_7 rfl 1 rfl ?_
  refine z_callV (As := [.int a]) (rest := [.ref x]) B (r_isMessageX G l Φ1 sz x rd nw cr tp tt sI sT pt (QlQ qu L) fl pe le nx il qu kn ec nu va st ep ti ad ob ra rt ex sa us tk 0 me dr se sn a hx hI1 hnw) (cwV 1 B.1.2.2.2.2 gX12_deliver_X12_isMessage rfl rfl rfl (by decide +kernel) ⟨Nat.le_of_ble_eq_true rfl, Nat.le_of_ble_eq_true rfl⟩) h_3 rfl rfl rfl rfl (Nat.le_of_ble_eq_true rfl) dX12_deliver_8 ⟨Nat.le_of_ble_eq_true rfl, Nat.le_of_ble_eq_true rfl⟩ (fun r_1 Φ2 sz1 st1 hp1 hs1 => ?_)
  obtain ⟨ha1, hq1, hI2, hF1⟩ := hp1
  subst sz1
  replace hI2 : Im G x (rd, nw, cr, tp, tt, sI, sT, pt, (QlQ qu L), fl, pe, le, nx, il, qu, kn, ec, nu, va, st, ep, ti, ad, ob, ra, rt, ex, sa, us, tk, 0, me, dr, se, sn) Φ2 := hI2
  rcases ha1 with ⟨rfl, hq2⟩ | ⟨rfl, n_3, b_14, rfl, hq3⟩
  · replace hs1 : st1 = [.int 0, .ref x] := hs1
    subst st1
    refine z_if_ne (tgt := 18) B dX12_deliver_11 rfl (fun h9 => absurd (by decide) h9) (fun c_1 => ?_)
    refine z_iconst (v := 1) B dX12_deliver_14 rfl ?_
    refine z_goto (tgt := 19) B dX12_deliver_15 rfl ?_
    refine z_iconst (v := 1) B dX12_deliver_19 rfl ?_
    have h_4 : Φ2 x = some (o_ 14 [.int 0, .ref (x + 1), .ref (x + 2), .int ti, .int ra, .int (nI rt), .int ex, .int ad, .ref (x + 3), .ref (x + 4), .int me, .long se, .ref (x + 5), .int (nI fl), .int dr, .long ob, .long sa, .long sn, .long us, .ref (x + 6), .ref (x + 7), .int (nI pe), .ref (x + 8), .int (nI le), .ref (x + 9), .ref (x + 10), .int (nI qu), .ref (x + 11), .ref (x + 12), .ref (x + 13), .ref (x + 14), .ref (x + 15), .ref (x + 16), .int (nI n_1), .long v_1, .ref (x + 17), .ref (x + 18), .ref (x + 19), .ref (x + 20), .ref (x + 21), .ref (x + 22), .int (nI n_2), .ref (x + 23), .ref (x + 24), .int (nI tk), .ref (x + 25), .int (nI il), .int (nI nx), .int ec, .int ep, .int kn, .int (nI st), .int nu, .long va]) := ((hF1 x (fun j9 h8 h7 => (show False from h7).elim)).trans h_3)
    refine z_callV (As := [.int 1, .int 1]) (rest := []) B (r_throwsIf1 G l Φ2 sz x rd nw cr tp tt sI sT pt (QlQ qu L) fl pe le nx il qu kn ec nu va st ep ti ad ob ra rt ex sa us tk 0 me dr se sn  hx hI2 hnw) (cwV 2 B.1.2.2.2.2 gX12_deliver_X12_throwsIf rfl rfl rfl (by decide +kernel) ⟨Nat.le_of_ble_eq_true rfl, Nat.le_of_ble_eq_true rfl⟩) h_4 rfl rfl rfl rfl (Nat.le_of_ble_eq_true rfl) dX12_deliver_20 ⟨Nat.le_of_ble_eq_true rfl, Nat.le_of_ble_eq_true rfl⟩ (fun r_2 Φ3 sz2 st2 hp2 hs2 => ?_)
    obtain ⟨⟨rfl, l_1, h_5⟩, hq4, hI3, hF2⟩ := hp2
    subst sz2
    replace hs2 : st2 = [.int 1] := hs2
    subst st2
    replace hI3 : Im G x (rd, nw, cr, tp, tt, sI, sT, pt, (QlQ qu L), fl, pe, le, nx, il, qu, kn, ec, nu, va, st, ep, ti, ad, ob, ra, rt, ex, sa, us, tk, 1, me, dr, se, sn) Φ3 := hI3
    refine z_if_eq (tgt := 28) B dX12_deliver_23 rfl (fun h9 => absurd h9 (by decide)) (fun c_2 => ?_)
    refine z_iconst (v := 0) B dX12_deliver_26 rfl ?_
    exact zd_end hd9 (z_ret_i B dX12_deliver_27 ⟨⟨_, rfl⟩, rfl, ⟨le, qu, L, 1, (Or.inl ⟨hq2, rfl⟩), hI3⟩, (fun b9 h9 => ((hF2 b9 (fun j9 h8 h7 => h9 j9 h8 (fq_1320 j9 h7))).trans ((hF1 b9 (fun j9 h8 h7 => (show False from h7).elim)).trans ((fset_fr hΦ1 (fun h8 => h9 (0) h8 (show 0 = 0 ∨ 0 = 8 ∨ 0 = 9 ∨ 0 = 10 ∨ 0 = 11 ∨ 0 = 12 ∨ 0 = 13 ∨ 0 = 14 ∨ 0 = 15 ∨ 0 = 16 ∨ 0 = 17 ∨ 0 = 18 ∨ 0 = 19 ∨ 0 = 20 ∨ 0 = 21 ∨ 0 = 22 by decide))).trans rfl))))⟩)
  · replace hs1 : st1 = [.int 1, .ref x] := hs1
    subst st1
    replace b_14 : n_3 < qu := b_14
    refine z_if_ne (tgt := 18) B dX12_deliver_11 rfl (fun c_3 => ?_) (fun h9 => absurd h9 (by decide))
    refine z_iconst (v := 0) B dX12_deliver_18 rfl ?_
    refine z_iconst (v := 1) B dX12_deliver_19 rfl ?_
    have h_6 : Φ2 x = some (o_ 14 [.int 0, .ref (x + 1), .ref (x + 2), .int ti, .int ra, .int (nI rt), .int ex, .int ad, .ref (x + 3), .ref (x + 4), .int me, .long se, .ref (x + 5), .int (nI fl), .int dr, .long ob, .long sa, .long sn, .long us, .ref (x + 6), .ref (x + 7), .int (nI pe), .ref (x + 8), .int (nI le), .ref (x + 9), .ref (x + 10), .int (nI qu), .ref (x + 11), .ref (x + 12), .ref (x + 13), .ref (x + 14), .ref (x + 15), .ref (x + 16), .int (nI n_1), .long v_1, .ref (x + 17), .ref (x + 18), .ref (x + 19), .ref (x + 20), .ref (x + 21), .ref (x + 22), .int (nI n_2), .ref (x + 23), .ref (x + 24), .int (nI tk), .ref (x + 25), .int (nI il), .int (nI nx), .int ec, .int ep, .int kn, .int (nI st), .int nu, .long va]) := ((hF1 x (fun j9 h8 h7 => (show False from h7).elim)).trans h_3)
    refine z_callV (As := [.int 0, .int 1]) (rest := []) B (r_throwsIf0 G l Φ2 sz x rd nw cr tp tt sI sT pt (QlQ qu L) fl pe le nx il qu kn ec nu va st ep ti ad ob ra rt ex sa us tk 0 me dr se sn  hx hI2 hnw) (cwV 2 B.1.2.2.2.2 gX12_deliver_X12_throwsIf rfl rfl rfl (by decide +kernel) ⟨Nat.le_of_ble_eq_true rfl, Nat.le_of_ble_eq_true rfl⟩) h_6 rfl rfl rfl rfl (Nat.le_of_ble_eq_true rfl) dX12_deliver_20 ⟨Nat.le_of_ble_eq_true rfl, Nat.le_of_ble_eq_true rfl⟩ (fun r_3 Φ4 sz3 st3 hp3 hs3 => ?_)
    obtain ⟨rfl, hq5, hI4, hF3⟩ := hp3
    subst sz3
    replace hs3 : st3 = [.int 0] := hs3
    subst st3
    replace hI4 : Im G x (rd, nw, cr, tp, tt, sI, sT, pt, (QlQ qu L), fl, pe, le, nx, il, qu, kn, ec, nu, va, st, ep, ti, ad, ob, ra, rt, ex, sa, us, tk, 0, me, dr, se, sn) Φ4 := hI4
    refine z_if_eq (tgt := 28) B dX12_deliver_23 rfl (fun c_4 => ?_) (fun h9 => absurd (by decide) h9)
    refine z_iconst (v := 0) B dX12_deliver_28 rfl ?_
    refine z_istore_n (lv' := [(2, .int 0), (0, .ref x), (1, .int (nI n_3))]) B dX12_deliver_29 rfl (Nat.le_of_ble_eq_true rfl) rfl ?_
    refine z_lv [0, 1, 2] rfl ?_
    refine z_loopD (s0 := s9) (α := Nat) (fun (a9 : Nat) Φi => Im G x (rd, nw, cr, tp, tt, sI, sT, pt, (QlQ qu L), fl, pe, le, nx, il, qu, kn, ec, nu, va, st, ep, ti, ad, ob, ra, rt, ex, sa, us, tk, 0, me, dr, se, sn) Φi ∧ Fr x (fun j9 => j9 = 8) Φ4 Φi ∧ (a9 ≤ 600) ∧ True) (fun a9 => [(2, .int (nI a9)), (0, .ref x), (1, .int (nI n_3))]) (fun a9 => 600 - a9) ?_ hd9 (0) ⟨hI4, fun _ _ => rfl, (show 0 ≤ 600 by omega), trivial⟩
    intro d_1 hdr1
    have B : Bd p9 (s9.setDrawn d_1) m9 _ t9 k9 G _ _ _ _ _ _ := Bd.drawn B d_1
    rintro i_1 Φl1 ⟨hI5, hF4, b_15, -⟩ ih1
    replace hI5 : Im G x (rd, nw, cr, tp, tt, sI, sT, pt, (QlQ qu L), fl, pe, le, nx, il, qu, kn, ec, nu, va, st, ep, ti, ad, ob, ra, rt, ex, sa, us, tk, 0, me, dr, se, sn) Φl1 := hI5
    replace b_15 : i_1 ≤ 600 := b_15
    show Z p9 l e9 _ (s9.setDrawn d_1) m9 _ w9 t9 k9 _ G 3 30 [(2, .int (nI i_1)), (0, .ref x), (1, .int (nI n_3))] [] Φl1 _ _ _
    refine z_iload_n B dX12_deliver_30 rfl 0 rfl ?_
    refine z_aload_n B dX12_deliver_31 rfl 1 rfl ?_
    have h_7 : Φl1 x = some (o_ 14 [.int 0, .ref (x + 1), .ref (x + 2), .int ti, .int ra, .int (nI rt), .int ex, .int ad, .ref (x + 3), .ref (x + 4), .int me, .long se, .ref (x + 5), .int (nI fl), .int dr, .long ob, .long sa, .long sn, .long us, .ref (x + 6), .ref (x + 7), .int (nI pe), .ref (x + 8), .int (nI le), .ref (x + 9), .ref (x + 10), .int (nI qu), .ref (x + 11), .ref (x + 12), .ref (x + 13), .ref (x + 14), .ref (x + 15), .ref (x + 16), .int (nI n_1), .long v_1, .ref (x + 17), .ref (x + 18), .ref (x + 19), .ref (x + 20), .ref (x + 21), .ref (x + 22), .int (nI n_2), .ref (x + 23), .ref (x + 24), .int (nI tk), .ref (x + 25), .int (nI il), .int (nI nx), .int ec, .int ep, .int kn, .int (nI st), .int nu, .long va]) := ((hF4 x fq_983).trans ((hF3 x (fun j9 h8 h7 => (show False from h7).elim)).trans h_6))
    refine z_get (ref := "FlowExporterModel") (C := RX12) (T := TX12) (N := 54) (ci := 14) (v := .ref (x + 10)) B hu_X12_deliver_X12 rfl 25 (Nat.le_of_ble_eq_true rfl) hv_X12_deliver_42 rfl h_7 rfl dX12_deliver_32 ?_
    refine z_iload_n B dX12_deliver_35 rfl 2 rfl ?_
    obtain ⟨f_1, h_8, r_4, r_5⟩ := imk (k := 10) hI5
    replace r_5 : (QlQ qu L) f_1 := r_5
    replace r_4 : Rw 600 f_1 := r_4
    have h_9 : Φl1 (x + 10) = some (ai_ G 12 f_1) := h_8
    refine z_iald B h_9 (vp_in_nI (by omega) (by omega)) dX12_deliver_36 ?_
    obtain ⟨n_4, b_16, e_1⟩ := r_4 ((nI n_3).toNatClampNeg)
    refine z_top (st1 := [.int (nI n_4), .int (nI i_1)]) (congrArg (fun w9 : Int32 => ([.int w9, .int (nI i_1)] : List Value)) (e_1)) ?_
    refine z_icmp_ge (tgt := 64) B dX12_deliver_37 rfl (fun c_5 => ?_) (fun c_5 => ?_)
    · have e_2 : n_4 ≤ i_1 := (nI_leI (a := n_4) (b := i_1) (by omega) (by omega)).mp c_5
      refine z_aload_n B dX12_deliver_64 rfl 1 rfl ?_
      refine z_aload_n B dX12_deliver_65 rfl 1 rfl ?_
      refine z_get (ref := "FlowExporterModel") (C := RX12) (T := TX12) (N := 54) (ci := 14) (v := .ref (x + 10)) B hu_X12_deliver_X12 rfl 25 (Nat.le_of_ble_eq_true rfl) hv_X12_deliver_42 rfl h_7 rfl dX12_deliver_66 ?_
      refine z_iload_n B dX12_deliver_69 rfl 2 rfl ?_
      refine z_iald B h_9 (vp_in_nI (by omega) (by omega)) dX12_deliver_70 ?_
      obtain ⟨n_5, b_17, e_3⟩ := r_4 ((nI n_3).toNatClampNeg)
      refine z_top (st1 := [.int (nI n_5), .ref x]) (congrArg (fun w9 : Int32 => ([.int w9, .ref x] : List Value)) (e_3)) ?_
      refine z_put (ref := "FlowExporterModel") (C := RX12) (T := TX12) (N := 54) (ci := 14) (v := .int (nI n_5)) B hu_X12_deliver_X12 tyX12 tyX12_ok nmX12 rfl 23 (Nat.le_of_ble_eq_true rfl) hv_X12_deliver_280 rfl (Or.inl rfl) h_7 hx rfl rfl (Nat.le_of_ble_eq_true rfl) dX12_deliver_71 (fun Φ5 hΦ2 => ?_)
      have h_10 : Φ5 x = some (o_ 14 [.int 0, .ref (x + 1), .ref (x + 2), .int ti, .int ra, .int (nI rt), .int ex, .int ad, .ref (x + 3), .ref (x + 4), .int me, .long se, .ref (x + 5), .int (nI fl), .int dr, .long ob, .long sa, .long sn, .long us, .ref (x + 6), .ref (x + 7), .int (nI pe), .ref (x + 8), .int (nI n_5), .ref (x + 9), .ref (x + 10), .int (nI qu), .ref (x + 11), .ref (x + 12), .ref (x + 13), .ref (x + 14), .ref (x + 15), .ref (x + 16), .int (nI n_1), .long v_1, .ref (x + 17), .ref (x + 18), .ref (x + 19), .ref (x + 20), .ref (x + 21), .ref (x + 22), .int (nI n_2), .ref (x + 23), .ref (x + 24), .int (nI tk), .ref (x + 25), .int (nI il), .int (nI nx), .int ec, .int ep, .int kn, .int (nI st), .int nu, .long va]) := fset_at hΦ2
      have hI6 : Im G x (rd, nw, cr, tp, tt, sI, sT, pt, (QlQ qu L), fl, pe, n_5, nx, il, qu, kn, ec, nu, va, st, ep, ti, ad, ob, ra, rt, ex, sa, us, tk, 0, me, dr, se, sn) Φ5 := Im.put0 hI5 hΦ2 ⟨n_1, v_1, n_2, rfl, b_13, b_1, b_2, b_3, b_4, (show n_5 ≤ 700 by omega), b_6, b_7, b_8, b_9, b_10, b_11, b_12⟩
      refine z_aload_n B dX12_deliver_74 rfl 1 rfl ?_
      refine z_iload_n B dX12_deliver_75 rfl 2 rfl ?_
      refine z_callV (As := [.int (nI n_3)]) (rest := []) B (r_remove G l Φ5 sz x rd nw cr tp tt sI sT pt fl pe n_5 nx il qu kn ec nu va st ep ti ad ob ra rt ex sa us tk 0 me dr se sn L n_3 hx hI6 (show n_3 < qu by omega) hnw) (cwV 1 B.1.2.2.2.2 gX12_deliver_X12_remove rfl rfl rfl (by decide +kernel) ⟨Nat.le_of_ble_eq_true rfl, Nat.le_of_ble_eq_true rfl⟩) h_10 rfl rfl rfl rfl (Nat.le_of_ble_eq_true rfl) dX12_deliver_76 ⟨Nat.le_of_ble_eq_true rfl, Nat.le_of_ble_eq_true rfl⟩ (fun r_6 Φ6 sz4 st4 hp4 hs4 => ?_)
      obtain ⟨rfl, hq6, hI7, hF5⟩ := hp4
      subst sz4
      replace hs4 : st4 = [] := hs4
      subst st4
      replace hI7 : Im G x (rd, nw, cr, tp, tt, sI, sT, pt, QlQ (qu - 1) (rmL L n_3), fl, pe, n_5, nx, il, qu - 1, kn, ec, nu, va, st, ep, ti, ad, ob, ra, rt, ex, sa, us, tk, 0, me, dr, se, sn) Φ6 := hI7
      refine z_aload_n B dX12_deliver_79 rfl 1 rfl ?_
      obtain ⟨n_6, v_2, n_7, h_11, b_30, b_18, b_19, b_20, b_21, b_22, b_23, b_24, b_25, b_26, b_27, b_28, b_29⟩ := im0 hI7
      replace b_18 : 1 ≤ rt := b_18
      replace b_19 : rt ≤ 1024 := b_19
      replace b_20 : fl ≤ 12 := b_20
      replace b_21 : pe ≤ 24 := b_21
      replace b_22 : n_5 ≤ 700 := b_22
      replace b_23 : qu - 1 ≤ 12 := b_23
      replace b_24 : n_6 ≤ 8 := b_24
      replace b_25 : n_7 ≤ 24 := b_25
      replace b_26 : tk ≤ 24 := b_26
      replace b_27 : il ≤ 700 := b_27
      replace b_28 : nx ≤ 701 := b_28
      replace b_29 : st ≤ 701 := b_29
      have h_12 : Φ6 x = some (o_ 14 [.int 0, .ref (x + 1), .ref (x + 2), .int ti, .int ra, .int (nI rt), .int ex, .int ad, .ref (x + 3), .ref (x + 4), .int me, .long se, .ref (x + 5), .int (nI fl), .int dr, .long ob, .long sa, .long sn, .long us, .ref (x + 6), .ref (x + 7), .int (nI pe), .ref (x + 8), .int (nI n_5), .ref (x + 9), .ref (x + 10), .int (nI (qu - 1)), .ref (x + 11), .ref (x + 12), .ref (x + 13), .ref (x + 14), .ref (x + 15), .ref (x + 16), .int (nI n_6), .long v_2, .ref (x + 17), .ref (x + 18), .ref (x + 19), .ref (x + 20), .ref (x + 21), .ref (x + 22), .int (nI n_7), .ref (x + 23), .ref (x + 24), .int (nI tk), .ref (x + 25), .int (nI il), .int (nI nx), .int ec, .int ep, .int kn, .int (nI st), .int nu, .long va]) := h_11
      refine zd_callV (As := []) (rest := []) B (r_accept G l Φ6 sz x rd nw cr tp tt sI sT pt (QlQ (qu - 1) (rmL L n_3)) fl pe n_5 nx il (qu - 1) kn ec nu va st ep ti ad ob ra rt ex sa us tk 0 me dr se sn  hx hI7 hnw) (cwV 0 B.1.2.2.2.2 gX12_deliver_X12_accept rfl rfl rfl (by decide +kernel) ⟨Nat.le_of_ble_eq_true rfl, Nat.le_of_ble_eq_true rfl⟩) h_12 rfl rfl rfl rfl (Nat.le_of_ble_eq_true rfl) dX12_deliver_80 ⟨Nat.le_of_ble_eq_true rfl, Nat.le_of_ble_eq_true rfl⟩ (fun d_2 hdr3 r_7 Φ7 sz5 st5 hp5 hs5 => ?_)
      have hdr4 := Drawn.sameBut.trans hdr1 hdr3
      have B : Bd p9 (s9.setDrawn d_2) m9 _ t9 k9 G _ _ _ _ _ _ := Bd.drawn B d_2
      show Z p9 l e9 _ (s9.setDrawn d_2) m9 _ w9 t9 k9 _ G _ _ _ _ _ _ _ _
      obtain ⟨⟨v_3, rfl⟩, hq7, hI8, hF6⟩ := hp5
      subst sz5
      replace hs5 : st5 = [.int v_3] := hs5
      subst st5
      replace hI8 : Im G x (rd, nw, cr, tp, tt, sI, sT, pt, QlQ (qu - 1) (rmL L n_3), fl, pe, n_5, nx, il, qu - 1, kn, ec, nu, va, st, ep, ti, ad, ob, ra, rt, ex, sa, us, tk, 0, me, dr, se, sn) Φ7 := hI8
      exact zd_end hdr4 (z_ret_i B dX12_deliver_83 ⟨⟨_, rfl⟩, rfl, ⟨n_5, qu - 1, (rmL L n_3), 0, (Or.inr ⟨n_3, by omega, rfl, rfl⟩), hI8⟩, (fun b9 h9 => ((hF6 b9 (fun j9 h8 h7 => h9 j9 h8 (fq_1325 j9 h7))).trans ((hF5 b9 (fun j9 h8 h7 => h9 j9 h8 (fq_1324 j9 h7))).trans ((fset_fr hΦ2 (fun h8 => h9 (0) h8 (show 0 = 0 ∨ 0 = 8 ∨ 0 = 9 ∨ 0 = 10 ∨ 0 = 11 ∨ 0 = 12 ∨ 0 = 13 ∨ 0 = 14 ∨ 0 = 15 ∨ 0 = 16 ∨ 0 = 17 ∨ 0 = 18 ∨ 0 = 19 ∨ 0 = 20 ∨ 0 = 21 ∨ 0 = 22 by decide))).trans ((hF4 b9 (fun j9 h8 h7 => h9 j9 h8 (fq_1323 j9 h7))).trans ((hF3 b9 (fun j9 h8 h7 => (show False from h7).elim)).trans ((hF1 b9 (fun j9 h8 h7 => (show False from h7).elim)).trans ((fset_fr hΦ1 (fun h8 => h9 (0) h8 (show 0 = 0 ∨ 0 = 8 ∨ 0 = 9 ∨ 0 = 10 ∨ 0 = 11 ∨ 0 = 12 ∨ 0 = 13 ∨ 0 = 14 ∨ 0 = 15 ∨ 0 = 16 ∨ 0 = 17 ∨ 0 = 18 ∨ 0 = 19 ∨ 0 = 20 ∨ 0 = 21 ∨ 0 = 22 by decide))).trans rfl))))))))⟩)
    · have e_4 : ¬ (n_4 ≤ i_1) := fun h9 => c_5 ((nI_leI (a := n_4) (b := i_1) (by omega) (by omega)).mpr h9)
      refine z_aload_n B dX12_deliver_40 rfl 1 rfl ?_
      refine z_get (ref := "FlowExporterModel") (C := RX12) (T := TX12) (N := 54) (ci := 14) (v := .ref (x + 8)) B hu_X12_deliver_X12 rfl 22 (Nat.le_of_ble_eq_true rfl) hv_X12_deliver_36 rfl h_7 rfl dX12_deliver_41 ?_
      refine z_iload_n B dX12_deliver_44 rfl 0 rfl ?_
      refine z_aload_n B dX12_deliver_45 rfl 1 rfl ?_
      refine z_get (ref := "FlowExporterModel") (C := RX12) (T := TX12) (N := 54) (ci := 14) (v := .ref (x + 9)) B hu_X12_deliver_X12 rfl 24 (Nat.le_of_ble_eq_true rfl) hv_X12_deliver_39 rfl h_7 rfl dX12_deliver_46 ?_
      refine z_sipush (v := 600) B dX12_deliver_49 rfl ?_
      refine z_iload_n B dX12_deliver_52 rfl 2 rfl ?_
      refine z_imul B dX12_deliver_53 ?_
      refine z_top (st1 := [.int (nI (600 * n_3)), .ref (x + 9), .int (nI i_1), .ref (x + 8)]) (congrArg (fun w9 : Int32 => ([.int w9, .ref (x + 9), .int (nI i_1), .ref (x + 8)] : List Value)) (nI_mul 600 n_3)) ?_
      refine z_iload_n B dX12_deliver_54 rfl 0 rfl ?_
      refine z_iadd B dX12_deliver_55 ?_
      refine z_top (st1 := [.int (nI (600 * n_3 + i_1)), .ref (x + 9), .int (nI i_1), .ref (x + 8)]) (congrArg (fun w9 : Int32 => ([.int w9, .ref (x + 9), .int (nI i_1), .ref (x + 8)] : List Value)) (nI_add (600 * n_3) i_1)) ?_
      obtain ⟨f_2, h_13, r_8⟩ := imk (k := 9) hI5
      replace r_8 : Rw 255 f_2 := r_8
      have h_14 : Φl1 (x + 9) = some (ai_ G 7200 f_2) := h_13
      refine z_iald B h_14 (vp_in_nI (by omega) (by omega)) dX12_deliver_56 ?_
      obtain ⟨n_8, b_31, e_5⟩ := r_8 ((nI (600 * n_3 + i_1)).toNatClampNeg)
      refine z_top (st1 := [.int (nI n_8), .int (nI i_1), .ref (x + 8)]) (congrArg (fun w9 : Int32 => ([.int w9, .int (nI i_1), .ref (x + 8)] : List Value)) (e_5)) ?_
      obtain ⟨f_3, h_15, r_9⟩ := imk (k := 8) hI5
      replace r_9 : Rw 255 f_3 := r_9
      have h_16 : Φl1 (x + 8) = some (ai_ G 700 f_3) := h_15
      refine z_iast B h_16 (Nat.le_trans hx (Nat.le_add_right x 8)) (vp_in_nI (by omega) (by omega)) dX12_deliver_57 (fun Φ8 hΦ3 => ?_)
      have h_17 : Φ8 (x + 8) = some (ai_ G 700 (upd f_3 (nI i_1).toNatClampNeg (nI n_8))) := fset_at hΦ3
      have hI9 : Im G x (rd, nw, cr, tp, tt, sI, sT, pt, (QlQ qu L), fl, pe, le, nx, il, qu, kn, ec, nu, va, st, ep, ti, ad, ob, ra, rt, ex, sa, us, tk, 0, me, dr, se, sn) Φ8 := Im.put (k := 8) hI5 hΦ3 ⟨_, rfl, Rw.up (n := n_8) r_9 (show n_8 ≤ 255 by omega)⟩
      refine z_iinc (k := 0) (v := nI (i_1 + 1)) (lv' := [(2, .int (nI (i_1 + 1))), (0, .ref x), (1, .int (nI n_3))]) B dX12_deliver_58 rfl (nI_add i_1 1) (Nat.le_of_ble_eq_true rfl) rfl ?_
      refine z_goto (tgt := 30) B dX12_deliver_61 rfl ?_
      refine z_lv [0, 1, 2] rfl ?_
      exact ih1 d_1 hdr1 (i_1 + 1) Φ8 (show 600 - (i_1 + 1) < 600 - i_1 by omega) ⟨hI9, (fun b9 h9 => ((fset_fr hΦ3 (fun h8 => h9 (8) h8 (show 8 = 8 by decide))).trans ((hF4 b9 h9).trans rfl))), (show (i_1 + 1) ≤ 600 by omega), trivial⟩

set_option maxHeartbeats 4000000 in
set_option maxRecDepth 100000 in
theorem r_isMessageE (G : EnvG) (l : Launch) (Φ : Hm) (sz x : Nat) (rd : (Nat → Int32) → Prop) (nw : (Nat → Int32) → Prop) (cr : (Nat → Int64) → Prop) (tp : (Nat → Int32) → Prop) (tt : (Nat → Int64) → Prop) (sI : (Nat → Int32) → Prop) (sT : (Nat → Int32) → Prop) (pt : (Nat → Int32) → Prop) (ql : (Nat → Int32) → Prop) (fl : Nat) (pe : Nat) (le : Nat) (nx : Nat) (il : Nat) (qu : Nat) (kn : Int32) (ec : Int32) (nu : Int32) (va : Int64) (st : Nat) (ep : Int32) (ti : Int32) (ad : Int32) (ob : Int64) (ra : Int32) (rt : Nat) (ex : Int32) (sa : Int64) (us : Int64) (tk : Nat) (th : Int32) (me : Int32) (dr : Int32) (se : Int64) (sn : Int64) (a : Int32) (hx : G.2.2.2 ≤ x) (hI : Im G x (rd, nw, cr, tp, tt, sI, sT, pt, ql, fl, pe, le, nx, il, qu, kn, ec, nu, va, st, ep, ti, ad, ob, ra, rt, ex, sa, us, tk, th, me, dr, se, sn) Φ) (hnw : ∀ f9 : Nat → Int32, nw f9 → NN f9) : Ct G l yX12_isMessage wsX12_isMessage ({ frames := 1, cells := 0, slots := 0, locals := 25 }) 0 0 [.ref x, .int a] Φ sz (fun v Φ1 sz1 => ((v = some (.int 0) ∧ ¬ ∃ n9 : Nat, n9 < qu ∧ a = nI n9) ∨ (v = some (.int 1) ∧ ∃ n9 : Nat, n9 < qu ∧ a = nI n9)) ∧ sz1 = sz ∧ (Im G x (rd, nw, cr, tp, tt, sI, sT, pt, ql, fl, pe, le, nx, il, qu, kn, ec, nu, va, st, ep, ti, ad, ob, ra, rt, ex, sa, us, tk, th, me, dr, se, sn) Φ1) ∧ Fr x (fun j9 => False) Φ Φ1) := by
  refine Ct.of (cc := cX12_isMessage) (maxL := 2) (ret := (some .boolean)) (by decide) rfl (Nat.le_of_ble_eq_true rfl) ?_
  intro p9 e9 s9 m9 w9 t9 k9 B
  show Z p9 l e9 _ s9 m9 _ w9 t9 k9 _ G 2 0 [(0, .ref x), (1, .int a)] [] Φ sz 0 0
  refine z_iload_n B dX12_isMessage_0 rfl 1 rfl ?_
  refine z_i2l (v := a.toInt64) B dX12_isMessage_1 rfl ?_
  refine z_lconst (v := 0) B dX12_isMessage_2 rfl ?_
  refine z_aload_n B dX12_isMessage_3 rfl 0 rfl ?_
  obtain ⟨n_1, v_1, n_2, h_1, b_13, b_1, b_2, b_3, b_4, b_5, b_6, b_7, b_8, b_9, b_10, b_11, b_12⟩ := im0 hI
  replace b_1 : 1 ≤ rt := b_1
  replace b_2 : rt ≤ 1024 := b_2
  replace b_3 : fl ≤ 12 := b_3
  replace b_4 : pe ≤ 24 := b_4
  replace b_5 : le ≤ 700 := b_5
  replace b_6 : qu ≤ 12 := b_6
  replace b_7 : n_1 ≤ 8 := b_7
  replace b_8 : n_2 ≤ 24 := b_8
  replace b_9 : tk ≤ 24 := b_9
  replace b_10 : il ≤ 700 := b_10
  replace b_11 : nx ≤ 701 := b_11
  replace b_12 : st ≤ 701 := b_12
  have h_2 : Φ x = some (o_ 14 [.int th, .ref (x + 1), .ref (x + 2), .int ti, .int ra, .int (nI rt), .int ex, .int ad, .ref (x + 3), .ref (x + 4), .int me, .long se, .ref (x + 5), .int (nI fl), .int dr, .long ob, .long sa, .long sn, .long us, .ref (x + 6), .ref (x + 7), .int (nI pe), .ref (x + 8), .int (nI le), .ref (x + 9), .ref (x + 10), .int (nI qu), .ref (x + 11), .ref (x + 12), .ref (x + 13), .ref (x + 14), .ref (x + 15), .ref (x + 16), .int (nI n_1), .long v_1, .ref (x + 17), .ref (x + 18), .ref (x + 19), .ref (x + 20), .ref (x + 21), .ref (x + 22), .int (nI n_2), .ref (x + 23), .ref (x + 24), .int (nI tk), .ref (x + 25), .int (nI il), .int (nI nx), .int ec, .int ep, .int kn, .int (nI st), .int nu, .long va]) := h_1
  refine z_get (ref := "FlowExporterModel") (C := RX12) (T := TX12) (N := 54) (ci := 14) (v := .int (nI qu)) B hu_X12_isMessage_X12 rfl 26 (Nat.le_of_ble_eq_true rfl) hv_X12_isMessage_139 rfl h_2 rfl dX12_isMessage_4 ?_
  refine z_iconst (v := 1) B dX12_isMessage_7 rfl ?_
  refine z_isub B dX12_isMessage_8 ?_
  refine z_i2l (v := (nI qu - 1).toInt64) B dX12_isMessage_9 rfl ?_
  by_cases hR1 : inP a.toInt64 0 ((nI qu - 1).toInt64)
  · obtain ⟨n_3, e_1, e_2, e_3, rfl⟩ := in_get (L := 0) (H := ((qu : Nat) : Int) - 1) (by decide) (predL (by omega)) hR1
    refine z_callS (As := [.long ((nI n_3).toInt64), .long 0, .long ((nI qu - 1).toInt64)]) (rest := []) B (c_inR1 G l Φ sz ((nI n_3).toInt64) 0 ((nI qu - 1).toInt64) hR1 (fun v8 Φ8 sz8 => v8 = some (.int 1) ∧ sz8 = sz ∧ Im G x (rd, nw, cr, tp, tt, sI, sT, pt, ql, fl, pe, le, nx, il, qu, kn, ec, nu, va, st, ep, ti, ad, ob, ra, rt, ex, sa, us, tk, th, me, dr, se, sn) Φ8 ∧ Fr x (fun j9 => False) Φ Φ8) ⟨rfl, rfl, hI, fun _ _ => rfl⟩) (va_cwS 3 B.1.2.2.2.2 gX12_isMessage_X12_inRange rfl rfl rfl (by decide +kernel) ⟨Nat.le_of_ble_eq_true rfl, Nat.le_of_ble_eq_true rfl⟩) rfl rfl (Nat.le_of_ble_eq_true rfl) dX12_isMessage_10 ⟨Nat.le_of_ble_eq_true rfl, Nat.le_of_ble_eq_true rfl⟩ (fun r_1 Φ1 sz1 st1 hp1 hs1 => ?_)
    obtain ⟨rfl, hq1, hI1, hF1⟩ := hp1
    subst sz1
    replace hs1 : st1 = [.int 1] := hs1
    subst st1
    exact z_ret_z B dX12_isMessage_13 (by decide) ⟨(Or.inr ⟨rfl, n_3, (show n_3 < qu by omega), rfl⟩), rfl, hI1, (fun b9 h9 => ((hF1 b9 (fun j9 h8 h7 => (show False from h7).elim)).trans rfl))⟩
  · refine z_callS (As := [.long a.toInt64, .long 0, .long ((nI qu - 1).toInt64)]) (rest := []) B (c_inR0 G l Φ sz a.toInt64 0 ((nI qu - 1).toInt64) hR1 (fun v8 Φ8 sz8 => v8 = some (.int 0) ∧ sz8 = sz ∧ Im G x (rd, nw, cr, tp, tt, sI, sT, pt, ql, fl, pe, le, nx, il, qu, kn, ec, nu, va, st, ep, ti, ad, ob, ra, rt, ex, sa, us, tk, th, me, dr, se, sn) Φ8 ∧ Fr x (fun j9 => False) Φ Φ8) ⟨rfl, rfl, hI, fun _ _ => rfl⟩) (va_cwS 3 B.1.2.2.2.2 gX12_isMessage_X12_inRange rfl rfl rfl (by decide +kernel) ⟨Nat.le_of_ble_eq_true rfl, Nat.le_of_ble_eq_true rfl⟩) rfl rfl (Nat.le_of_ble_eq_true rfl) dX12_isMessage_10 ⟨Nat.le_of_ble_eq_true rfl, Nat.le_of_ble_eq_true rfl⟩ (fun r_2 Φ2 sz2 st2 hp2 hs2 => ?_)
    obtain ⟨rfl, hq2, hI2, hF2⟩ := hp2
    subst sz2
    replace hs2 : st2 = [.int 0] := hs2
    subst st2
    exact z_ret_z B dX12_isMessage_13 (by decide) ⟨(Or.inl ⟨rfl, fun ⟨n9, h8, h9⟩ => hR1 (by subst h9; exact (in_nat (m := n9) (L := 0) (H := ((qu : Nat) : Int) - 1) (by decide) (predL (by omega)) (by omega)).mpr ⟨by omega, by omega⟩)⟩), rfl, hI2, (fun b9 h9 => ((hF2 b9 (fun j9 h8 h7 => (show False from h7).elim)).trans rfl))⟩

set_option maxHeartbeats 4000000 in
set_option maxRecDepth 100000 in
theorem r_deliver0 (G : EnvG) (l : Launch) (Φ : Hm) (sz x : Nat) (rd : (Nat → Int32) → Prop) (nw : (Nat → Int32) → Prop) (cr : (Nat → Int64) → Prop) (tp : (Nat → Int32) → Prop) (tt : (Nat → Int64) → Prop) (sI : (Nat → Int32) → Prop) (sT : (Nat → Int32) → Prop) (pt : (Nat → Int32) → Prop) (fl : Nat) (pe : Nat) (le : Nat) (nx : Nat) (il : Nat) (qu : Nat) (kn : Int32) (ec : Int32) (nu : Int32) (va : Int64) (st : Nat) (ep : Int32) (ti : Int32) (ad : Int32) (ob : Int64) (ra : Int32) (rt : Nat) (ex : Int32) (sa : Int64) (us : Int64) (tk : Nat) (th : Int32) (me : Int32) (dr : Int32) (se : Int64) (sn : Int64) (L : Nat → Nat) (hx : G.2.2.2 ≤ x) (hI : Im G x (rd, nw, cr, tp, tt, sI, sT, pt, (QlQ qu L), fl, pe, le, nx, il, qu, kn, ec, nu, va, st, ep, ti, ad, ob, ra, rt, ex, sa, us, tk, th, me, dr, se, sn) Φ) (hq : 1 ≤ qu) (hnw : ∀ f9 : Nat → Int32, nw f9 → NN f9) : CtD G l yX12_deliver wsX12_deliver ({ frames := 7, cells := 0, slots := 0, locals := 186 }) 0 0 [.ref x, .int 0] Φ sz (fun v Φ1 sz1 => (∃ r9 : Int32, v = some (.int r9)) ∧ sz1 = sz ∧ (∃ (le1 : Nat) (qu1 : Nat) (L1 : Nat → Nat) (th1 : Int32), (qu1 + 1 = qu) ∧ Im G x (rd, nw, cr, tp, tt, sI, sT, pt, (QlQ qu1 L1), fl, pe, le1, nx, il, qu1, kn, ec, nu, va, st, ep, ti, ad, ob, ra, rt, ex, sa, us, tk, th1, me, dr, se, sn) Φ1) ∧ Fr x (fun j9 => j9 = 0 ∨ j9 = 8 ∨ j9 = 9 ∨ j9 = 10 ∨ j9 = 11 ∨ j9 = 12 ∨ j9 = 13 ∨ j9 = 14 ∨ j9 = 15 ∨ j9 = 16 ∨ j9 = 17 ∨ j9 = 18 ∨ j9 = 19 ∨ j9 = 20 ∨ j9 = 21 ∨ j9 = 22) Φ Φ1) := by
  refine CtD.of (cc := cX12_deliver) (maxL := 3) (ret := (some .int)) (by decide) rfl (Nat.le_of_ble_eq_true rfl) ?_
  intro p9 e9 s9 m9 w9 t9 k9 d9 hd9 B
  show Z p9 l e9 _ (s9.setDrawn d9) m9 _ w9 t9 k9 _ G 3 0 [(0, .ref x), (1, .int 0)] [] Φ sz 0 0
  refine z_aload_n B dX12_deliver_0 rfl 0 rfl ?_
  refine z_iconst (v := 0) B dX12_deliver_1 rfl ?_
  obtain ⟨n_1, v_1, n_2, h_1, b_13, b_1, b_2, b_3, b_4, b_5, b_6, b_7, b_8, b_9, b_10, b_11, b_12⟩ := im0 hI
  replace b_1 : 1 ≤ rt := b_1
  replace b_2 : rt ≤ 1024 := b_2
  replace b_3 : fl ≤ 12 := b_3
  replace b_4 : pe ≤ 24 := b_4
  replace b_5 : le ≤ 700 := b_5
  replace b_6 : qu ≤ 12 := b_6
  replace b_7 : n_1 ≤ 8 := b_7
  replace b_8 : n_2 ≤ 24 := b_8
  replace b_9 : tk ≤ 24 := b_9
  replace b_10 : il ≤ 700 := b_10
  replace b_11 : nx ≤ 701 := b_11
  replace b_12 : st ≤ 701 := b_12
  have h_2 : Φ x = some (o_ 14 [.int th, .ref (x + 1), .ref (x + 2), .int ti, .int ra, .int (nI rt), .int ex, .int ad, .ref (x + 3), .ref (x + 4), .int me, .long se, .ref (x + 5), .int (nI fl), .int dr, .long ob, .long sa, .long sn, .long us, .ref (x + 6), .ref (x + 7), .int (nI pe), .ref (x + 8), .int (nI le), .ref (x + 9), .ref (x + 10), .int (nI qu), .ref (x + 11), .ref (x + 12), .ref (x + 13), .ref (x + 14), .ref (x + 15), .ref (x + 16), .int (nI n_1), .long v_1, .ref (x + 17), .ref (x + 18), .ref (x + 19), .ref (x + 20), .ref (x + 21), .ref (x + 22), .int (nI n_2), .ref (x + 23), .ref (x + 24), .int (nI tk), .ref (x + 25), .int (nI il), .int (nI nx), .int ec, .int ep, .int kn, .int (nI st), .int nu, .long va]) := h_1
  refine z_put (ref := "FlowExporterModel") (C := RX12) (T := TX12) (N := 54) (ci := 14) (v := .int 0) B hu_X12_deliver_X12 tyX12 tyX12_ok nmX12 rfl 0 (Nat.le_of_ble_eq_true rfl) hv_X12_deliver_1 rfl (Or.inl rfl) h_2 hx rfl rfl (Nat.le_of_ble_eq_true rfl) dX12_deliver_2 (fun Φ1 hΦ1 => ?_)
  have h_3 : Φ1 x = some (o_ 14 [.int 0, .ref (x + 1), .ref (x + 2), .int ti, .int ra, .int (nI rt), .int ex, .int ad, .ref (x + 3), .ref (x + 4), .int me, .long se, .ref (x + 5), .int (nI fl), .int dr, .long ob, .long sa, .long sn, .long us, .ref (x + 6), .ref (x + 7), .int (nI pe), .ref (x + 8), .int (nI le), .ref (x + 9), .ref (x + 10), .int (nI qu), .ref (x + 11), .ref (x + 12), .ref (x + 13), .ref (x + 14), .ref (x + 15), .ref (x + 16), .int (nI n_1), .long v_1, .ref (x + 17), .ref (x + 18), .ref (x + 19), .ref (x + 20), .ref (x + 21), .ref (x + 22), .int (nI n_2), .ref (x + 23), .ref (x + 24), .int (nI tk), .ref (x + 25), .int (nI il), .int (nI nx), .int ec, .int ep, .int kn, .int (nI st), .int nu, .long va]) := fset_at hΦ1
  have hI1 : Im G x (rd, nw, cr, tp, tt, sI, sT, pt, (QlQ qu L), fl, pe, le, nx, il, qu, kn, ec, nu, va, st, ep, ti, ad, ob, ra, rt, ex, sa, us, tk, 0, me, dr, se, sn) Φ1 := Im.put0 hI hΦ1 ⟨n_1, v_1, n_2, rfl, b_13, b_1, b_2, b_3, b_4, b_5, b_6, b_7, b_8, b_9, b_10, b_11, b_12⟩
  refine z_aload_n B dX12_deliver_5 rfl 0 rfl ?_
  refine z_aload_n B dX12_deliver_6 rfl 0 rfl ?_
  refine z_iload_n B dX12_deliver_7 rfl 1 rfl ?_
  refine z_callV (As := [.int 0]) (rest := [.ref x]) B (r_isMessageE G l Φ1 sz x rd nw cr tp tt sI sT pt (QlQ qu L) fl pe le nx il qu kn ec nu va st ep ti ad ob ra rt ex sa us tk 0 me dr se sn 0 hx hI1 hnw) (cwV 1 B.1.2.2.2.2 gX12_deliver_X12_isMessage rfl rfl rfl (by decide +kernel) ⟨Nat.le_of_ble_eq_true rfl, Nat.le_of_ble_eq_true rfl⟩) h_3 rfl rfl rfl rfl (Nat.le_of_ble_eq_true rfl) dX12_deliver_8 ⟨Nat.le_of_ble_eq_true rfl, Nat.le_of_ble_eq_true rfl⟩ (fun r_1 Φ2 sz1 st1 hp1 hs1 => ?_)
  obtain ⟨ha1, hq1, hI2, hF1⟩ := hp1
  subst sz1
  replace hI2 : Im G x (rd, nw, cr, tp, tt, sI, sT, pt, (QlQ qu L), fl, pe, le, nx, il, qu, kn, ec, nu, va, st, ep, ti, ad, ob, ra, rt, ex, sa, us, tk, 0, me, dr, se, sn) Φ2 := hI2
  rcases ha1 with ⟨rfl, q_1⟩ | ⟨rfl, n_3, b_14, e_1⟩
  · exact (q_1 ⟨0, by omega, rfl⟩).elim
  · replace hs1 : st1 = [.int 1, .ref x] := hs1
    subst st1
    refine z_if_ne (tgt := 18) B dX12_deliver_11 rfl (fun c_1 => ?_) (fun h9 => absurd h9 (by decide))
    refine z_iconst (v := 0) B dX12_deliver_18 rfl ?_
    refine z_iconst (v := 1) B dX12_deliver_19 rfl ?_
    have h_4 : Φ2 x = some (o_ 14 [.int 0, .ref (x + 1), .ref (x + 2), .int ti, .int ra, .int (nI rt), .int ex, .int ad, .ref (x + 3), .ref (x + 4), .int me, .long se, .ref (x + 5), .int (nI fl), .int dr, .long ob, .long sa, .long sn, .long us, .ref (x + 6), .ref (x + 7), .int (nI pe), .ref (x + 8), .int (nI le), .ref (x + 9), .ref (x + 10), .int (nI qu), .ref (x + 11), .ref (x + 12), .ref (x + 13), .ref (x + 14), .ref (x + 15), .ref (x + 16), .int (nI n_1), .long v_1, .ref (x + 17), .ref (x + 18), .ref (x + 19), .ref (x + 20), .ref (x + 21), .ref (x + 22), .int (nI n_2), .ref (x + 23), .ref (x + 24), .int (nI tk), .ref (x + 25), .int (nI il), .int (nI nx), .int ec, .int ep, .int kn, .int (nI st), .int nu, .long va]) := ((hF1 x (fun j9 h8 h7 => (show False from h7).elim)).trans h_3)
    refine z_callV (As := [.int 0, .int 1]) (rest := []) B (r_throwsIf G l Φ2 sz x rd nw cr tp tt sI sT pt (QlQ qu L) fl pe le nx il qu kn ec nu va st ep ti ad ob ra rt ex sa us tk 0 me dr se sn 0 1 hx hI2 (by decide) hnw) (cwV 2 B.1.2.2.2.2 gX12_deliver_X12_throwsIf rfl rfl rfl (by decide +kernel) ⟨Nat.le_of_ble_eq_true rfl, Nat.le_of_ble_eq_true rfl⟩) h_4 rfl rfl rfl rfl (Nat.le_of_ble_eq_true rfl) dX12_deliver_20 ⟨Nat.le_of_ble_eq_true rfl, Nat.le_of_ble_eq_true rfl⟩ (fun r_2 Φ3 sz2 st2 hp2 hs2 => ?_)
    obtain ⟨rfl, hq2, ⟨v_2, hI3⟩, hF2⟩ := hp2
    subst sz2
    replace hs2 : st2 = [.int 0] := hs2
    subst st2
    replace hI3 : Im G x (rd, nw, cr, tp, tt, sI, sT, pt, (QlQ qu L), fl, pe, le, nx, il, qu, kn, ec, nu, va, st, ep, ti, ad, ob, ra, rt, ex, sa, us, tk, v_2, me, dr, se, sn) Φ3 := hI3
    refine z_if_eq (tgt := 28) B dX12_deliver_23 rfl (fun c_2 => ?_) (fun h9 => absurd (by decide) h9)
    refine z_iconst (v := 0) B dX12_deliver_28 rfl ?_
    refine z_istore_n (lv' := [(2, .int 0), (0, .ref x), (1, .int 0)]) B dX12_deliver_29 rfl (Nat.le_of_ble_eq_true rfl) rfl ?_
    refine z_lv [0, 1, 2] rfl ?_
    refine z_loopD (s0 := s9) (α := Nat) (fun (a9 : Nat) Φi => Im G x (rd, nw, cr, tp, tt, sI, sT, pt, (QlQ qu L), fl, pe, le, nx, il, qu, kn, ec, nu, va, st, ep, ti, ad, ob, ra, rt, ex, sa, us, tk, v_2, me, dr, se, sn) Φi ∧ Fr x (fun j9 => j9 = 8) Φ3 Φi ∧ (a9 ≤ 600) ∧ True) (fun a9 => [(2, .int (nI a9)), (0, .ref x), (1, .int 0)]) (fun a9 => 600 - a9) ?_ hd9 (0) ⟨hI3, fun _ _ => rfl, (show 0 ≤ 600 by omega), trivial⟩
    intro d_1 hdr1
    have B : Bd p9 (s9.setDrawn d_1) m9 _ t9 k9 G _ _ _ _ _ _ := Bd.drawn B d_1
    rintro i_1 Φl1 ⟨hI4, hF3, b_15, -⟩ ih1
    replace hI4 : Im G x (rd, nw, cr, tp, tt, sI, sT, pt, (QlQ qu L), fl, pe, le, nx, il, qu, kn, ec, nu, va, st, ep, ti, ad, ob, ra, rt, ex, sa, us, tk, v_2, me, dr, se, sn) Φl1 := hI4
    replace b_15 : i_1 ≤ 600 := b_15
    show Z p9 l e9 _ (s9.setDrawn d_1) m9 _ w9 t9 k9 _ G 3 30 [(2, .int (nI i_1)), (0, .ref x), (1, .int 0)] [] Φl1 _ _ _
    refine z_iload_n B dX12_deliver_30 rfl 0 rfl ?_
    refine z_aload_n B dX12_deliver_31 rfl 1 rfl ?_
    obtain ⟨n_4, v_3, n_5, h_5, b_28, b_16, b_17, b_18, b_19, b_20, b_21, b_22, b_23, b_24, b_25, b_26, b_27⟩ := im0 hI4
    replace b_16 : 1 ≤ rt := b_16
    replace b_17 : rt ≤ 1024 := b_17
    replace b_18 : fl ≤ 12 := b_18
    replace b_19 : pe ≤ 24 := b_19
    replace b_20 : le ≤ 700 := b_20
    replace b_21 : qu ≤ 12 := b_21
    replace b_22 : n_4 ≤ 8 := b_22
    replace b_23 : n_5 ≤ 24 := b_23
    replace b_24 : tk ≤ 24 := b_24
    replace b_25 : il ≤ 700 := b_25
    replace b_26 : nx ≤ 701 := b_26
    replace b_27 : st ≤ 701 := b_27
    have h_6 : Φl1 x = some (o_ 14 [.int v_2, .ref (x + 1), .ref (x + 2), .int ti, .int ra, .int (nI rt), .int ex, .int ad, .ref (x + 3), .ref (x + 4), .int me, .long se, .ref (x + 5), .int (nI fl), .int dr, .long ob, .long sa, .long sn, .long us, .ref (x + 6), .ref (x + 7), .int (nI pe), .ref (x + 8), .int (nI le), .ref (x + 9), .ref (x + 10), .int (nI qu), .ref (x + 11), .ref (x + 12), .ref (x + 13), .ref (x + 14), .ref (x + 15), .ref (x + 16), .int (nI n_4), .long v_3, .ref (x + 17), .ref (x + 18), .ref (x + 19), .ref (x + 20), .ref (x + 21), .ref (x + 22), .int (nI n_5), .ref (x + 23), .ref (x + 24), .int (nI tk), .ref (x + 25), .int (nI il), .int (nI nx), .int ec, .int ep, .int kn, .int (nI st), .int nu, .long va]) := h_5
    refine z_get (ref := "FlowExporterModel") (C := RX12) (T := TX12) (N := 54) (ci := 14) (v := .ref (x + 10)) B hu_X12_deliver_X12 rfl 25 (Nat.le_of_ble_eq_true rfl) hv_X12_deliver_42 rfl h_6 rfl dX12_deliver_32 ?_
    refine z_iload_n B dX12_deliver_35 rfl 2 rfl ?_
    obtain ⟨f_1, h_7, r_3, r_4⟩ := imk (k := 10) hI4
    replace r_4 : (QlQ qu L) f_1 := r_4
    replace r_3 : Rw 600 f_1 := r_3
    have h_8 : Φl1 (x + 10) = some (ai_ G 12 f_1) := h_7
    refine z_iald B h_8 (vin rfl) dX12_deliver_36 ?_
    obtain ⟨n_6, b_29, e_2⟩ := r_3 ((0 : Int32).toNatClampNeg)
    refine z_top (st1 := [.int (nI n_6), .int (nI i_1)]) (congrArg (fun w9 : Int32 => ([.int w9, .int (nI i_1)] : List Value)) (e_2)) ?_
    refine z_icmp_ge (tgt := 64) B dX12_deliver_37 rfl (fun c_3 => ?_) (fun c_3 => ?_)
    · have e_3 : n_6 ≤ i_1 := (nI_leI (a := n_6) (b := i_1) (by omega) (by omega)).mp c_3
      refine z_aload_n B dX12_deliver_64 rfl 1 rfl ?_
      refine z_aload_n B dX12_deliver_65 rfl 1 rfl ?_
      refine z_get (ref := "FlowExporterModel") (C := RX12) (T := TX12) (N := 54) (ci := 14) (v := .ref (x + 10)) B hu_X12_deliver_X12 rfl 25 (Nat.le_of_ble_eq_true rfl) hv_X12_deliver_42 rfl h_6 rfl dX12_deliver_66 ?_
      refine z_iload_n B dX12_deliver_69 rfl 2 rfl ?_
      refine z_iald B h_8 (vin rfl) dX12_deliver_70 ?_
      obtain ⟨n_7, b_30, e_4⟩ := r_3 ((0 : Int32).toNatClampNeg)
      refine z_top (st1 := [.int (nI n_7), .ref x]) (congrArg (fun w9 : Int32 => ([.int w9, .ref x] : List Value)) (e_4)) ?_
      refine z_put (ref := "FlowExporterModel") (C := RX12) (T := TX12) (N := 54) (ci := 14) (v := .int (nI n_7)) B hu_X12_deliver_X12 tyX12 tyX12_ok nmX12 rfl 23 (Nat.le_of_ble_eq_true rfl) hv_X12_deliver_280 rfl (Or.inl rfl) h_6 hx rfl rfl (Nat.le_of_ble_eq_true rfl) dX12_deliver_71 (fun Φ4 hΦ2 => ?_)
      have h_9 : Φ4 x = some (o_ 14 [.int v_2, .ref (x + 1), .ref (x + 2), .int ti, .int ra, .int (nI rt), .int ex, .int ad, .ref (x + 3), .ref (x + 4), .int me, .long se, .ref (x + 5), .int (nI fl), .int dr, .long ob, .long sa, .long sn, .long us, .ref (x + 6), .ref (x + 7), .int (nI pe), .ref (x + 8), .int (nI n_7), .ref (x + 9), .ref (x + 10), .int (nI qu), .ref (x + 11), .ref (x + 12), .ref (x + 13), .ref (x + 14), .ref (x + 15), .ref (x + 16), .int (nI n_4), .long v_3, .ref (x + 17), .ref (x + 18), .ref (x + 19), .ref (x + 20), .ref (x + 21), .ref (x + 22), .int (nI n_5), .ref (x + 23), .ref (x + 24), .int (nI tk), .ref (x + 25), .int (nI il), .int (nI nx), .int ec, .int ep, .int kn, .int (nI st), .int nu, .long va]) := fset_at hΦ2
      have hI5 : Im G x (rd, nw, cr, tp, tt, sI, sT, pt, (QlQ qu L), fl, pe, n_7, nx, il, qu, kn, ec, nu, va, st, ep, ti, ad, ob, ra, rt, ex, sa, us, tk, v_2, me, dr, se, sn) Φ4 := Im.put0 hI4 hΦ2 ⟨n_4, v_3, n_5, rfl, b_28, b_16, b_17, b_18, b_19, (show n_7 ≤ 700 by omega), b_21, b_22, b_23, b_24, b_25, b_26, b_27⟩
      refine z_aload_n B dX12_deliver_74 rfl 1 rfl ?_
      refine z_iload_n B dX12_deliver_75 rfl 2 rfl ?_
      refine z_callV (As := [.int 0]) (rest := []) B (r_remove G l Φ4 sz x rd nw cr tp tt sI sT pt fl pe n_7 nx il qu kn ec nu va st ep ti ad ob ra rt ex sa us tk v_2 me dr se sn L 0 hx hI5 (show 0 < qu by omega) hnw) (cwV 1 B.1.2.2.2.2 gX12_deliver_X12_remove rfl rfl rfl (by decide +kernel) ⟨Nat.le_of_ble_eq_true rfl, Nat.le_of_ble_eq_true rfl⟩) h_9 rfl rfl rfl rfl (Nat.le_of_ble_eq_true rfl) dX12_deliver_76 ⟨Nat.le_of_ble_eq_true rfl, Nat.le_of_ble_eq_true rfl⟩ (fun r_5 Φ5 sz3 st3 hp3 hs3 => ?_)
      obtain ⟨rfl, hq3, hI6, hF4⟩ := hp3
      subst sz3
      replace hs3 : st3 = [] := hs3
      subst st3
      replace hI6 : Im G x (rd, nw, cr, tp, tt, sI, sT, pt, QlQ (qu - 1) (rmL L 0), fl, pe, n_7, nx, il, qu - 1, kn, ec, nu, va, st, ep, ti, ad, ob, ra, rt, ex, sa, us, tk, v_2, me, dr, se, sn) Φ5 := hI6
      refine z_aload_n B dX12_deliver_79 rfl 1 rfl ?_
      obtain ⟨n_8, v_4, n_9, h_10, b_43, b_31, b_32, b_33, b_34, b_35, b_36, b_37, b_38, b_39, b_40, b_41, b_42⟩ := im0 hI6
      replace b_31 : 1 ≤ rt := b_31
      replace b_32 : rt ≤ 1024 := b_32
      replace b_33 : fl ≤ 12 := b_33
      replace b_34 : pe ≤ 24 := b_34
      replace b_35 : n_7 ≤ 700 := b_35
      replace b_36 : qu - 1 ≤ 12 := b_36
      replace b_37 : n_8 ≤ 8 := b_37
      replace b_38 : n_9 ≤ 24 := b_38
      replace b_39 : tk ≤ 24 := b_39
      replace b_40 : il ≤ 700 := b_40
      replace b_41 : nx ≤ 701 := b_41
      replace b_42 : st ≤ 701 := b_42
      have h_11 : Φ5 x = some (o_ 14 [.int v_2, .ref (x + 1), .ref (x + 2), .int ti, .int ra, .int (nI rt), .int ex, .int ad, .ref (x + 3), .ref (x + 4), .int me, .long se, .ref (x + 5), .int (nI fl), .int dr, .long ob, .long sa, .long sn, .long us, .ref (x + 6), .ref (x + 7), .int (nI pe), .ref (x + 8), .int (nI n_7), .ref (x + 9), .ref (x + 10), .int (nI (qu - 1)), .ref (x + 11), .ref (x + 12), .ref (x + 13), .ref (x + 14), .ref (x + 15), .ref (x + 16), .int (nI n_8), .long v_4, .ref (x + 17), .ref (x + 18), .ref (x + 19), .ref (x + 20), .ref (x + 21), .ref (x + 22), .int (nI n_9), .ref (x + 23), .ref (x + 24), .int (nI tk), .ref (x + 25), .int (nI il), .int (nI nx), .int ec, .int ep, .int kn, .int (nI st), .int nu, .long va]) := h_10
      refine zd_callV (As := []) (rest := []) B (r_accept G l Φ5 sz x rd nw cr tp tt sI sT pt (QlQ (qu - 1) (rmL L 0)) fl pe n_7 nx il (qu - 1) kn ec nu va st ep ti ad ob ra rt ex sa us tk v_2 me dr se sn  hx hI6 hnw) (cwV 0 B.1.2.2.2.2 gX12_deliver_X12_accept rfl rfl rfl (by decide +kernel) ⟨Nat.le_of_ble_eq_true rfl, Nat.le_of_ble_eq_true rfl⟩) h_11 rfl rfl rfl rfl (Nat.le_of_ble_eq_true rfl) dX12_deliver_80 ⟨Nat.le_of_ble_eq_true rfl, Nat.le_of_ble_eq_true rfl⟩ (fun d_2 hdr3 r_6 Φ6 sz4 st4 hp4 hs4 => ?_)
      have hdr4 := Drawn.sameBut.trans hdr1 hdr3
      have B : Bd p9 (s9.setDrawn d_2) m9 _ t9 k9 G _ _ _ _ _ _ := Bd.drawn B d_2
      show Z p9 l e9 _ (s9.setDrawn d_2) m9 _ w9 t9 k9 _ G _ _ _ _ _ _ _ _
      obtain ⟨⟨v_5, rfl⟩, hq4, hI7, hF5⟩ := hp4
      subst sz4
      replace hs4 : st4 = [.int v_5] := hs4
      subst st4
      replace hI7 : Im G x (rd, nw, cr, tp, tt, sI, sT, pt, QlQ (qu - 1) (rmL L 0), fl, pe, n_7, nx, il, qu - 1, kn, ec, nu, va, st, ep, ti, ad, ob, ra, rt, ex, sa, us, tk, v_2, me, dr, se, sn) Φ6 := hI7
      exact zd_end hdr4 (z_ret_i B dX12_deliver_83 ⟨⟨_, rfl⟩, rfl, ⟨n_7, qu - 1, (rmL L 0), v_2, (show (qu - 1) + 1 = qu by omega), hI7⟩, (fun b9 h9 => ((hF5 b9 (fun j9 h8 h7 => h9 j9 h8 (fq_1325 j9 h7))).trans ((hF4 b9 (fun j9 h8 h7 => h9 j9 h8 (fq_1324 j9 h7))).trans ((fset_fr hΦ2 (fun h8 => h9 (0) h8 (show 0 = 0 ∨ 0 = 8 ∨ 0 = 9 ∨ 0 = 10 ∨ 0 = 11 ∨ 0 = 12 ∨ 0 = 13 ∨ 0 = 14 ∨ 0 = 15 ∨ 0 = 16 ∨ 0 = 17 ∨ 0 = 18 ∨ 0 = 19 ∨ 0 = 20 ∨ 0 = 21 ∨ 0 = 22 by decide))).trans ((hF3 b9 (fun j9 h8 h7 => h9 j9 h8 (fq_1323 j9 h7))).trans ((hF2 b9 (fun j9 h8 h7 => h9 j9 h8 (fq_1320 j9 h7))).trans ((hF1 b9 (fun j9 h8 h7 => (show False from h7).elim)).trans ((fset_fr hΦ1 (fun h8 => h9 (0) h8 (show 0 = 0 ∨ 0 = 8 ∨ 0 = 9 ∨ 0 = 10 ∨ 0 = 11 ∨ 0 = 12 ∨ 0 = 13 ∨ 0 = 14 ∨ 0 = 15 ∨ 0 = 16 ∨ 0 = 17 ∨ 0 = 18 ∨ 0 = 19 ∨ 0 = 20 ∨ 0 = 21 ∨ 0 = 22 by decide))).trans rfl))))))))⟩)
    · have e_5 : ¬ (n_6 ≤ i_1) := fun h9 => c_3 ((nI_leI (a := n_6) (b := i_1) (by omega) (by omega)).mpr h9)
      refine z_aload_n B dX12_deliver_40 rfl 1 rfl ?_
      refine z_get (ref := "FlowExporterModel") (C := RX12) (T := TX12) (N := 54) (ci := 14) (v := .ref (x + 8)) B hu_X12_deliver_X12 rfl 22 (Nat.le_of_ble_eq_true rfl) hv_X12_deliver_36 rfl h_6 rfl dX12_deliver_41 ?_
      refine z_iload_n B dX12_deliver_44 rfl 0 rfl ?_
      refine z_aload_n B dX12_deliver_45 rfl 1 rfl ?_
      refine z_get (ref := "FlowExporterModel") (C := RX12) (T := TX12) (N := 54) (ci := 14) (v := .ref (x + 9)) B hu_X12_deliver_X12 rfl 24 (Nat.le_of_ble_eq_true rfl) hv_X12_deliver_39 rfl h_6 rfl dX12_deliver_46 ?_
      refine z_sipush (v := 600) B dX12_deliver_49 rfl ?_
      refine z_iload_n B dX12_deliver_52 rfl 2 rfl ?_
      refine z_imul B dX12_deliver_53 ?_
      refine z_top (st1 := [.int 0, .ref (x + 9), .int (nI i_1), .ref (x + 8)]) (congrArg (fun w9 : Int32 => ([.int w9, .ref (x + 9), .int (nI i_1), .ref (x + 8)] : List Value)) (show (600 * 0 : Int32) = 0 by decide +kernel)) ?_
      refine z_iload_n B dX12_deliver_54 rfl 0 rfl ?_
      refine z_iadd B dX12_deliver_55 ?_
      refine z_top (st1 := [.int (nI (0 + i_1)), .ref (x + 9), .int (nI i_1), .ref (x + 8)]) (congrArg (fun w9 : Int32 => ([.int w9, .ref (x + 9), .int (nI i_1), .ref (x + 8)] : List Value)) (nI_add 0 i_1)) ?_
      obtain ⟨f_2, h_12, r_7⟩ := imk (k := 9) hI4
      replace r_7 : Rw 255 f_2 := r_7
      have h_13 : Φl1 (x + 9) = some (ai_ G 7200 f_2) := h_12
      refine z_iald B h_13 (vp_in_nI (by omega) (by omega)) dX12_deliver_56 ?_
      obtain ⟨n_10, b_44, e_6⟩ := r_7 ((nI (0 + i_1)).toNatClampNeg)
      refine z_top (st1 := [.int (nI n_10), .int (nI i_1), .ref (x + 8)]) (congrArg (fun w9 : Int32 => ([.int w9, .int (nI i_1), .ref (x + 8)] : List Value)) (e_6)) ?_
      obtain ⟨f_3, h_14, r_8⟩ := imk (k := 8) hI4
      replace r_8 : Rw 255 f_3 := r_8
      have h_15 : Φl1 (x + 8) = some (ai_ G 700 f_3) := h_14
      refine z_iast B h_15 (Nat.le_trans hx (Nat.le_add_right x 8)) (vp_in_nI (by omega) (by omega)) dX12_deliver_57 (fun Φ7 hΦ3 => ?_)
      have h_16 : Φ7 (x + 8) = some (ai_ G 700 (upd f_3 (nI i_1).toNatClampNeg (nI n_10))) := fset_at hΦ3
      have hI8 : Im G x (rd, nw, cr, tp, tt, sI, sT, pt, (QlQ qu L), fl, pe, le, nx, il, qu, kn, ec, nu, va, st, ep, ti, ad, ob, ra, rt, ex, sa, us, tk, v_2, me, dr, se, sn) Φ7 := Im.put (k := 8) hI4 hΦ3 ⟨_, rfl, Rw.up (n := n_10) r_8 (show n_10 ≤ 255 by omega)⟩
      refine z_iinc (k := 0) (v := nI (i_1 + 1)) (lv' := [(2, .int (nI (i_1 + 1))), (0, .ref x), (1, .int 0)]) B dX12_deliver_58 rfl (nI_add i_1 1) (Nat.le_of_ble_eq_true rfl) rfl ?_
      refine z_goto (tgt := 30) B dX12_deliver_61 rfl ?_
      refine z_lv [0, 1, 2] rfl ?_
      exact ih1 d_1 hdr1 (i_1 + 1) Φ7 (show 600 - (i_1 + 1) < 600 - i_1 by omega) ⟨hI8, (fun b9 h9 => ((fset_fr hΦ3 (fun h8 => h9 (8) h8 (show 8 = 8 by decide))).trans ((hF3 b9 h9).trans rfl))), (show (i_1 + 1) ≤ 600 by omega), trivial⟩

theorem hu_X12_deliverAll_X12 : ∀ w ∈ u_ws RX12 TX12 54, w ∈ wsX12_deliverAll := fun _ h => List.mem_cons_of_mem _ (List.mem_append_left _ (List.mem_append_right _ (h)))

theorem hv_X12_deliverAll_1 : Cond.fieldLink RX12 1 "FlowExporterModel" (TX12 0).2.1 (TX12 0).2.2.1 ∈ wsX12_deliverAll := List.mem_cons_of_mem _ (List.mem_append_left _ (List.mem_append_left _ (List.mem_append_left _ (List.mem_of_getElem? (i := 0) rfl))))

theorem hv_X12_deliverAll_139 : Cond.fieldLink RX12 139 "FlowExporterModel" (TX12 26).2.1 (TX12 26).2.2.1 ∈ wsX12_deliverAll := List.mem_cons_of_mem _ (List.mem_append_left _ (List.mem_append_left _ (List.mem_append_left _ (List.mem_of_getElem? (i := 1) rfl))))

set_option maxHeartbeats 4000000 in
set_option maxRecDepth 100000 in
theorem r_deliverAll (G : EnvG) (l : Launch) (Φ : Hm) (sz x : Nat) (rd : (Nat → Int32) → Prop) (nw : (Nat → Int32) → Prop) (cr : (Nat → Int64) → Prop) (tp : (Nat → Int32) → Prop) (tt : (Nat → Int64) → Prop) (sI : (Nat → Int32) → Prop) (sT : (Nat → Int32) → Prop) (pt : (Nat → Int32) → Prop) (fl : Nat) (pe : Nat) (le : Nat) (nx : Nat) (il : Nat) (qu : Nat) (kn : Int32) (ec : Int32) (nu : Int32) (va : Int64) (st : Nat) (ep : Int32) (ti : Int32) (ad : Int32) (ob : Int64) (ra : Int32) (rt : Nat) (ex : Int32) (sa : Int64) (us : Int64) (tk : Nat) (th : Int32) (me : Int32) (dr : Int32) (se : Int64) (sn : Int64) (L : Nat → Nat) (hx : G.2.2.2 ≤ x) (hI : Im G x (rd, nw, cr, tp, tt, sI, sT, pt, (QlQ qu L), fl, pe, le, nx, il, qu, kn, ec, nu, va, st, ep, ti, ad, ob, ra, rt, ex, sa, us, tk, th, me, dr, se, sn) Φ) (hnw : ∀ f9 : Nat → Int32, nw f9 → NN f9) : CtD G l yX12_deliverAll wsX12_deliverAll ({ frames := 8, cells := 0, slots := 0, locals := 208 }) 0 0 [.ref x] Φ sz (fun v Φ1 sz1 => (∃ r9 : Int32, v = some (.int r9)) ∧ sz1 = sz ∧ (∃ (le1 : Nat) (qu1 : Nat) (L1 : Nat → Nat) (th1 : Int32), (qu1 = 0) ∧ Im G x (rd, nw, cr, tp, tt, sI, sT, pt, (QlQ qu1 L1), fl, pe, le1, nx, il, qu1, kn, ec, nu, va, st, ep, ti, ad, ob, ra, rt, ex, sa, us, tk, th1, me, dr, se, sn) Φ1) ∧ Fr x (fun j9 => j9 = 0 ∨ j9 = 8 ∨ j9 = 9 ∨ j9 = 10 ∨ j9 = 11 ∨ j9 = 12 ∨ j9 = 13 ∨ j9 = 14 ∨ j9 = 15 ∨ j9 = 16 ∨ j9 = 17 ∨ j9 = 18 ∨ j9 = 19 ∨ j9 = 20 ∨ j9 = 21 ∨ j9 = 22) Φ Φ1) := by
  refine CtD.of (cc := cX12_deliverAll) (maxL := 2) (ret := (some .int)) (by decide) rfl (Nat.le_of_ble_eq_true rfl) ?_
  intro p9 e9 s9 m9 w9 t9 k9 d9 hd9 B
  show Z p9 l e9 _ (s9.setDrawn d9) m9 _ w9 t9 k9 _ G 2 0 [(0, .ref x)] [] Φ sz 0 0
  refine z_aload_n B dX12_deliverAll_0 rfl 0 rfl ?_
  refine z_iconst (v := 0) B dX12_deliverAll_1 rfl ?_
  obtain ⟨n_1, v_1, n_2, h_1, b_13, b_1, b_2, b_3, b_4, b_5, b_6, b_7, b_8, b_9, b_10, b_11, b_12⟩ := im0 hI
  replace b_1 : 1 ≤ rt := b_1
  replace b_2 : rt ≤ 1024 := b_2
  replace b_3 : fl ≤ 12 := b_3
  replace b_4 : pe ≤ 24 := b_4
  replace b_5 : le ≤ 700 := b_5
  replace b_6 : qu ≤ 12 := b_6
  replace b_7 : n_1 ≤ 8 := b_7
  replace b_8 : n_2 ≤ 24 := b_8
  replace b_9 : tk ≤ 24 := b_9
  replace b_10 : il ≤ 700 := b_10
  replace b_11 : nx ≤ 701 := b_11
  replace b_12 : st ≤ 701 := b_12
  have h_2 : Φ x = some (o_ 14 [.int th, .ref (x + 1), .ref (x + 2), .int ti, .int ra, .int (nI rt), .int ex, .int ad, .ref (x + 3), .ref (x + 4), .int me, .long se, .ref (x + 5), .int (nI fl), .int dr, .long ob, .long sa, .long sn, .long us, .ref (x + 6), .ref (x + 7), .int (nI pe), .ref (x + 8), .int (nI le), .ref (x + 9), .ref (x + 10), .int (nI qu), .ref (x + 11), .ref (x + 12), .ref (x + 13), .ref (x + 14), .ref (x + 15), .ref (x + 16), .int (nI n_1), .long v_1, .ref (x + 17), .ref (x + 18), .ref (x + 19), .ref (x + 20), .ref (x + 21), .ref (x + 22), .int (nI n_2), .ref (x + 23), .ref (x + 24), .int (nI tk), .ref (x + 25), .int (nI il), .int (nI nx), .int ec, .int ep, .int kn, .int (nI st), .int nu, .long va]) := h_1
  refine z_put (ref := "FlowExporterModel") (C := RX12) (T := TX12) (N := 54) (ci := 14) (v := .int 0) B hu_X12_deliverAll_X12 tyX12 tyX12_ok nmX12 rfl 0 (Nat.le_of_ble_eq_true rfl) hv_X12_deliverAll_1 rfl (Or.inl rfl) h_2 hx rfl rfl (Nat.le_of_ble_eq_true rfl) dX12_deliverAll_2 (fun Φ1 hΦ1 => ?_)
  have h_3 : Φ1 x = some (o_ 14 [.int 0, .ref (x + 1), .ref (x + 2), .int ti, .int ra, .int (nI rt), .int ex, .int ad, .ref (x + 3), .ref (x + 4), .int me, .long se, .ref (x + 5), .int (nI fl), .int dr, .long ob, .long sa, .long sn, .long us, .ref (x + 6), .ref (x + 7), .int (nI pe), .ref (x + 8), .int (nI le), .ref (x + 9), .ref (x + 10), .int (nI qu), .ref (x + 11), .ref (x + 12), .ref (x + 13), .ref (x + 14), .ref (x + 15), .ref (x + 16), .int (nI n_1), .long v_1, .ref (x + 17), .ref (x + 18), .ref (x + 19), .ref (x + 20), .ref (x + 21), .ref (x + 22), .int (nI n_2), .ref (x + 23), .ref (x + 24), .int (nI tk), .ref (x + 25), .int (nI il), .int (nI nx), .int ec, .int ep, .int kn, .int (nI st), .int nu, .long va]) := fset_at hΦ1
  have hI1 : Im G x (rd, nw, cr, tp, tt, sI, sT, pt, (QlQ qu L), fl, pe, le, nx, il, qu, kn, ec, nu, va, st, ep, ti, ad, ob, ra, rt, ex, sa, us, tk, 0, me, dr, se, sn) Φ1 := Im.put0 hI hΦ1 ⟨n_1, v_1, n_2, rfl, b_13, b_1, b_2, b_3, b_4, b_5, b_6, b_7, b_8, b_9, b_10, b_11, b_12⟩
  refine z_iconst (v := 0) B dX12_deliverAll_5 rfl ?_
  refine z_istore_n (lv' := [(1, .int 0), (0, .ref x)]) B dX12_deliverAll_6 rfl (Nat.le_of_ble_eq_true rfl) rfl ?_
  refine z_lv [0, 1] rfl ?_
  refine z_loopD (s0 := s9) (α := Int32 × Nat × Nat × Int32 × (Nat → Nat)) (fun (a9 : Int32 × Nat × Nat × Int32 × (Nat → Nat)) Φi => Im G x (rd, nw, cr, tp, tt, sI, sT, pt, (QlQ a9.2.1 a9.2.2.2.2), fl, pe, a9.2.2.1, nx, il, a9.2.1, kn, ec, nu, va, st, ep, ti, ad, ob, ra, rt, ex, sa, us, tk, a9.2.2.2.1, me, dr, se, sn) Φi ∧ Fr x (fun j9 => j9 = 0 ∨ j9 = 8 ∨ j9 = 9 ∨ j9 = 10 ∨ j9 = 11 ∨ j9 = 12 ∨ j9 = 13 ∨ j9 = 14 ∨ j9 = 15 ∨ j9 = 16 ∨ j9 = 17 ∨ j9 = 18 ∨ j9 = 19 ∨ j9 = 20 ∨ j9 = 21 ∨ j9 = 22) Φ1 Φi ∧ True) (fun a9 => [(1, .int a9.1), (0, .ref x)]) (fun a9 => a9.2.1) ?_ hd9 (0, qu, le, 0, L) ⟨(Im.weak5 hI1 (fun _ q9 => q9) (fun _ q9 => q9) (fun _ q9 => q9) (fun _ q9 => q9) (fun _ q9 => q9) (fun _ q9 => q9) (fun _ q9 => q9) (fun _ q9 => q9) (fun _ q9 => q9)), fun _ _ => rfl, trivial⟩
  intro d_1 hdr1
  have B : Bd p9 (s9.setDrawn d_1) m9 _ t9 k9 G _ _ _ _ _ _ := Bd.drawn B d_1
  rintro ⟨i_1, i_2, i_3, i_4, i_5⟩ Φl1 ⟨hI2, hF1, -⟩ ih1
  replace hI2 : Im G x (rd, nw, cr, tp, tt, sI, sT, pt, (QlQ i_2 i_5), fl, pe, i_3, nx, il, i_2, kn, ec, nu, va, st, ep, ti, ad, ob, ra, rt, ex, sa, us, tk, i_4, me, dr, se, sn) Φl1 := hI2
  show Z p9 l e9 _ (s9.setDrawn d_1) m9 _ w9 t9 k9 _ G 2 7 [(1, .int i_1), (0, .ref x)] [] Φl1 _ _ _
  refine z_aload_n B dX12_deliverAll_7 rfl 1 rfl ?_
  obtain ⟨n_3, v_2, n_4, h_4, b_26, b_14, b_15, b_16, b_17, b_18, b_19, b_20, b_21, b_22, b_23, b_24, b_25⟩ := im0 hI2
  replace b_14 : 1 ≤ rt := b_14
  replace b_15 : rt ≤ 1024 := b_15
  replace b_16 : fl ≤ 12 := b_16
  replace b_17 : pe ≤ 24 := b_17
  replace b_18 : i_3 ≤ 700 := b_18
  replace b_19 : i_2 ≤ 12 := b_19
  replace b_20 : n_3 ≤ 8 := b_20
  replace b_21 : n_4 ≤ 24 := b_21
  replace b_22 : tk ≤ 24 := b_22
  replace b_23 : il ≤ 700 := b_23
  replace b_24 : nx ≤ 701 := b_24
  replace b_25 : st ≤ 701 := b_25
  have h_5 : Φl1 x = some (o_ 14 [.int i_4, .ref (x + 1), .ref (x + 2), .int ti, .int ra, .int (nI rt), .int ex, .int ad, .ref (x + 3), .ref (x + 4), .int me, .long se, .ref (x + 5), .int (nI fl), .int dr, .long ob, .long sa, .long sn, .long us, .ref (x + 6), .ref (x + 7), .int (nI pe), .ref (x + 8), .int (nI i_3), .ref (x + 9), .ref (x + 10), .int (nI i_2), .ref (x + 11), .ref (x + 12), .ref (x + 13), .ref (x + 14), .ref (x + 15), .ref (x + 16), .int (nI n_3), .long v_2, .ref (x + 17), .ref (x + 18), .ref (x + 19), .ref (x + 20), .ref (x + 21), .ref (x + 22), .int (nI n_4), .ref (x + 23), .ref (x + 24), .int (nI tk), .ref (x + 25), .int (nI il), .int (nI nx), .int ec, .int ep, .int kn, .int (nI st), .int nu, .long va]) := h_4
  refine z_get (ref := "FlowExporterModel") (C := RX12) (T := TX12) (N := 54) (ci := 14) (v := .int (nI i_2)) B hu_X12_deliverAll_X12 rfl 26 (Nat.le_of_ble_eq_true rfl) hv_X12_deliverAll_139 rfl h_5 rfl dX12_deliverAll_8 ?_
  refine z_if_le (tgt := 25) B dX12_deliverAll_11 rfl (fun c_1 => ?_) (fun c_1 => ?_)
  · have e_1 : i_2 ≤ 0 := (nI_leI (a := i_2) (b := 0) (by omega) (by omega)).mp c_1
    refine z_iload_n B dX12_deliverAll_25 rfl 0 rfl ?_
    exact zd_end hdr1 (z_ret_i B dX12_deliverAll_26 ⟨⟨_, rfl⟩, rfl, ⟨i_3, i_2, i_5, i_4, (show i_2 = 0 by omega), hI2⟩, (fun b9 h9 => ((hF1 b9 h9).trans ((fset_fr hΦ1 (fun h8 => h9 (0) h8 (show 0 = 0 ∨ 0 = 8 ∨ 0 = 9 ∨ 0 = 10 ∨ 0 = 11 ∨ 0 = 12 ∨ 0 = 13 ∨ 0 = 14 ∨ 0 = 15 ∨ 0 = 16 ∨ 0 = 17 ∨ 0 = 18 ∨ 0 = 19 ∨ 0 = 20 ∨ 0 = 21 ∨ 0 = 22 by decide))).trans rfl)))⟩)
  · have e_2 : ¬ (i_2 ≤ 0) := fun h9 => c_1 ((nI_leI (a := i_2) (b := 0) (by omega) (by omega)).mpr h9)
    refine z_iload_n B dX12_deliverAll_14 rfl 0 rfl ?_
    refine z_aload_n B dX12_deliverAll_15 rfl 1 rfl ?_
    refine z_iconst (v := 0) B dX12_deliverAll_16 rfl ?_
    refine zd_callV (As := [.int 0]) (rest := [.int i_1]) B (r_deliver0 G l Φl1 sz x rd nw cr tp tt sI sT pt fl pe i_3 nx il i_2 kn ec nu va st ep ti ad ob ra rt ex sa us tk i_4 me dr se sn i_5 hx hI2 (show 1 ≤ i_2 by omega) hnw) (cwV 1 B.1.2.2.2.2 gX12_deliverAll_X12_deliver rfl rfl rfl (by decide +kernel) ⟨Nat.le_of_ble_eq_true rfl, Nat.le_of_ble_eq_true rfl⟩) h_5 rfl rfl rfl rfl (Nat.le_of_ble_eq_true rfl) dX12_deliverAll_17 ⟨Nat.le_of_ble_eq_true rfl, Nat.le_of_ble_eq_true rfl⟩ (fun d_2 hdr3 r_1 Φ2 sz1 st1 hp1 hs1 => ?_)
    have hdr4 := Drawn.sameBut.trans hdr1 hdr3
    have B : Bd p9 (s9.setDrawn d_2) m9 _ t9 k9 G _ _ _ _ _ _ := Bd.drawn B d_2
    show Z p9 l e9 _ (s9.setDrawn d_2) m9 _ w9 t9 k9 _ G _ _ _ _ _ _ _ _
    obtain ⟨⟨v_4, rfl⟩, hq1, ⟨n_5, n_6, n_7, v_3, b_27, hI3⟩, hF2⟩ := hp1
    subst sz1
    replace hs1 : st1 = [.int v_4, .int i_1] := hs1
    subst st1
    replace hI3 : Im G x (rd, nw, cr, tp, tt, sI, sT, pt, QlQ n_6 n_7, fl, pe, n_5, nx, il, n_6, kn, ec, nu, va, st, ep, ti, ad, ob, ra, rt, ex, sa, us, tk, v_3, me, dr, se, sn) Φ2 := hI3
    replace b_27 : n_6 + 1 = i_2 := b_27
    refine z_iadd B dX12_deliverAll_20 ?_
    refine z_fi (fun v_5 => ?_)
    refine z_istore_n (lv' := [(1, .int v_5), (0, .ref x)]) B dX12_deliverAll_21 rfl (Nat.le_of_ble_eq_true rfl) rfl ?_
    refine z_goto (tgt := 7) B dX12_deliverAll_22 rfl ?_
    refine z_lv [0, 1] rfl ?_
    exact ih1 d_2 hdr4 (v_5, n_6, n_5, v_3, n_7) Φ2 (show n_6 < i_2 by omega) ⟨(Im.weak5 hI3 (fun _ q9 => q9) (fun _ q9 => q9) (fun _ q9 => q9) (fun _ q9 => q9) (fun _ q9 => q9) (fun _ q9 => q9) (fun _ q9 => q9) (fun _ q9 => q9) (fun _ q9 => q9)), (fun b9 h9 => ((hF2 b9 h9).trans ((hF1 b9 h9).trans rfl))), trivial⟩

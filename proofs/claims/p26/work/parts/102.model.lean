set_option maxRecDepth 20000 in
theorem ggX12_readUse_X12_advanceToken : GoodIn wsX12_readUse wsX12_advanceToken := goodIn_ca ((goodIn_ca (goodIn_r _ [7, 8, 9, 10, 11, 12, 13, 14, 15, 16, 17, 18, 6, 19, 20, 21, 22, 23, 24, 25, 26, 27, 28, 29, 30, 31, 32, 33] rfl (by decide +kernel)) (goodIn_sub (fun _ h => List.mem_cons_of_mem _ (List.mem_append_left _ (List.mem_append_right _ h))) gw_wsX120))) (goodIn_sub (fun _ h => List.mem_cons_of_mem _ (List.mem_append_right _ h)) (all_fg _))
set_option maxRecDepth 20000 in
theorem gX12_readUse_X12_advanceToken : GoodIn wsX12_readUse (wsV RX12 489 RX12 yX12_advanceToken wsX12_advanceToken) := goodIn_app (goodIn_m (mem_cA (List.mem_cons_of_mem _ (List.mem_append_left _ (List.mem_append_left _ (List.mem_append_left _ (List.mem_of_getElem? (i := 2) rfl))))) (mem_cA (List.mem_cons_of_mem _ (List.mem_append_left _ (List.mem_append_left _ (List.mem_append_left _ (List.mem_of_getElem? (i := 3) rfl))))) (mem_cA (List.mem_cons_of_mem _ (List.mem_append_left _ (List.mem_append_left _ (List.mem_append_left _ (List.mem_of_getElem? (i := 4) rfl))))) (mem_cA (List.mem_cons_of_mem _ (List.mem_append_left _ (List.mem_append_left _ (List.mem_append_left _ (List.mem_of_getElem? (i := 5) rfl))))) mem_cZ)))) (by decide +kernel)) ggX12_readUse_X12_advanceToken
set_option maxRecDepth 20000 in
theorem ggX12_readUse_X12_readNumber : GoodIn wsX12_readUse wsX12_readNumber := goodIn_ca ((goodIn_ca (goodIn_r _ [37, 11, 10, 1, 38, 39, 40, 6, 41, 42, 9, 43, 27, 28, 29, 3, 4, 5, 7, 8, 12, 13, 14, 15, 16, 17, 18, 19, 20, 21, 22, 23, 24, 25, 26, 30, 31, 32, 33] rfl (by decide +kernel)) (goodIn_sub (fun _ h => List.mem_cons_of_mem _ (List.mem_append_left _ (List.mem_append_right _ h))) gw_wsX120))) (goodIn_sub (fun _ h => List.mem_cons_of_mem _ (List.mem_append_right _ h)) (all_fg _))
set_option maxRecDepth 20000 in
theorem gX12_readUse_X12_readNumber : GoodIn wsX12_readUse (wsV RX12 492 RX12 yX12_readNumber wsX12_readNumber) := goodIn_app (goodIn_m (mem_cA (List.mem_cons_of_mem _ (List.mem_append_left _ (List.mem_append_left _ (List.mem_append_right _ (List.mem_append_left _ (List.mem_of_getElem? (i := 9) rfl)))))) (mem_cA (List.mem_cons_of_mem _ (List.mem_append_left _ (List.mem_append_left _ (List.mem_append_right _ (List.mem_append_left _ (List.mem_of_getElem? (i := 10) rfl)))))) (mem_cA (List.mem_cons_of_mem _ (List.mem_append_left _ (List.mem_append_left _ (List.mem_append_right _ (List.mem_append_left _ (List.mem_of_getElem? (i := 11) rfl)))))) (mem_cA (List.mem_cons_of_mem _ (List.mem_append_left _ (List.mem_append_left _ (List.mem_append_left _ (List.mem_of_getElem? (i := 5) rfl))))) mem_cZ)))) (by decide +kernel)) ggX12_readUse_X12_readNumber
set_option maxRecDepth 20000 in
theorem ggX12_readUse_X12_readInto : GoodIn wsX12_readUse wsX12_readInto := goodIn_ca ((goodIn_ca (goodIn_r _ [47, 2, 1, 34, 35, 36, 6, 37, 11, 10, 38, 39, 40, 41, 42, 9, 43, 27, 28, 29, 3, 4, 5, 7, 8, 12, 13, 14, 15, 16, 17, 18, 19, 20, 21, 22, 23, 24, 25, 26, 30, 31, 32, 33] rfl (by decide +kernel)) (goodIn_sub (fun _ h => List.mem_cons_of_mem _ (List.mem_append_left _ (List.mem_append_right _ h))) gw_wsX120))) (goodIn_sub (fun _ h => List.mem_cons_of_mem _ (List.mem_append_right _ h)) (all_fg _))
set_option maxRecDepth 20000 in
theorem gX12_readUse_X12_readInto : GoodIn wsX12_readUse (wsV RX12 510 RX12 yX12_readInto wsX12_readInto) := goodIn_app (goodIn_m (mem_cA (List.mem_cons_of_mem _ (List.mem_append_left _ (List.mem_append_left _ (List.mem_append_right _ (List.mem_append_left _ (List.mem_of_getElem? (i := 19) rfl)))))) (mem_cA (List.mem_cons_of_mem _ (List.mem_append_left _ (List.mem_append_left _ (List.mem_append_right _ (List.mem_append_left _ (List.mem_of_getElem? (i := 20) rfl)))))) (mem_cA (List.mem_cons_of_mem _ (List.mem_append_left _ (List.mem_append_left _ (List.mem_append_right _ (List.mem_append_left _ (List.mem_of_getElem? (i := 21) rfl)))))) (mem_cA (List.mem_cons_of_mem _ (List.mem_append_left _ (List.mem_append_left _ (List.mem_append_left _ (List.mem_of_getElem? (i := 5) rfl))))) mem_cZ)))) (by decide +kernel)) ggX12_readUse_X12_readInto
set_option maxRecDepth 20000 in
theorem ggX12_readUse_X12_readEnd : GoodIn wsX12_readUse wsX12_readEnd := goodIn_ca ((goodIn_ca (goodIn_r _ [51, 11, 38, 39, 40, 6, 41, 42, 9, 43, 3, 4, 5, 7, 8, 10, 12, 13, 14, 15, 16, 17, 18, 19, 20, 21, 22, 23, 24, 25, 26, 27, 28, 29, 30, 31, 32, 33] rfl (by decide +kernel)) (goodIn_sub (fun _ h => List.mem_cons_of_mem _ (List.mem_append_left _ (List.mem_append_right _ h))) gw_wsX120))) (goodIn_sub (fun _ h => List.mem_cons_of_mem _ (List.mem_append_right _ h)) (all_fg _))
set_option maxRecDepth 20000 in
theorem gX12_readUse_X12_readEnd : GoodIn wsX12_readUse (wsV RX12 506 RX12 yX12_readEnd wsX12_readEnd) := goodIn_app (goodIn_m (mem_cA (List.mem_cons_of_mem _ (List.mem_append_left _ (List.mem_append_left _ (List.mem_append_right _ (List.mem_append_left _ (List.mem_of_getElem? (i := 23) rfl)))))) (mem_cA (List.mem_cons_of_mem _ (List.mem_append_left _ (List.mem_append_left _ (List.mem_append_right _ (List.mem_append_right _ (List.mem_of_getElem? (i := 0) rfl)))))) (mem_cA (List.mem_cons_of_mem _ (List.mem_append_left _ (List.mem_append_left _ (List.mem_append_right _ (List.mem_append_right _ (List.mem_of_getElem? (i := 1) rfl)))))) (mem_cA (List.mem_cons_of_mem _ (List.mem_append_left _ (List.mem_append_left _ (List.mem_append_left _ (List.mem_of_getElem? (i := 5) rfl))))) mem_cZ)))) (by decide +kernel)) ggX12_readUse_X12_readEnd
theorem dX12_readUse_0 : decode cX12_readUse 0 = .ok (.aload_n 0, 1) := by decide +kernel
theorem dX12_readUse_1 : decode cX12_readUse 1 = .ok (.invokevirtual 489, 3) := by decide +kernel
theorem dX12_readUse_4 : decode cX12_readUse 4 = .ok (.aload_n 0, 1) := by decide +kernel
theorem dX12_readUse_5 : decode cX12_readUse 5 = .ok (.iconst 0, 1) := by decide +kernel
theorem dX12_readUse_6 : decode cX12_readUse 6 = .ok (.sipush 255, 3) := by decide +kernel
theorem dX12_readUse_9 : decode cX12_readUse 9 = .ok (.invokevirtual 492, 3) := by decide +kernel
theorem dX12_readUse_12 : decode cX12_readUse 12 = .ok (.ifCond .ne 5, 3) := by decide +kernel
theorem dX12_readUse_15 : decode cX12_readUse 15 = .ok (.iconst 0, 1) := by decide +kernel
theorem dX12_readUse_16 : decode cX12_readUse 16 = .ok (.ireturn, 1) := by decide +kernel
theorem dX12_readUse_17 : decode cX12_readUse 17 = .ok (.aload_n 0, 1) := by decide +kernel
theorem dX12_readUse_18 : decode cX12_readUse 18 = .ok (.getfield 486, 3) := by decide +kernel
theorem dX12_readUse_21 : decode cX12_readUse 21 = .ok (.istore_n 1, 1) := by decide +kernel
theorem dX12_readUse_22 : decode cX12_readUse 22 = .ok (.aload_n 0, 1) := by decide +kernel
theorem dX12_readUse_23 : decode cX12_readUse 23 = .ok (.bipush 51, 2) := by decide +kernel
theorem dX12_readUse_25 : decode cX12_readUse 25 = .ok (.iload_n 1, 1) := by decide +kernel
theorem dX12_readUse_26 : decode cX12_readUse 26 = .ok (.iadd, 1) := by decide +kernel
theorem dX12_readUse_27 : decode cX12_readUse 27 = .ok (.iconst 0, 1) := by decide +kernel
theorem dX12_readUse_28 : decode cX12_readUse 28 = .ok (.aload_n 0, 1) := by decide +kernel
theorem dX12_readUse_29 : decode cX12_readUse 29 = .ok (.getfield 13, 3) := by decide +kernel
theorem dX12_readUse_32 : decode cX12_readUse 32 = .ok (.bipush 10, 2) := by decide +kernel
theorem dX12_readUse_34 : decode cX12_readUse 34 = .ok (.iaload, 1) := by decide +kernel
theorem dX12_readUse_35 : decode cX12_readUse 35 = .ok (.iconst 1, 1) := by decide +kernel
theorem dX12_readUse_36 : decode cX12_readUse 36 = .ok (.isub, 1) := by decide +kernel
theorem dX12_readUse_37 : decode cX12_readUse 37 = .ok (.invokevirtual 510, 3) := by decide +kernel
theorem dX12_readUse_40 : decode cX12_readUse 40 = .ok (.ifCond .eq 14, 3) := by decide +kernel
theorem dX12_readUse_43 : decode cX12_readUse 43 = .ok (.aload_n 0, 1) := by decide +kernel
theorem dX12_readUse_44 : decode cX12_readUse 44 = .ok (.invokevirtual 506, 3) := by decide +kernel
theorem dX12_readUse_47 : decode cX12_readUse 47 = .ok (.ifCond .eq 7, 3) := by decide +kernel
theorem dX12_readUse_50 : decode cX12_readUse 50 = .ok (.iconst 1, 1) := by decide +kernel
theorem dX12_readUse_51 : decode cX12_readUse 51 = .ok (.goto 4, 3) := by decide +kernel
theorem dX12_readUse_54 : decode cX12_readUse 54 = .ok (.iconst 0, 1) := by decide +kernel
theorem dX12_readUse_55 : decode cX12_readUse 55 = .ok (.ireturn, 1) := by decide +kernel
set_option maxHeartbeats 4000000 in
set_option maxRecDepth 100000 in
theorem r_readUse (G : EnvG) (l : Launch) (Φ : Hm) (sz x : Nat) (nw : (Nat → Int32) → Prop) (cr : (Nat → Int64) → Prop) (tp : (Nat → Int32) → Prop) (tt : (Nat → Int64) → Prop) (sI : (Nat → Int32) → Prop) (sT : (Nat → Int32) → Prop) (pt : (Nat → Int32) → Prop) (ql : (Nat → Int32) → Prop) (fl : Nat) (pe : Nat) (le : Nat) (nx : Nat) (il : Nat) (qu : Nat) (kn : Int32) (ec : Int32) (nu : Int32) (va : Int64) (st : Nat) (ep : Int32) (ti : Int32) (ad : Int32) (ob : Int64) (ra : Int32) (rt : Nat) (ex : Int32) (sa : Int64) (us : Int64) (tk : Nat) (th : Int32) (me : Int32) (dr : Int32) (se : Int64) (sn : Int64) (fB : Nat → Int32) (p : Nat) (t : Nat) (c : Cf) (hx : G.2.2.2 ≤ x) (hI : Im G x ((NNc t c), nw, cr, tp, tt, sI, sT, pt, ql, fl, pe, le, nx, il, qu, kn, ec, nu, va, st, ep, ti, ad, ob, ra, rt, ex, sa, us, tk, th, me, dr, se, sn) Φ) (hc0 : Φ (x + 25) = some (ab_ G 700 fB)) (hT : TkR (bA fB il) p kn st nx va) (hp : p ≤ il) (hll : il ≤ 700) (hct : c 10 = nI t) (ht : t ≤ 4) (hnw : ∀ f9 : Nat → Int32, nw f9 → NN f9) : Ct G l yX12_readUse wsX12_readUse ({ frames := 5, cells := 0, slots := 0, locals := 111 }) 0 0 [.ref x] Φ sz (fun v Φ1 sz1 => (v = some (.int 0) ∨ v = some (.int 1)) ∧ sz1 = sz ∧ (∃ (nx1 : Nat) (kn1 : Int32) (ec1 : Int32) (nu1 : Int32) (va1 : Int64) (st1 : Nat) (ep1 : Int32) (t1 : Nat) (c1 : Cf), ((∃ (q9 : Nat), v = some (.int 1) ∧ endA (bA fB il) (useA (bA fB il) nx c) = (0, q9, c1) ∧ ec = ec1 ∧ ep = ep1 ∧ c1 10 = nI t1 ∧ t1 ≤ 4 ∧ p < q9 ∧ q9 ≤ il ∧ TkR (bA fB il) q9 kn1 st1 nx1 va1) ∨ (∃ (er9 s9 : Nat) (c9 : Cf), v = some (.int 0) ∧ endA (bA fB il) (useA (bA fB il) nx c) = (er9, s9, c9) ∧ (¬ er9 = 0 ∧ er9 ≤ 4) ∧ ec1 = nI er9 ∧ ep1 = nI s9)) ∧ Im G x ((NNc t1 c1), nw, cr, tp, tt, sI, sT, pt, ql, fl, pe, le, nx1, il, qu, kn1, ec1, nu1, va1, st1, ep1, ti, ad, ob, ra, rt, ex, sa, us, tk, th, me, dr, se, sn) Φ1) ∧ Fr x (fun j9 => j9 = 0 ∨ j9 = 1) Φ Φ1) := by
  refine Ct.of (cc := cX12_readUse) (maxL := 2) (ret := (some .boolean)) (by decide) rfl (Nat.le_of_ble_eq_true rfl) ?_
  intro p9 e9 s9 m9 w9 t9 k9 B
  show Z p9 l e9 _ s9 m9 _ w9 t9 k9 _ G 2 0 [(0, .ref x)] [] Φ sz 0 0
  obtain ⟨b_1, b_2, b_3, b_4⟩ := TkR_b hT (by omega)
  refine z_aload_n B dX12_readUse_0 rfl 0 rfl ?_
  obtain ⟨n_1, v_1, n_2, h_1, b_17, b_5, b_6, b_7, b_8, b_9, b_10, b_11, b_12, b_13, b_14, b_15, b_16⟩ := im0 hI
  replace b_5 : 1 ≤ rt := b_5
  replace b_6 : rt ≤ 1024 := b_6
  replace b_7 : fl ≤ 12 := b_7
  replace b_8 : pe ≤ 24 := b_8
  replace b_9 : le ≤ 700 := b_9
  replace b_10 : qu ≤ 12 := b_10
  replace b_11 : n_1 ≤ 8 := b_11
  replace b_12 : n_2 ≤ 24 := b_12
  replace b_13 : tk ≤ 24 := b_13
  replace b_14 : il ≤ 700 := b_14
  replace b_15 : nx ≤ 701 := b_15
  replace b_16 : st ≤ 701 := b_16
  have h_2 : Φ x = some (o_ 14 [.int th, .ref (x + 1), .ref (x + 2), .int ti, .int ra, .int (nI rt), .int ex, .int ad, .ref (x + 3), .ref (x + 4), .int me, .long se, .ref (x + 5), .int (nI fl), .int dr, .long ob, .long sa, .long sn, .long us, .ref (x + 6), .ref (x + 7), .int (nI pe), .ref (x + 8), .int (nI le), .ref (x + 9), .ref (x + 10), .int (nI qu), .ref (x + 11), .ref (x + 12), .ref (x + 13), .ref (x + 14), .ref (x + 15), .ref (x + 16), .int (nI n_1), .long v_1, .ref (x + 17), .ref (x + 18), .ref (x + 19), .ref (x + 20), .ref (x + 21), .ref (x + 22), .int (nI n_2), .ref (x + 23), .ref (x + 24), .int (nI tk), .ref (x + 25), .int (nI il), .int (nI nx), .int ec, .int ep, .int kn, .int (nI st), .int nu, .long va]) := h_1
  refine z_callV (As := []) (rest := []) B (r_advanceToken G l Φ sz x (NNc t c) nw cr tp tt sI sT pt ql fl pe le nx il qu kn ec nu va st ep ti ad ob ra rt ex sa us tk th me dr se sn fB hx hI hc0 (show nx ≤ il by omega) (show il ≤ 700 by omega) hnw) (cwV 0 B.1.2.2.2.2 gX12_readUse_X12_advanceToken rfl rfl rfl (by decide +kernel) ⟨Nat.le_of_ble_eq_true rfl, Nat.le_of_ble_eq_true rfl⟩) h_2 rfl rfl rfl rfl (Nat.le_of_ble_eq_true rfl) dX12_readUse_1 ⟨Nat.le_of_ble_eq_true rfl, Nat.le_of_ble_eq_true rfl⟩ (fun r_1 Φ1 sz1 st1 hp1 hs1 => ?_)
  obtain ⟨rfl, hq1, ⟨n_3, v_2, v_3, n_4, b_18, hI1⟩, hF1⟩ := hp1
  subst sz1
  replace hs1 : st1 = [] := hs1
  subst st1
  replace hI1 : Im G x ((NNc t c), nw, cr, tp, tt, sI, sT, pt, ql, fl, pe, le, n_3, il, qu, v_2, ec, nu, v_3, n_4, ep, ti, ad, ob, ra, rt, ex, sa, us, tk, th, me, dr, se, sn) Φ1 := hI1
  replace b_18 : TkR (bA fB il) nx v_2 n_4 n_3 v_3 := b_18
  obtain ⟨b_19, b_20, b_21, b_22⟩ := TkR_b b_18 (by omega)
  refine z_aload_n B dX12_readUse_4 rfl 0 rfl ?_
  refine z_iconst (v := 0) B dX12_readUse_5 rfl ?_
  refine z_sipush (v := 255) B dX12_readUse_6 rfl ?_
  obtain ⟨n_5, v_4, n_6, h_3, b_35, b_23, b_24, b_25, b_26, b_27, b_28, b_29, b_30, b_31, b_32, b_33, b_34⟩ := im0 hI1
  replace b_23 : 1 ≤ rt := b_23
  replace b_24 : rt ≤ 1024 := b_24
  replace b_25 : fl ≤ 12 := b_25
  replace b_26 : pe ≤ 24 := b_26
  replace b_27 : le ≤ 700 := b_27
  replace b_28 : qu ≤ 12 := b_28
  replace b_29 : n_5 ≤ 8 := b_29
  replace b_30 : n_6 ≤ 24 := b_30
  replace b_31 : tk ≤ 24 := b_31
  replace b_32 : il ≤ 700 := b_32
  replace b_33 : n_3 ≤ 701 := b_33
  replace b_34 : n_4 ≤ 701 := b_34
  have h_4 : Φ1 x = some (o_ 14 [.int th, .ref (x + 1), .ref (x + 2), .int ti, .int ra, .int (nI rt), .int ex, .int ad, .ref (x + 3), .ref (x + 4), .int me, .long se, .ref (x + 5), .int (nI fl), .int dr, .long ob, .long sa, .long sn, .long us, .ref (x + 6), .ref (x + 7), .int (nI pe), .ref (x + 8), .int (nI le), .ref (x + 9), .ref (x + 10), .int (nI qu), .ref (x + 11), .ref (x + 12), .ref (x + 13), .ref (x + 14), .ref (x + 15), .ref (x + 16), .int (nI n_5), .long v_4, .ref (x + 17), .ref (x + 18), .ref (x + 19), .ref (x + 20), .ref (x + 21), .ref (x + 22), .int (nI n_6), .ref (x + 23), .ref (x + 24), .int (nI tk), .ref (x + 25), .int (nI il), .int (nI n_3), .int ec, .int ep, .int v_2, .int (nI n_4), .int nu, .long v_3]) := h_3
  have h_5 : Φ1 (x + 25) = some (ab_ G 700 fB) := ((hF1 (x + 25) fq_1182).trans hc0)
  refine z_callV (As := [.int 0, .int 255]) (rest := []) B (r_readNumber G l Φ1 sz x (NNc t c) nw cr tp tt sI sT pt ql fl pe le n_3 il qu v_2 ec nu v_3 n_4 ep ti ad ob ra rt ex sa us tk th me dr se sn fB nx 0 255 hx hI1 h_5 b_18 (show nx ≤ il by omega) (show il ≤ 700 by omega) (show 0 < 2 ^ 31 by omega) hnw) (cwV 2 B.1.2.2.2.2 gX12_readUse_X12_readNumber rfl rfl rfl (by decide +kernel) ⟨Nat.le_of_ble_eq_true rfl, Nat.le_of_ble_eq_true rfl⟩) h_4 rfl rfl rfl rfl (Nat.le_of_ble_eq_true rfl) dX12_readUse_9 ⟨Nat.le_of_ble_eq_true rfl, Nat.le_of_ble_eq_true rfl⟩ (fun r_2 Φ2 sz2 st2 hp2 hs2 => ?_)
  obtain ⟨-, hq2, ⟨n_7, v_5, v_6, v_7, v_8, n_8, v_9, b_36, hI2⟩, hF2⟩ := hp2
  subst sz2
  replace hI2 : Im G x ((NNc t c), nw, cr, tp, tt, sI, sT, pt, ql, fl, pe, le, n_7, il, qu, v_5, v_6, v_7, v_8, n_8, v_9, ti, ad, ob, ra, rt, ex, sa, us, tk, th, me, dr, se, sn) Φ2 := hI2
  replace b_36 : (∃ w9 : Nat, r_2 = some (.int 1) ∧ numAt (bA fB il) nx (0 : Int) (255 : Int32).toInt = (0, n_3, w9) ∧ v_7 = nI w9 ∧ w9 < 1000000 ∧ ((0 : Nat) : Int) ≤ w9 ∧ (w9 : Int) ≤ (255 : Int32).toInt ∧ ec = v_6 ∧ ep = v_9 ∧ TkR (bA fB il) n_3 v_5 n_8 n_7 v_8) ∨ (∃ er9 : Nat, r_2 = some (.int 0) ∧ numAt (bA fB il) nx (0 : Int) (255 : Int32).toInt = (er9, n_4, 0) ∧ (¬ er9 = 0 ∧ er9 ≤ 4) ∧ v_6 = nI er9 ∧ v_9 = nI n_4) := b_36
  rcases b_36 with ⟨w_1, rfl, hN1, rfl, b_37, b_38, b_39, rfl, rfl, hT1⟩ | ⟨er_1, rfl, hN2, he1, rfl, rfl⟩
  · replace hT1 : TkR (bA fB il) n_3 v_5 n_8 n_7 v_8 := hT1
    obtain ⟨b_40, b_41, b_42, b_43⟩ := TkR_b hT1 (by omega)
    replace hs2 : st2 = [.int 1] := hs2
    subst st2
    replace hN1 : numAt (bA fB il) nx (0 : Int) (255 : Int32).toInt = (0, n_3, w_1) := hN1
    replace b_38 : ((0 : Nat) : Int) ≤ w_1 := b_38
    replace b_39 : (w_1 : Int) ≤ (255 : Int32).toInt := b_39
    have b_44 : (255 : Int32).toInt = 255 := by decide
    refine z_if_ne (tgt := 17) B dX12_readUse_12 rfl (fun c_1 => ?_) (fun h9 => absurd h9 (by decide))
    refine z_aload_n B dX12_readUse_17 rfl 0 rfl ?_
    obtain ⟨n_9, v_10, n_10, h_6, b_57, b_45, b_46, b_47, b_48, b_49, b_50, b_51, b_52, b_53, b_54, b_55, b_56⟩ := im0 hI2
    replace b_45 : 1 ≤ rt := b_45
    replace b_46 : rt ≤ 1024 := b_46
    replace b_47 : fl ≤ 12 := b_47
    replace b_48 : pe ≤ 24 := b_48
    replace b_49 : le ≤ 700 := b_49
    replace b_50 : qu ≤ 12 := b_50
    replace b_51 : n_9 ≤ 8 := b_51
    replace b_52 : n_10 ≤ 24 := b_52
    replace b_53 : tk ≤ 24 := b_53
    replace b_54 : il ≤ 700 := b_54
    replace b_55 : n_7 ≤ 701 := b_55
    replace b_56 : n_8 ≤ 701 := b_56
    have h_7 : Φ2 x = some (o_ 14 [.int th, .ref (x + 1), .ref (x + 2), .int ti, .int ra, .int (nI rt), .int ex, .int ad, .ref (x + 3), .ref (x + 4), .int me, .long se, .ref (x + 5), .int (nI fl), .int dr, .long ob, .long sa, .long sn, .long us, .ref (x + 6), .ref (x + 7), .int (nI pe), .ref (x + 8), .int (nI le), .ref (x + 9), .ref (x + 10), .int (nI qu), .ref (x + 11), .ref (x + 12), .ref (x + 13), .ref (x + 14), .ref (x + 15), .ref (x + 16), .int (nI n_9), .long v_10, .ref (x + 17), .ref (x + 18), .ref (x + 19), .ref (x + 20), .ref (x + 21), .ref (x + 22), .int (nI n_10), .ref (x + 23), .ref (x + 24), .int (nI tk), .ref (x + 25), .int (nI il), .int (nI n_7), .int ec, .int ep, .int v_5, .int (nI n_8), .int (nI w_1), .long v_8]) := h_6
    refine z_get (ref := "FlowExporterModel") (C := RX12) (T := TX12) (N := 54) (ci := 14) (v := .int (nI w_1)) B hu_X12_readUse_X12 rfl 52 (Nat.le_of_ble_eq_true rfl) hv_X12_readUse_486 rfl h_7 rfl dX12_readUse_18 ?_
    refine z_istore_n (lv' := [(1, .int (nI w_1)), (0, .ref x)]) B dX12_readUse_21 rfl (Nat.le_of_ble_eq_true rfl) rfl ?_
    refine z_aload_n B dX12_readUse_22 rfl 1 rfl ?_
    refine z_bipush (v := 51) B dX12_readUse_23 rfl ?_
    refine z_iload_n B dX12_readUse_25 rfl 0 rfl ?_
    refine z_iadd B dX12_readUse_26 ?_
    refine z_top (st1 := [.int (nI (51 + w_1)), .ref x]) (congrArg (fun w9 : Int32 => ([.int w9, .ref x] : List Value)) (nI_add 51 w_1)) ?_
    refine z_iconst (v := 0) B dX12_readUse_27 rfl ?_
    refine z_aload_n B dX12_readUse_28 rfl 1 rfl ?_
    refine z_get (ref := "FlowExporterModel") (C := RX12) (T := TX12) (N := 54) (ci := 14) (v := .ref (x + 1)) B hu_X12_readUse_X12 rfl 1 (Nat.le_of_ble_eq_true rfl) hv_X12_readUse_13 rfl h_7 rfl dX12_readUse_29 ?_
    refine z_bipush (v := 10) B dX12_readUse_32 rfl ?_
    obtain ⟨f_1, h_8, r_3⟩ := imk (k := 1) hI2
    replace r_3 : (NNc t c) f_1 := r_3
    have h_9 : Φ2 (x + 1) = some (ai_ G 307 f_1) := h_8
    refine z_iald B h_9 (vin rfl) dX12_readUse_34 ?_
    refine z_top (st1 := [.int (nI t), .int 0, .int (nI (51 + w_1)), .ref x]) (congrArg (fun w9 : Int32 => ([.int w9, .int 0, .int (nI (51 + w_1)), .ref x] : List Value)) (r_3.1.2)) ?_
    refine z_iconst (v := 1) B dX12_readUse_35 rfl ?_
    refine z_isub B dX12_readUse_36 ?_
    have h_10 : Φ2 (x + 25) = some (ab_ G 700 fB) := ((hF2 (x + 25) fq_1182).trans h_5)
    refine z_callV (As := [.int (nI (51 + w_1)), .int 0, .int ((nI t) - 1)]) (rest := []) B (r_readInto G l Φ2 sz x nw cr tp tt sI sT pt ql fl pe le n_7 il qu v_5 ec (nI w_1) v_8 n_8 ep ti ad ob ra rt ex sa us tk th me dr se sn fB n_3 t c (51 + w_1) 0 ((nI t) - 1) hx hI2 h_10 hT1 (show n_3 ≤ il by omega) (show il ≤ 700 by omega) (show 0 < 2 ^ 31 by omega) (show (51 + w_1) < 307 by omega) (show ¬ (51 + w_1) = 10 by omega) (fun n h1 h2 f h => NN.up h (by omega) (fun e9 => absurd e9 (by omega)) (fun e9 => absurd e9 (by omega)) (fun e9 => absurd e9 (by omega)) (fun _ => ⟨n, by have h9 := predI (n := t) (by omega); omega, rfl⟩)) hnw) (cwV 3 B.1.2.2.2.2 gX12_readUse_X12_readInto rfl rfl rfl (by decide +kernel) ⟨Nat.le_of_ble_eq_true rfl, Nat.le_of_ble_eq_true rfl⟩) h_7 rfl rfl rfl rfl (Nat.le_of_ble_eq_true rfl) dX12_readUse_37 ⟨Nat.le_of_ble_eq_true rfl, Nat.le_of_ble_eq_true rfl⟩ (fun r_4 Φ3 sz3 st3 hp3 hs3 => ?_)
    obtain ⟨-, hq3, ⟨n_11, v_11, v_12, v_13, v_14, n_12, v_15, n_13, n_14, b_58, hI3⟩, hF3⟩ := hp3
    subst sz3
    replace hI3 : Im G x (NNc n_13 n_14, nw, cr, tp, tt, sI, sT, pt, ql, fl, pe, le, n_11, il, qu, v_11, v_12, v_13, v_14, n_12, v_15, ti, ad, ob, ra, rt, ex, sa, us, tk, th, me, dr, se, sn) Φ3 := hI3
    replace b_58 : (∃ w9 : Nat, r_4 = some (.int 1) ∧ numAt (bA fB il) n_3 (0 : Int) (((nI t) - 1) : Int32).toInt = (0, n_7, w9) ∧ v_13 = nI w9 ∧ t = n_13 ∧ n_14 = upd c (51 + w_1) (nI w9) ∧ w9 < 1000000 ∧ ((0 : Nat) : Int) ≤ w9 ∧ (w9 : Int) ≤ (((nI t) - 1) : Int32).toInt ∧ ec = v_12 ∧ ep = v_15 ∧ TkR (bA fB il) n_7 v_11 n_12 n_11 v_14) ∨ (∃ er9 : Nat, r_4 = some (.int 0) ∧ numAt (bA fB il) n_3 (0 : Int) (((nI t) - 1) : Int32).toInt = (er9, n_8, 0) ∧ (¬ er9 = 0 ∧ er9 ≤ 4) ∧ v_12 = nI er9 ∧ v_15 = nI n_8) := b_58
    rcases b_58 with ⟨w_2, rfl, hN3, rfl, rfl, rfl, b_59, b_60, b_61, rfl, rfl, hT2⟩ | ⟨er_2, rfl, hN4, he2, rfl, rfl⟩
    · replace hT2 : TkR (bA fB il) n_7 v_11 n_12 n_11 v_14 := hT2
      obtain ⟨b_62, b_63, b_64, b_65⟩ := TkR_b hT2 (by omega)
      replace hs3 : st3 = [.int 1] := hs3
      subst st3
      replace hN3 : numAt (bA fB il) n_3 (0 : Int) ((nI t) - 1 : Int32).toInt = (0, n_7, w_2) := hN3
      replace b_60 : ((0 : Nat) : Int) ≤ w_2 := b_60
      replace b_61 : (w_2 : Int) ≤ ((nI t) - 1 : Int32).toInt := b_61
      refine z_if_eq (tgt := 54) B dX12_readUse_40 rfl (fun h9 => absurd h9 (by decide)) (fun c_2 => ?_)
      refine z_aload_n B dX12_readUse_43 rfl 1 rfl ?_
      obtain ⟨n_15, v_16, n_16, h_11, b_78, b_66, b_67, b_68, b_69, b_70, b_71, b_72, b_73, b_74, b_75, b_76, b_77⟩ := im0 hI3
      replace b_66 : 1 ≤ rt := b_66
      replace b_67 : rt ≤ 1024 := b_67
      replace b_68 : fl ≤ 12 := b_68
      replace b_69 : pe ≤ 24 := b_69
      replace b_70 : le ≤ 700 := b_70
      replace b_71 : qu ≤ 12 := b_71
      replace b_72 : n_15 ≤ 8 := b_72
      replace b_73 : n_16 ≤ 24 := b_73
      replace b_74 : tk ≤ 24 := b_74
      replace b_75 : il ≤ 700 := b_75
      replace b_76 : n_11 ≤ 701 := b_76
      replace b_77 : n_12 ≤ 701 := b_77
      have h_12 : Φ3 x = some (o_ 14 [.int th, .ref (x + 1), .ref (x + 2), .int ti, .int ra, .int (nI rt), .int ex, .int ad, .ref (x + 3), .ref (x + 4), .int me, .long se, .ref (x + 5), .int (nI fl), .int dr, .long ob, .long sa, .long sn, .long us, .ref (x + 6), .ref (x + 7), .int (nI pe), .ref (x + 8), .int (nI le), .ref (x + 9), .ref (x + 10), .int (nI qu), .ref (x + 11), .ref (x + 12), .ref (x + 13), .ref (x + 14), .ref (x + 15), .ref (x + 16), .int (nI n_15), .long v_16, .ref (x + 17), .ref (x + 18), .ref (x + 19), .ref (x + 20), .ref (x + 21), .ref (x + 22), .int (nI n_16), .ref (x + 23), .ref (x + 24), .int (nI tk), .ref (x + 25), .int (nI il), .int (nI n_11), .int ec, .int ep, .int v_11, .int (nI n_12), .int (nI w_2), .long v_14]) := h_11
      have h_13 : Φ3 (x + 25) = some (ab_ G 700 fB) := ((hF3 (x + 25) fq_1203).trans h_10)
      refine z_callV (As := []) (rest := []) B (r_readEnd G l Φ3 sz x (NNc t (upd c (51 + w_1) (nI w_2))) nw cr tp tt sI sT pt ql fl pe le n_11 il qu v_11 ec (nI w_2) v_14 n_12 ep ti ad ob ra rt ex sa us tk th me dr se sn fB n_7 hx hI3 h_13 hT2 (show n_7 ≤ il by omega) (show il ≤ 700 by omega) hnw) (cwV 0 B.1.2.2.2.2 gX12_readUse_X12_readEnd rfl rfl rfl (by decide +kernel) ⟨Nat.le_of_ble_eq_true rfl, Nat.le_of_ble_eq_true rfl⟩) h_12 rfl rfl rfl rfl (Nat.le_of_ble_eq_true rfl) dX12_readUse_44 ⟨Nat.le_of_ble_eq_true rfl, Nat.le_of_ble_eq_true rfl⟩ (fun r_5 Φ4 sz4 st4 hp4 hs4 => ?_)
      obtain ⟨-, hq4, ⟨n_17, v_17, v_18, v_19, v_20, n_18, v_21, b_79, hI4⟩, hF4⟩ := hp4
      subst sz4
      replace hI4 : Im G x ((NNc t (upd c (51 + w_1) (nI w_2))), nw, cr, tp, tt, sI, sT, pt, ql, fl, pe, le, n_17, il, qu, v_17, v_18, v_19, v_20, n_18, v_21, ti, ad, ob, ra, rt, ex, sa, us, tk, th, me, dr, se, sn) Φ4 := hI4
      replace b_79 : (r_5 = some (.int 1) ∧ semi (bA fB il) n_7 = (0, n_11) ∧ ec = v_18 ∧ ep = v_21 ∧ (nI w_2) = v_19 ∧ TkR (bA fB il) n_11 v_17 n_18 n_17 v_20) ∨ (r_5 = some (.int 0) ∧ semi (bA fB il) n_7 = (1, n_12) ∧ v_18 = 1 ∧ v_21 = nI n_12) := b_79
      rcases b_79 with ⟨rfl, hN5, rfl, rfl, rfl, hT3⟩ | ⟨rfl, hN6, rfl, rfl⟩
      · replace hT3 : TkR (bA fB il) n_11 v_17 n_18 n_17 v_20 := hT3
        obtain ⟨b_80, b_81, b_82, b_83⟩ := TkR_b hT3 (by omega)
        replace hs4 : st4 = [.int 1] := hs4
        subst st4
        replace hN5 : semi (bA fB il) n_7 = (0, n_11) := hN5
        have b_84 := semi_lt hT2 (by omega) hN5
        refine z_if_eq (tgt := 54) B dX12_readUse_47 rfl (fun h9 => absurd h9 (by decide)) (fun c_3 => ?_)
        refine z_iconst (v := 1) B dX12_readUse_50 rfl ?_
        refine z_goto (tgt := 55) B dX12_readUse_51 rfl ?_
        have hN7 := hN1
        rw [show (255 : Int32).toInt = 255 from by decide] at hN7
        have hN8 := hN3
        rw [use_hi (by omega), ← hct] at hN8
        exact z_ret_z B dX12_readUse_55 (by decide) ⟨(Or.inr rfl), rfl, ⟨n_17, v_17, ec, nI w_2, v_20, n_18, ep, t, upd c (51 + w_1) (nI w_2), (Or.inl ⟨n_11, rfl, (congrArg (endA (bA fB il)) (useA_0 hN7 hN8)).trans (endA_0 hN5), rfl, rfl, (upd_ne (by omega)).trans hct, by omega, by omega, by omega, hT3⟩), hI4⟩, (fun b9 h9 => ((hF4 b9 (fun j9 h8 h7 => h9 j9 h8 (fq_1202 j9 h7))).trans ((hF3 b9 h9).trans ((hF2 b9 (fun j9 h8 h7 => h9 j9 h8 (fq_1202 j9 h7))).trans ((hF1 b9 (fun j9 h8 h7 => h9 j9 h8 (fq_1202 j9 h7))).trans rfl)))))⟩
      · replace hs4 : st4 = [.int 0] := hs4
        subst st4
        replace hN6 : semi (bA fB il) n_7 = (1, n_12) := hN6
        refine z_if_eq (tgt := 54) B dX12_readUse_47 rfl (fun c_4 => ?_) (fun h9 => absurd (by decide) h9)
        refine z_iconst (v := 0) B dX12_readUse_54 rfl ?_
        have hN9 := hN1
        rw [show (255 : Int32).toInt = 255 from by decide] at hN9
        have hN10 := hN3
        rw [use_hi (by omega), ← hct] at hN10
        exact z_ret_z B dX12_readUse_55 (by decide) ⟨(Or.inl rfl), rfl, ⟨n_17, v_17, 1, v_19, v_20, n_18, nI n_12, t, upd c (51 + w_1) (nI w_2), (Or.inr ⟨1, n_12, upd c (51 + w_1) (nI w_2), rfl, (congrArg (endA (bA fB il)) (useA_0 hN9 hN10)).trans (endA_0 hN6), ⟨by omega, by omega⟩, rfl, rfl⟩), hI4⟩, (fun b9 h9 => ((hF4 b9 (fun j9 h8 h7 => h9 j9 h8 (fq_1202 j9 h7))).trans ((hF3 b9 h9).trans ((hF2 b9 (fun j9 h8 h7 => h9 j9 h8 (fq_1202 j9 h7))).trans ((hF1 b9 (fun j9 h8 h7 => h9 j9 h8 (fq_1202 j9 h7))).trans rfl)))))⟩
    · replace hs3 : st3 = [.int 0] := hs3
      subst st3
      replace hN4 : numAt (bA fB il) n_3 (0 : Int) ((nI t) - 1 : Int32).toInt = (er_2, n_8, 0) := hN4
      replace he2 : ¬ er_2 = 0 ∧ er_2 ≤ 4 := he2
      refine z_if_eq (tgt := 54) B dX12_readUse_40 rfl (fun c_5 => ?_) (fun h9 => absurd (by decide) h9)
      refine z_iconst (v := 0) B dX12_readUse_54 rfl ?_
      have hN11 := hN1
      rw [show (255 : Int32).toInt = 255 from by decide] at hN11
      have hN12 := hN4
      rw [use_hi (by omega), ← hct] at hN12
      exact z_ret_z B dX12_readUse_55 (by decide) ⟨(Or.inl rfl), rfl, ⟨n_11, v_11, nI er_2, v_13, v_14, n_12, nI n_8, n_13, n_14, (Or.inr ⟨er_2, n_8, c, rfl, (congrArg (endA (bA fB il)) (useA_2 hN11 hN12 he2.1)).trans (endA_e he2.1), ⟨by omega, by omega⟩, rfl, rfl⟩), hI3⟩, (fun b9 h9 => ((hF3 b9 h9).trans ((hF2 b9 (fun j9 h8 h7 => h9 j9 h8 (fq_1202 j9 h7))).trans ((hF1 b9 (fun j9 h8 h7 => h9 j9 h8 (fq_1202 j9 h7))).trans rfl))))⟩
  · replace hs2 : st2 = [.int 0] := hs2
    subst st2
    replace hN2 : numAt (bA fB il) nx (0 : Int) (255 : Int32).toInt = (er_1, n_4, 0) := hN2
    replace he1 : ¬ er_1 = 0 ∧ er_1 ≤ 4 := he1
    refine z_if_ne (tgt := 17) B dX12_readUse_12 rfl (fun h9 => absurd (by decide) h9) (fun c_6 => ?_)
    refine z_iconst (v := 0) B dX12_readUse_15 rfl ?_
    have hN13 := hN2
    rw [show (255 : Int32).toInt = 255 from by decide] at hN13
    exact z_ret_z B dX12_readUse_16 (by decide) ⟨(Or.inl rfl), rfl, ⟨n_7, v_5, nI er_1, v_7, v_8, n_8, nI n_4, t, c, (Or.inr ⟨er_1, n_4, c, rfl, (congrArg (endA (bA fB il)) (useA_1 hN13 he1.1)).trans (endA_e he1.1), ⟨by omega, by omega⟩, rfl, rfl⟩), hI2⟩, (fun b9 h9 => ((hF2 b9 (fun j9 h8 h7 => h9 j9 h8 (fq_1202 j9 h7))).trans ((hF1 b9 (fun j9 h8 h7 => h9 j9 h8 (fq_1202 j9 h7))).trans rfl)))⟩

theorem semi_k {b : Nat → Int32} {p k s e q : Nat} (h : Tk b p k s e) (h1 : semi b p = (0, q)) : k = 4 ∧ q = e := by
  by_cases hk : k = 4
  · subst hk
    rw [semi_0 h] at h1
    exact ⟨rfl, (Prod.mk.inj h1).2.symm⟩
  · rw [semi_1 h hk] at h1
    exact absurd (Prod.mk.inj h1).1 (by decide)
theorem semi_n {b : Nat → Int32} {p k s e q : Nat} (h : Tk b p k s e) (h1 : semi b p = (1, q)) : ¬ k = 4 := by
  intro hk
  subst hk
  rw [semi_0 h] at h1
  exact absurd (Prod.mk.inj h1).1 (by decide)
theorem pcN_pcn : pcN = pcn := rfl
theorem TplR.t10 {t s m : Nat} {f : Nat → Int32} (h : TplR t s m f) : NNt t f := ⟨h.1, h.2.1⟩

theorem rt_m {m : Nat} {x : Int32} (h : 1 ≤ m ∨ ¬ x = -1) (h1 : x = -1) : 1 ≤ m := h.resolve_right (fun q => q h1)

theorem hu_X12_readTemplate_X12 : ∀ w ∈ u_ws RX12 TX12 54, w ∈ wsX12_readTemplate := fun _ h => List.mem_cons_of_mem _ (List.mem_append_left _ (List.mem_append_right _ (h)))

theorem hv_X12_readTemplate_13 : Cond.fieldLink RX12 13 "FlowExporterModel" (TX12 1).2.1 (TX12 1).2.2.1 ∈ wsX12_readTemplate := List.mem_cons_of_mem _ (List.mem_append_left _ (List.mem_append_left _ (List.mem_append_left _ (List.mem_of_getElem? (i := 0) rfl))))

theorem fq_1211 {x : Nat} : ∀ j9 : Nat, x + 1 = x + j9 → (j9 = 0) → False := by
  intro j9 h1 h2
  omega

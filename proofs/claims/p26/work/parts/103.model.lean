set_option maxRecDepth 20000 in
theorem ggX12_readTemplate_X12_fail : GoodIn wsX12_readTemplate wsX12_fail := (goodIn_ca (goodIn_r _ [6, 7, 8, 9] rfl (by decide +kernel)) (goodIn_sub (fun _ h => List.mem_cons_of_mem _ (List.mem_append_left _ (List.mem_append_right _ h))) gw_wsX120))
set_option maxRecDepth 20000 in
theorem gX12_readTemplate_X12_fail : GoodIn wsX12_readTemplate (wsV RX12 483 RX12 yX12_fail wsX12_fail) := goodIn_app (goodIn_m (mem_cA (List.mem_cons_of_mem _ (List.mem_append_left _ (List.mem_append_left _ (List.mem_append_left _ (List.mem_of_getElem? (i := 1) rfl))))) (mem_cA (List.mem_cons_of_mem _ (List.mem_append_left _ (List.mem_append_left _ (List.mem_append_left _ (List.mem_of_getElem? (i := 2) rfl))))) (mem_cA (List.mem_cons_of_mem _ (List.mem_append_left _ (List.mem_append_left _ (List.mem_append_left _ (List.mem_of_getElem? (i := 3) rfl))))) (mem_cA (List.mem_cons_of_mem _ (List.mem_append_left _ (List.mem_append_left _ (List.mem_append_left _ (List.mem_of_getElem? (i := 4) rfl))))) mem_cZ)))) (by decide +kernel)) ggX12_readTemplate_X12_fail
set_option maxRecDepth 20000 in
theorem ggX12_readTemplate_X12_advanceToken : GoodIn wsX12_readTemplate wsX12_advanceToken := goodIn_ca ((goodIn_ca (goodIn_r _ [13, 14, 8, 15, 16, 17, 18, 19, 20, 21, 22, 23, 5, 24, 25, 26, 27, 28, 29, 30, 31, 32, 33, 34, 35, 36, 37, 38] rfl (by decide +kernel)) (goodIn_sub (fun _ h => List.mem_cons_of_mem _ (List.mem_append_left _ (List.mem_append_right _ h))) gw_wsX120))) (goodIn_sub (fun _ h => List.mem_cons_of_mem _ (List.mem_append_right _ h)) (all_fg _))
set_option maxRecDepth 20000 in
theorem gX12_readTemplate_X12_advanceToken : GoodIn wsX12_readTemplate (wsV RX12 489 RX12 yX12_advanceToken wsX12_advanceToken) := goodIn_app (goodIn_m (mem_cA (List.mem_cons_of_mem _ (List.mem_append_left _ (List.mem_append_left _ (List.mem_append_left _ (List.mem_of_getElem? (i := 9) rfl))))) (mem_cA (List.mem_cons_of_mem _ (List.mem_append_left _ (List.mem_append_left _ (List.mem_append_left _ (List.mem_of_getElem? (i := 10) rfl))))) (mem_cA (List.mem_cons_of_mem _ (List.mem_append_left _ (List.mem_append_left _ (List.mem_append_left _ (List.mem_of_getElem? (i := 11) rfl))))) (mem_cA (List.mem_cons_of_mem _ (List.mem_append_left _ (List.mem_append_left _ (List.mem_append_left _ (List.mem_of_getElem? (i := 4) rfl))))) mem_cZ)))) (by decide +kernel)) ggX12_readTemplate_X12_advanceToken
set_option maxRecDepth 20000 in
theorem ggX12_readTemplate_X12_fieldHere : GoodIn wsX12_readTemplate wsX12_fieldHere := (goodIn_ca (goodIn_r _ [42, 16, 15, 43, 44, 45, 46, 5, 47, 18, 17] rfl (by decide +kernel)) (goodIn_sub (fun _ h => List.mem_cons_of_mem _ (List.mem_append_left _ (List.mem_append_right _ h))) gw_wsX120))
set_option maxRecDepth 20000 in
theorem gX12_readTemplate_X12_fieldHere : GoodIn wsX12_readTemplate (wsV RX12 503 RX12 yX12_fieldHere wsX12_fieldHere) := goodIn_app (goodIn_m (mem_cA (List.mem_cons_of_mem _ (List.mem_append_left _ (List.mem_append_left _ (List.mem_append_right _ (List.mem_append_left _ (List.mem_of_getElem? (i := 14) rfl)))))) (mem_cA (List.mem_cons_of_mem _ (List.mem_append_left _ (List.mem_append_left _ (List.mem_append_right _ (List.mem_append_left _ (List.mem_of_getElem? (i := 15) rfl)))))) (mem_cA (List.mem_cons_of_mem _ (List.mem_append_left _ (List.mem_append_left _ (List.mem_append_right _ (List.mem_append_left _ (List.mem_of_getElem? (i := 16) rfl)))))) (mem_cA (List.mem_cons_of_mem _ (List.mem_append_left _ (List.mem_append_left _ (List.mem_append_left _ (List.mem_of_getElem? (i := 4) rfl))))) mem_cZ)))) (by decide +kernel)) ggX12_readTemplate_X12_fieldHere
set_option maxRecDepth 20000 in
theorem ggX12_readTemplate_X12_readEnd : GoodIn wsX12_readTemplate wsX12_readEnd := goodIn_ca ((goodIn_ca (goodIn_r _ [51, 16, 2, 3, 4, 5, 6, 7, 8, 9, 10, 11, 12, 13, 14, 15, 17, 18, 19, 20, 21, 22, 23, 24, 25, 26, 27, 28, 29, 30, 31, 32, 33, 34, 35, 36, 37, 38] rfl (by decide +kernel)) (goodIn_sub (fun _ h => List.mem_cons_of_mem _ (List.mem_append_left _ (List.mem_append_right _ h))) gw_wsX120))) (goodIn_sub (fun _ h => List.mem_cons_of_mem _ (List.mem_append_right _ h)) (all_fg _))
set_option maxRecDepth 20000 in
theorem gX12_readTemplate_X12_readEnd : GoodIn wsX12_readTemplate (wsV RX12 506 RX12 yX12_readEnd wsX12_readEnd) := goodIn_app (goodIn_m (mem_cA (List.mem_cons_of_mem _ (List.mem_append_left _ (List.mem_append_left _ (List.mem_append_right _ (List.mem_append_left _ (List.mem_of_getElem? (i := 23) rfl)))))) (mem_cA (List.mem_cons_of_mem _ (List.mem_append_left _ (List.mem_append_left _ (List.mem_append_right _ (List.mem_append_right _ (List.mem_of_getElem? (i := 0) rfl)))))) (mem_cA (List.mem_cons_of_mem _ (List.mem_append_left _ (List.mem_append_left _ (List.mem_append_right _ (List.mem_append_right _ (List.mem_of_getElem? (i := 1) rfl)))))) (mem_cA (List.mem_cons_of_mem _ (List.mem_append_left _ (List.mem_append_left _ (List.mem_append_left _ (List.mem_of_getElem? (i := 4) rfl))))) mem_cZ)))) (by decide +kernel)) ggX12_readTemplate_X12_readEnd
theorem dX12_readTemplate_0 : decode cX12_readTemplate 0 = .ok (.aload_n 0, 1) := by decide +kernel
theorem dX12_readTemplate_1 : decode cX12_readTemplate 1 = .ok (.getfield 13, 3) := by decide +kernel
theorem dX12_readTemplate_4 : decode cX12_readTemplate 4 = .ok (.bipush 10, 2) := by decide +kernel
theorem dX12_readTemplate_6 : decode cX12_readTemplate 6 = .ok (.iaload, 1) := by decide +kernel
theorem dX12_readTemplate_7 : decode cX12_readTemplate 7 = .ok (.istore_n 1, 1) := by decide +kernel
theorem dX12_readTemplate_8 : decode cX12_readTemplate 8 = .ok (.iload_n 1, 1) := by decide +kernel
theorem dX12_readTemplate_9 : decode cX12_readTemplate 9 = .ok (.iconst 4, 1) := by decide +kernel
theorem dX12_readTemplate_10 : decode cX12_readTemplate 10 = .ok (.if_icmp .ne 9, 3) := by decide +kernel
theorem dX12_readTemplate_13 : decode cX12_readTemplate 13 = .ok (.aload_n 0, 1) := by decide +kernel
theorem dX12_readTemplate_14 : decode cX12_readTemplate 14 = .ok (.iconst 4, 1) := by decide +kernel
theorem dX12_readTemplate_15 : decode cX12_readTemplate 15 = .ok (.invokevirtual 483, 3) := by decide +kernel
theorem dX12_readTemplate_18 : decode cX12_readTemplate 18 = .ok (.ireturn, 1) := by decide +kernel
theorem dX12_readTemplate_19 : decode cX12_readTemplate 19 = .ok (.aload_n 0, 1) := by decide +kernel
theorem dX12_readTemplate_20 : decode cX12_readTemplate 20 = .ok (.invokevirtual 489, 3) := by decide +kernel
theorem dX12_readTemplate_23 : decode cX12_readTemplate 23 = .ok (.iconst 0, 1) := by decide +kernel
theorem dX12_readTemplate_24 : decode cX12_readTemplate 24 = .ok (.istore_n 2, 1) := by decide +kernel
theorem dX12_readTemplate_25 : decode cX12_readTemplate 25 = .ok (.iconst 0, 1) := by decide +kernel
theorem dX12_readTemplate_26 : decode cX12_readTemplate 26 = .ok (.istore_n 3, 1) := by decide +kernel
theorem dX12_readTemplate_27 : decode cX12_readTemplate 27 = .ok (.aload_n 0, 1) := by decide +kernel
theorem dX12_readTemplate_28 : decode cX12_readTemplate 28 = .ok (.invokevirtual 503, 3) := by decide +kernel
theorem dX12_readTemplate_31 : decode cX12_readTemplate 31 = .ok (.iconst (-1), 1) := by decide +kernel
theorem dX12_readTemplate_32 : decode cX12_readTemplate 32 = .ok (.if_icmp .ne 9, 3) := by decide +kernel
theorem dX12_readTemplate_35 : decode cX12_readTemplate 35 = .ok (.aload_n 0, 1) := by decide +kernel
theorem dX12_readTemplate_36 : decode cX12_readTemplate 36 = .ok (.iconst 1, 1) := by decide +kernel
theorem dX12_readTemplate_37 : decode cX12_readTemplate 37 = .ok (.invokevirtual 483, 3) := by decide +kernel
theorem dX12_readTemplate_40 : decode cX12_readTemplate 40 = .ok (.ireturn, 1) := by decide +kernel
theorem dX12_readTemplate_41 : decode cX12_readTemplate 41 = .ok (.aload_n 0, 1) := by decide +kernel
theorem dX12_readTemplate_42 : decode cX12_readTemplate 42 = .ok (.invokevirtual 503, 3) := by decide +kernel
theorem dX12_readTemplate_45 : decode cX12_readTemplate 45 = .ok (.iconst (-1), 1) := by decide +kernel
theorem dX12_readTemplate_46 : decode cX12_readTemplate 46 = .ok (.if_icmp .eq 58, 3) := by decide +kernel
theorem dX12_readTemplate_49 : decode cX12_readTemplate 49 = .ok (.iload_n 2, 1) := by decide +kernel
theorem dX12_readTemplate_50 : decode cX12_readTemplate 50 = .ok (.aload_n 0, 1) := by decide +kernel
theorem dX12_readTemplate_51 : decode cX12_readTemplate 51 = .ok (.invokevirtual 503, 3) := by decide +kernel
theorem dX12_readTemplate_54 : decode cX12_readTemplate 54 = .ok (.ishr, 1) := by decide +kernel
theorem dX12_readTemplate_55 : decode cX12_readTemplate 55 = .ok (.iconst 1, 1) := by decide +kernel
theorem dX12_readTemplate_56 : decode cX12_readTemplate 56 = .ok (.iand, 1) := by decide +kernel
theorem dX12_readTemplate_57 : decode cX12_readTemplate 57 = .ok (.iconst 1, 1) := by decide +kernel
theorem dX12_readTemplate_58 : decode cX12_readTemplate 58 = .ok (.if_icmp .ne 9, 3) := by decide +kernel
theorem dX12_readTemplate_61 : decode cX12_readTemplate 61 = .ok (.aload_n 0, 1) := by decide +kernel
theorem dX12_readTemplate_62 : decode cX12_readTemplate 62 = .ok (.iconst 3, 1) := by decide +kernel
theorem dX12_readTemplate_63 : decode cX12_readTemplate 63 = .ok (.invokevirtual 483, 3) := by decide +kernel
theorem dX12_readTemplate_66 : decode cX12_readTemplate 66 = .ok (.ireturn, 1) := by decide +kernel
theorem dX12_readTemplate_67 : decode cX12_readTemplate 67 = .ok (.iload_n 2, 1) := by decide +kernel
theorem dX12_readTemplate_68 : decode cX12_readTemplate 68 = .ok (.iconst 1, 1) := by decide +kernel
theorem dX12_readTemplate_69 : decode cX12_readTemplate 69 = .ok (.aload_n 0, 1) := by decide +kernel
theorem dX12_readTemplate_70 : decode cX12_readTemplate 70 = .ok (.invokevirtual 503, 3) := by decide +kernel
theorem dX12_readTemplate_73 : decode cX12_readTemplate 73 = .ok (.ishl, 1) := by decide +kernel
theorem dX12_readTemplate_74 : decode cX12_readTemplate 74 = .ok (.ior, 1) := by decide +kernel
theorem dX12_readTemplate_75 : decode cX12_readTemplate 75 = .ok (.istore_n 2, 1) := by decide +kernel
theorem dX12_readTemplate_76 : decode cX12_readTemplate 76 = .ok (.aload_n 0, 1) := by decide +kernel
theorem dX12_readTemplate_77 : decode cX12_readTemplate 77 = .ok (.getfield 13, 3) := by decide +kernel
theorem dX12_readTemplate_80 : decode cX12_readTemplate 80 = .ok (.bipush 15, 2) := by decide +kernel
theorem dX12_readTemplate_82 : decode cX12_readTemplate 82 = .ok (.bipush 9, 2) := by decide +kernel
theorem dX12_readTemplate_84 : decode cX12_readTemplate 84 = .ok (.iload_n 1, 1) := by decide +kernel
theorem dX12_readTemplate_85 : decode cX12_readTemplate 85 = .ok (.imul, 1) := by decide +kernel
theorem dX12_readTemplate_86 : decode cX12_readTemplate 86 = .ok (.iadd, 1) := by decide +kernel
theorem dX12_readTemplate_87 : decode cX12_readTemplate 87 = .ok (.iload_n 3, 1) := by decide +kernel
theorem dX12_readTemplate_88 : decode cX12_readTemplate 88 = .ok (.iadd, 1) := by decide +kernel
theorem dX12_readTemplate_89 : decode cX12_readTemplate 89 = .ok (.aload_n 0, 1) := by decide +kernel
theorem dX12_readTemplate_90 : decode cX12_readTemplate 90 = .ok (.invokevirtual 503, 3) := by decide +kernel
theorem dX12_readTemplate_93 : decode cX12_readTemplate 93 = .ok (.iastore, 1) := by decide +kernel
theorem dX12_readTemplate_94 : decode cX12_readTemplate 94 = .ok (.iinc 3 1, 3) := by decide +kernel
theorem dX12_readTemplate_97 : decode cX12_readTemplate 97 = .ok (.aload_n 0, 1) := by decide +kernel
theorem dX12_readTemplate_98 : decode cX12_readTemplate 98 = .ok (.invokevirtual 489, 3) := by decide +kernel
theorem dX12_readTemplate_101 : decode cX12_readTemplate 101 = .ok (.goto (-60), 3) := by decide +kernel
theorem dX12_readTemplate_104 : decode cX12_readTemplate 104 = .ok (.aload_n 0, 1) := by decide +kernel
theorem dX12_readTemplate_105 : decode cX12_readTemplate 105 = .ok (.getfield 13, 3) := by decide +kernel
theorem dX12_readTemplate_108 : decode cX12_readTemplate 108 = .ok (.bipush 11, 2) := by decide +kernel
theorem dX12_readTemplate_110 : decode cX12_readTemplate 110 = .ok (.iload_n 1, 1) := by decide +kernel
theorem dX12_readTemplate_111 : decode cX12_readTemplate 111 = .ok (.iadd, 1) := by decide +kernel
theorem dX12_readTemplate_112 : decode cX12_readTemplate 112 = .ok (.iload_n 3, 1) := by decide +kernel
theorem dX12_readTemplate_113 : decode cX12_readTemplate 113 = .ok (.iastore, 1) := by decide +kernel
theorem dX12_readTemplate_114 : decode cX12_readTemplate 114 = .ok (.aload_n 0, 1) := by decide +kernel
theorem dX12_readTemplate_115 : decode cX12_readTemplate 115 = .ok (.getfield 13, 3) := by decide +kernel
theorem dX12_readTemplate_118 : decode cX12_readTemplate 118 = .ok (.bipush 10, 2) := by decide +kernel
theorem dX12_readTemplate_120 : decode cX12_readTemplate 120 = .ok (.dup2, 1) := by decide +kernel
theorem dX12_readTemplate_121 : decode cX12_readTemplate 121 = .ok (.iaload, 1) := by decide +kernel
theorem dX12_readTemplate_122 : decode cX12_readTemplate 122 = .ok (.iconst 1, 1) := by decide +kernel
theorem dX12_readTemplate_123 : decode cX12_readTemplate 123 = .ok (.iadd, 1) := by decide +kernel
theorem dX12_readTemplate_124 : decode cX12_readTemplate 124 = .ok (.iastore, 1) := by decide +kernel
theorem dX12_readTemplate_125 : decode cX12_readTemplate 125 = .ok (.aload_n 0, 1) := by decide +kernel
theorem dX12_readTemplate_126 : decode cX12_readTemplate 126 = .ok (.invokevirtual 506, 3) := by decide +kernel
theorem dX12_readTemplate_129 : decode cX12_readTemplate 129 = .ok (.ireturn, 1) := by decide +kernel
set_option maxHeartbeats 4000000 in
set_option maxRecDepth 100000 in
theorem r_readTemplate (G : EnvG) (l : Launch) (Φ : Hm) (sz x : Nat) (nw : (Nat → Int32) → Prop) (cr : (Nat → Int64) → Prop) (tp : (Nat → Int32) → Prop) (tt : (Nat → Int64) → Prop) (sI : (Nat → Int32) → Prop) (sT : (Nat → Int32) → Prop) (pt : (Nat → Int32) → Prop) (ql : (Nat → Int32) → Prop) (fl : Nat) (pe : Nat) (le : Nat) (nx : Nat) (il : Nat) (qu : Nat) (kn : Int32) (ec : Int32) (nu : Int32) (va : Int64) (st : Nat) (ep : Int32) (ti : Int32) (ad : Int32) (ob : Int64) (ra : Int32) (rt : Nat) (ex : Int32) (sa : Int64) (us : Int64) (tk : Nat) (th : Int32) (me : Int32) (dr : Int32) (se : Int64) (sn : Int64) (fB : Nat → Int32) (p : Nat) (t : Nat) (c : Cf) (hx : G.2.2.2 ≤ x) (hI : Im G x ((NNc t c), nw, cr, tp, tt, sI, sT, pt, ql, fl, pe, le, nx, il, qu, kn, ec, nu, va, st, ep, ti, ad, ob, ra, rt, ex, sa, us, tk, th, me, dr, se, sn) Φ) (hc0 : Φ (x + 25) = some (ab_ G 700 fB)) (hT : TkR (bA fB il) p kn st nx va) (hp : p ≤ il) (hll : il ≤ 700) (hct : c 10 = nI t) (ht : t ≤ 4) (hnw : ∀ f9 : Nat → Int32, nw f9 → NN f9) : Ct G l yX12_readTemplate wsX12_readTemplate ({ frames := 4, cells := 0, slots := 0, locals := 86 }) 0 0 [.ref x] Φ sz (fun v Φ1 sz1 => (v = some (.int 0) ∨ v = some (.int 1)) ∧ sz1 = sz ∧ (∃ (nx1 : Nat) (kn1 : Int32) (ec1 : Int32) (nu1 : Int32) (va1 : Int64) (st1 : Nat) (ep1 : Int32) (t1 : Nat) (c1 : Cf), ((∃ (q9 : Nat), v = some (.int 1) ∧ (if c 10 = 4 then (4, st, c) else tplA (bA fB il) 10 nx c 0 0) = (0, q9, c1) ∧ ec = ec1 ∧ ep = ep1 ∧ c1 10 = nI t1 ∧ t1 ≤ 4 ∧ p < q9 ∧ q9 ≤ il ∧ TkR (bA fB il) q9 kn1 st1 nx1 va1) ∨ (∃ (er9 s9 : Nat) (c9 : Cf), v = some (.int 0) ∧ (if c 10 = 4 then (4, st, c) else tplA (bA fB il) 10 nx c 0 0) = (er9, s9, c9) ∧ (¬ er9 = 0 ∧ er9 ≤ 4) ∧ ec1 = nI er9 ∧ ep1 = nI s9)) ∧ Im G x ((NNc t1 c1), nw, cr, tp, tt, sI, sT, pt, ql, fl, pe, le, nx1, il, qu, kn1, ec1, nu1, va1, st1, ep1, ti, ad, ob, ra, rt, ex, sa, us, tk, th, me, dr, se, sn) Φ1) ∧ Fr x (fun j9 => j9 = 0 ∨ j9 = 1) Φ Φ1) := by
  refine Ct.of (cc := cX12_readTemplate) (maxL := 4) (ret := (some .boolean)) (by decide) rfl (Nat.le_of_ble_eq_true rfl) ?_
  intro p9 e9 s9 m9 w9 t9 k9 B
  show Z p9 l e9 _ s9 m9 _ w9 t9 k9 _ G 4 0 [(0, .ref x)] [] Φ sz 0 0
  obtain ⟨b_1, b_2, b_3, b_4⟩ := TkR_b hT (by omega)
  refine z_aload_n B dX12_readTemplate_0 rfl 0 rfl ?_
  obtain ⟨n_1, v_1, n_2, h_1, b_17, b_5, b_6, b_7, b_8, b_9, b_10, b_11, b_12, b_13, b_14, b_15, b_16⟩ := im0 hI
  replace b_5 : 1 ≤ rt := b_5
  replace b_6 : rt ≤ 1024 := b_6
  replace b_7 : fl ≤ 12 := b_7
  replace b_8 : pe ≤ 24 := b_8
  replace b_9 : le ≤ 700 := b_9
  replace b_10 : qu ≤ 12 := b_10
  replace b_11 : n_1 ≤ 8 := b_11
  replace b_12 : n_2 ≤ 24 := b_12
  replace b_13 : tk ≤ 24 := b_13
  replace b_14 : il ≤ 700 := b_14
  replace b_15 : nx ≤ 701 := b_15
  replace b_16 : st ≤ 701 := b_16
  have h_2 : Φ x = some (o_ 14 [.int th, .ref (x + 1), .ref (x + 2), .int ti, .int ra, .int (nI rt), .int ex, .int ad, .ref (x + 3), .ref (x + 4), .int me, .long se, .ref (x + 5), .int (nI fl), .int dr, .long ob, .long sa, .long sn, .long us, .ref (x + 6), .ref (x + 7), .int (nI pe), .ref (x + 8), .int (nI le), .ref (x + 9), .ref (x + 10), .int (nI qu), .ref (x + 11), .ref (x + 12), .ref (x + 13), .ref (x + 14), .ref (x + 15), .ref (x + 16), .int (nI n_1), .long v_1, .ref (x + 17), .ref (x + 18), .ref (x + 19), .ref (x + 20), .ref (x + 21), .ref (x + 22), .int (nI n_2), .ref (x + 23), .ref (x + 24), .int (nI tk), .ref (x + 25), .int (nI il), .int (nI nx), .int ec, .int ep, .int kn, .int (nI st), .int nu, .long va]) := h_1
  refine z_get (ref := "FlowExporterModel") (C := RX12) (T := TX12) (N := 54) (ci := 14) (v := .ref (x + 1)) B hu_X12_readTemplate_X12 rfl 1 (Nat.le_of_ble_eq_true rfl) hv_X12_readTemplate_13 rfl h_2 rfl dX12_readTemplate_1 ?_
  refine z_bipush (v := 10) B dX12_readTemplate_4 rfl ?_
  obtain ⟨f_1, h_3, r_1⟩ := imk (k := 1) hI
  replace r_1 : (NNc t c) f_1 := r_1
  have h_4 : Φ (x + 1) = some (ai_ G 307 f_1) := h_3
  refine z_iald B h_4 (vin rfl) dX12_readTemplate_6 ?_
  refine z_top (st1 := [.int (nI t)]) (congrArg (fun w9 : Int32 => ([.int w9] : List Value)) (r_1.1.2)) ?_
  refine z_istore_n (lv' := [(1, .int (nI t)), (0, .ref x)]) B dX12_readTemplate_7 rfl (Nat.le_of_ble_eq_true rfl) rfl ?_
  refine z_iload_n B dX12_readTemplate_8 rfl 0 rfl ?_
  refine z_iconst (v := 4) B dX12_readTemplate_9 rfl ?_
  refine z_icmp_ne (tgt := 19) B dX12_readTemplate_10 rfl (fun c_1 => ?_) (fun c_1 => ?_)
  · have e_1 : ¬ (t = 4) := fun h9 => c_1 ((nI_eq (a := t) (b := 4) (by omega) (by omega)).mpr h9)
    refine z_aload_n B dX12_readTemplate_19 rfl 1 rfl ?_
    refine z_callV (As := []) (rest := []) B (r_advanceToken G l Φ sz x (NNc t c) nw cr tp tt sI sT pt ql fl pe le nx il qu kn ec nu va st ep ti ad ob ra rt ex sa us tk th me dr se sn fB hx hI hc0 (show nx ≤ il by omega) (show il ≤ 700 by omega) hnw) (cwV 0 B.1.2.2.2.2 gX12_readTemplate_X12_advanceToken rfl rfl rfl (by decide +kernel) ⟨Nat.le_of_ble_eq_true rfl, Nat.le_of_ble_eq_true rfl⟩) h_2 rfl rfl rfl rfl (Nat.le_of_ble_eq_true rfl) dX12_readTemplate_20 ⟨Nat.le_of_ble_eq_true rfl, Nat.le_of_ble_eq_true rfl⟩ (fun r_2 Φ1 sz1 st1 hp1 hs1 => ?_)
    obtain ⟨rfl, hq1, ⟨n_3, v_2, v_3, n_4, b_18, hI1⟩, hF1⟩ := hp1
    subst sz1
    replace hs1 : st1 = [] := hs1
    subst st1
    replace hI1 : Im G x ((NNc t c), nw, cr, tp, tt, sI, sT, pt, ql, fl, pe, le, n_3, il, qu, v_2, ec, nu, v_3, n_4, ep, ti, ad, ob, ra, rt, ex, sa, us, tk, th, me, dr, se, sn) Φ1 := hI1
    replace b_18 : TkR (bA fB il) nx v_2 n_4 n_3 v_3 := b_18
    obtain ⟨b_19, b_20, b_21, b_22⟩ := TkR_b b_18 (by omega)
    refine z_iconst (v := 0) B dX12_readTemplate_23 rfl ?_
    refine z_istore_n (lv' := [(2, .int 0), (1, .int (nI t)), (0, .ref x)]) B dX12_readTemplate_24 rfl (Nat.le_of_ble_eq_true rfl) rfl ?_
    refine z_iconst (v := 0) B dX12_readTemplate_25 rfl ?_
    refine z_istore_n (lv' := [(3, .int 0), (2, .int 0), (1, .int (nI t)), (0, .ref x)]) B dX12_readTemplate_26 rfl (Nat.le_of_ble_eq_true rfl) rfl ?_
    refine z_aload_n B dX12_readTemplate_27 rfl 3 rfl ?_
    obtain ⟨n_5, v_4, n_6, h_5, b_35, b_23, b_24, b_25, b_26, b_27, b_28, b_29, b_30, b_31, b_32, b_33, b_34⟩ := im0 hI1
    replace b_23 : 1 ≤ rt := b_23
    replace b_24 : rt ≤ 1024 := b_24
    replace b_25 : fl ≤ 12 := b_25
    replace b_26 : pe ≤ 24 := b_26
    replace b_27 : le ≤ 700 := b_27
    replace b_28 : qu ≤ 12 := b_28
    replace b_29 : n_5 ≤ 8 := b_29
    replace b_30 : n_6 ≤ 24 := b_30
    replace b_31 : tk ≤ 24 := b_31
    replace b_32 : il ≤ 700 := b_32
    replace b_33 : n_3 ≤ 701 := b_33
    replace b_34 : n_4 ≤ 701 := b_34
    have h_6 : Φ1 x = some (o_ 14 [.int th, .ref (x + 1), .ref (x + 2), .int ti, .int ra, .int (nI rt), .int ex, .int ad, .ref (x + 3), .ref (x + 4), .int me, .long se, .ref (x + 5), .int (nI fl), .int dr, .long ob, .long sa, .long sn, .long us, .ref (x + 6), .ref (x + 7), .int (nI pe), .ref (x + 8), .int (nI le), .ref (x + 9), .ref (x + 10), .int (nI qu), .ref (x + 11), .ref (x + 12), .ref (x + 13), .ref (x + 14), .ref (x + 15), .ref (x + 16), .int (nI n_5), .long v_4, .ref (x + 17), .ref (x + 18), .ref (x + 19), .ref (x + 20), .ref (x + 21), .ref (x + 22), .int (nI n_6), .ref (x + 23), .ref (x + 24), .int (nI tk), .ref (x + 25), .int (nI il), .int (nI n_3), .int ec, .int ep, .int v_2, .int (nI n_4), .int nu, .long v_3]) := h_5
    refine z_callV (As := []) (rest := []) B (r_fieldHere G l Φ1 sz x (NNc t c) nw cr tp tt sI sT pt ql fl pe le n_3 il qu v_2 ec nu v_3 n_4 ep ti ad ob ra rt ex sa us tk th me dr se sn  hx hI1 hnw) (cwV 0 B.1.2.2.2.2 gX12_readTemplate_X12_fieldHere rfl rfl rfl (by decide +kernel) ⟨Nat.le_of_ble_eq_true rfl, Nat.le_of_ble_eq_true rfl⟩) h_6 rfl rfl rfl rfl (Nat.le_of_ble_eq_true rfl) dX12_readTemplate_28 ⟨Nat.le_of_ble_eq_true rfl, Nat.le_of_ble_eq_true rfl⟩ (fun r_3 Φ2 sz2 st2 hp2 hs2 => ?_)
    obtain ⟨rfl, hq2, hI2, hF2⟩ := hp2
    subst sz2
    replace hs2 : st2 = [.int (fHf v_2 v_3)] := hs2
    subst st2
    replace hI2 : Im G x ((NNc t c), nw, cr, tp, tt, sI, sT, pt, ql, fl, pe, le, n_3, il, qu, v_2, ec, nu, v_3, n_4, ep, ti, ad, ob, ra, rt, ex, sa, us, tk, th, me, dr, se, sn) Φ2 := hI2
    refine z_iconst (v := (-1)) B dX12_readTemplate_31 rfl ?_
    refine z_icmp_ne (tgt := 41) B dX12_readTemplate_32 rfl (fun c_2 => ?_) (fun c_2 => ?_)
    · obtain ⟨k_1, hT1, e_2, b_36, e_3⟩ := fH_eq b_18 (by omega)
      refine z_lv [0, 1, 2, 3] rfl ?_
      have h_7 : Φ2 (x + 1) = some (ai_ G 307 f_1) := ((hF2 (x + 1) (fun j9 h8 h7 => (show False from h7).elim)).trans ((hF1 (x + 1) fq_1211).trans h_4))
      refine z_loop (α := Nat × Nat × Nat × Int32 × Int64 × Nat × Nat × Cf) (fun (a9 : Nat × Nat × Nat × Int32 × Int64 × Nat × Nat × Cf) Φi => Im G x ((AndC (TplR t a9.1 a9.2.1) a9.2.2.2.2.2.2.2), nw, cr, tp, tt, sI, sT, pt, ql, fl, pe, le, a9.2.2.1, il, qu, a9.2.2.2.1, ec, nu, a9.2.2.2.2.1, a9.2.2.2.2.2.1, ep, ti, ad, ob, ra, rt, ex, sa, us, tk, th, me, dr, se, sn) Φi ∧ Fr x (fun j9 => j9 = 0 ∨ j9 = 1) Φ2 Φi ∧ (a9.1 ≤ 9) ∧ (a9.2.1 < 512) ∧ (a9.1 = pcn a9.2.1) ∧ (p ≤ a9.2.2.2.2.2.2.1) ∧ (TkR (bA fB il) a9.2.2.2.2.2.2.1 a9.2.2.2.1 a9.2.2.2.2.2.1 a9.2.2.1 a9.2.2.2.2.1) ∧ (tplA (bA fB il) 10 nx c 0 0 = tplA (bA fB il) (10 - a9.1) a9.2.2.2.2.2.2.1 a9.2.2.2.2.2.2.2 a9.1 (nI a9.2.1)) ∧ (a9.2.2.2.2.2.2.2 10 = nI t) ∧ (1 ≤ a9.1 ∨ ¬ fHf a9.2.2.2.1 a9.2.2.2.2.1 = -1) ∧ (a9.2.2.2.2.2.2.1 ≤ il) ∧ True) (fun a9 => [(3, .int (nI (a9.1))), (2, .int (nI (a9.2.1))), (1, .int (nI t)), (0, .ref x)]) (fun a9 => 9 - a9.1) ?_ (0, 0, n_3, v_2, v_3, n_4, nx, c) ⟨(Im.re1 hI2 h_7 (rd1 := AndC (TplR t 0 0) c) ⟨⟨r_1.1.1, r_1.1.2, rfl⟩, r_1.2⟩), fun _ _ => rfl, (show 0 ≤ 9 by omega), (show 0 < 512 by omega), (show 0 = pcn 0 by decide), (show p ≤ nx by omega), b_18, rfl, hct, (Or.inr c_2), (by omega), trivial⟩
      rintro ⟨i_1, i_2, i_3, i_4, i_5, i_6, i_7, i_8⟩ Φl1 ⟨hI3, hF3, b_37, b_38, b_39, b_40, b_41, b_42, b_43, b_44, b_45, -⟩ ih1
      replace hI3 : Im G x ((AndC (TplR t i_1 i_2) i_8), nw, cr, tp, tt, sI, sT, pt, ql, fl, pe, le, i_3, il, qu, i_4, ec, nu, i_5, i_6, ep, ti, ad, ob, ra, rt, ex, sa, us, tk, th, me, dr, se, sn) Φl1 := hI3
      replace b_37 : i_1 ≤ 9 := b_37
      replace b_38 : i_2 < 512 := b_38
      replace b_39 : i_1 = pcn i_2 := b_39
      replace b_40 : p ≤ i_7 := b_40
      replace b_41 : TkR (bA fB il) i_7 i_4 i_6 i_3 i_5 := b_41
      replace b_42 : tplA (bA fB il) 10 nx c 0 0 = tplA (bA fB il) (10 - i_1) i_7 i_8 i_1 (nI i_2) := b_42
      replace b_43 : i_8 10 = nI t := b_43
      replace b_44 : 1 ≤ i_1 ∨ ¬ fHf i_4 i_5 = -1 := b_44
      replace b_45 : i_7 ≤ il := b_45
      show Z p9 l e9 _ s9 m9 _ w9 t9 k9 _ G 4 41 [(3, .int (nI i_1)), (2, .int (nI i_2)), (1, .int (nI t)), (0, .ref x)] [] Φl1 _ _ _
      obtain ⟨b_46, b_47, b_48, b_49⟩ := TkR_b b_41 (by omega)
      refine z_aload_n B dX12_readTemplate_41 rfl 3 rfl ?_
      obtain ⟨n_7, v_5, n_8, h_8, b_62, b_50, b_51, b_52, b_53, b_54, b_55, b_56, b_57, b_58, b_59, b_60, b_61⟩ := im0 hI3
      replace b_50 : 1 ≤ rt := b_50
      replace b_51 : rt ≤ 1024 := b_51
      replace b_52 : fl ≤ 12 := b_52
      replace b_53 : pe ≤ 24 := b_53
      replace b_54 : le ≤ 700 := b_54
      replace b_55 : qu ≤ 12 := b_55
      replace b_56 : n_7 ≤ 8 := b_56
      replace b_57 : n_8 ≤ 24 := b_57
      replace b_58 : tk ≤ 24 := b_58
      replace b_59 : il ≤ 700 := b_59
      replace b_60 : i_3 ≤ 701 := b_60
      replace b_61 : i_6 ≤ 701 := b_61
      have h_9 : Φl1 x = some (o_ 14 [.int th, .ref (x + 1), .ref (x + 2), .int ti, .int ra, .int (nI rt), .int ex, .int ad, .ref (x + 3), .ref (x + 4), .int me, .long se, .ref (x + 5), .int (nI fl), .int dr, .long ob, .long sa, .long sn, .long us, .ref (x + 6), .ref (x + 7), .int (nI pe), .ref (x + 8), .int (nI le), .ref (x + 9), .ref (x + 10), .int (nI qu), .ref (x + 11), .ref (x + 12), .ref (x + 13), .ref (x + 14), .ref (x + 15), .ref (x + 16), .int (nI n_7), .long v_5, .ref (x + 17), .ref (x + 18), .ref (x + 19), .ref (x + 20), .ref (x + 21), .ref (x + 22), .int (nI n_8), .ref (x + 23), .ref (x + 24), .int (nI tk), .ref (x + 25), .int (nI il), .int (nI i_3), .int ec, .int ep, .int i_4, .int (nI i_6), .int nu, .long i_5]) := h_8
      refine z_callV (As := []) (rest := []) B (r_fieldHere G l Φl1 sz x (AndC (TplR t i_1 i_2) i_8) nw cr tp tt sI sT pt ql fl pe le i_3 il qu i_4 ec nu i_5 i_6 ep ti ad ob ra rt ex sa us tk th me dr se sn  hx hI3 hnw) (cwV 0 B.1.2.2.2.2 gX12_readTemplate_X12_fieldHere rfl rfl rfl (by decide +kernel) ⟨Nat.le_of_ble_eq_true rfl, Nat.le_of_ble_eq_true rfl⟩) h_9 rfl rfl rfl rfl (Nat.le_of_ble_eq_true rfl) dX12_readTemplate_42 ⟨Nat.le_of_ble_eq_true rfl, Nat.le_of_ble_eq_true rfl⟩ (fun r_4 Φ3 sz3 st3 hp3 hs3 => ?_)
      obtain ⟨rfl, hq3, hI4, hF4⟩ := hp3
      subst sz3
      replace hs3 : st3 = [.int (fHf i_4 i_5)] := hs3
      subst st3
      replace hI4 : Im G x ((AndC (TplR t i_1 i_2) i_8), nw, cr, tp, tt, sI, sT, pt, ql, fl, pe, le, i_3, il, qu, i_4, ec, nu, i_5, i_6, ep, ti, ad, ob, ra, rt, ex, sa, us, tk, th, me, dr, se, sn) Φ3 := hI4
      refine z_iconst (v := (-1)) B dX12_readTemplate_45 rfl ?_
      refine z_icmp_eq (tgt := 104) B dX12_readTemplate_46 rfl (fun c_3 => ?_) (fun c_3 => ?_)
      · obtain ⟨k_2, hT2, e_4, b_63, e_5⟩ := fH_eq b_41 (by omega)
        refine z_aload_n B dX12_readTemplate_104 rfl 3 rfl ?_
        have h_10 : Φ3 x = some (o_ 14 [.int th, .ref (x + 1), .ref (x + 2), .int ti, .int ra, .int (nI rt), .int ex, .int ad, .ref (x + 3), .ref (x + 4), .int me, .long se, .ref (x + 5), .int (nI fl), .int dr, .long ob, .long sa, .long sn, .long us, .ref (x + 6), .ref (x + 7), .int (nI pe), .ref (x + 8), .int (nI le), .ref (x + 9), .ref (x + 10), .int (nI qu), .ref (x + 11), .ref (x + 12), .ref (x + 13), .ref (x + 14), .ref (x + 15), .ref (x + 16), .int (nI n_7), .long v_5, .ref (x + 17), .ref (x + 18), .ref (x + 19), .ref (x + 20), .ref (x + 21), .ref (x + 22), .int (nI n_8), .ref (x + 23), .ref (x + 24), .int (nI tk), .ref (x + 25), .int (nI il), .int (nI i_3), .int ec, .int ep, .int i_4, .int (nI i_6), .int nu, .long i_5]) := ((hF4 x (fun j9 h8 h7 => (show False from h7).elim)).trans h_9)
        refine z_get (ref := "FlowExporterModel") (C := RX12) (T := TX12) (N := 54) (ci := 14) (v := .ref (x + 1)) B hu_X12_readTemplate_X12 rfl 1 (Nat.le_of_ble_eq_true rfl) hv_X12_readTemplate_13 rfl h_10 rfl dX12_readTemplate_105 ?_
        refine z_bipush (v := 11) B dX12_readTemplate_108 rfl ?_
        refine z_iload_n B dX12_readTemplate_110 rfl 2 rfl ?_
        refine z_iadd B dX12_readTemplate_111 ?_
        refine z_top (st1 := [.int (nI (11 + t)), .ref (x + 1)]) (congrArg (fun w9 : Int32 => ([.int w9, .ref (x + 1)] : List Value)) (nI_add 11 t)) ?_
        refine z_iload_n B dX12_readTemplate_112 rfl 0 rfl ?_
        obtain ⟨f_2, h_11, r_5⟩ := imk (k := 1) hI4
        replace r_5 : (AndC (TplR t i_1 i_2) i_8) f_2 := r_5
        have h_12 : Φ3 (x + 1) = some (ai_ G 307 f_2) := h_11
        refine z_iast B h_12 (Nat.le_trans hx (Nat.le_add_right x 1)) (vp_in_nI (by omega) (by omega)) dX12_readTemplate_113 (fun Φ4 hΦ1 => ?_)
        have h_13 : Φ4 (x + 1) = some (ai_ G 307 (upd f_2 (nI (11 + t)).toNatClampNeg (nI i_1))) := fset_at hΦ1
        have hI5 : Im G x ((AndC (TplE t i_1) (upd i_8 (11 + (i_8 10).toNatClampNeg) (nI i_1))), nw, cr, tp, tt, sI, sT, pt, ql, fl, pe, le, i_3, il, qu, i_4, ec, nu, i_5, i_6, ep, ti, ad, ob, ra, rt, ex, sa, us, tk, th, me, dr, se, sn) Φ4 := Im.put1 (rd1 := (AndC (TplE t i_1) (upd i_8 (11 + (i_8 10).toNatClampNeg) (nI i_1)))) hI4 hΦ1 (AndC.upi r_5 (TplR.ends r_5.1 (by omega) (nI_clamp (by omega))) rfl (by rw [b_43, nI_clamp (n := t) (by omega)]; exact nI_clamp (by omega)))
        refine z_aload_n B dX12_readTemplate_114 rfl 3 rfl ?_
        have h_14 : Φ4 x = some (o_ 14 [.int th, .ref (x + 1), .ref (x + 2), .int ti, .int ra, .int (nI rt), .int ex, .int ad, .ref (x + 3), .ref (x + 4), .int me, .long se, .ref (x + 5), .int (nI fl), .int dr, .long ob, .long sa, .long sn, .long us, .ref (x + 6), .ref (x + 7), .int (nI pe), .ref (x + 8), .int (nI le), .ref (x + 9), .ref (x + 10), .int (nI qu), .ref (x + 11), .ref (x + 12), .ref (x + 13), .ref (x + 14), .ref (x + 15), .ref (x + 16), .int (nI n_7), .long v_5, .ref (x + 17), .ref (x + 18), .ref (x + 19), .ref (x + 20), .ref (x + 21), .ref (x + 22), .int (nI n_8), .ref (x + 23), .ref (x + 24), .int (nI tk), .ref (x + 25), .int (nI il), .int (nI i_3), .int ec, .int ep, .int i_4, .int (nI i_6), .int nu, .long i_5]) := ((fset_fr hΦ1 (ne_off (x := x) (i := 0) (j := 1) rfl)).trans h_10)
        refine z_get (ref := "FlowExporterModel") (C := RX12) (T := TX12) (N := 54) (ci := 14) (v := .ref (x + 1)) B hu_X12_readTemplate_X12 rfl 1 (Nat.le_of_ble_eq_true rfl) hv_X12_readTemplate_13 rfl h_14 rfl dX12_readTemplate_115 ?_
        refine z_bipush (v := 10) B dX12_readTemplate_118 rfl ?_
        refine z_dup2_11 B dX12_readTemplate_120 rfl rfl ?_
        obtain ⟨f_3, h_15, r_6⟩ := imk (k := 1) hI5
        replace r_6 : (AndC (TplE t i_1) (upd i_8 (11 + (i_8 10).toNatClampNeg) (nI i_1))) f_3 := r_6
        have h_16 : Φ4 (x + 1) = some (ai_ G 307 f_3) := h_15
        refine z_iald B h_16 (vin rfl) dX12_readTemplate_121 ?_
        refine z_top (st1 := [.int (nI t), .int 10, .ref (x + 1)]) (congrArg (fun w9 : Int32 => ([.int w9, .int 10, .ref (x + 1)] : List Value)) (TplE.ten r_6.1 (by omega))) ?_
        refine z_iconst (v := 1) B dX12_readTemplate_122 rfl ?_
        refine z_iadd B dX12_readTemplate_123 ?_
        refine z_top (st1 := [.int (nI (t + 1)), .int 10, .ref (x + 1)]) (congrArg (fun w9 : Int32 => ([.int w9, .int 10, .ref (x + 1)] : List Value)) (nI_add t 1)) ?_
        refine z_iast B h_16 (Nat.le_trans hx (Nat.le_add_right x 1)) (vin rfl) dX12_readTemplate_124 (fun Φ5 hΦ2 => ?_)
        have h_17 : Φ5 (x + 1) = some (ai_ G 307 (upd f_3 (10 : Int32).toNatClampNeg (nI (t + 1)))) := fset_at hΦ2
        have hI6 : Im G x ((NNc ((t + 1)) (upd (upd i_8 (11 + (i_8 10).toNatClampNeg) (nI i_1)) 10 (i_8 10 + 1))), nw, cr, tp, tt, sI, sT, pt, ql, fl, pe, le, i_3, il, qu, i_4, ec, nu, i_5, i_6, ep, ti, ad, ob, ra, rt, ex, sa, us, tk, th, me, dr, se, sn) Φ5 := Im.put1 (rd1 := (NNc ((t + 1)) (upd (upd i_8 (11 + (i_8 10).toNatClampNeg) (nI i_1)) 10 (i_8 10 + 1)))) hI5 hΦ2 (AndC.up r_6 ⟨TplE.nn r_6.1 (by omega) (by omega) rfl, upd_at⟩ (by rw [b_43]; exact (nI_add t 1).symm))
        refine z_aload_n B dX12_readTemplate_125 rfl 3 rfl ?_
        have h_18 : Φ5 (x + 25) = some (ab_ G 700 fB) := ((fset_fr hΦ2 (ne_off (x := x) (i := 25) (j := 1) rfl)).trans ((fset_fr hΦ1 (ne_off (x := x) (i := 25) (j := 1) rfl)).trans ((hF4 (x + 25) (fun j9 h8 h7 => (show False from h7).elim)).trans ((hF3 (x + 25) fq_1203).trans ((hF2 (x + 25) (fun j9 h8 h7 => (show False from h7).elim)).trans ((hF1 (x + 25) fq_1182).trans hc0))))))
        have h_19 : Φ5 x = some (o_ 14 [.int th, .ref (x + 1), .ref (x + 2), .int ti, .int ra, .int (nI rt), .int ex, .int ad, .ref (x + 3), .ref (x + 4), .int me, .long se, .ref (x + 5), .int (nI fl), .int dr, .long ob, .long sa, .long sn, .long us, .ref (x + 6), .ref (x + 7), .int (nI pe), .ref (x + 8), .int (nI le), .ref (x + 9), .ref (x + 10), .int (nI qu), .ref (x + 11), .ref (x + 12), .ref (x + 13), .ref (x + 14), .ref (x + 15), .ref (x + 16), .int (nI n_7), .long v_5, .ref (x + 17), .ref (x + 18), .ref (x + 19), .ref (x + 20), .ref (x + 21), .ref (x + 22), .int (nI n_8), .ref (x + 23), .ref (x + 24), .int (nI tk), .ref (x + 25), .int (nI il), .int (nI i_3), .int ec, .int ep, .int i_4, .int (nI i_6), .int nu, .long i_5]) := ((fset_fr hΦ2 (ne_off (x := x) (i := 0) (j := 1) rfl)).trans h_14)
        refine z_callV (As := []) (rest := []) B (r_readEnd G l Φ5 sz x (NNc ((t + 1)) (upd (upd i_8 (11 + (i_8 10).toNatClampNeg) (nI i_1)) 10 (i_8 10 + 1))) nw cr tp tt sI sT pt ql fl pe le i_3 il qu i_4 ec nu i_5 i_6 ep ti ad ob ra rt ex sa us tk th me dr se sn fB i_7 hx hI6 h_18 b_41 (show i_7 ≤ il by omega) (show il ≤ 700 by omega) hnw) (cwV 0 B.1.2.2.2.2 gX12_readTemplate_X12_readEnd rfl rfl rfl (by decide +kernel) ⟨Nat.le_of_ble_eq_true rfl, Nat.le_of_ble_eq_true rfl⟩) h_19 rfl rfl rfl rfl (Nat.le_of_ble_eq_true rfl) dX12_readTemplate_126 ⟨Nat.le_of_ble_eq_true rfl, Nat.le_of_ble_eq_true rfl⟩ (fun r_7 Φ6 sz4 st4 hp4 hs4 => ?_)
        obtain ⟨-, hq4, ⟨n_9, v_6, v_7, v_8, v_9, n_10, v_10, b_64, hI7⟩, hF5⟩ := hp4
        subst sz4
        replace hI7 : Im G x ((NNc ((t + 1)) (upd (upd i_8 (11 + (i_8 10).toNatClampNeg) (nI i_1)) 10 (i_8 10 + 1))), nw, cr, tp, tt, sI, sT, pt, ql, fl, pe, le, n_9, il, qu, v_6, v_7, v_8, v_9, n_10, v_10, ti, ad, ob, ra, rt, ex, sa, us, tk, th, me, dr, se, sn) Φ6 := hI7
        replace b_64 : (r_7 = some (.int 1) ∧ semi (bA fB il) i_7 = (0, i_3) ∧ ec = v_7 ∧ ep = v_10 ∧ nu = v_8 ∧ TkR (bA fB il) i_3 v_6 n_10 n_9 v_9) ∨ (r_7 = some (.int 0) ∧ semi (bA fB il) i_7 = (1, i_6) ∧ v_7 = 1 ∧ v_10 = nI i_6) := b_64
        rcases b_64 with ⟨rfl, hN1, rfl, rfl, rfl, hT3⟩ | ⟨rfl, hN2, rfl, rfl⟩
        · replace hT3 : TkR (bA fB il) i_3 v_6 n_10 n_9 v_9 := hT3
          obtain ⟨b_65, b_66, b_67, b_68⟩ := TkR_b hT3 (by omega)
          replace hs4 : st4 = [.int 1] := hs4
          subst st4
          replace hN1 : semi (bA fB il) i_7 = (0, i_3) := hN1
          have b_69 := semi_lt b_41 (by omega) hN1
          obtain ⟨ek9, -⟩ := semi_k hT2 hN1
          have hT9 := ek9 ▸ hT2
          have hm9 := rt_m b_44 c_3
          exact z_ret_z B dX12_readTemplate_129 (by decide) ⟨(Or.inr rfl), rfl, ⟨n_9, v_6, ec, nu, v_9, n_10, ep, t + 1, upd (upd i_8 (11 + (i_8 10).toNatClampNeg) (nI i_1)) 10 (i_8 10 + 1), (Or.inl ⟨i_3, rfl, (if_neg (fun h9 => by have h8 := (nI_eq (a := t) (b := 4) (by omega) (by omega)).mp (hct.symm.trans h9); omega)).trans ((tplF b_42 (by omega)).trans (tplA_0 hT9 (by omega))), rfl, rfl, upd_at.trans (by rw [b_43]; exact nI_add t 1), by omega, by omega, by omega, hT3⟩), hI7⟩, (fun b9 h9 => ((hF5 b9 (fun j9 h8 h7 => h9 j9 h8 (fq_1202 j9 h7))).trans ((fset_fr hΦ2 (fun h8 => h9 (1) h8 (show 1 = 0 ∨ 1 = 1 by decide))).trans ((fset_fr hΦ1 (fun h8 => h9 (1) h8 (show 1 = 0 ∨ 1 = 1 by decide))).trans ((hF4 b9 (fun j9 h8 h7 => (show False from h7).elim)).trans ((hF3 b9 h9).trans ((hF2 b9 (fun j9 h8 h7 => (show False from h7).elim)).trans ((hF1 b9 (fun j9 h8 h7 => h9 j9 h8 (fq_1202 j9 h7))).trans rfl))))))))⟩
        · replace hs4 : st4 = [.int 0] := hs4
          subst st4
          replace hN2 : semi (bA fB il) i_7 = (1, i_6) := hN2
          exact z_ret_z B dX12_readTemplate_129 (by decide) ⟨(Or.inl rfl), rfl, ⟨n_9, v_6, 1, v_8, v_9, n_10, nI i_6, t + 1, upd (upd i_8 (11 + (i_8 10).toNatClampNeg) (nI i_1)) 10 (i_8 10 + 1), (Or.inr ⟨1, i_6, i_8, rfl, (if_neg (fun h9 => by have h8 := (nI_eq (a := t) (b := 4) (by omega) (by omega)).mp (hct.symm.trans h9); omega)).trans ((tplF b_42 (by omega)).trans (tplA_1 hT2 (fun h9 => absurd h9.2 (semi_n hT2 hN2)) (e_4.symm.trans c_3))), ⟨by omega, by omega⟩, rfl, rfl⟩), hI7⟩, (fun b9 h9 => ((hF5 b9 (fun j9 h8 h7 => h9 j9 h8 (fq_1202 j9 h7))).trans ((fset_fr hΦ2 (fun h8 => h9 (1) h8 (show 1 = 0 ∨ 1 = 1 by decide))).trans ((fset_fr hΦ1 (fun h8 => h9 (1) h8 (show 1 = 0 ∨ 1 = 1 by decide))).trans ((hF4 b9 (fun j9 h8 h7 => (show False from h7).elim)).trans ((hF3 b9 h9).trans ((hF2 b9 (fun j9 h8 h7 => (show False from h7).elim)).trans ((hF1 b9 (fun j9 h8 h7 => h9 j9 h8 (fq_1202 j9 h7))).trans rfl))))))))⟩
      · obtain ⟨k_3, hT4, e_6, b_70, e_7⟩ := fH_eq b_41 (by omega)
        obtain ⟨n_11, b_71, e_8⟩ := fHf_nat c_3
        refine z_iload_n B dX12_readTemplate_49 rfl 1 rfl ?_
        refine z_aload_n B dX12_readTemplate_50 rfl 3 rfl ?_
        have h_20 : Φ3 x = some (o_ 14 [.int th, .ref (x + 1), .ref (x + 2), .int ti, .int ra, .int (nI rt), .int ex, .int ad, .ref (x + 3), .ref (x + 4), .int me, .long se, .ref (x + 5), .int (nI fl), .int dr, .long ob, .long sa, .long sn, .long us, .ref (x + 6), .ref (x + 7), .int (nI pe), .ref (x + 8), .int (nI le), .ref (x + 9), .ref (x + 10), .int (nI qu), .ref (x + 11), .ref (x + 12), .ref (x + 13), .ref (x + 14), .ref (x + 15), .ref (x + 16), .int (nI n_7), .long v_5, .ref (x + 17), .ref (x + 18), .ref (x + 19), .ref (x + 20), .ref (x + 21), .ref (x + 22), .int (nI n_8), .ref (x + 23), .ref (x + 24), .int (nI tk), .ref (x + 25), .int (nI il), .int (nI i_3), .int ec, .int ep, .int i_4, .int (nI i_6), .int nu, .long i_5]) := ((hF4 x (fun j9 h8 h7 => (show False from h7).elim)).trans h_9)
        refine z_callV (As := []) (rest := [.int (nI i_2)]) B (r_fieldHere G l Φ3 sz x (AndC (TplR t i_1 i_2) i_8) nw cr tp tt sI sT pt ql fl pe le i_3 il qu i_4 ec nu i_5 i_6 ep ti ad ob ra rt ex sa us tk th me dr se sn  hx hI4 hnw) (cwV 0 B.1.2.2.2.2 gX12_readTemplate_X12_fieldHere rfl rfl rfl (by decide +kernel) ⟨Nat.le_of_ble_eq_true rfl, Nat.le_of_ble_eq_true rfl⟩) h_20 rfl rfl rfl rfl (Nat.le_of_ble_eq_true rfl) dX12_readTemplate_51 ⟨Nat.le_of_ble_eq_true rfl, Nat.le_of_ble_eq_true rfl⟩ (fun r_8 Φ7 sz5 st5 hp5 hs5 => ?_)
        obtain ⟨rfl, hq5, hI8, hF6⟩ := hp5
        subst sz5
        replace hs5 : st5 = [.int (fHf i_4 i_5), .int (nI i_2)] := hs5
        subst st5
        replace hI8 : Im G x ((AndC (TplR t i_1 i_2) i_8), nw, cr, tp, tt, sI, sT, pt, ql, fl, pe, le, i_3, il, qu, i_4, ec, nu, i_5, i_6, ep, ti, ad, ob, ra, rt, ex, sa, us, tk, th, me, dr, se, sn) Φ7 := hI8
        refine z_top (st1 := [.int (nI n_11), .int (nI i_2)]) (congrArg (fun w9 : Int32 => ([.int w9, .int (nI i_2)] : List Value)) (e_8)) ?_
        refine z_ishr B dX12_readTemplate_54 ?_
        refine z_iconst (v := 1) B dX12_readTemplate_55 rfl ?_
        refine z_iand B dX12_readTemplate_56 ?_
        refine z_iconst (v := 1) B dX12_readTemplate_57 rfl ?_
        refine z_icmp_ne (tgt := 67) B dX12_readTemplate_58 rfl (fun c_4 => ?_) (fun c_4 => ?_)
        · obtain ⟨b_72, b_73, b_74, b_75, b_76⟩ := msk (m := i_2) (n := n_11) (by omega) (by omega) c_4
          refine z_iload_n B dX12_readTemplate_67 rfl 1 rfl ?_
          refine z_iconst (v := 1) B dX12_readTemplate_68 rfl ?_
          refine z_aload_n B dX12_readTemplate_69 rfl 3 rfl ?_
          have h_21 : Φ7 x = some (o_ 14 [.int th, .ref (x + 1), .ref (x + 2), .int ti, .int ra, .int (nI rt), .int ex, .int ad, .ref (x + 3), .ref (x + 4), .int me, .long se, .ref (x + 5), .int (nI fl), .int dr, .long ob, .long sa, .long sn, .long us, .ref (x + 6), .ref (x + 7), .int (nI pe), .ref (x + 8), .int (nI le), .ref (x + 9), .ref (x + 10), .int (nI qu), .ref (x + 11), .ref (x + 12), .ref (x + 13), .ref (x + 14), .ref (x + 15), .ref (x + 16), .int (nI n_7), .long v_5, .ref (x + 17), .ref (x + 18), .ref (x + 19), .ref (x + 20), .ref (x + 21), .ref (x + 22), .int (nI n_8), .ref (x + 23), .ref (x + 24), .int (nI tk), .ref (x + 25), .int (nI il), .int (nI i_3), .int ec, .int ep, .int i_4, .int (nI i_6), .int nu, .long i_5]) := ((hF6 x (fun j9 h8 h7 => (show False from h7).elim)).trans h_20)
          refine z_callV (As := []) (rest := [.int 1, .int (nI i_2)]) B (r_fieldHere G l Φ7 sz x (AndC (TplR t i_1 i_2) i_8) nw cr tp tt sI sT pt ql fl pe le i_3 il qu i_4 ec nu i_5 i_6 ep ti ad ob ra rt ex sa us tk th me dr se sn  hx hI8 hnw) (cwV 0 B.1.2.2.2.2 gX12_readTemplate_X12_fieldHere rfl rfl rfl (by decide +kernel) ⟨Nat.le_of_ble_eq_true rfl, Nat.le_of_ble_eq_true rfl⟩) h_21 rfl rfl rfl rfl (Nat.le_of_ble_eq_true rfl) dX12_readTemplate_70 ⟨Nat.le_of_ble_eq_true rfl, Nat.le_of_ble_eq_true rfl⟩ (fun r_9 Φ8 sz6 st6 hp6 hs6 => ?_)
          obtain ⟨rfl, hq6, hI9, hF7⟩ := hp6
          subst sz6
          replace hs6 : st6 = [.int (fHf i_4 i_5), .int 1, .int (nI i_2)] := hs6
          subst st6
          replace hI9 : Im G x ((AndC (TplR t i_1 i_2) i_8), nw, cr, tp, tt, sI, sT, pt, ql, fl, pe, le, i_3, il, qu, i_4, ec, nu, i_5, i_6, ep, ti, ad, ob, ra, rt, ex, sa, us, tk, th, me, dr, se, sn) Φ8 := hI9
          refine z_top (st1 := [.int (nI n_11), .int 1, .int (nI i_2)]) (congrArg (fun w9 : Int32 => ([.int w9, .int 1, .int (nI i_2)] : List Value)) (e_8)) ?_
          refine z_ishl B dX12_readTemplate_73 ?_
          refine z_ior B dX12_readTemplate_74 ?_
          refine z_top (st1 := [.int (nI (i_2 + 2 ^ n_11))]) (congrArg (fun w9 : Int32 => ([.int w9] : List Value)) (b_72)) ?_
          refine z_istore_n (lv' := [(2, .int (nI (i_2 + 2 ^ n_11))), (3, .int (nI i_1)), (1, .int (nI t)), (0, .ref x)]) B dX12_readTemplate_75 rfl (Nat.le_of_ble_eq_true rfl) rfl ?_
          refine z_aload_n B dX12_readTemplate_76 rfl 3 rfl ?_
          have h_22 : Φ8 x = some (o_ 14 [.int th, .ref (x + 1), .ref (x + 2), .int ti, .int ra, .int (nI rt), .int ex, .int ad, .ref (x + 3), .ref (x + 4), .int me, .long se, .ref (x + 5), .int (nI fl), .int dr, .long ob, .long sa, .long sn, .long us, .ref (x + 6), .ref (x + 7), .int (nI pe), .ref (x + 8), .int (nI le), .ref (x + 9), .ref (x + 10), .int (nI qu), .ref (x + 11), .ref (x + 12), .ref (x + 13), .ref (x + 14), .ref (x + 15), .ref (x + 16), .int (nI n_7), .long v_5, .ref (x + 17), .ref (x + 18), .ref (x + 19), .ref (x + 20), .ref (x + 21), .ref (x + 22), .int (nI n_8), .ref (x + 23), .ref (x + 24), .int (nI tk), .ref (x + 25), .int (nI il), .int (nI i_3), .int ec, .int ep, .int i_4, .int (nI i_6), .int nu, .long i_5]) := ((hF7 x (fun j9 h8 h7 => (show False from h7).elim)).trans h_21)
          refine z_get (ref := "FlowExporterModel") (C := RX12) (T := TX12) (N := 54) (ci := 14) (v := .ref (x + 1)) B hu_X12_readTemplate_X12 rfl 1 (Nat.le_of_ble_eq_true rfl) hv_X12_readTemplate_13 rfl h_22 rfl dX12_readTemplate_77 ?_
          refine z_bipush (v := 15) B dX12_readTemplate_80 rfl ?_
          refine z_bipush (v := 9) B dX12_readTemplate_82 rfl ?_
          refine z_iload_n B dX12_readTemplate_84 rfl 2 rfl ?_
          refine z_imul B dX12_readTemplate_85 ?_
          refine z_top (st1 := [.int (nI (9 * t)), .int 15, .ref (x + 1)]) (congrArg (fun w9 : Int32 => ([.int w9, .int 15, .ref (x + 1)] : List Value)) (nI_mul 9 t)) ?_
          refine z_iadd B dX12_readTemplate_86 ?_
          refine z_top (st1 := [.int (nI (15 + 9 * t)), .ref (x + 1)]) (congrArg (fun w9 : Int32 => ([.int w9, .ref (x + 1)] : List Value)) (nI_add 15 (9 * t))) ?_
          refine z_iload_n B dX12_readTemplate_87 rfl 1 rfl ?_
          refine z_iadd B dX12_readTemplate_88 ?_
          refine z_top (st1 := [.int (nI (15 + 9 * t + i_1)), .ref (x + 1)]) (congrArg (fun w9 : Int32 => ([.int w9, .ref (x + 1)] : List Value)) (nI_add (15 + 9 * t) i_1)) ?_
          refine z_aload_n B dX12_readTemplate_89 rfl 3 rfl ?_
          refine z_callV (As := []) (rest := [.int (nI (15 + 9 * t + i_1)), .ref (x + 1)]) B (r_fieldHere G l Φ8 sz x (AndC (TplR t i_1 i_2) i_8) nw cr tp tt sI sT pt ql fl pe le i_3 il qu i_4 ec nu i_5 i_6 ep ti ad ob ra rt ex sa us tk th me dr se sn  hx hI9 hnw) (cwV 0 B.1.2.2.2.2 gX12_readTemplate_X12_fieldHere rfl rfl rfl (by decide +kernel) ⟨Nat.le_of_ble_eq_true rfl, Nat.le_of_ble_eq_true rfl⟩) h_22 rfl rfl rfl rfl (Nat.le_of_ble_eq_true rfl) dX12_readTemplate_90 ⟨Nat.le_of_ble_eq_true rfl, Nat.le_of_ble_eq_true rfl⟩ (fun r_10 Φ9 sz7 st7 hp7 hs7 => ?_)
          obtain ⟨rfl, hq7, hI10, hF8⟩ := hp7
          subst sz7
          replace hs7 : st7 = [.int (fHf i_4 i_5), .int (nI (15 + 9 * t + i_1)), .ref (x + 1)] := hs7
          subst st7
          replace hI10 : Im G x ((AndC (TplR t i_1 i_2) i_8), nw, cr, tp, tt, sI, sT, pt, ql, fl, pe, le, i_3, il, qu, i_4, ec, nu, i_5, i_6, ep, ti, ad, ob, ra, rt, ex, sa, us, tk, th, me, dr, se, sn) Φ9 := hI10
          refine z_top (st1 := [.int (nI n_11), .int (nI (15 + 9 * t + i_1)), .ref (x + 1)]) (congrArg (fun w9 : Int32 => ([.int w9, .int (nI (15 + 9 * t + i_1)), .ref (x + 1)] : List Value)) (e_8)) ?_
          obtain ⟨f_4, h_23, r_11⟩ := imk (k := 1) hI10
          replace r_11 : (AndC (TplR t i_1 i_2) i_8) f_4 := r_11
          have h_24 : Φ9 (x + 1) = some (ai_ G 307 f_4) := h_23
          refine z_iast B h_24 (Nat.le_trans hx (Nat.le_add_right x 1)) (vp_in_nI (by omega) (by omega)) dX12_readTemplate_93 (fun Φ10 hΦ3 => ?_)
          have h_25 : Φ10 (x + 1) = some (ai_ G 307 (upd f_4 (nI (15 + 9 * t + i_1)).toNatClampNeg (nI n_11))) := fset_at hΦ3
          have hI11 : Im G x ((AndC (TplR t (i_1 + 1) (i_2 + 2 ^ n_11)) (upd i_8 (15 + 9 * (i_8 10).toNatClampNeg + i_1) (nI n_11))), nw, cr, tp, tt, sI, sT, pt, ql, fl, pe, le, i_3, il, qu, i_4, ec, nu, i_5, i_6, ep, ti, ad, ob, ra, rt, ex, sa, us, tk, th, me, dr, se, sn) Φ10 := Im.put1 (rd1 := (AndC (TplR t (i_1 + 1) (i_2 + 2 ^ n_11)) (upd i_8 (15 + 9 * (i_8 10).toNatClampNeg + i_1) (nI n_11)))) hI10 hΦ3 (AndC.upi r_11 (TplR.fld (n := n_11) r_11.1 (by omega) (by omega) (by omega) (nI_clamp (by omega)) b_75) rfl (by rw [b_43, nI_clamp (n := t) (by omega)]; exact nI_clamp (by omega)))
          refine z_iinc (k := 1) (v := nI (i_1 + 1)) (lv' := [(3, .int (nI (i_1 + 1))), (2, .int (nI (i_2 + 2 ^ n_11))), (1, .int (nI t)), (0, .ref x)]) B dX12_readTemplate_94 rfl (nI_add i_1 1) (Nat.le_of_ble_eq_true rfl) rfl ?_
          refine z_aload_n B dX12_readTemplate_97 rfl 3 rfl ?_
          have h_26 : Φ10 (x + 25) = some (ab_ G 700 fB) := ((fset_fr hΦ3 (ne_off (x := x) (i := 25) (j := 1) rfl)).trans ((hF8 (x + 25) (fun j9 h8 h7 => (show False from h7).elim)).trans ((hF7 (x + 25) (fun j9 h8 h7 => (show False from h7).elim)).trans ((hF6 (x + 25) (fun j9 h8 h7 => (show False from h7).elim)).trans ((hF4 (x + 25) (fun j9 h8 h7 => (show False from h7).elim)).trans ((hF3 (x + 25) fq_1203).trans ((hF2 (x + 25) (fun j9 h8 h7 => (show False from h7).elim)).trans ((hF1 (x + 25) fq_1182).trans hc0))))))))
          have h_27 : Φ10 x = some (o_ 14 [.int th, .ref (x + 1), .ref (x + 2), .int ti, .int ra, .int (nI rt), .int ex, .int ad, .ref (x + 3), .ref (x + 4), .int me, .long se, .ref (x + 5), .int (nI fl), .int dr, .long ob, .long sa, .long sn, .long us, .ref (x + 6), .ref (x + 7), .int (nI pe), .ref (x + 8), .int (nI le), .ref (x + 9), .ref (x + 10), .int (nI qu), .ref (x + 11), .ref (x + 12), .ref (x + 13), .ref (x + 14), .ref (x + 15), .ref (x + 16), .int (nI n_7), .long v_5, .ref (x + 17), .ref (x + 18), .ref (x + 19), .ref (x + 20), .ref (x + 21), .ref (x + 22), .int (nI n_8), .ref (x + 23), .ref (x + 24), .int (nI tk), .ref (x + 25), .int (nI il), .int (nI i_3), .int ec, .int ep, .int i_4, .int (nI i_6), .int nu, .long i_5]) := ((fset_fr hΦ3 (ne_off (x := x) (i := 0) (j := 1) rfl)).trans ((hF8 x (fun j9 h8 h7 => (show False from h7).elim)).trans h_22))
          refine z_callV (As := []) (rest := []) B (r_advanceToken G l Φ10 sz x (AndC (TplR t (i_1 + 1) (i_2 + 2 ^ n_11)) (upd i_8 (15 + 9 * (i_8 10).toNatClampNeg + i_1) (nI n_11))) nw cr tp tt sI sT pt ql fl pe le i_3 il qu i_4 ec nu i_5 i_6 ep ti ad ob ra rt ex sa us tk th me dr se sn fB hx hI11 h_26 (show i_3 ≤ il by omega) (show il ≤ 700 by omega) hnw) (cwV 0 B.1.2.2.2.2 gX12_readTemplate_X12_advanceToken rfl rfl rfl (by decide +kernel) ⟨Nat.le_of_ble_eq_true rfl, Nat.le_of_ble_eq_true rfl⟩) h_27 rfl rfl rfl rfl (Nat.le_of_ble_eq_true rfl) dX12_readTemplate_98 ⟨Nat.le_of_ble_eq_true rfl, Nat.le_of_ble_eq_true rfl⟩ (fun r_12 Φ11 sz8 st8 hp8 hs8 => ?_)
          obtain ⟨rfl, hq8, ⟨n_12, v_11, v_12, n_13, b_77, hI12⟩, hF9⟩ := hp8
          subst sz8
          replace hs8 : st8 = [] := hs8
          subst st8
          replace hI12 : Im G x ((AndC (TplR t (i_1 + 1) (i_2 + 2 ^ n_11)) (upd i_8 (15 + 9 * (i_8 10).toNatClampNeg + i_1) (nI n_11))), nw, cr, tp, tt, sI, sT, pt, ql, fl, pe, le, n_12, il, qu, v_11, ec, nu, v_12, n_13, ep, ti, ad, ob, ra, rt, ex, sa, us, tk, th, me, dr, se, sn) Φ11 := hI12
          replace b_77 : TkR (bA fB il) i_3 v_11 n_13 n_12 v_12 := b_77
          obtain ⟨b_78, b_79, b_80, b_81⟩ := TkR_b b_77 (by omega)
          refine z_goto (tgt := 41) B dX12_readTemplate_101 rfl ?_
          refine z_lv [0, 1, 2, 3] rfl ?_
          exact ih1 (i_1 + 1, i_2 + 2 ^ n_11, n_12, v_11, v_12, n_13, i_3, (upd i_8 (15 + 9 * (i_8 10).toNatClampNeg + i_1) (nI n_11))) Φ11 (show 9 - (i_1 + 1) < 9 - i_1 by omega) ⟨hI12, (fun b9 h9 => ((hF9 b9 (fun j9 h8 h7 => h9 j9 h8 (fq_1202 j9 h7))).trans ((fset_fr hΦ3 (fun h8 => h9 (1) h8 (show 1 = 0 ∨ 1 = 1 by decide))).trans ((hF8 b9 (fun j9 h8 h7 => (show False from h7).elim)).trans ((hF7 b9 (fun j9 h8 h7 => (show False from h7).elim)).trans ((hF6 b9 (fun j9 h8 h7 => (show False from h7).elim)).trans ((hF4 b9 (fun j9 h8 h7 => (show False from h7).elim)).trans ((hF3 b9 h9).trans rfl)))))))), (show (i_1 + 1) ≤ 9 by omega), (show (i_2 + 2 ^ n_11) < 512 by omega), (show (i_1 + 1) = pcn (i_2 + 2 ^ n_11) by omega), (show p ≤ i_3 by omega), b_77, (tplS b_42 (by omega) hT4 (fun h9 => absurd (wd_2 (fun h8 => c_3 (e_6.trans h8))) (by omega)) (e_6.symm.trans e_8) (by omega) c_4 (by omega)), ((upd_ne (by omega)).trans b_43), (Or.inl (by omega)), (show i_3 ≤ il from (by omega)), trivial⟩
        · have hI13 : Im G x ((NNc t i_8), nw, cr, tp, tt, sI, sT, pt, ql, fl, pe, le, i_3, il, qu, i_4, ec, nu, i_5, i_6, ep, ti, ad, ob, ra, rt, ex, sa, us, tk, th, me, dr, se, sn) Φ7 := Im.weak hI8 (fun f9 q9 => ⟨q9.1.t10, q9.2⟩) (fun _ q9 => q9)
          refine z_aload_n B dX12_readTemplate_61 rfl 3 rfl ?_
          refine z_iconst (v := 3) B dX12_readTemplate_62 rfl ?_
          have h_28 : Φ7 x = some (o_ 14 [.int th, .ref (x + 1), .ref (x + 2), .int ti, .int ra, .int (nI rt), .int ex, .int ad, .ref (x + 3), .ref (x + 4), .int me, .long se, .ref (x + 5), .int (nI fl), .int dr, .long ob, .long sa, .long sn, .long us, .ref (x + 6), .ref (x + 7), .int (nI pe), .ref (x + 8), .int (nI le), .ref (x + 9), .ref (x + 10), .int (nI qu), .ref (x + 11), .ref (x + 12), .ref (x + 13), .ref (x + 14), .ref (x + 15), .ref (x + 16), .int (nI n_7), .long v_5, .ref (x + 17), .ref (x + 18), .ref (x + 19), .ref (x + 20), .ref (x + 21), .ref (x + 22), .int (nI n_8), .ref (x + 23), .ref (x + 24), .int (nI tk), .ref (x + 25), .int (nI il), .int (nI i_3), .int ec, .int ep, .int i_4, .int (nI i_6), .int nu, .long i_5]) := ((hF6 x (fun j9 h8 h7 => (show False from h7).elim)).trans h_20)
          refine z_callV (As := [.int 3]) (rest := []) B (r_fail G l Φ7 sz x (NNc t i_8) nw cr tp tt sI sT pt ql fl pe le i_3 il qu i_4 ec nu i_5 i_6 ep ti ad ob ra rt ex sa us tk th me dr se sn 3 hx hI13 hnw) (cwV 1 B.1.2.2.2.2 gX12_readTemplate_X12_fail rfl rfl rfl (by decide +kernel) ⟨Nat.le_of_ble_eq_true rfl, Nat.le_of_ble_eq_true rfl⟩) h_28 rfl rfl rfl rfl (Nat.le_of_ble_eq_true rfl) dX12_readTemplate_63 ⟨Nat.le_of_ble_eq_true rfl, Nat.le_of_ble_eq_true rfl⟩ (fun r_13 Φ12 sz9 st9 hp9 hs9 => ?_)
          obtain ⟨rfl, hq9, hI14, hF10⟩ := hp9
          subst sz9
          replace hs9 : st9 = [.int 0] := hs9
          subst st9
          replace hI14 : Im G x ((NNc t i_8), nw, cr, tp, tt, sI, sT, pt, ql, fl, pe, le, i_3, il, qu, i_4, 3, nu, i_5, i_6, nI i_6, ti, ad, ob, ra, rt, ex, sa, us, tk, th, me, dr, se, sn) Φ12 := hI14
          exact z_ret_z B dX12_readTemplate_66 (by decide) ⟨(Or.inl rfl), rfl, ⟨i_3, i_4, 3, nu, i_5, i_6, nI i_6, t, i_8, (Or.inr ⟨3, i_6, i_8, rfl, (if_neg (fun h9 => by have h8 := (nI_eq (a := t) (b := 4) (by omega) (by omega)).mp (hct.symm.trans h9); omega)).trans ((tplF b_42 (by omega)).trans (tplA_3 hT4 (fun h9 => absurd (wd_2 (fun h8 => c_3 (e_6.trans h8))) (by omega)) (e_6.symm.trans e_8) (nI_nm1x (by omega)) c_4)), ⟨by omega, by omega⟩, rfl, rfl⟩), hI14⟩, (fun b9 h9 => ((hF10 b9 (fun j9 h8 h7 => h9 j9 h8 (fq_1202 j9 h7))).trans ((hF6 b9 (fun j9 h8 h7 => (show False from h7).elim)).trans ((hF4 b9 (fun j9 h8 h7 => (show False from h7).elim)).trans ((hF3 b9 h9).trans ((hF2 b9 (fun j9 h8 h7 => (show False from h7).elim)).trans ((hF1 b9 (fun j9 h8 h7 => h9 j9 h8 (fq_1202 j9 h7))).trans rfl)))))))⟩
    · obtain ⟨k_4, hT5, e_9, b_82, e_10⟩ := fH_eq b_18 (by omega)
      refine z_aload_n B dX12_readTemplate_35 rfl 3 rfl ?_
      refine z_iconst (v := 1) B dX12_readTemplate_36 rfl ?_
      have h_29 : Φ2 x = some (o_ 14 [.int th, .ref (x + 1), .ref (x + 2), .int ti, .int ra, .int (nI rt), .int ex, .int ad, .ref (x + 3), .ref (x + 4), .int me, .long se, .ref (x + 5), .int (nI fl), .int dr, .long ob, .long sa, .long sn, .long us, .ref (x + 6), .ref (x + 7), .int (nI pe), .ref (x + 8), .int (nI le), .ref (x + 9), .ref (x + 10), .int (nI qu), .ref (x + 11), .ref (x + 12), .ref (x + 13), .ref (x + 14), .ref (x + 15), .ref (x + 16), .int (nI n_5), .long v_4, .ref (x + 17), .ref (x + 18), .ref (x + 19), .ref (x + 20), .ref (x + 21), .ref (x + 22), .int (nI n_6), .ref (x + 23), .ref (x + 24), .int (nI tk), .ref (x + 25), .int (nI il), .int (nI n_3), .int ec, .int ep, .int v_2, .int (nI n_4), .int nu, .long v_3]) := ((hF2 x (fun j9 h8 h7 => (show False from h7).elim)).trans h_6)
      refine z_callV (As := [.int 1]) (rest := []) B (r_fail G l Φ2 sz x (NNc t c) nw cr tp tt sI sT pt ql fl pe le n_3 il qu v_2 ec nu v_3 n_4 ep ti ad ob ra rt ex sa us tk th me dr se sn 1 hx hI2 hnw) (cwV 1 B.1.2.2.2.2 gX12_readTemplate_X12_fail rfl rfl rfl (by decide +kernel) ⟨Nat.le_of_ble_eq_true rfl, Nat.le_of_ble_eq_true rfl⟩) h_29 rfl rfl rfl rfl (Nat.le_of_ble_eq_true rfl) dX12_readTemplate_37 ⟨Nat.le_of_ble_eq_true rfl, Nat.le_of_ble_eq_true rfl⟩ (fun r_14 Φ13 sz10 st10 hp10 hs10 => ?_)
      obtain ⟨rfl, hq10, hI15, hF11⟩ := hp10
      subst sz10
      replace hs10 : st10 = [.int 0] := hs10
      subst st10
      replace hI15 : Im G x ((NNc t c), nw, cr, tp, tt, sI, sT, pt, ql, fl, pe, le, n_3, il, qu, v_2, 1, nu, v_3, n_4, nI n_4, ti, ad, ob, ra, rt, ex, sa, us, tk, th, me, dr, se, sn) Φ13 := hI15
      exact z_ret_z B dX12_readTemplate_40 (by decide) ⟨(Or.inl rfl), rfl, ⟨n_3, v_2, 1, nu, v_3, n_4, nI n_4, t, c, (Or.inr ⟨1, n_4, c, rfl, (if_neg (fun h9 => by have h8 := (nI_eq (a := t) (b := 4) (by omega) (by omega)).mp (hct.symm.trans h9); omega)).trans (tplA_1 (k := 9) hT5 (fun h9 => h9.1 rfl) (e_9.symm.trans c_2)), ⟨by omega, by omega⟩, rfl, rfl⟩), hI15⟩, (fun b9 h9 => ((hF11 b9 (fun j9 h8 h7 => h9 j9 h8 (fq_1202 j9 h7))).trans ((hF2 b9 (fun j9 h8 h7 => (show False from h7).elim)).trans ((hF1 b9 (fun j9 h8 h7 => h9 j9 h8 (fq_1202 j9 h7))).trans rfl))))⟩
  · have e_11 : t = 4 := (nI_eq (a := t) (b := 4) (by omega) (by omega)).mp c_1
    refine z_aload_n B dX12_readTemplate_13 rfl 1 rfl ?_
    refine z_iconst (v := 4) B dX12_readTemplate_14 rfl ?_
    refine z_callV (As := [.int 4]) (rest := []) B (r_fail G l Φ sz x (NNc t c) nw cr tp tt sI sT pt ql fl pe le nx il qu kn ec nu va st ep ti ad ob ra rt ex sa us tk th me dr se sn 4 hx hI hnw) (cwV 1 B.1.2.2.2.2 gX12_readTemplate_X12_fail rfl rfl rfl (by decide +kernel) ⟨Nat.le_of_ble_eq_true rfl, Nat.le_of_ble_eq_true rfl⟩) h_2 rfl rfl rfl rfl (Nat.le_of_ble_eq_true rfl) dX12_readTemplate_15 ⟨Nat.le_of_ble_eq_true rfl, Nat.le_of_ble_eq_true rfl⟩ (fun r_15 Φ14 sz11 st11 hp11 hs11 => ?_)
    obtain ⟨rfl, hq11, hI16, hF12⟩ := hp11
    subst sz11
    replace hs11 : st11 = [.int 0] := hs11
    subst st11
    replace hI16 : Im G x ((NNc t c), nw, cr, tp, tt, sI, sT, pt, ql, fl, pe, le, nx, il, qu, kn, 4, nu, va, st, nI st, ti, ad, ob, ra, rt, ex, sa, us, tk, th, me, dr, se, sn) Φ14 := hI16
    exact z_ret_z B dX12_readTemplate_18 (by decide) ⟨(Or.inl rfl), rfl, ⟨nx, kn, 4, nu, va, st, nI st, t, c, (Or.inr ⟨4, st, c, rfl, if_pos (hct.trans (show nI t = 4 by rw [show t = 4 by omega]; rfl)), ⟨by omega, by omega⟩, rfl, rfl⟩), hI16⟩, (fun b9 h9 => ((hF12 b9 (fun j9 h8 h7 => h9 j9 h8 (fq_1202 j9 h7))).trans rfl))⟩

noncomputable abbrev tkG (b : Nat → Int32) (p : Nat) : Nat × Nat × Nat := tk b p

theorem hu_X12_readStatement_X12 : ∀ w ∈ u_ws RX12 TX12 54, w ∈ wsX12_readStatement := fun _ h => List.mem_cons_of_mem _ (List.mem_append_left _ (List.mem_append_right _ (h)))

theorem hv_X12_readStatement_476 : Cond.fieldLink RX12 476 "FlowExporterModel" (TX12 50).2.1 (TX12 50).2.2.1 ∈ wsX12_readStatement := List.mem_cons_of_mem _ (List.mem_append_left _ (List.mem_append_left _ (List.mem_append_left _ (List.mem_of_getElem? (i := 0) rfl))))

theorem hv_X12_readStatement_467 : Cond.fieldLink RX12 467 "FlowExporterModel" (TX12 53).2.1 (TX12 53).2.2.1 ∈ wsX12_readStatement := List.mem_cons_of_mem _ (List.mem_append_left _ (List.mem_append_left _ (List.mem_append_left _ (List.mem_of_getElem? (i := 1) rfl))))

set_option maxRecDepth 20000 in
theorem ggX12_exchange_X12_isMessage : GoodIn wsX12_exchange wsX12_isMessage := (goodIn_ca (goodIn_r _ [8, 9, 10, 11, 7, 12] rfl (by decide +kernel)) (goodIn_sub (fun _ h => List.mem_cons_of_mem _ (List.mem_append_left _ (List.mem_append_right _ h))) gw_wsX120))
set_option maxRecDepth 20000 in
theorem gX12_exchange_X12_isMessage : GoodIn wsX12_exchange (wsV RX12 311 RX12 yX12_isMessage wsX12_isMessage) := goodIn_app (goodIn_m (mem_cA (List.mem_cons_of_mem _ (List.mem_append_left _ (List.mem_append_left _ (List.mem_of_getElem? (i := 3) rfl)))) (mem_cA (List.mem_cons_of_mem _ (List.mem_append_left _ (List.mem_append_left _ (List.mem_of_getElem? (i := 4) rfl)))) (mem_cA (List.mem_cons_of_mem _ (List.mem_append_left _ (List.mem_append_left _ (List.mem_of_getElem? (i := 5) rfl)))) (mem_cA (List.mem_cons_of_mem _ (List.mem_append_left _ (List.mem_append_left _ (List.mem_of_getElem? (i := 6) rfl)))) mem_cZ)))) (by decide +kernel)) ggX12_exchange_X12_isMessage
set_option maxRecDepth 20000 in
theorem ggX12_exchange_X12_throwsIf : GoodIn wsX12_exchange wsX12_throwsIf := (goodIn_ca (goodIn_r _ [16, 1] rfl (by decide +kernel)) (goodIn_sub (fun _ h => List.mem_cons_of_mem _ (List.mem_append_left _ (List.mem_append_right _ h))) gw_wsX120))
set_option maxRecDepth 20000 in
theorem gX12_exchange_X12_throwsIf : GoodIn wsX12_exchange (wsV RX12 185 RX12 yX12_throwsIf wsX12_throwsIf) := goodIn_app (goodIn_m (mem_cA (List.mem_cons_of_mem _ (List.mem_append_left _ (List.mem_append_left _ (List.mem_of_getElem? (i := 12) rfl)))) (mem_cA (List.mem_cons_of_mem _ (List.mem_append_left _ (List.mem_append_left _ (List.mem_of_getElem? (i := 13) rfl)))) (mem_cA (List.mem_cons_of_mem _ (List.mem_append_left _ (List.mem_append_left _ (List.mem_of_getElem? (i := 14) rfl)))) (mem_cA (List.mem_cons_of_mem _ (List.mem_append_left _ (List.mem_append_left _ (List.mem_of_getElem? (i := 6) rfl)))) mem_cZ)))) (by decide +kernel)) ggX12_exchange_X12_throwsIf
theorem dX12_exchange_0 : decode cX12_exchange 0 = .ok (.aload_n 0, 1) := by decide +kernel
theorem dX12_exchange_1 : decode cX12_exchange 1 = .ok (.iconst 0, 1) := by decide +kernel
theorem dX12_exchange_2 : decode cX12_exchange 2 = .ok (.putfield 1, 3) := by decide +kernel
theorem dX12_exchange_5 : decode cX12_exchange 5 = .ok (.aload_n 0, 1) := by decide +kernel
theorem dX12_exchange_6 : decode cX12_exchange 6 = .ok (.aload_n 0, 1) := by decide +kernel
theorem dX12_exchange_7 : decode cX12_exchange 7 = .ok (.iload_n 1, 1) := by decide +kernel
theorem dX12_exchange_8 : decode cX12_exchange 8 = .ok (.invokevirtual 311, 3) := by decide +kernel
theorem dX12_exchange_11 : decode cX12_exchange 11 = .ok (.ifCond .eq 11, 3) := by decide +kernel
theorem dX12_exchange_14 : decode cX12_exchange 14 = .ok (.aload_n 0, 1) := by decide +kernel
theorem dX12_exchange_15 : decode cX12_exchange 15 = .ok (.iload_n 2, 1) := by decide +kernel
theorem dX12_exchange_16 : decode cX12_exchange 16 = .ok (.invokevirtual 311, 3) := by decide +kernel
theorem dX12_exchange_19 : decode cX12_exchange 19 = .ok (.ifCond .ne 7, 3) := by decide +kernel
theorem dX12_exchange_22 : decode cX12_exchange 22 = .ok (.iconst 1, 1) := by decide +kernel
theorem dX12_exchange_23 : decode cX12_exchange 23 = .ok (.goto 4, 3) := by decide +kernel
theorem dX12_exchange_26 : decode cX12_exchange 26 = .ok (.iconst 0, 1) := by decide +kernel
theorem dX12_exchange_27 : decode cX12_exchange 27 = .ok (.iconst 1, 1) := by decide +kernel
theorem dX12_exchange_28 : decode cX12_exchange 28 = .ok (.invokevirtual 185, 3) := by decide +kernel
theorem dX12_exchange_31 : decode cX12_exchange 31 = .ok (.ifCond .ne 8, 3) := by decide +kernel
theorem dX12_exchange_34 : decode cX12_exchange 34 = .ok (.iload_n 1, 1) := by decide +kernel
theorem dX12_exchange_35 : decode cX12_exchange 35 = .ok (.iload_n 2, 1) := by decide +kernel
theorem dX12_exchange_36 : decode cX12_exchange 36 = .ok (.if_icmp .ne 5, 3) := by decide +kernel
theorem dX12_exchange_39 : decode cX12_exchange 39 = .ok (.iconst 0, 1) := by decide +kernel
theorem dX12_exchange_40 : decode cX12_exchange 40 = .ok (.ireturn, 1) := by decide +kernel
theorem dX12_exchange_41 : decode cX12_exchange 41 = .ok (.iconst 0, 1) := by decide +kernel
theorem dX12_exchange_42 : decode cX12_exchange 42 = .ok (.istore_n 3, 1) := by decide +kernel
theorem dX12_exchange_43 : decode cX12_exchange 43 = .ok (.iload_n 3, 1) := by decide +kernel
theorem dX12_exchange_44 : decode cX12_exchange 44 = .ok (.sipush 600, 3) := by decide +kernel
theorem dX12_exchange_47 : decode cX12_exchange 47 = .ok (.if_icmp .ge 61, 3) := by decide +kernel
theorem dX12_exchange_50 : decode cX12_exchange 50 = .ok (.aload_n 0, 1) := by decide +kernel
theorem dX12_exchange_51 : decode cX12_exchange 51 = .ok (.getfield 39, 3) := by decide +kernel
theorem dX12_exchange_54 : decode cX12_exchange 54 = .ok (.sipush 600, 3) := by decide +kernel
theorem dX12_exchange_57 : decode cX12_exchange 57 = .ok (.iload_n 1, 1) := by decide +kernel
theorem dX12_exchange_58 : decode cX12_exchange 58 = .ok (.imul, 1) := by decide +kernel
theorem dX12_exchange_59 : decode cX12_exchange 59 = .ok (.iload_n 3, 1) := by decide +kernel
theorem dX12_exchange_60 : decode cX12_exchange 60 = .ok (.iadd, 1) := by decide +kernel
theorem dX12_exchange_61 : decode cX12_exchange 61 = .ok (.iaload, 1) := by decide +kernel
theorem dX12_exchange_62 : decode cX12_exchange 62 = .ok (.istore 4, 2) := by decide +kernel
theorem dX12_exchange_64 : decode cX12_exchange 64 = .ok (.aload_n 0, 1) := by decide +kernel
theorem dX12_exchange_65 : decode cX12_exchange 65 = .ok (.getfield 39, 3) := by decide +kernel
theorem dX12_exchange_68 : decode cX12_exchange 68 = .ok (.sipush 600, 3) := by decide +kernel
theorem dX12_exchange_71 : decode cX12_exchange 71 = .ok (.iload_n 1, 1) := by decide +kernel
theorem dX12_exchange_72 : decode cX12_exchange 72 = .ok (.imul, 1) := by decide +kernel
theorem dX12_exchange_73 : decode cX12_exchange 73 = .ok (.iload_n 3, 1) := by decide +kernel
theorem dX12_exchange_74 : decode cX12_exchange 74 = .ok (.iadd, 1) := by decide +kernel
theorem dX12_exchange_75 : decode cX12_exchange 75 = .ok (.aload_n 0, 1) := by decide +kernel
theorem dX12_exchange_76 : decode cX12_exchange 76 = .ok (.getfield 39, 3) := by decide +kernel
theorem dX12_exchange_79 : decode cX12_exchange 79 = .ok (.sipush 600, 3) := by decide +kernel
theorem dX12_exchange_82 : decode cX12_exchange 82 = .ok (.iload_n 2, 1) := by decide +kernel
theorem dX12_exchange_83 : decode cX12_exchange 83 = .ok (.imul, 1) := by decide +kernel
theorem dX12_exchange_84 : decode cX12_exchange 84 = .ok (.iload_n 3, 1) := by decide +kernel
theorem dX12_exchange_85 : decode cX12_exchange 85 = .ok (.iadd, 1) := by decide +kernel
theorem dX12_exchange_86 : decode cX12_exchange 86 = .ok (.iaload, 1) := by decide +kernel
theorem dX12_exchange_87 : decode cX12_exchange 87 = .ok (.iastore, 1) := by decide +kernel
theorem dX12_exchange_88 : decode cX12_exchange 88 = .ok (.aload_n 0, 1) := by decide +kernel
theorem dX12_exchange_89 : decode cX12_exchange 89 = .ok (.getfield 39, 3) := by decide +kernel
theorem dX12_exchange_92 : decode cX12_exchange 92 = .ok (.sipush 600, 3) := by decide +kernel
theorem dX12_exchange_95 : decode cX12_exchange 95 = .ok (.iload_n 2, 1) := by decide +kernel
theorem dX12_exchange_96 : decode cX12_exchange 96 = .ok (.imul, 1) := by decide +kernel
theorem dX12_exchange_97 : decode cX12_exchange 97 = .ok (.iload_n 3, 1) := by decide +kernel
theorem dX12_exchange_98 : decode cX12_exchange 98 = .ok (.iadd, 1) := by decide +kernel
theorem dX12_exchange_99 : decode cX12_exchange 99 = .ok (.iload 4, 2) := by decide +kernel
theorem dX12_exchange_101 : decode cX12_exchange 101 = .ok (.iastore, 1) := by decide +kernel
theorem dX12_exchange_102 : decode cX12_exchange 102 = .ok (.iinc 3 1, 3) := by decide +kernel
theorem dX12_exchange_105 : decode cX12_exchange 105 = .ok (.goto (-62), 3) := by decide +kernel
theorem dX12_exchange_108 : decode cX12_exchange 108 = .ok (.aload_n 0, 1) := by decide +kernel
theorem dX12_exchange_109 : decode cX12_exchange 109 = .ok (.getfield 42, 3) := by decide +kernel
theorem dX12_exchange_112 : decode cX12_exchange 112 = .ok (.iload_n 1, 1) := by decide +kernel
theorem dX12_exchange_113 : decode cX12_exchange 113 = .ok (.iaload, 1) := by decide +kernel
theorem dX12_exchange_114 : decode cX12_exchange 114 = .ok (.istore_n 3, 1) := by decide +kernel
theorem dX12_exchange_115 : decode cX12_exchange 115 = .ok (.aload_n 0, 1) := by decide +kernel
theorem dX12_exchange_116 : decode cX12_exchange 116 = .ok (.getfield 42, 3) := by decide +kernel
theorem dX12_exchange_119 : decode cX12_exchange 119 = .ok (.iload_n 1, 1) := by decide +kernel
theorem dX12_exchange_120 : decode cX12_exchange 120 = .ok (.aload_n 0, 1) := by decide +kernel
theorem dX12_exchange_121 : decode cX12_exchange 121 = .ok (.getfield 42, 3) := by decide +kernel
theorem dX12_exchange_124 : decode cX12_exchange 124 = .ok (.iload_n 2, 1) := by decide +kernel
theorem dX12_exchange_125 : decode cX12_exchange 125 = .ok (.iaload, 1) := by decide +kernel
theorem dX12_exchange_126 : decode cX12_exchange 126 = .ok (.iastore, 1) := by decide +kernel
theorem dX12_exchange_127 : decode cX12_exchange 127 = .ok (.aload_n 0, 1) := by decide +kernel
theorem dX12_exchange_128 : decode cX12_exchange 128 = .ok (.getfield 42, 3) := by decide +kernel
theorem dX12_exchange_131 : decode cX12_exchange 131 = .ok (.iload_n 2, 1) := by decide +kernel
theorem dX12_exchange_132 : decode cX12_exchange 132 = .ok (.iload_n 3, 1) := by decide +kernel
theorem dX12_exchange_133 : decode cX12_exchange 133 = .ok (.iastore, 1) := by decide +kernel
theorem dX12_exchange_134 : decode cX12_exchange 134 = .ok (.iconst 1, 1) := by decide +kernel
theorem dX12_exchange_135 : decode cX12_exchange 135 = .ok (.ireturn, 1) := by decide +kernel
set_option maxRecDepth 20000 in
theorem ggX12_restartCollector_X12_startCollector : GoodIn wsX12_restartCollector wsX12_startCollector := goodIn_ca ((goodIn_ca (goodIn_r _ [7, 2, 8, 9, 10] rfl (by decide +kernel)) (goodIn_sub (fun _ h => List.mem_cons_of_mem _ (List.mem_append_left _ (List.mem_append_right _ h))) gw_wsX120))) (goodIn_sub (fun _ h => List.mem_cons_of_mem _ (List.mem_append_right _ h)) (all_fg _))
set_option maxRecDepth 20000 in
theorem gX12_restartCollector_X12_startCollector : GoodIn wsX12_restartCollector (wsV RX12 154 RX12 yX12_startCollector wsX12_startCollector) := goodIn_app (goodIn_m (mem_cA (List.mem_cons_of_mem _ (List.mem_append_left _ (List.mem_append_left _ (List.mem_of_getElem? (i := 2) rfl)))) (mem_cA (List.mem_cons_of_mem _ (List.mem_append_left _ (List.mem_append_left _ (List.mem_of_getElem? (i := 3) rfl)))) (mem_cA (List.mem_cons_of_mem _ (List.mem_append_left _ (List.mem_append_left _ (List.mem_of_getElem? (i := 4) rfl)))) (mem_cA (List.mem_cons_of_mem _ (List.mem_append_left _ (List.mem_append_left _ (List.mem_of_getElem? (i := 5) rfl)))) mem_cZ)))) (by decide +kernel)) ggX12_restartCollector_X12_startCollector
theorem dX12_restartCollector_0 : decode cX12_restartCollector 0 = .ok (.aload_n 0, 1) := by decide +kernel
theorem dX12_restartCollector_1 : decode cX12_restartCollector 1 = .ok (.iconst 0, 1) := by decide +kernel
theorem dX12_restartCollector_2 : decode cX12_restartCollector 2 = .ok (.putfield 1, 3) := by decide +kernel
theorem dX12_restartCollector_5 : decode cX12_restartCollector 5 = .ok (.iconst 0, 1) := by decide +kernel
theorem dX12_restartCollector_6 : decode cX12_restartCollector 6 = .ok (.istore_n 1, 1) := by decide +kernel
theorem dX12_restartCollector_7 : decode cX12_restartCollector 7 = .ok (.iconst 0, 1) := by decide +kernel
theorem dX12_restartCollector_8 : decode cX12_restartCollector 8 = .ok (.istore_n 2, 1) := by decide +kernel
theorem dX12_restartCollector_9 : decode cX12_restartCollector 9 = .ok (.iload_n 2, 1) := by decide +kernel
theorem dX12_restartCollector_10 : decode cX12_restartCollector 10 = .ok (.iconst 4, 1) := by decide +kernel
theorem dX12_restartCollector_11 : decode cX12_restartCollector 11 = .ok (.if_icmp .ge 26, 3) := by decide +kernel
theorem dX12_restartCollector_14 : decode cX12_restartCollector 14 = .ok (.iload_n 1, 1) := by decide +kernel
theorem dX12_restartCollector_15 : decode cX12_restartCollector 15 = .ok (.aload_n 0, 1) := by decide +kernel
theorem dX12_restartCollector_16 : decode cX12_restartCollector 16 = .ok (.getfield 48, 3) := by decide +kernel
theorem dX12_restartCollector_19 : decode cX12_restartCollector 19 = .ok (.iload_n 2, 1) := by decide +kernel
theorem dX12_restartCollector_20 : decode cX12_restartCollector 20 = .ok (.iaload, 1) := by decide +kernel
theorem dX12_restartCollector_21 : decode cX12_restartCollector 21 = .ok (.ifCond .le 7, 3) := by decide +kernel
theorem dX12_restartCollector_24 : decode cX12_restartCollector 24 = .ok (.iconst 1, 1) := by decide +kernel
theorem dX12_restartCollector_25 : decode cX12_restartCollector 25 = .ok (.goto 4, 3) := by decide +kernel
theorem dX12_restartCollector_28 : decode cX12_restartCollector 28 = .ok (.iconst 0, 1) := by decide +kernel
theorem dX12_restartCollector_29 : decode cX12_restartCollector 29 = .ok (.iadd, 1) := by decide +kernel
theorem dX12_restartCollector_30 : decode cX12_restartCollector 30 = .ok (.istore_n 1, 1) := by decide +kernel
theorem dX12_restartCollector_31 : decode cX12_restartCollector 31 = .ok (.iinc 2 1, 3) := by decide +kernel
theorem dX12_restartCollector_34 : decode cX12_restartCollector 34 = .ok (.goto (-25), 3) := by decide +kernel
theorem dX12_restartCollector_37 : decode cX12_restartCollector 37 = .ok (.aload_n 0, 1) := by decide +kernel
theorem dX12_restartCollector_38 : decode cX12_restartCollector 38 = .ok (.invokevirtual 154, 3) := by decide +kernel
theorem dX12_restartCollector_41 : decode cX12_restartCollector 41 = .ok (.iload_n 1, 1) := by decide +kernel
theorem dX12_restartCollector_42 : decode cX12_restartCollector 42 = .ok (.ireturn, 1) := by decide +kernel
theorem dX12_isKnown_0 : decode cX12_isKnown 0 = .ok (.aload_n 0, 1) := by decide +kernel
theorem dX12_isKnown_1 : decode cX12_isKnown 1 = .ok (.getfield 48, 3) := by decide +kernel
theorem dX12_isKnown_4 : decode cX12_isKnown 4 = .ok (.iload_n 1, 1) := by decide +kernel
theorem dX12_isKnown_5 : decode cX12_isKnown 5 = .ok (.iaload, 1) := by decide +kernel
theorem dX12_isKnown_6 : decode cX12_isKnown 6 = .ok (.ifCond .le 28, 3) := by decide +kernel
theorem dX12_isKnown_9 : decode cX12_isKnown 9 = .ok (.aload_n 0, 1) := by decide +kernel
theorem dX12_isKnown_10 : decode cX12_isKnown 10 = .ok (.getfield 101, 3) := by decide +kernel
theorem dX12_isKnown_13 : decode cX12_isKnown 13 = .ok (.aload_n 0, 1) := by decide +kernel
theorem dX12_isKnown_14 : decode cX12_isKnown 14 = .ok (.getfield 54, 3) := by decide +kernel
theorem dX12_isKnown_17 : decode cX12_isKnown 17 = .ok (.iload_n 1, 1) := by decide +kernel
theorem dX12_isKnown_18 : decode cX12_isKnown 18 = .ok (.iaload, 1) := by decide +kernel
theorem dX12_isKnown_19 : decode cX12_isKnown 19 = .ok (.isub, 1) := by decide +kernel
theorem dX12_isKnown_20 : decode cX12_isKnown 20 = .ok (.aload_n 0, 1) := by decide +kernel
theorem dX12_isKnown_21 : decode cX12_isKnown 21 = .ok (.getfield 17, 3) := by decide +kernel
theorem dX12_isKnown_24 : decode cX12_isKnown 24 = .ok (.bipush 6, 2) := by decide +kernel
theorem dX12_isKnown_26 : decode cX12_isKnown 26 = .ok (.iaload, 1) := by decide +kernel
theorem dX12_isKnown_27 : decode cX12_isKnown 27 = .ok (.if_icmp .gt 7, 3) := by decide +kernel
theorem dX12_isKnown_30 : decode cX12_isKnown 30 = .ok (.iconst 1, 1) := by decide +kernel
theorem dX12_isKnown_31 : decode cX12_isKnown 31 = .ok (.goto 4, 3) := by decide +kernel
theorem dX12_isKnown_34 : decode cX12_isKnown 34 = .ok (.iconst 0, 1) := by decide +kernel
theorem dX12_isKnown_35 : decode cX12_isKnown 35 = .ok (.ireturn, 1) := by decide +kernel
set_option maxHeartbeats 4000000 in
set_option maxRecDepth 100000 in
theorem r_exchange (G : EnvG) (l : Launch) (Φ : Hm) (sz x : Nat) (rd : (Nat → Int32) → Prop) (nw : (Nat → Int32) → Prop) (cr : (Nat → Int64) → Prop) (tp : (Nat → Int32) → Prop) (tt : (Nat → Int64) → Prop) (fl : Nat) (pe : Nat) (le : Nat) (nx : Nat) (il : Nat) (qu : Nat) (kn : Int32) (ec : Int32) (nu : Int32) (va : Int64) (st : Nat) (ep : Int32) (ti : Int32) (ad : Int32) (ob : Int64) (ra : Int32) (rt : Nat) (ex : Int32) (sa : Int64) (us : Int64) (tk : Nat) (th : Int32) (a : Int32) (b : Int32) (hx : G.2.2.2 ≤ x) (hI : Im G x (rd, nw, cr, tp, tt, fl, pe, le, nx, il, qu, kn, ec, nu, va, st, ep, ti, ad, ob, ra, rt, ex, sa, us, tk, th) Φ) (hnw : ∀ f9 : Nat → Int32, nw f9 → NN f9) : Ct G l yX12_exchange wsX12_exchange ({ frames := 2, cells := 0, slots := 0, locals := 46 }) 0 0 [.ref x, .int a, .int b] Φ sz (fun v Φ1 sz1 => (∃ r9 : Int32, v = some (.int r9) ∧ (r9 = 0 ∨ r9 = 1)) ∧ sz1 = sz ∧ (∃ (th1 : Int32), Im G x (rd, nw, cr, tp, tt, fl, pe, le, nx, il, qu, kn, ec, nu, va, st, ep, ti, ad, ob, ra, rt, ex, sa, us, tk, th1) Φ1) ∧ Fr x (fun j9 => j9 = 0 ∨ j9 = 9 ∨ j9 = 10) Φ Φ1) := by
  refine Ct.of (cc := cX12_exchange) (maxL := 5) (ret := (some .boolean)) (by decide) rfl (Nat.le_of_ble_eq_true rfl) ?_
  intro p9 e9 s9 m9 w9 t9 k9 B
  show Z p9 l e9 _ s9 m9 _ w9 t9 k9 _ G 5 0 [(0, .ref x), (1, .int a), (2, .int b)] [] Φ sz 0 0
  refine z_aload_n B dX12_exchange_0 rfl 0 rfl ?_
  refine z_iconst (v := 0) B dX12_exchange_1 rfl ?_
  obtain ⟨v_1, v_2, v_3, v_4, n_1, v_5, n_2, h_1, b_13, b_1, b_2, b_3, b_4, b_5, b_6, b_7, b_8, b_9, b_10, b_11, b_12⟩ := im0 hI
  replace b_1 : 1 ≤ rt := b_1
  replace b_2 : rt ≤ 1024 := b_2
  replace b_3 : fl ≤ 12 := b_3
  replace b_4 : pe ≤ 24 := b_4
  replace b_5 : le ≤ 700 := b_5
  replace b_6 : qu ≤ 12 := b_6
  replace b_7 : n_1 ≤ 8 := b_7
  replace b_8 : n_2 ≤ 24 := b_8
  replace b_9 : tk ≤ 24 := b_9
  replace b_10 : il ≤ 700 := b_10
  replace b_11 : nx ≤ 701 := b_11
  replace b_12 : st ≤ 701 := b_12
  have h_2 : Φ x = some (o_ 14 [.int th, .ref (x + 1), .ref (x + 2), .int ti, .int ra, .int (nI rt), .int ex, .int ad, .ref (x + 3), .ref (x + 4), .int v_1, .long v_2, .ref (x + 5), .int (nI fl), .int v_3, .long ob, .long sa, .long v_4, .long us, .ref (x + 6), .ref (x + 7), .int (nI pe), .ref (x + 8), .int (nI le), .ref (x + 9), .ref (x + 10), .int (nI qu), .ref (x + 11), .ref (x + 12), .ref (x + 13), .ref (x + 14), .ref (x + 15), .ref (x + 16), .int (nI n_1), .long v_5, .ref (x + 17), .ref (x + 18), .ref (x + 19), .ref (x + 20), .ref (x + 21), .ref (x + 22), .int (nI n_2), .ref (x + 23), .ref (x + 24), .int (nI tk), .ref (x + 25), .int (nI il), .int (nI nx), .int ec, .int ep, .int kn, .int (nI st), .int nu, .long va]) := h_1
  refine z_put (ref := "FlowExporterModel") (C := RX12) (T := TX12) (N := 54) (ci := 14) (v := .int 0) B hu_X12_exchange_X12 tyX12 tyX12_ok nmX12 rfl 0 (Nat.le_of_ble_eq_true rfl) hv_X12_exchange_1 rfl (Or.inl rfl) h_2 hx rfl rfl (Nat.le_of_ble_eq_true rfl) dX12_exchange_2 (fun Φ1 hΦ1 => ?_)
  have h_3 : Φ1 x = some (o_ 14 [.int 0, .ref (x + 1), .ref (x + 2), .int ti, .int ra, .int (nI rt), .int ex, .int ad, .ref (x + 3), .ref (x + 4), .int v_1, .long v_2, .ref (x + 5), .int (nI fl), .int v_3, .long ob, .long sa, .long v_4, .long us, .ref (x + 6), .ref (x + 7), .int (nI pe), .ref (x + 8), .int (nI le), .ref (x + 9), .ref (x + 10), .int (nI qu), .ref (x + 11), .ref (x + 12), .ref (x + 13), .ref (x + 14), .ref (x + 15), .ref (x + 16), .int (nI n_1), .long v_5, .ref (x + 17), .ref (x + 18), .ref (x + 19), .ref (x + 20), .ref (x + 21), .ref (x + 22), .int (nI n_2), .ref (x + 23), .ref (x + 24), .int (nI tk), .ref (x + 25), .int (nI il), .int (nI nx), .int ec, .int ep, .int kn, .int (nI st), .int nu, .long va]) := fset_at hΦ1
  have hI1 : Im G x (rd, nw, cr, tp, tt, fl, pe, le, nx, il, qu, kn, ec, nu, va, st, ep, ti, ad, ob, ra, rt, ex, sa, us, tk, 0) Φ1 := Im.put0 hI hΦ1 ⟨v_1, v_2, v_3, v_4, n_1, v_5, n_2, rfl, b_13, b_1, b_2, b_3, b_4, b_5, b_6, b_7, b_8, b_9, b_10, b_11, b_12⟩
  refine z_aload_n B dX12_exchange_5 rfl 0 rfl ?_
  refine z_aload_n B dX12_exchange_6 rfl 0 rfl ?_
  refine z_iload_n B dX12_exchange_7 rfl 1 rfl ?_
  refine z_callV (As := [.int a]) (rest := [.ref x]) B (r_isMessage G l Φ1 sz x rd nw cr tp tt fl pe le nx il qu kn ec nu va st ep ti ad ob ra rt ex sa us tk 0 a hx hI1 hnw) (cwV 1 B.1.2.2.2.2 gX12_exchange_X12_isMessage rfl rfl rfl (by decide +kernel) ⟨Nat.le_of_ble_eq_true rfl, Nat.le_of_ble_eq_true rfl⟩) h_3 rfl rfl rfl rfl (Nat.le_of_ble_eq_true rfl) dX12_exchange_8 ⟨Nat.le_of_ble_eq_true rfl, Nat.le_of_ble_eq_true rfl⟩ (fun r_1 Φ2 sz1 st1 hp1 hs1 => ?_)
  obtain ⟨ha1, hq1, hI2, hF1⟩ := hp1
  subst sz1
  replace hI2 : Im G x (rd, nw, cr, tp, tt, fl, pe, le, nx, il, qu, kn, ec, nu, va, st, ep, ti, ad, ob, ra, rt, ex, sa, us, tk, 0) Φ2 := hI2
  rcases ha1 with rfl | ⟨rfl, n_3, b_14, rfl⟩
  · replace hs1 : st1 = [.int 0, .ref x] := hs1
    subst st1
    refine z_if_eq (tgt := 22) B dX12_exchange_11 rfl (fun c_1 => ?_) (fun h9 => absurd (by decide) h9)
    refine z_iconst (v := 1) B dX12_exchange_22 rfl ?_
    refine z_goto (tgt := 27) B dX12_exchange_23 rfl ?_
    refine z_iconst (v := 1) B dX12_exchange_27 rfl ?_
    have h_4 : Φ2 x = some (o_ 14 [.int 0, .ref (x + 1), .ref (x + 2), .int ti, .int ra, .int (nI rt), .int ex, .int ad, .ref (x + 3), .ref (x + 4), .int v_1, .long v_2, .ref (x + 5), .int (nI fl), .int v_3, .long ob, .long sa, .long v_4, .long us, .ref (x + 6), .ref (x + 7), .int (nI pe), .ref (x + 8), .int (nI le), .ref (x + 9), .ref (x + 10), .int (nI qu), .ref (x + 11), .ref (x + 12), .ref (x + 13), .ref (x + 14), .ref (x + 15), .ref (x + 16), .int (nI n_1), .long v_5, .ref (x + 17), .ref (x + 18), .ref (x + 19), .ref (x + 20), .ref (x + 21), .ref (x + 22), .int (nI n_2), .ref (x + 23), .ref (x + 24), .int (nI tk), .ref (x + 25), .int (nI il), .int (nI nx), .int ec, .int ep, .int kn, .int (nI st), .int nu, .long va]) := ((hF1 x (fun j9 h8 h7 => (show False from h7).elim)).trans h_3)
    refine z_callV (As := [.int 1, .int 1]) (rest := []) B (r_throwsIf G l Φ2 sz x rd nw cr tp tt fl pe le nx il qu kn ec nu va st ep ti ad ob ra rt ex sa us tk 0 1 1 hx hI2 (by decide) hnw) (cwV 2 B.1.2.2.2.2 gX12_exchange_X12_throwsIf rfl rfl rfl (by decide +kernel) ⟨Nat.le_of_ble_eq_true rfl, Nat.le_of_ble_eq_true rfl⟩) h_4 rfl rfl rfl rfl (Nat.le_of_ble_eq_true rfl) dX12_exchange_28 ⟨Nat.le_of_ble_eq_true rfl, Nat.le_of_ble_eq_true rfl⟩ (fun r_2 Φ3 sz2 st2 hp2 hs2 => ?_)
    obtain ⟨rfl, hq2, ⟨v_6, hI3⟩, hF2⟩ := hp2
    subst sz2
    replace hs2 : st2 = [.int 1] := hs2
    subst st2
    replace hI3 : Im G x (rd, nw, cr, tp, tt, fl, pe, le, nx, il, qu, kn, ec, nu, va, st, ep, ti, ad, ob, ra, rt, ex, sa, us, tk, v_6) Φ3 := hI3
    refine z_if_ne (tgt := 39) B dX12_exchange_31 rfl (fun c_2 => ?_) (fun h9 => absurd h9 (by decide))
    refine z_iconst (v := 0) B dX12_exchange_39 rfl ?_
    exact z_ret_z B dX12_exchange_40 (by decide) ⟨⟨_, rfl, by decide⟩, rfl, ⟨v_6, hI3⟩, (fun b9 h9 => ((hF2 b9 (fun j9 h8 h7 => h9 j9 h8 (fq_1056 j9 h7))).trans ((hF1 b9 (fun j9 h8 h7 => (show False from h7).elim)).trans ((fset_fr hΦ1 (fun h8 => h9 (0) h8 (show 0 = 0 ∨ 0 = 9 ∨ 0 = 10 by decide))).trans rfl))))⟩
  · replace hs1 : st1 = [.int 1, .ref x] := hs1
    subst st1
    replace b_14 : n_3 < qu := b_14
    refine z_if_eq (tgt := 22) B dX12_exchange_11 rfl (fun h9 => absurd h9 (by decide)) (fun c_3 => ?_)
    refine z_aload_n B dX12_exchange_14 rfl 0 rfl ?_
    refine z_iload_n B dX12_exchange_15 rfl 2 rfl ?_
    have h_5 : Φ2 x = some (o_ 14 [.int 0, .ref (x + 1), .ref (x + 2), .int ti, .int ra, .int (nI rt), .int ex, .int ad, .ref (x + 3), .ref (x + 4), .int v_1, .long v_2, .ref (x + 5), .int (nI fl), .int v_3, .long ob, .long sa, .long v_4, .long us, .ref (x + 6), .ref (x + 7), .int (nI pe), .ref (x + 8), .int (nI le), .ref (x + 9), .ref (x + 10), .int (nI qu), .ref (x + 11), .ref (x + 12), .ref (x + 13), .ref (x + 14), .ref (x + 15), .ref (x + 16), .int (nI n_1), .long v_5, .ref (x + 17), .ref (x + 18), .ref (x + 19), .ref (x + 20), .ref (x + 21), .ref (x + 22), .int (nI n_2), .ref (x + 23), .ref (x + 24), .int (nI tk), .ref (x + 25), .int (nI il), .int (nI nx), .int ec, .int ep, .int kn, .int (nI st), .int nu, .long va]) := ((hF1 x (fun j9 h8 h7 => (show False from h7).elim)).trans h_3)
    refine z_callV (As := [.int b]) (rest := [.ref x]) B (r_isMessage G l Φ2 sz x rd nw cr tp tt fl pe le nx il qu kn ec nu va st ep ti ad ob ra rt ex sa us tk 0 b hx hI2 hnw) (cwV 1 B.1.2.2.2.2 gX12_exchange_X12_isMessage rfl rfl rfl (by decide +kernel) ⟨Nat.le_of_ble_eq_true rfl, Nat.le_of_ble_eq_true rfl⟩) h_5 rfl rfl rfl rfl (Nat.le_of_ble_eq_true rfl) dX12_exchange_16 ⟨Nat.le_of_ble_eq_true rfl, Nat.le_of_ble_eq_true rfl⟩ (fun r_3 Φ4 sz3 st3 hp3 hs3 => ?_)
    obtain ⟨ha2, hq3, hI4, hF3⟩ := hp3
    subst sz3
    replace hI4 : Im G x (rd, nw, cr, tp, tt, fl, pe, le, nx, il, qu, kn, ec, nu, va, st, ep, ti, ad, ob, ra, rt, ex, sa, us, tk, 0) Φ4 := hI4
    rcases ha2 with rfl | ⟨rfl, n_4, b_15, rfl⟩
    · replace hs3 : st3 = [.int 0, .ref x] := hs3
      subst st3
      refine z_if_ne (tgt := 26) B dX12_exchange_19 rfl (fun h9 => absurd (by decide) h9) (fun c_4 => ?_)
      refine z_iconst (v := 1) B dX12_exchange_22 rfl ?_
      refine z_goto (tgt := 27) B dX12_exchange_23 rfl ?_
      refine z_iconst (v := 1) B dX12_exchange_27 rfl ?_
      have h_6 : Φ4 x = some (o_ 14 [.int 0, .ref (x + 1), .ref (x + 2), .int ti, .int ra, .int (nI rt), .int ex, .int ad, .ref (x + 3), .ref (x + 4), .int v_1, .long v_2, .ref (x + 5), .int (nI fl), .int v_3, .long ob, .long sa, .long v_4, .long us, .ref (x + 6), .ref (x + 7), .int (nI pe), .ref (x + 8), .int (nI le), .ref (x + 9), .ref (x + 10), .int (nI qu), .ref (x + 11), .ref (x + 12), .ref (x + 13), .ref (x + 14), .ref (x + 15), .ref (x + 16), .int (nI n_1), .long v_5, .ref (x + 17), .ref (x + 18), .ref (x + 19), .ref (x + 20), .ref (x + 21), .ref (x + 22), .int (nI n_2), .ref (x + 23), .ref (x + 24), .int (nI tk), .ref (x + 25), .int (nI il), .int (nI nx), .int ec, .int ep, .int kn, .int (nI st), .int nu, .long va]) := ((hF3 x (fun j9 h8 h7 => (show False from h7).elim)).trans h_5)
      refine z_callV (As := [.int 1, .int 1]) (rest := []) B (r_throwsIf G l Φ4 sz x rd nw cr tp tt fl pe le nx il qu kn ec nu va st ep ti ad ob ra rt ex sa us tk 0 1 1 hx hI4 (by decide) hnw) (cwV 2 B.1.2.2.2.2 gX12_exchange_X12_throwsIf rfl rfl rfl (by decide +kernel) ⟨Nat.le_of_ble_eq_true rfl, Nat.le_of_ble_eq_true rfl⟩) h_6 rfl rfl rfl rfl (Nat.le_of_ble_eq_true rfl) dX12_exchange_28 ⟨Nat.le_of_ble_eq_true rfl, Nat.le_of_ble_eq_true rfl⟩ (fun r_4 Φ5 sz4 st4 hp4 hs4 => ?_)
      obtain ⟨rfl, hq4, ⟨v_7, hI5⟩, hF4⟩ := hp4
      subst sz4
      replace hs4 : st4 = [.int 1] := hs4
      subst st4
      replace hI5 : Im G x (rd, nw, cr, tp, tt, fl, pe, le, nx, il, qu, kn, ec, nu, va, st, ep, ti, ad, ob, ra, rt, ex, sa, us, tk, v_7) Φ5 := hI5
      refine z_if_ne (tgt := 39) B dX12_exchange_31 rfl (fun c_5 => ?_) (fun h9 => absurd h9 (by decide))
      refine z_iconst (v := 0) B dX12_exchange_39 rfl ?_
      exact z_ret_z B dX12_exchange_40 (by decide) ⟨⟨_, rfl, by decide⟩, rfl, ⟨v_7, hI5⟩, (fun b9 h9 => ((hF4 b9 (fun j9 h8 h7 => h9 j9 h8 (fq_1056 j9 h7))).trans ((hF3 b9 (fun j9 h8 h7 => (show False from h7).elim)).trans ((hF1 b9 (fun j9 h8 h7 => (show False from h7).elim)).trans ((fset_fr hΦ1 (fun h8 => h9 (0) h8 (show 0 = 0 ∨ 0 = 9 ∨ 0 = 10 by decide))).trans rfl)))))⟩
    · replace hs3 : st3 = [.int 1, .ref x] := hs3
      subst st3
      replace b_15 : n_4 < qu := b_15
      refine z_if_ne (tgt := 26) B dX12_exchange_19 rfl (fun c_6 => ?_) (fun h9 => absurd h9 (by decide))
      refine z_iconst (v := 0) B dX12_exchange_26 rfl ?_
      refine z_iconst (v := 1) B dX12_exchange_27 rfl ?_
      have h_7 : Φ4 x = some (o_ 14 [.int 0, .ref (x + 1), .ref (x + 2), .int ti, .int ra, .int (nI rt), .int ex, .int ad, .ref (x + 3), .ref (x + 4), .int v_1, .long v_2, .ref (x + 5), .int (nI fl), .int v_3, .long ob, .long sa, .long v_4, .long us, .ref (x + 6), .ref (x + 7), .int (nI pe), .ref (x + 8), .int (nI le), .ref (x + 9), .ref (x + 10), .int (nI qu), .ref (x + 11), .ref (x + 12), .ref (x + 13), .ref (x + 14), .ref (x + 15), .ref (x + 16), .int (nI n_1), .long v_5, .ref (x + 17), .ref (x + 18), .ref (x + 19), .ref (x + 20), .ref (x + 21), .ref (x + 22), .int (nI n_2), .ref (x + 23), .ref (x + 24), .int (nI tk), .ref (x + 25), .int (nI il), .int (nI nx), .int ec, .int ep, .int kn, .int (nI st), .int nu, .long va]) := ((hF3 x (fun j9 h8 h7 => (show False from h7).elim)).trans h_5)
      refine z_callV (As := [.int 0, .int 1]) (rest := []) B (r_throwsIf G l Φ4 sz x rd nw cr tp tt fl pe le nx il qu kn ec nu va st ep ti ad ob ra rt ex sa us tk 0 0 1 hx hI4 (by decide) hnw) (cwV 2 B.1.2.2.2.2 gX12_exchange_X12_throwsIf rfl rfl rfl (by decide +kernel) ⟨Nat.le_of_ble_eq_true rfl, Nat.le_of_ble_eq_true rfl⟩) h_7 rfl rfl rfl rfl (Nat.le_of_ble_eq_true rfl) dX12_exchange_28 ⟨Nat.le_of_ble_eq_true rfl, Nat.le_of_ble_eq_true rfl⟩ (fun r_5 Φ6 sz5 st5 hp5 hs5 => ?_)
      obtain ⟨rfl, hq5, ⟨v_8, hI6⟩, hF5⟩ := hp5
      subst sz5
      replace hs5 : st5 = [.int 0] := hs5
      subst st5
      replace hI6 : Im G x (rd, nw, cr, tp, tt, fl, pe, le, nx, il, qu, kn, ec, nu, va, st, ep, ti, ad, ob, ra, rt, ex, sa, us, tk, v_8) Φ6 := hI6
      refine z_if_ne (tgt := 39) B dX12_exchange_31 rfl (fun h9 => absurd (by decide) h9) (fun c_7 => ?_)
      refine z_iload_n B dX12_exchange_34 rfl 1 rfl ?_
      refine z_iload_n B dX12_exchange_35 rfl 2 rfl ?_
      refine z_icmp_ne (tgt := 41) B dX12_exchange_36 rfl (fun c_8 => ?_) (fun c_8 => ?_)
      · have e_1 : ¬ (n_3 = n_4) := fun h9 => c_8 ((nI_eq (a := n_3) (b := n_4) (by omega) (by omega)).mpr h9)
        refine z_iconst (v := 0) B dX12_exchange_41 rfl ?_
        refine z_istore_n (lv' := [(3, .int 0), (0, .ref x), (1, .int (nI n_3)), (2, .int (nI n_4))]) B dX12_exchange_42 rfl (Nat.le_of_ble_eq_true rfl) rfl ?_
        refine z_lv [0, 1, 2, 3] rfl ?_
        refine z_loop (α := Nat) (fun (a9 : Nat) Φi => Im G x (rd, nw, cr, tp, tt, fl, pe, le, nx, il, qu, kn, ec, nu, va, st, ep, ti, ad, ob, ra, rt, ex, sa, us, tk, v_8) Φi ∧ Fr x (fun j9 => j9 = 9) Φ6 Φi ∧ (a9 ≤ 600) ∧ True) (fun a9 => [(3, .int (nI a9)), (0, .ref x), (1, .int (nI n_3)), (2, .int (nI n_4))]) (fun a9 => 600 - a9) ?_ (0) ⟨hI6, fun _ _ => rfl, (show 0 ≤ 600 by omega), trivial⟩
        rintro i_1 Φl1 ⟨hI7, hF6, b_16, -⟩ ih1
        replace hI7 : Im G x (rd, nw, cr, tp, tt, fl, pe, le, nx, il, qu, kn, ec, nu, va, st, ep, ti, ad, ob, ra, rt, ex, sa, us, tk, v_8) Φl1 := hI7
        replace b_16 : i_1 ≤ 600 := b_16
        show Z p9 l e9 _ s9 m9 _ w9 t9 k9 _ G 5 43 [(3, .int (nI i_1)), (0, .ref x), (1, .int (nI n_3)), (2, .int (nI n_4))] [] Φl1 _ _ _
        refine z_iload_n B dX12_exchange_43 rfl 0 rfl ?_
        refine z_sipush (v := 600) B dX12_exchange_44 rfl ?_
        refine z_icmp_ge (tgt := 108) B dX12_exchange_47 rfl (fun c_9 => ?_) (fun c_9 => ?_)
        · have e_2 : 600 ≤ i_1 := (nI_leI (a := 600) (b := i_1) (by omega) (by omega)).mp c_9
          refine z_aload_n B dX12_exchange_108 rfl 1 rfl ?_
          obtain ⟨v_9, v_10, v_11, v_12, n_5, v_13, n_6, h_8, b_29, b_17, b_18, b_19, b_20, b_21, b_22, b_23, b_24, b_25, b_26, b_27, b_28⟩ := im0 hI7
          replace b_17 : 1 ≤ rt := b_17
          replace b_18 : rt ≤ 1024 := b_18
          replace b_19 : fl ≤ 12 := b_19
          replace b_20 : pe ≤ 24 := b_20
          replace b_21 : le ≤ 700 := b_21
          replace b_22 : qu ≤ 12 := b_22
          replace b_23 : n_5 ≤ 8 := b_23
          replace b_24 : n_6 ≤ 24 := b_24
          replace b_25 : tk ≤ 24 := b_25
          replace b_26 : il ≤ 700 := b_26
          replace b_27 : nx ≤ 701 := b_27
          replace b_28 : st ≤ 701 := b_28
          have h_9 : Φl1 x = some (o_ 14 [.int v_8, .ref (x + 1), .ref (x + 2), .int ti, .int ra, .int (nI rt), .int ex, .int ad, .ref (x + 3), .ref (x + 4), .int v_9, .long v_10, .ref (x + 5), .int (nI fl), .int v_11, .long ob, .long sa, .long v_12, .long us, .ref (x + 6), .ref (x + 7), .int (nI pe), .ref (x + 8), .int (nI le), .ref (x + 9), .ref (x + 10), .int (nI qu), .ref (x + 11), .ref (x + 12), .ref (x + 13), .ref (x + 14), .ref (x + 15), .ref (x + 16), .int (nI n_5), .long v_13, .ref (x + 17), .ref (x + 18), .ref (x + 19), .ref (x + 20), .ref (x + 21), .ref (x + 22), .int (nI n_6), .ref (x + 23), .ref (x + 24), .int (nI tk), .ref (x + 25), .int (nI il), .int (nI nx), .int ec, .int ep, .int kn, .int (nI st), .int nu, .long va]) := h_8
          refine z_get (ref := "FlowExporterModel") (C := RX12) (T := TX12) (N := 54) (ci := 14) (v := .ref (x + 10)) B hu_X12_exchange_X12 rfl 25 (Nat.le_of_ble_eq_true rfl) hv_X12_exchange_42 rfl h_9 rfl dX12_exchange_109 ?_
          refine z_iload_n B dX12_exchange_112 rfl 2 rfl ?_
          obtain ⟨f_1, h_10, r_6⟩ := imk (k := 10) hI7
          replace r_6 : Rw 600 f_1 := r_6
          have h_11 : Φl1 (x + 10) = some (ai_ G 12 f_1) := h_10
          refine z_iald B h_11 (vp_in_nI (by omega) (by omega)) dX12_exchange_113 ?_
          obtain ⟨n_7, b_30, e_3⟩ := r_6 ((nI n_3).toNatClampNeg)
          refine z_top (st1 := [.int (nI n_7)]) (congrArg (fun w9 : Int32 => ([.int w9] : List Value)) (e_3)) ?_
          refine z_istore_n (lv' := [(3, .int (nI n_7)), (0, .ref x), (1, .int (nI n_3)), (2, .int (nI n_4))]) B dX12_exchange_114 rfl (Nat.le_of_ble_eq_true rfl) rfl ?_
          refine z_aload_n B dX12_exchange_115 rfl 1 rfl ?_
          refine z_get (ref := "FlowExporterModel") (C := RX12) (T := TX12) (N := 54) (ci := 14) (v := .ref (x + 10)) B hu_X12_exchange_X12 rfl 25 (Nat.le_of_ble_eq_true rfl) hv_X12_exchange_42 rfl h_9 rfl dX12_exchange_116 ?_
          refine z_iload_n B dX12_exchange_119 rfl 2 rfl ?_
          refine z_aload_n B dX12_exchange_120 rfl 1 rfl ?_
          refine z_get (ref := "FlowExporterModel") (C := RX12) (T := TX12) (N := 54) (ci := 14) (v := .ref (x + 10)) B hu_X12_exchange_X12 rfl 25 (Nat.le_of_ble_eq_true rfl) hv_X12_exchange_42 rfl h_9 rfl dX12_exchange_121 ?_
          refine z_iload_n B dX12_exchange_124 rfl 3 rfl ?_
          refine z_iald B h_11 (vp_in_nI (by omega) (by omega)) dX12_exchange_125 ?_
          obtain ⟨n_8, b_31, e_4⟩ := r_6 ((nI n_4).toNatClampNeg)
          refine z_top (st1 := [.int (nI n_8), .int (nI n_3), .ref (x + 10)]) (congrArg (fun w9 : Int32 => ([.int w9, .int (nI n_3), .ref (x + 10)] : List Value)) (e_4)) ?_
          refine z_iast B h_11 (Nat.le_trans hx (Nat.le_add_right x 10)) (vp_in_nI (by omega) (by omega)) dX12_exchange_126 (fun Φ7 hΦ2 => ?_)
          have h_12 : Φ7 (x + 10) = some (ai_ G 12 (upd f_1 (nI n_3).toNatClampNeg (nI n_8))) := fset_at hΦ2
          have hI8 : Im G x (rd, nw, cr, tp, tt, fl, pe, le, nx, il, qu, kn, ec, nu, va, st, ep, ti, ad, ob, ra, rt, ex, sa, us, tk, v_8) Φ7 := Im.put (k := 10) hI7 hΦ2 ⟨_, rfl, Rw.up (n := n_8) r_6 (show n_8 ≤ 600 by omega)⟩
          refine z_aload_n B dX12_exchange_127 rfl 1 rfl ?_
          have h_13 : Φ7 x = some (o_ 14 [.int v_8, .ref (x + 1), .ref (x + 2), .int ti, .int ra, .int (nI rt), .int ex, .int ad, .ref (x + 3), .ref (x + 4), .int v_9, .long v_10, .ref (x + 5), .int (nI fl), .int v_11, .long ob, .long sa, .long v_12, .long us, .ref (x + 6), .ref (x + 7), .int (nI pe), .ref (x + 8), .int (nI le), .ref (x + 9), .ref (x + 10), .int (nI qu), .ref (x + 11), .ref (x + 12), .ref (x + 13), .ref (x + 14), .ref (x + 15), .ref (x + 16), .int (nI n_5), .long v_13, .ref (x + 17), .ref (x + 18), .ref (x + 19), .ref (x + 20), .ref (x + 21), .ref (x + 22), .int (nI n_6), .ref (x + 23), .ref (x + 24), .int (nI tk), .ref (x + 25), .int (nI il), .int (nI nx), .int ec, .int ep, .int kn, .int (nI st), .int nu, .long va]) := ((fset_fr hΦ2 (ne_off (x := x) (i := 0) (j := 10) rfl)).trans h_9)
          refine z_get (ref := "FlowExporterModel") (C := RX12) (T := TX12) (N := 54) (ci := 14) (v := .ref (x + 10)) B hu_X12_exchange_X12 rfl 25 (Nat.le_of_ble_eq_true rfl) hv_X12_exchange_42 rfl h_13 rfl dX12_exchange_128 ?_
          refine z_iload_n B dX12_exchange_131 rfl 3 rfl ?_
          refine z_iload_n B dX12_exchange_132 rfl 0 rfl ?_
          obtain ⟨f_2, h_14, r_7⟩ := imk (k := 10) hI8
          replace r_7 : Rw 600 f_2 := r_7
          have h_15 : Φ7 (x + 10) = some (ai_ G 12 f_2) := h_14
          refine z_iast B h_15 (Nat.le_trans hx (Nat.le_add_right x 10)) (vp_in_nI (by omega) (by omega)) dX12_exchange_133 (fun Φ8 hΦ3 => ?_)
          have h_16 : Φ8 (x + 10) = some (ai_ G 12 (upd f_2 (nI n_4).toNatClampNeg (nI n_7))) := fset_at hΦ3
          have hI9 : Im G x (rd, nw, cr, tp, tt, fl, pe, le, nx, il, qu, kn, ec, nu, va, st, ep, ti, ad, ob, ra, rt, ex, sa, us, tk, v_8) Φ8 := Im.put (k := 10) hI8 hΦ3 ⟨_, rfl, Rw.up (n := n_7) r_7 (show n_7 ≤ 600 by omega)⟩
          refine z_iconst (v := 1) B dX12_exchange_134 rfl ?_
          exact z_ret_z B dX12_exchange_135 (by decide) ⟨⟨_, rfl, by decide⟩, rfl, ⟨v_8, hI9⟩, (fun b9 h9 => ((fset_fr hΦ3 (fun h8 => h9 (10) h8 (show 10 = 0 ∨ 10 = 9 ∨ 10 = 10 by decide))).trans ((fset_fr hΦ2 (fun h8 => h9 (10) h8 (show 10 = 0 ∨ 10 = 9 ∨ 10 = 10 by decide))).trans ((hF6 b9 (fun j9 h8 h7 => h9 j9 h8 (fq_950 j9 h7))).trans ((hF5 b9 (fun j9 h8 h7 => h9 j9 h8 (fq_1056 j9 h7))).trans ((hF3 b9 (fun j9 h8 h7 => (show False from h7).elim)).trans ((hF1 b9 (fun j9 h8 h7 => (show False from h7).elim)).trans ((fset_fr hΦ1 (fun h8 => h9 (0) h8 (show 0 = 0 ∨ 0 = 9 ∨ 0 = 10 by decide))).trans rfl))))))))⟩
        · have e_5 : ¬ (600 ≤ i_1) := fun h9 => c_9 ((nI_leI (a := 600) (b := i_1) (by omega) (by omega)).mpr h9)
          refine z_aload_n B dX12_exchange_50 rfl 1 rfl ?_
          obtain ⟨v_14, v_15, v_16, v_17, n_9, v_18, n_10, h_17, b_44, b_32, b_33, b_34, b_35, b_36, b_37, b_38, b_39, b_40, b_41, b_42, b_43⟩ := im0 hI7
          replace b_32 : 1 ≤ rt := b_32
          replace b_33 : rt ≤ 1024 := b_33
          replace b_34 : fl ≤ 12 := b_34
          replace b_35 : pe ≤ 24 := b_35
          replace b_36 : le ≤ 700 := b_36
          replace b_37 : qu ≤ 12 := b_37
          replace b_38 : n_9 ≤ 8 := b_38
          replace b_39 : n_10 ≤ 24 := b_39
          replace b_40 : tk ≤ 24 := b_40
          replace b_41 : il ≤ 700 := b_41
          replace b_42 : nx ≤ 701 := b_42
          replace b_43 : st ≤ 701 := b_43
          have h_18 : Φl1 x = some (o_ 14 [.int v_8, .ref (x + 1), .ref (x + 2), .int ti, .int ra, .int (nI rt), .int ex, .int ad, .ref (x + 3), .ref (x + 4), .int v_14, .long v_15, .ref (x + 5), .int (nI fl), .int v_16, .long ob, .long sa, .long v_17, .long us, .ref (x + 6), .ref (x + 7), .int (nI pe), .ref (x + 8), .int (nI le), .ref (x + 9), .ref (x + 10), .int (nI qu), .ref (x + 11), .ref (x + 12), .ref (x + 13), .ref (x + 14), .ref (x + 15), .ref (x + 16), .int (nI n_9), .long v_18, .ref (x + 17), .ref (x + 18), .ref (x + 19), .ref (x + 20), .ref (x + 21), .ref (x + 22), .int (nI n_10), .ref (x + 23), .ref (x + 24), .int (nI tk), .ref (x + 25), .int (nI il), .int (nI nx), .int ec, .int ep, .int kn, .int (nI st), .int nu, .long va]) := h_17
          refine z_get (ref := "FlowExporterModel") (C := RX12) (T := TX12) (N := 54) (ci := 14) (v := .ref (x + 9)) B hu_X12_exchange_X12 rfl 24 (Nat.le_of_ble_eq_true rfl) hv_X12_exchange_39 rfl h_18 rfl dX12_exchange_51 ?_
          refine z_sipush (v := 600) B dX12_exchange_54 rfl ?_
          refine z_iload_n B dX12_exchange_57 rfl 2 rfl ?_
          refine z_imul B dX12_exchange_58 ?_
          refine z_top (st1 := [.int (nI (600 * n_3)), .ref (x + 9)]) (congrArg (fun w9 : Int32 => ([.int w9, .ref (x + 9)] : List Value)) (nI_mul 600 n_3)) ?_
          refine z_iload_n B dX12_exchange_59 rfl 0 rfl ?_
          refine z_iadd B dX12_exchange_60 ?_
          refine z_top (st1 := [.int (nI (600 * n_3 + i_1)), .ref (x + 9)]) (congrArg (fun w9 : Int32 => ([.int w9, .ref (x + 9)] : List Value)) (nI_add (600 * n_3) i_1)) ?_
          obtain ⟨f_3, h_19, r_8⟩ := imk (k := 9) hI7
          replace r_8 : Rw 255 f_3 := r_8
          have h_20 : Φl1 (x + 9) = some (ai_ G 7200 f_3) := h_19
          refine z_iald B h_20 (vp_in_nI (by omega) (by omega)) dX12_exchange_61 ?_
          obtain ⟨n_11, b_45, e_6⟩ := r_8 ((nI (600 * n_3 + i_1)).toNatClampNeg)
          refine z_top (st1 := [.int (nI n_11)]) (congrArg (fun w9 : Int32 => ([.int w9] : List Value)) (e_6)) ?_
          refine z_istore (lv' := [(4, .int (nI n_11)), (3, .int (nI i_1)), (0, .ref x), (1, .int (nI n_3)), (2, .int (nI n_4))]) B dX12_exchange_62 (Nat.le_of_ble_eq_true rfl) rfl ?_
          refine z_aload_n B dX12_exchange_64 rfl 2 rfl ?_
          refine z_get (ref := "FlowExporterModel") (C := RX12) (T := TX12) (N := 54) (ci := 14) (v := .ref (x + 9)) B hu_X12_exchange_X12 rfl 24 (Nat.le_of_ble_eq_true rfl) hv_X12_exchange_39 rfl h_18 rfl dX12_exchange_65 ?_
          refine z_sipush (v := 600) B dX12_exchange_68 rfl ?_
          refine z_iload_n B dX12_exchange_71 rfl 3 rfl ?_
          refine z_imul B dX12_exchange_72 ?_
          refine z_top (st1 := [.int (nI (600 * n_3)), .ref (x + 9)]) (congrArg (fun w9 : Int32 => ([.int w9, .ref (x + 9)] : List Value)) (nI_mul 600 n_3)) ?_
          refine z_iload_n B dX12_exchange_73 rfl 1 rfl ?_
          refine z_iadd B dX12_exchange_74 ?_
          refine z_top (st1 := [.int (nI (600 * n_3 + i_1)), .ref (x + 9)]) (congrArg (fun w9 : Int32 => ([.int w9, .ref (x + 9)] : List Value)) (nI_add (600 * n_3) i_1)) ?_
          refine z_aload_n B dX12_exchange_75 rfl 2 rfl ?_
          refine z_get (ref := "FlowExporterModel") (C := RX12) (T := TX12) (N := 54) (ci := 14) (v := .ref (x + 9)) B hu_X12_exchange_X12 rfl 24 (Nat.le_of_ble_eq_true rfl) hv_X12_exchange_39 rfl h_18 rfl dX12_exchange_76 ?_
          refine z_sipush (v := 600) B dX12_exchange_79 rfl ?_
          refine z_iload_n B dX12_exchange_82 rfl 4 rfl ?_
          refine z_imul B dX12_exchange_83 ?_
          refine z_top (st1 := [.int (nI (600 * n_4)), .ref (x + 9), .int (nI (600 * n_3 + i_1)), .ref (x + 9)]) (congrArg (fun w9 : Int32 => ([.int w9, .ref (x + 9), .int (nI (600 * n_3 + i_1)), .ref (x + 9)] : List Value)) (nI_mul 600 n_4)) ?_
          refine z_iload_n B dX12_exchange_84 rfl 1 rfl ?_
          refine z_iadd B dX12_exchange_85 ?_
          refine z_top (st1 := [.int (nI (600 * n_4 + i_1)), .ref (x + 9), .int (nI (600 * n_3 + i_1)), .ref (x + 9)]) (congrArg (fun w9 : Int32 => ([.int w9, .ref (x + 9), .int (nI (600 * n_3 + i_1)), .ref (x + 9)] : List Value)) (nI_add (600 * n_4) i_1)) ?_
          refine z_iald B h_20 (vp_in_nI (by omega) (by omega)) dX12_exchange_86 ?_
          obtain ⟨n_12, b_46, e_7⟩ := r_8 ((nI (600 * n_4 + i_1)).toNatClampNeg)
          refine z_top (st1 := [.int (nI n_12), .int (nI (600 * n_3 + i_1)), .ref (x + 9)]) (congrArg (fun w9 : Int32 => ([.int w9, .int (nI (600 * n_3 + i_1)), .ref (x + 9)] : List Value)) (e_7)) ?_
          refine z_iast B h_20 (Nat.le_trans hx (Nat.le_add_right x 9)) (vp_in_nI (by omega) (by omega)) dX12_exchange_87 (fun Φ9 hΦ4 => ?_)
          have h_21 : Φ9 (x + 9) = some (ai_ G 7200 (upd f_3 (nI (600 * n_3 + i_1)).toNatClampNeg (nI n_12))) := fset_at hΦ4
          have hI10 : Im G x (rd, nw, cr, tp, tt, fl, pe, le, nx, il, qu, kn, ec, nu, va, st, ep, ti, ad, ob, ra, rt, ex, sa, us, tk, v_8) Φ9 := Im.put (k := 9) hI7 hΦ4 ⟨_, rfl, Rw.up (n := n_12) r_8 (show n_12 ≤ 255 by omega)⟩
          refine z_aload_n B dX12_exchange_88 rfl 2 rfl ?_
          have h_22 : Φ9 x = some (o_ 14 [.int v_8, .ref (x + 1), .ref (x + 2), .int ti, .int ra, .int (nI rt), .int ex, .int ad, .ref (x + 3), .ref (x + 4), .int v_14, .long v_15, .ref (x + 5), .int (nI fl), .int v_16, .long ob, .long sa, .long v_17, .long us, .ref (x + 6), .ref (x + 7), .int (nI pe), .ref (x + 8), .int (nI le), .ref (x + 9), .ref (x + 10), .int (nI qu), .ref (x + 11), .ref (x + 12), .ref (x + 13), .ref (x + 14), .ref (x + 15), .ref (x + 16), .int (nI n_9), .long v_18, .ref (x + 17), .ref (x + 18), .ref (x + 19), .ref (x + 20), .ref (x + 21), .ref (x + 22), .int (nI n_10), .ref (x + 23), .ref (x + 24), .int (nI tk), .ref (x + 25), .int (nI il), .int (nI nx), .int ec, .int ep, .int kn, .int (nI st), .int nu, .long va]) := ((fset_fr hΦ4 (ne_off (x := x) (i := 0) (j := 9) rfl)).trans h_18)
          refine z_get (ref := "FlowExporterModel") (C := RX12) (T := TX12) (N := 54) (ci := 14) (v := .ref (x + 9)) B hu_X12_exchange_X12 rfl 24 (Nat.le_of_ble_eq_true rfl) hv_X12_exchange_39 rfl h_22 rfl dX12_exchange_89 ?_
          refine z_sipush (v := 600) B dX12_exchange_92 rfl ?_
          refine z_iload_n B dX12_exchange_95 rfl 4 rfl ?_
          refine z_imul B dX12_exchange_96 ?_
          refine z_top (st1 := [.int (nI (600 * n_4)), .ref (x + 9)]) (congrArg (fun w9 : Int32 => ([.int w9, .ref (x + 9)] : List Value)) (nI_mul 600 n_4)) ?_
          refine z_iload_n B dX12_exchange_97 rfl 1 rfl ?_
          refine z_iadd B dX12_exchange_98 ?_
          refine z_top (st1 := [.int (nI (600 * n_4 + i_1)), .ref (x + 9)]) (congrArg (fun w9 : Int32 => ([.int w9, .ref (x + 9)] : List Value)) (nI_add (600 * n_4) i_1)) ?_
          refine z_iload B dX12_exchange_99 0 rfl ?_
          obtain ⟨f_4, h_23, r_9⟩ := imk (k := 9) hI10
          replace r_9 : Rw 255 f_4 := r_9
          have h_24 : Φ9 (x + 9) = some (ai_ G 7200 f_4) := h_23
          refine z_iast B h_24 (Nat.le_trans hx (Nat.le_add_right x 9)) (vp_in_nI (by omega) (by omega)) dX12_exchange_101 (fun Φ10 hΦ5 => ?_)
          have h_25 : Φ10 (x + 9) = some (ai_ G 7200 (upd f_4 (nI (600 * n_4 + i_1)).toNatClampNeg (nI n_11))) := fset_at hΦ5
          have hI11 : Im G x (rd, nw, cr, tp, tt, fl, pe, le, nx, il, qu, kn, ec, nu, va, st, ep, ti, ad, ob, ra, rt, ex, sa, us, tk, v_8) Φ10 := Im.put (k := 9) hI10 hΦ5 ⟨_, rfl, Rw.up (n := n_11) r_9 (show n_11 ≤ 255 by omega)⟩
          refine z_iinc (k := 1) (v := nI (i_1 + 1)) (lv' := [(3, .int (nI (i_1 + 1))), (4, .int (nI n_11)), (0, .ref x), (1, .int (nI n_3)), (2, .int (nI n_4))]) B dX12_exchange_102 rfl (nI_add i_1 1) (Nat.le_of_ble_eq_true rfl) rfl ?_
          refine z_goto (tgt := 43) B dX12_exchange_105 rfl ?_
          refine z_lv [0, 2, 3, 4] rfl ?_
          exact ih1 (i_1 + 1) Φ10 (show 600 - (i_1 + 1) < 600 - i_1 by omega) ⟨hI11, (fun b9 h9 => ((fset_fr hΦ5 (fun h8 => h9 (9) h8 (show 9 = 9 by decide))).trans ((fset_fr hΦ4 (fun h8 => h9 (9) h8 (show 9 = 9 by decide))).trans ((hF6 b9 h9).trans rfl)))), (show (i_1 + 1) ≤ 600 by omega), trivial⟩
      · have e_8 : n_3 = n_4 := (nI_eq (a := n_3) (b := n_4) (by omega) (by omega)).mp c_8
        refine z_iconst (v := 0) B dX12_exchange_39 rfl ?_
        exact z_ret_z B dX12_exchange_40 (by decide) ⟨⟨_, rfl, by decide⟩, rfl, ⟨v_8, hI6⟩, (fun b9 h9 => ((hF5 b9 (fun j9 h8 h7 => h9 j9 h8 (fq_1056 j9 h7))).trans ((hF3 b9 (fun j9 h8 h7 => (show False from h7).elim)).trans ((hF1 b9 (fun j9 h8 h7 => (show False from h7).elim)).trans ((fset_fr hΦ1 (fun h8 => h9 (0) h8 (show 0 = 0 ∨ 0 = 9 ∨ 0 = 10 by decide))).trans rfl)))))⟩

theorem hu_X12_restartCollector_X12 : ∀ w ∈ u_ws RX12 TX12 54, w ∈ wsX12_restartCollector := fun _ h => List.mem_cons_of_mem _ (List.mem_append_left _ (List.mem_append_right _ (h)))

theorem hv_X12_restartCollector_1 : Cond.fieldLink RX12 1 "FlowExporterModel" (TX12 0).2.1 (TX12 0).2.2.1 ∈ wsX12_restartCollector := List.mem_cons_of_mem _ (List.mem_append_left _ (List.mem_append_left _ (List.mem_of_getElem? (i := 0) rfl)))

theorem hv_X12_restartCollector_48 : Cond.fieldLink RX12 48 "FlowExporterModel" (TX12 28).2.1 (TX12 28).2.2.1 ∈ wsX12_restartCollector := List.mem_cons_of_mem _ (List.mem_append_left _ (List.mem_append_left _ (List.mem_of_getElem? (i := 1) rfl)))

set_option maxHeartbeats 4000000 in
set_option maxRecDepth 100000 in
theorem r_restartCollector (G : EnvG) (l : Launch) (Φ : Hm) (sz x : Nat) (rd : (Nat → Int32) → Prop) (nw : (Nat → Int32) → Prop) (cr : (Nat → Int64) → Prop) (tp : (Nat → Int32) → Prop) (tt : (Nat → Int64) → Prop) (fl : Nat) (pe : Nat) (le : Nat) (nx : Nat) (il : Nat) (qu : Nat) (kn : Int32) (ec : Int32) (nu : Int32) (va : Int64) (st : Nat) (ep : Int32) (ti : Int32) (ad : Int32) (ob : Int64) (ra : Int32) (rt : Nat) (ex : Int32) (sa : Int64) (us : Int64) (tk : Nat) (th : Int32)  (hx : G.2.2.2 ≤ x) (hI : Im G x (rd, nw, cr, tp, tt, fl, pe, le, nx, il, qu, kn, ec, nu, va, st, ep, ti, ad, ob, ra, rt, ex, sa, us, tk, th) Φ) (hnw : ∀ f9 : Nat → Int32, nw f9 → NN f9) : Ct G l yX12_restartCollector wsX12_restartCollector ({ frames := 1, cells := 0, slots := 0, locals := 21 }) 0 0 [.ref x] Φ sz (fun v Φ1 sz1 => (∃ r9 : Int32, v = some (.int r9)) ∧ sz1 = sz ∧ (∃ (th1 : Int32), Im G x (rd, nw, cr, tp, tt, fl, pe, le, nx, il, qu, kn, ec, nu, va, st, ep, ti, ad, ob, ra, rt, ex, sa, us, tk, th1) Φ1) ∧ Fr x (fun j9 => j9 = 0 ∨ j9 = 12) Φ Φ1) := by
  refine Ct.of (cc := cX12_restartCollector) (maxL := 3) (ret := (some .int)) (by decide) rfl (Nat.le_of_ble_eq_true rfl) ?_
  intro p9 e9 s9 m9 w9 t9 k9 B
  show Z p9 l e9 _ s9 m9 _ w9 t9 k9 _ G 3 0 [(0, .ref x)] [] Φ sz 0 0
  refine z_aload_n B dX12_restartCollector_0 rfl 0 rfl ?_
  refine z_iconst (v := 0) B dX12_restartCollector_1 rfl ?_
  obtain ⟨v_1, v_2, v_3, v_4, n_1, v_5, n_2, h_1, b_13, b_1, b_2, b_3, b_4, b_5, b_6, b_7, b_8, b_9, b_10, b_11, b_12⟩ := im0 hI
  replace b_1 : 1 ≤ rt := b_1
  replace b_2 : rt ≤ 1024 := b_2
  replace b_3 : fl ≤ 12 := b_3
  replace b_4 : pe ≤ 24 := b_4
  replace b_5 : le ≤ 700 := b_5
  replace b_6 : qu ≤ 12 := b_6
  replace b_7 : n_1 ≤ 8 := b_7
  replace b_8 : n_2 ≤ 24 := b_8
  replace b_9 : tk ≤ 24 := b_9
  replace b_10 : il ≤ 700 := b_10
  replace b_11 : nx ≤ 701 := b_11
  replace b_12 : st ≤ 701 := b_12
  have h_2 : Φ x = some (o_ 14 [.int th, .ref (x + 1), .ref (x + 2), .int ti, .int ra, .int (nI rt), .int ex, .int ad, .ref (x + 3), .ref (x + 4), .int v_1, .long v_2, .ref (x + 5), .int (nI fl), .int v_3, .long ob, .long sa, .long v_4, .long us, .ref (x + 6), .ref (x + 7), .int (nI pe), .ref (x + 8), .int (nI le), .ref (x + 9), .ref (x + 10), .int (nI qu), .ref (x + 11), .ref (x + 12), .ref (x + 13), .ref (x + 14), .ref (x + 15), .ref (x + 16), .int (nI n_1), .long v_5, .ref (x + 17), .ref (x + 18), .ref (x + 19), .ref (x + 20), .ref (x + 21), .ref (x + 22), .int (nI n_2), .ref (x + 23), .ref (x + 24), .int (nI tk), .ref (x + 25), .int (nI il), .int (nI nx), .int ec, .int ep, .int kn, .int (nI st), .int nu, .long va]) := h_1
  refine z_put (ref := "FlowExporterModel") (C := RX12) (T := TX12) (N := 54) (ci := 14) (v := .int 0) B hu_X12_restartCollector_X12 tyX12 tyX12_ok nmX12 rfl 0 (Nat.le_of_ble_eq_true rfl) hv_X12_restartCollector_1 rfl (Or.inl rfl) h_2 hx rfl rfl (Nat.le_of_ble_eq_true rfl) dX12_restartCollector_2 (fun Φ1 hΦ1 => ?_)
  have h_3 : Φ1 x = some (o_ 14 [.int 0, .ref (x + 1), .ref (x + 2), .int ti, .int ra, .int (nI rt), .int ex, .int ad, .ref (x + 3), .ref (x + 4), .int v_1, .long v_2, .ref (x + 5), .int (nI fl), .int v_3, .long ob, .long sa, .long v_4, .long us, .ref (x + 6), .ref (x + 7), .int (nI pe), .ref (x + 8), .int (nI le), .ref (x + 9), .ref (x + 10), .int (nI qu), .ref (x + 11), .ref (x + 12), .ref (x + 13), .ref (x + 14), .ref (x + 15), .ref (x + 16), .int (nI n_1), .long v_5, .ref (x + 17), .ref (x + 18), .ref (x + 19), .ref (x + 20), .ref (x + 21), .ref (x + 22), .int (nI n_2), .ref (x + 23), .ref (x + 24), .int (nI tk), .ref (x + 25), .int (nI il), .int (nI nx), .int ec, .int ep, .int kn, .int (nI st), .int nu, .long va]) := fset_at hΦ1
  have hI1 : Im G x (rd, nw, cr, tp, tt, fl, pe, le, nx, il, qu, kn, ec, nu, va, st, ep, ti, ad, ob, ra, rt, ex, sa, us, tk, 0) Φ1 := Im.put0 hI hΦ1 ⟨v_1, v_2, v_3, v_4, n_1, v_5, n_2, rfl, b_13, b_1, b_2, b_3, b_4, b_5, b_6, b_7, b_8, b_9, b_10, b_11, b_12⟩
  refine z_iconst (v := 0) B dX12_restartCollector_5 rfl ?_
  refine z_istore_n (lv' := [(1, .int 0), (0, .ref x)]) B dX12_restartCollector_6 rfl (Nat.le_of_ble_eq_true rfl) rfl ?_
  refine z_iconst (v := 0) B dX12_restartCollector_7 rfl ?_
  refine z_istore_n (lv' := [(2, .int 0), (1, .int 0), (0, .ref x)]) B dX12_restartCollector_8 rfl (Nat.le_of_ble_eq_true rfl) rfl ?_
  refine z_lv [0, 1, 2] rfl ?_
  refine z_loop (α := Nat × Int32) (fun (a9 : Nat × Int32) Φi => Im G x (rd, nw, cr, tp, tt, fl, pe, le, nx, il, qu, kn, ec, nu, va, st, ep, ti, ad, ob, ra, rt, ex, sa, us, tk, 0) Φi ∧ Fr x (fun j9 => j9 = 0 ∨ j9 = 12) Φ1 Φi ∧ (a9.1 ≤ 4) ∧ True) (fun a9 => [(2, .int (nI (a9.1))), (1, .int a9.2), (0, .ref x)]) (fun a9 => 4 - a9.1) ?_ (0, 0) ⟨hI1, fun _ _ => rfl, (show 0 ≤ 4 by omega), trivial⟩
  rintro ⟨i_1, i_2⟩ Φl1 ⟨hI2, hF1, b_14, -⟩ ih1
  replace hI2 : Im G x (rd, nw, cr, tp, tt, fl, pe, le, nx, il, qu, kn, ec, nu, va, st, ep, ti, ad, ob, ra, rt, ex, sa, us, tk, 0) Φl1 := hI2
  replace b_14 : i_1 ≤ 4 := b_14
  show Z p9 l e9 _ s9 m9 _ w9 t9 k9 _ G 3 9 [(2, .int (nI i_1)), (1, .int i_2), (0, .ref x)] [] Φl1 _ _ _
  refine z_iload_n B dX12_restartCollector_9 rfl 0 rfl ?_
  refine z_iconst (v := 4) B dX12_restartCollector_10 rfl ?_
  refine z_icmp_ge (tgt := 37) B dX12_restartCollector_11 rfl (fun c_1 => ?_) (fun c_1 => ?_)
  · have e_1 : 4 ≤ i_1 := (nI_leI (a := 4) (b := i_1) (by omega) (by omega)).mp c_1
    refine z_aload_n B dX12_restartCollector_37 rfl 2 rfl ?_
    obtain ⟨v_6, v_7, v_8, v_9, n_3, v_10, n_4, h_4, b_27, b_15, b_16, b_17, b_18, b_19, b_20, b_21, b_22, b_23, b_24, b_25, b_26⟩ := im0 hI2
    replace b_15 : 1 ≤ rt := b_15
    replace b_16 : rt ≤ 1024 := b_16
    replace b_17 : fl ≤ 12 := b_17
    replace b_18 : pe ≤ 24 := b_18
    replace b_19 : le ≤ 700 := b_19
    replace b_20 : qu ≤ 12 := b_20
    replace b_21 : n_3 ≤ 8 := b_21
    replace b_22 : n_4 ≤ 24 := b_22
    replace b_23 : tk ≤ 24 := b_23
    replace b_24 : il ≤ 700 := b_24
    replace b_25 : nx ≤ 701 := b_25
    replace b_26 : st ≤ 701 := b_26
    have h_5 : Φl1 x = some (o_ 14 [.int 0, .ref (x + 1), .ref (x + 2), .int ti, .int ra, .int (nI rt), .int ex, .int ad, .ref (x + 3), .ref (x + 4), .int v_6, .long v_7, .ref (x + 5), .int (nI fl), .int v_8, .long ob, .long sa, .long v_9, .long us, .ref (x + 6), .ref (x + 7), .int (nI pe), .ref (x + 8), .int (nI le), .ref (x + 9), .ref (x + 10), .int (nI qu), .ref (x + 11), .ref (x + 12), .ref (x + 13), .ref (x + 14), .ref (x + 15), .ref (x + 16), .int (nI n_3), .long v_10, .ref (x + 17), .ref (x + 18), .ref (x + 19), .ref (x + 20), .ref (x + 21), .ref (x + 22), .int (nI n_4), .ref (x + 23), .ref (x + 24), .int (nI tk), .ref (x + 25), .int (nI il), .int (nI nx), .int ec, .int ep, .int kn, .int (nI st), .int nu, .long va]) := h_4
    refine z_callV (As := []) (rest := []) B (r_startCollector G l Φl1 sz x rd nw cr tp tt fl pe le nx il qu kn ec nu va st ep ti ad ob ra rt ex sa us tk 0  hx hI2 hnw) (cwV 0 B.1.2.2.2.2 gX12_restartCollector_X12_startCollector rfl rfl rfl (by decide +kernel) ⟨Nat.le_of_ble_eq_true rfl, Nat.le_of_ble_eq_true rfl⟩) h_5 rfl rfl rfl rfl (Nat.le_of_ble_eq_true rfl) dX12_restartCollector_38 ⟨Nat.le_of_ble_eq_true rfl, Nat.le_of_ble_eq_true rfl⟩ (fun r_1 Φ2 sz1 st1 hp1 hs1 => ?_)
    obtain ⟨rfl, hq1, hI3, hF2⟩ := hp1
    subst sz1
    replace hs1 : st1 = [] := hs1
    subst st1
    replace hI3 : Im G x (rd, nw, cr, tp, tt, fl, pe, le, nx, il, qu, kn, ec, nu, va, st, ep, ti, ad, ob, ra, rt, ex, sa, us, tk, 0) Φ2 := hI3
    refine z_iload_n B dX12_restartCollector_41 rfl 1 rfl ?_
    exact z_ret_i B dX12_restartCollector_42 ⟨⟨_, rfl⟩, rfl, ⟨0, hI3⟩, (fun b9 h9 => ((hF2 b9 h9).trans ((hF1 b9 h9).trans ((fset_fr hΦ1 (fun h8 => h9 (0) h8 (show 0 = 0 ∨ 0 = 12 by decide))).trans rfl))))⟩
  · have e_2 : ¬ (4 ≤ i_1) := fun h9 => c_1 ((nI_leI (a := 4) (b := i_1) (by omega) (by omega)).mpr h9)
    refine z_iload_n B dX12_restartCollector_14 rfl 1 rfl ?_
    refine z_aload_n B dX12_restartCollector_15 rfl 2 rfl ?_
    obtain ⟨v_11, v_12, v_13, v_14, n_5, v_15, n_6, h_6, b_40, b_28, b_29, b_30, b_31, b_32, b_33, b_34, b_35, b_36, b_37, b_38, b_39⟩ := im0 hI2
    replace b_28 : 1 ≤ rt := b_28
    replace b_29 : rt ≤ 1024 := b_29
    replace b_30 : fl ≤ 12 := b_30
    replace b_31 : pe ≤ 24 := b_31
    replace b_32 : le ≤ 700 := b_32
    replace b_33 : qu ≤ 12 := b_33
    replace b_34 : n_5 ≤ 8 := b_34
    replace b_35 : n_6 ≤ 24 := b_35
    replace b_36 : tk ≤ 24 := b_36
    replace b_37 : il ≤ 700 := b_37
    replace b_38 : nx ≤ 701 := b_38
    replace b_39 : st ≤ 701 := b_39
    have h_7 : Φl1 x = some (o_ 14 [.int 0, .ref (x + 1), .ref (x + 2), .int ti, .int ra, .int (nI rt), .int ex, .int ad, .ref (x + 3), .ref (x + 4), .int v_11, .long v_12, .ref (x + 5), .int (nI fl), .int v_13, .long ob, .long sa, .long v_14, .long us, .ref (x + 6), .ref (x + 7), .int (nI pe), .ref (x + 8), .int (nI le), .ref (x + 9), .ref (x + 10), .int (nI qu), .ref (x + 11), .ref (x + 12), .ref (x + 13), .ref (x + 14), .ref (x + 15), .ref (x + 16), .int (nI n_5), .long v_15, .ref (x + 17), .ref (x + 18), .ref (x + 19), .ref (x + 20), .ref (x + 21), .ref (x + 22), .int (nI n_6), .ref (x + 23), .ref (x + 24), .int (nI tk), .ref (x + 25), .int (nI il), .int (nI nx), .int ec, .int ep, .int kn, .int (nI st), .int nu, .long va]) := h_6
    refine z_get (ref := "FlowExporterModel") (C := RX12) (T := TX12) (N := 54) (ci := 14) (v := .ref (x + 12)) B hu_X12_restartCollector_X12 rfl 28 (Nat.le_of_ble_eq_true rfl) hv_X12_restartCollector_48 rfl h_7 rfl dX12_restartCollector_16 ?_
    refine z_iload_n B dX12_restartCollector_19 rfl 0 rfl ?_
    obtain ⟨f_1, h_8, r_2⟩ := imk (k := 12) hI2
    replace r_2 : Rw 9 f_1 := r_2
    have h_9 : Φl1 (x + 12) = some (ai_ G 4 f_1) := h_8
    refine z_iald B h_9 (vp_in_nI (by omega) (by omega)) dX12_restartCollector_20 ?_
    obtain ⟨n_7, b_41, e_3⟩ := r_2 ((nI i_1).toNatClampNeg)
    refine z_top (st1 := [.int (nI n_7), .int i_2]) (congrArg (fun w9 : Int32 => ([.int w9, .int i_2] : List Value)) (e_3)) ?_
    refine z_if_le (tgt := 28) B dX12_restartCollector_21 rfl (fun c_2 => ?_) (fun c_2 => ?_)
    · have e_4 : n_7 ≤ 0 := (nI_leI (a := n_7) (b := 0) (by omega) (by omega)).mp c_2
      refine z_iconst (v := 0) B dX12_restartCollector_28 rfl ?_
      refine z_iadd B dX12_restartCollector_29 ?_
      refine z_fi (fun v_16 => ?_)
      refine z_istore_n (lv' := [(1, .int v_16), (2, .int (nI i_1)), (0, .ref x)]) B dX12_restartCollector_30 rfl (Nat.le_of_ble_eq_true rfl) rfl ?_
      refine z_iinc (k := 1) (v := nI (i_1 + 1)) (lv' := [(2, .int (nI (i_1 + 1))), (1, .int v_16), (0, .ref x)]) B dX12_restartCollector_31 rfl (nI_add i_1 1) (Nat.le_of_ble_eq_true rfl) rfl ?_
      refine z_goto (tgt := 9) B dX12_restartCollector_34 rfl ?_
      refine z_lv [0, 1, 2] rfl ?_
      exact ih1 (i_1 + 1, v_16) Φl1 (show 4 - (i_1 + 1) < 4 - i_1 by omega) ⟨hI2, (fun b9 h9 => ((hF1 b9 h9).trans rfl)), (show (i_1 + 1) ≤ 4 by omega), trivial⟩
    · have e_5 : ¬ (n_7 ≤ 0) := fun h9 => c_2 ((nI_leI (a := n_7) (b := 0) (by omega) (by omega)).mpr h9)
      refine z_iconst (v := 1) B dX12_restartCollector_24 rfl ?_
      refine z_goto (tgt := 29) B dX12_restartCollector_25 rfl ?_
      refine z_iadd B dX12_restartCollector_29 ?_
      refine z_fi (fun v_17 => ?_)
      refine z_istore_n (lv' := [(1, .int v_17), (2, .int (nI i_1)), (0, .ref x)]) B dX12_restartCollector_30 rfl (Nat.le_of_ble_eq_true rfl) rfl ?_
      refine z_iinc (k := 1) (v := nI (i_1 + 1)) (lv' := [(2, .int (nI (i_1 + 1))), (1, .int v_17), (0, .ref x)]) B dX12_restartCollector_31 rfl (nI_add i_1 1) (Nat.le_of_ble_eq_true rfl) rfl ?_
      refine z_goto (tgt := 9) B dX12_restartCollector_34 rfl ?_
      refine z_lv [0, 1, 2] rfl ?_
      exact ih1 (i_1 + 1, v_17) Φl1 (show 4 - (i_1 + 1) < 4 - i_1 by omega) ⟨hI2, (fun b9 h9 => ((hF1 b9 h9).trans rfl)), (show (i_1 + 1) ≤ 4 by omega), trivial⟩

theorem hu_X12_isKnown_X12 : ∀ w ∈ u_ws RX12 TX12 54, w ∈ wsX12_isKnown := fun _ h => List.mem_cons_of_mem _ (List.mem_append_left _ (List.mem_append_right _ (h)))

theorem hv_X12_isKnown_48 : Cond.fieldLink RX12 48 "FlowExporterModel" (TX12 28).2.1 (TX12 28).2.2.1 ∈ wsX12_isKnown := List.mem_cons_of_mem _ (List.mem_append_left _ (List.mem_append_left _ (List.mem_of_getElem? (i := 0) rfl)))

theorem hv_X12_isKnown_101 : Cond.fieldLink RX12 101 "FlowExporterModel" (TX12 3).2.1 (TX12 3).2.2.1 ∈ wsX12_isKnown := List.mem_cons_of_mem _ (List.mem_append_left _ (List.mem_append_left _ (List.mem_of_getElem? (i := 1) rfl)))

theorem hv_X12_isKnown_54 : Cond.fieldLink RX12 54 "FlowExporterModel" (TX12 30).2.1 (TX12 30).2.2.1 ∈ wsX12_isKnown := List.mem_cons_of_mem _ (List.mem_append_left _ (List.mem_append_left _ (List.mem_of_getElem? (i := 2) rfl)))

theorem hv_X12_isKnown_17 : Cond.fieldLink RX12 17 "FlowExporterModel" (TX12 2).2.1 (TX12 2).2.2.1 ∈ wsX12_isKnown := List.mem_cons_of_mem _ (List.mem_append_left _ (List.mem_append_left _ (List.mem_of_getElem? (i := 3) rfl)))

set_option maxHeartbeats 4000000 in
set_option maxRecDepth 100000 in
theorem r_isKnown (G : EnvG) (l : Launch) (Φ : Hm) (sz x : Nat) (rd : (Nat → Int32) → Prop) (nw : (Nat → Int32) → Prop) (cr : (Nat → Int64) → Prop) (tp : (Nat → Int32) → Prop) (tt : (Nat → Int64) → Prop) (fl : Nat) (pe : Nat) (le : Nat) (nx : Nat) (il : Nat) (qu : Nat) (kn : Int32) (ec : Int32) (nu : Int32) (va : Int64) (st : Nat) (ep : Int32) (ti : Int32) (ad : Int32) (ob : Int64) (ra : Int32) (rt : Nat) (ex : Int32) (sa : Int64) (us : Int64) (tk : Nat) (th : Int32) (t : Nat) (hx : G.2.2.2 ≤ x) (hI : Im G x (rd, nw, cr, tp, tt, fl, pe, le, nx, il, qu, kn, ec, nu, va, st, ep, ti, ad, ob, ra, rt, ex, sa, us, tk, th) Φ) (ht : t < 4) (hnw : ∀ f9 : Nat → Int32, nw f9 → NN f9) : Ct G l yX12_isKnown wsX12_isKnown ({ frames := 0, cells := 0, slots := 0, locals := 0 }) 0 0 [.ref x, .int (nI t)] Φ sz (fun v Φ1 sz1 => (∃ r9 : Int32, v = some (.int r9) ∧ (r9 = 0 ∨ r9 = 1)) ∧ sz1 = sz ∧ (Im G x (rd, nw, cr, tp, tt, fl, pe, le, nx, il, qu, kn, ec, nu, va, st, ep, ti, ad, ob, ra, rt, ex, sa, us, tk, th) Φ1) ∧ Fr x (fun j9 => False) Φ Φ1) := by
  refine Ct.of (cc := cX12_isKnown) (maxL := 2) (ret := (some .boolean)) (by decide) rfl (Nat.le_of_ble_eq_true rfl) ?_
  intro p9 e9 s9 m9 w9 t9 k9 B
  show Z p9 l e9 _ s9 m9 _ w9 t9 k9 _ G 2 0 [(0, .ref x), (1, .int (nI t))] [] Φ sz 0 0
  refine z_aload_n B dX12_isKnown_0 rfl 0 rfl ?_
  obtain ⟨v_1, v_2, v_3, v_4, n_1, v_5, n_2, h_1, b_13, b_1, b_2, b_3, b_4, b_5, b_6, b_7, b_8, b_9, b_10, b_11, b_12⟩ := im0 hI
  replace b_1 : 1 ≤ rt := b_1
  replace b_2 : rt ≤ 1024 := b_2
  replace b_3 : fl ≤ 12 := b_3
  replace b_4 : pe ≤ 24 := b_4
  replace b_5 : le ≤ 700 := b_5
  replace b_6 : qu ≤ 12 := b_6
  replace b_7 : n_1 ≤ 8 := b_7
  replace b_8 : n_2 ≤ 24 := b_8
  replace b_9 : tk ≤ 24 := b_9
  replace b_10 : il ≤ 700 := b_10
  replace b_11 : nx ≤ 701 := b_11
  replace b_12 : st ≤ 701 := b_12
  have h_2 : Φ x = some (o_ 14 [.int th, .ref (x + 1), .ref (x + 2), .int ti, .int ra, .int (nI rt), .int ex, .int ad, .ref (x + 3), .ref (x + 4), .int v_1, .long v_2, .ref (x + 5), .int (nI fl), .int v_3, .long ob, .long sa, .long v_4, .long us, .ref (x + 6), .ref (x + 7), .int (nI pe), .ref (x + 8), .int (nI le), .ref (x + 9), .ref (x + 10), .int (nI qu), .ref (x + 11), .ref (x + 12), .ref (x + 13), .ref (x + 14), .ref (x + 15), .ref (x + 16), .int (nI n_1), .long v_5, .ref (x + 17), .ref (x + 18), .ref (x + 19), .ref (x + 20), .ref (x + 21), .ref (x + 22), .int (nI n_2), .ref (x + 23), .ref (x + 24), .int (nI tk), .ref (x + 25), .int (nI il), .int (nI nx), .int ec, .int ep, .int kn, .int (nI st), .int nu, .long va]) := h_1
  refine z_get (ref := "FlowExporterModel") (C := RX12) (T := TX12) (N := 54) (ci := 14) (v := .ref (x + 12)) B hu_X12_isKnown_X12 rfl 28 (Nat.le_of_ble_eq_true rfl) hv_X12_isKnown_48 rfl h_2 rfl dX12_isKnown_1 ?_
  refine z_iload_n B dX12_isKnown_4 rfl 1 rfl ?_
  obtain ⟨f_1, h_3, r_1⟩ := imk (k := 12) hI
  replace r_1 : Rw 9 f_1 := r_1
  have h_4 : Φ (x + 12) = some (ai_ G 4 f_1) := h_3
  refine z_iald B h_4 (vp_in_nI (by omega) (by omega)) dX12_isKnown_5 ?_
  obtain ⟨n_3, b_14, e_1⟩ := r_1 ((nI t).toNatClampNeg)
  refine z_top (st1 := [.int (nI n_3)]) (congrArg (fun w9 : Int32 => ([.int w9] : List Value)) (e_1)) ?_
  refine z_if_le (tgt := 34) B dX12_isKnown_6 rfl (fun c_1 => ?_) (fun c_1 => ?_)
  · have e_2 : n_3 ≤ 0 := (nI_leI (a := n_3) (b := 0) (by omega) (by omega)).mp c_1
    refine z_iconst (v := 0) B dX12_isKnown_34 rfl ?_
    exact z_ret_z B dX12_isKnown_35 (by decide) ⟨⟨_, rfl, by decide⟩, rfl, hI, (fun b9 h9 => rfl)⟩
  · have e_3 : ¬ (n_3 ≤ 0) := fun h9 => c_1 ((nI_leI (a := n_3) (b := 0) (by omega) (by omega)).mpr h9)
    refine z_aload_n B dX12_isKnown_9 rfl 0 rfl ?_
    refine z_get (ref := "FlowExporterModel") (C := RX12) (T := TX12) (N := 54) (ci := 14) (v := .int ti) B hu_X12_isKnown_X12 rfl 3 (Nat.le_of_ble_eq_true rfl) hv_X12_isKnown_101 rfl h_2 rfl dX12_isKnown_10 ?_
    refine z_aload_n B dX12_isKnown_13 rfl 0 rfl ?_
    refine z_get (ref := "FlowExporterModel") (C := RX12) (T := TX12) (N := 54) (ci := 14) (v := .ref (x + 14)) B hu_X12_isKnown_X12 rfl 30 (Nat.le_of_ble_eq_true rfl) hv_X12_isKnown_54 rfl h_2 rfl dX12_isKnown_14 ?_
    refine z_iload_n B dX12_isKnown_17 rfl 1 rfl ?_
    obtain ⟨f_2, h_5⟩ := imk (k := 14) hI
    have h_6 : Φ (x + 14) = some (ai_ G 4 f_2) := h_5
    refine z_iald B h_6 (vp_in_nI (by omega) (by omega)) dX12_isKnown_18 ?_
    refine z_fi (fun v_6 => ?_)
    refine z_isub B dX12_isKnown_19 ?_
    refine z_fi (fun v_7 => ?_)
    refine z_aload_n B dX12_isKnown_20 rfl 0 rfl ?_
    refine z_get (ref := "FlowExporterModel") (C := RX12) (T := TX12) (N := 54) (ci := 14) (v := .ref (x + 2)) B hu_X12_isKnown_X12 rfl 2 (Nat.le_of_ble_eq_true rfl) hv_X12_isKnown_17 rfl h_2 rfl dX12_isKnown_21 ?_
    refine z_bipush (v := 6) B dX12_isKnown_24 rfl ?_
    obtain ⟨f_3, h_7, r_3⟩ := imk (k := 2) hI
    replace r_3 : nw f_3 := r_3
    have r_4 : NN f_3 := hnw f_3 r_3
    have h_8 : Φ (x + 2) = some (ai_ G 307 f_3) := h_7
    refine z_iald B h_8 (vin rfl) dX12_isKnown_26 ?_
    refine z_fi (fun v_8 => ?_)
    refine z_icmp_gt (tgt := 34) B dX12_isKnown_27 rfl (fun c_2 => ?_) (fun c_2 => ?_)
    · refine z_iconst (v := 0) B dX12_isKnown_34 rfl ?_
      exact z_ret_z B dX12_isKnown_35 (by decide) ⟨⟨_, rfl, by decide⟩, rfl, hI, (fun b9 h9 => rfl)⟩
    · refine z_iconst (v := 1) B dX12_isKnown_30 rfl ?_
      refine z_goto (tgt := 35) B dX12_isKnown_31 rfl ?_
      exact z_ret_z B dX12_isKnown_35 (by decide) ⟨⟨_, rfl, by decide⟩, rfl, hI, (fun b9 h9 => rfl)⟩

theorem hu_X12_knownTemplates_X12 : ∀ w ∈ u_ws RX12 TX12 54, w ∈ wsX12_knownTemplates := fun _ h => List.mem_cons_of_mem _ (List.mem_append_left _ (List.mem_append_right _ (h)))

theorem hv_X12_knownTemplates_1 : Cond.fieldLink RX12 1 "FlowExporterModel" (TX12 0).2.1 (TX12 0).2.2.1 ∈ wsX12_knownTemplates := List.mem_cons_of_mem _ (List.mem_append_left _ (List.mem_append_left _ (List.mem_of_getElem? (i := 0) rfl)))

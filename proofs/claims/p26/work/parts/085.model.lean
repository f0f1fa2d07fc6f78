set_option maxRecDepth 20000 in
theorem ggX12_messageByte_X12_isMessage : GoodIn wsX12_messageByte wsX12_isMessage := (goodIn_ca (goodIn_r _ [8, 9, 10, 11, 7, 12] rfl (by decide +kernel)) (goodIn_sub (fun _ h => List.mem_cons_of_mem _ (List.mem_append_left _ (List.mem_append_right _ h))) gw_wsX120))
set_option maxRecDepth 20000 in
theorem gX12_messageByte_X12_isMessage : GoodIn wsX12_messageByte (wsV RX12 311 RX12 yX12_isMessage wsX12_isMessage) := goodIn_app (goodIn_m (mem_cA (List.mem_cons_of_mem _ (List.mem_append_left _ (List.mem_append_left _ (List.mem_of_getElem? (i := 3) rfl)))) (mem_cA (List.mem_cons_of_mem _ (List.mem_append_left _ (List.mem_append_left _ (List.mem_of_getElem? (i := 4) rfl)))) (mem_cA (List.mem_cons_of_mem _ (List.mem_append_left _ (List.mem_append_left _ (List.mem_of_getElem? (i := 5) rfl)))) (mem_cA (List.mem_cons_of_mem _ (List.mem_append_left _ (List.mem_append_left _ (List.mem_of_getElem? (i := 6) rfl)))) mem_cZ)))) (by decide +kernel)) ggX12_messageByte_X12_isMessage
set_option maxRecDepth 20000 in
theorem ggX12_messageByte_X12_throwsIf : GoodIn wsX12_messageByte wsX12_throwsIf := (goodIn_ca (goodIn_r _ [16, 1] rfl (by decide +kernel)) (goodIn_sub (fun _ h => List.mem_cons_of_mem _ (List.mem_append_left _ (List.mem_append_right _ h))) gw_wsX120))
set_option maxRecDepth 20000 in
theorem gX12_messageByte_X12_throwsIf : GoodIn wsX12_messageByte (wsV RX12 185 RX12 yX12_throwsIf wsX12_throwsIf) := goodIn_app (goodIn_m (mem_cA (List.mem_cons_of_mem _ (List.mem_append_left _ (List.mem_append_left _ (List.mem_of_getElem? (i := 12) rfl)))) (mem_cA (List.mem_cons_of_mem _ (List.mem_append_left _ (List.mem_append_left _ (List.mem_of_getElem? (i := 13) rfl)))) (mem_cA (List.mem_cons_of_mem _ (List.mem_append_left _ (List.mem_append_left _ (List.mem_of_getElem? (i := 14) rfl)))) (mem_cA (List.mem_cons_of_mem _ (List.mem_append_left _ (List.mem_append_left _ (List.mem_of_getElem? (i := 6) rfl)))) mem_cZ)))) (by decide +kernel)) ggX12_messageByte_X12_throwsIf
set_option maxRecDepth 20000 in
theorem ggX12_messageByte_X12_inRange : GoodIn wsX12_messageByte wsX12_inRange := (goodIn_r _ [12] rfl (by decide +kernel))
set_option maxRecDepth 20000 in
theorem gX12_messageByte_X12_inRange : GoodIn wsX12_messageByte (va_wsS RX12 169 yX12_inRange wsX12_inRange) := goodIn_app (goodIn_m (mem_cA (List.mem_cons_of_mem _ (List.mem_append_left _ (List.mem_append_left _ (List.mem_of_getElem? (i := 9) rfl)))) (mem_cA (List.mem_cons_of_mem _ (List.mem_append_left _ (List.mem_append_left _ (List.mem_of_getElem? (i := 10) rfl)))) (mem_cA (List.mem_cons_of_mem _ (List.mem_append_left _ (List.mem_append_left _ (List.mem_of_getElem? (i := 6) rfl)))) mem_cZ))) (by decide +kernel)) ggX12_messageByte_X12_inRange
theorem dX12_messageByte_0 : decode cX12_messageByte 0 = .ok (.aload_n 0, 1) := by decide +kernel
theorem dX12_messageByte_1 : decode cX12_messageByte 1 = .ok (.iconst 0, 1) := by decide +kernel
theorem dX12_messageByte_2 : decode cX12_messageByte 2 = .ok (.putfield 1, 3) := by decide +kernel
theorem dX12_messageByte_5 : decode cX12_messageByte 5 = .ok (.aload_n 0, 1) := by decide +kernel
theorem dX12_messageByte_6 : decode cX12_messageByte 6 = .ok (.aload_n 0, 1) := by decide +kernel
theorem dX12_messageByte_7 : decode cX12_messageByte 7 = .ok (.iload_n 1, 1) := by decide +kernel
theorem dX12_messageByte_8 : decode cX12_messageByte 8 = .ok (.invokevirtual 311, 3) := by decide +kernel
theorem dX12_messageByte_11 : decode cX12_messageByte 11 = .ok (.ifCond .ne 7, 3) := by decide +kernel
theorem dX12_messageByte_14 : decode cX12_messageByte 14 = .ok (.iconst 1, 1) := by decide +kernel
theorem dX12_messageByte_15 : decode cX12_messageByte 15 = .ok (.goto 4, 3) := by decide +kernel
theorem dX12_messageByte_18 : decode cX12_messageByte 18 = .ok (.iconst 0, 1) := by decide +kernel
theorem dX12_messageByte_19 : decode cX12_messageByte 19 = .ok (.iconst 1, 1) := by decide +kernel
theorem dX12_messageByte_20 : decode cX12_messageByte 20 = .ok (.invokevirtual 185, 3) := by decide +kernel
theorem dX12_messageByte_23 : decode cX12_messageByte 23 = .ok (.ifCond .eq 7, 3) := by decide +kernel
theorem dX12_messageByte_26 : decode cX12_messageByte 26 = .ok (.iconst 0, 1) := by decide +kernel
theorem dX12_messageByte_27 : decode cX12_messageByte 27 = .ok (.goto 37, 3) := by decide +kernel
theorem dX12_messageByte_30 : decode cX12_messageByte 30 = .ok (.iload_n 2, 1) := by decide +kernel
theorem dX12_messageByte_31 : decode cX12_messageByte 31 = .ok (.i2l, 1) := by decide +kernel
theorem dX12_messageByte_32 : decode cX12_messageByte 32 = .ok (.lconst 0, 1) := by decide +kernel
theorem dX12_messageByte_33 : decode cX12_messageByte 33 = .ok (.aload_n 0, 1) := by decide +kernel
theorem dX12_messageByte_34 : decode cX12_messageByte 34 = .ok (.getfield 42, 3) := by decide +kernel
theorem dX12_messageByte_37 : decode cX12_messageByte 37 = .ok (.iload_n 1, 1) := by decide +kernel
theorem dX12_messageByte_38 : decode cX12_messageByte 38 = .ok (.iaload, 1) := by decide +kernel
theorem dX12_messageByte_39 : decode cX12_messageByte 39 = .ok (.iconst 1, 1) := by decide +kernel
theorem dX12_messageByte_40 : decode cX12_messageByte 40 = .ok (.isub, 1) := by decide +kernel
theorem dX12_messageByte_41 : decode cX12_messageByte 41 = .ok (.i2l, 1) := by decide +kernel
theorem dX12_messageByte_42 : decode cX12_messageByte 42 = .ok (.invokestatic 169, 3) := by decide +kernel
theorem dX12_messageByte_45 : decode cX12_messageByte 45 = .ok (.ifCond .eq 18, 3) := by decide +kernel
theorem dX12_messageByte_48 : decode cX12_messageByte 48 = .ok (.aload_n 0, 1) := by decide +kernel
theorem dX12_messageByte_49 : decode cX12_messageByte 49 = .ok (.getfield 39, 3) := by decide +kernel
theorem dX12_messageByte_52 : decode cX12_messageByte 52 = .ok (.sipush 600, 3) := by decide +kernel
theorem dX12_messageByte_55 : decode cX12_messageByte 55 = .ok (.iload_n 1, 1) := by decide +kernel
theorem dX12_messageByte_56 : decode cX12_messageByte 56 = .ok (.imul, 1) := by decide +kernel
theorem dX12_messageByte_57 : decode cX12_messageByte 57 = .ok (.iload_n 2, 1) := by decide +kernel
theorem dX12_messageByte_58 : decode cX12_messageByte 58 = .ok (.iadd, 1) := by decide +kernel
theorem dX12_messageByte_59 : decode cX12_messageByte 59 = .ok (.iaload, 1) := by decide +kernel
theorem dX12_messageByte_60 : decode cX12_messageByte 60 = .ok (.goto 4, 3) := by decide +kernel
theorem dX12_messageByte_63 : decode cX12_messageByte 63 = .ok (.iconst (-1), 1) := by decide +kernel
theorem dX12_messageByte_64 : decode cX12_messageByte 64 = .ok (.ireturn, 1) := by decide +kernel
set_option maxRecDepth 20000 in
theorem ggX12_exchange_X12_isMessage : GoodIn wsX12_exchange wsX12_isMessage := (goodIn_ca (goodIn_r _ [8, 9, 10, 11, 7, 12] rfl (by decide +kernel)) (goodIn_sub (fun _ h => List.mem_cons_of_mem _ (List.mem_append_left _ (List.mem_append_right _ h))) gw_wsX120))
set_option maxRecDepth 20000 in
theorem gX12_exchange_X12_isMessage : GoodIn wsX12_exchange (wsV RX12 311 RX12 yX12_isMessage wsX12_isMessage) := goodIn_app (goodIn_m (mem_cA (List.mem_cons_of_mem _ (List.mem_append_left _ (List.mem_append_left _ (List.mem_of_getElem? (i := 3) rfl)))) (mem_cA (List.mem_cons_of_mem _ (List.mem_append_left _ (List.mem_append_left _ (List.mem_of_getElem? (i := 4) rfl)))) (mem_cA (List.mem_cons_of_mem _ (List.mem_append_left _ (List.mem_append_left _ (List.mem_of_getElem? (i := 5) rfl)))) (mem_cA (List.mem_cons_of_mem _ (List.mem_append_left _ (List.mem_append_left _ (List.mem_of_getElem? (i := 6) rfl)))) mem_cZ)))) (by decide +kernel)) ggX12_exchange_X12_isMessage
set_option maxRecDepth 20000 in
theorem ggX12_exchange_X12_throwsIf : GoodIn wsX12_exchange wsX12_throwsIf := (goodIn_ca (goodIn_r _ [16, 1] rfl (by decide +kernel)) (goodIn_sub (fun _ h => List.mem_cons_of_mem _ (List.mem_append_left _ (List.mem_append_right _ h))) gw_wsX120))
set_option maxRecDepth 20000 in
theorem gX12_exchange_X12_throwsIf : GoodIn wsX12_exchange (wsV RX12 185 RX12 yX12_throwsIf wsX12_throwsIf) := goodIn_app (goodIn_m (mem_cA (List.mem_cons_of_mem _ (List.mem_append_left _ (List.mem_append_left _ (List.mem_of_getElem? (i := 12) rfl)))) (mem_cA (List.mem_cons_of_mem _ (List.mem_append_left _ (List.mem_append_left _ (List.mem_of_getElem? (i := 13) rfl)))) (mem_cA (List.mem_cons_of_mem _ (List.mem_append_left _ (List.mem_append_left _ (List.mem_of_getElem? (i := 14) rfl)))) (mem_cA (List.mem_cons_of_mem _ (List.mem_append_left _ (List.mem_append_left _ (List.mem_of_getElem? (i := 6) rfl)))) mem_cZ)))) (by decide +kernel)) ggX12_exchange_X12_throwsIf
theorem dX12_exchange_0 : decode cX12_exchange 0 = .ok (.aload_n 0, 1) := by decide +kernel
theorem dX12_exchange_1 : decode cX12_exchange 1 = .ok (.iconst 0, 1) := by decide +kernel
theorem dX12_exchange_2 : decode cX12_exchange 2 = .ok (.putfield 1, 3) := by decide +kernel
theorem dX12_exchange_5 : decode cX12_exchange 5 = .ok (.aload_n 0, 1) := by decide +kernel
theorem dX12_exchange_6 : decode cX12_exchange 6 = .ok (.aload_n 0, 1) := by decide +kernel
theorem dX12_exchange_7 : decode cX12_exchange 7 = .ok (.iload_n 1, 1) := by decide +kernel
theorem dX12_exchange_8 : decode cX12_exchange 8 = .ok (.invokevirtual 311, 3) := by decide +kernel
theorem dX12_exchange_11 : decode cX12_exchange 11 = .ok (.ifCond .eq 11, 3) := by decide +kernel
theorem dX12_exchange_14 : decode cX12_exchange 14 = .ok (.aload_n 0, 1) := by decide +kernel
theorem dX12_exchange_15 : decode cX12_exchange 15 = .ok (.iload_n 2, 1) := by decide +kernel
theorem dX12_exchange_16 : decode cX12_exchange 16 = .ok (.invokevirtual 311, 3) := by decide +kernel
theorem dX12_exchange_19 : decode cX12_exchange 19 = .ok (.ifCond .ne 7, 3) := by decide +kernel
theorem dX12_exchange_22 : decode cX12_exchange 22 = .ok (.iconst 1, 1) := by decide +kernel
theorem dX12_exchange_23 : decode cX12_exchange 23 = .ok (.goto 4, 3) := by decide +kernel
theorem dX12_exchange_26 : decode cX12_exchange 26 = .ok (.iconst 0, 1) := by decide +kernel
theorem dX12_exchange_27 : decode cX12_exchange 27 = .ok (.iconst 1, 1) := by decide +kernel
theorem dX12_exchange_28 : decode cX12_exchange 28 = .ok (.invokevirtual 185, 3) := by decide +kernel
theorem dX12_exchange_31 : decode cX12_exchange 31 = .ok (.ifCond .ne 8, 3) := by decide +kernel
theorem dX12_exchange_34 : decode cX12_exchange 34 = .ok (.iload_n 1, 1) := by decide +kernel
theorem dX12_exchange_35 : decode cX12_exchange 35 = .ok (.iload_n 2, 1) := by decide +kernel
theorem dX12_exchange_36 : decode cX12_exchange 36 = .ok (.if_icmp .ne 5, 3) := by decide +kernel
theorem dX12_exchange_39 : decode cX12_exchange 39 = .ok (.iconst 0, 1) := by decide +kernel
theorem dX12_exchange_40 : decode cX12_exchange 40 = .ok (.ireturn, 1) := by decide +kernel
theorem dX12_exchange_41 : decode cX12_exchange 41 = .ok (.iconst 0, 1) := by decide +kernel
theorem dX12_exchange_42 : decode cX12_exchange 42 = .ok (.istore_n 3, 1) := by decide +kernel
theorem dX12_exchange_43 : decode cX12_exchange 43 = .ok (.iload_n 3, 1) := by decide +kernel
theorem dX12_exchange_44 : decode cX12_exchange 44 = .ok (.sipush 600, 3) := by decide +kernel
theorem dX12_exchange_47 : decode cX12_exchange 47 = .ok (.if_icmp .ge 61, 3) := by decide +kernel
theorem dX12_exchange_50 : decode cX12_exchange 50 = .ok (.aload_n 0, 1) := by decide +kernel
theorem dX12_exchange_51 : decode cX12_exchange 51 = .ok (.getfield 39, 3) := by decide +kernel
theorem dX12_exchange_54 : decode cX12_exchange 54 = .ok (.sipush 600, 3) := by decide +kernel
theorem dX12_exchange_57 : decode cX12_exchange 57 = .ok (.iload_n 1, 1) := by decide +kernel
theorem dX12_exchange_58 : decode cX12_exchange 58 = .ok (.imul, 1) := by decide +kernel
theorem dX12_exchange_59 : decode cX12_exchange 59 = .ok (.iload_n 3, 1) := by decide +kernel
theorem dX12_exchange_60 : decode cX12_exchange 60 = .ok (.iadd, 1) := by decide +kernel
theorem dX12_exchange_61 : decode cX12_exchange 61 = .ok (.iaload, 1) := by decide +kernel
theorem dX12_exchange_62 : decode cX12_exchange 62 = .ok (.istore 4, 2) := by decide +kernel
theorem dX12_exchange_64 : decode cX12_exchange 64 = .ok (.aload_n 0, 1) := by decide +kernel
theorem dX12_exchange_65 : decode cX12_exchange 65 = .ok (.getfield 39, 3) := by decide +kernel
theorem dX12_exchange_68 : decode cX12_exchange 68 = .ok (.sipush 600, 3) := by decide +kernel
theorem dX12_exchange_71 : decode cX12_exchange 71 = .ok (.iload_n 1, 1) := by decide +kernel
theorem dX12_exchange_72 : decode cX12_exchange 72 = .ok (.imul, 1) := by decide +kernel
theorem dX12_exchange_73 : decode cX12_exchange 73 = .ok (.iload_n 3, 1) := by decide +kernel
theorem dX12_exchange_74 : decode cX12_exchange 74 = .ok (.iadd, 1) := by decide +kernel
theorem dX12_exchange_75 : decode cX12_exchange 75 = .ok (.aload_n 0, 1) := by decide +kernel
theorem dX12_exchange_76 : decode cX12_exchange 76 = .ok (.getfield 39, 3) := by decide +kernel
theorem dX12_exchange_79 : decode cX12_exchange 79 = .ok (.sipush 600, 3) := by decide +kernel
theorem dX12_exchange_82 : decode cX12_exchange 82 = .ok (.iload_n 2, 1) := by decide +kernel
theorem dX12_exchange_83 : decode cX12_exchange 83 = .ok (.imul, 1) := by decide +kernel
theorem dX12_exchange_84 : decode cX12_exchange 84 = .ok (.iload_n 3, 1) := by decide +kernel
theorem dX12_exchange_85 : decode cX12_exchange 85 = .ok (.iadd, 1) := by decide +kernel
theorem dX12_exchange_86 : decode cX12_exchange 86 = .ok (.iaload, 1) := by decide +kernel
theorem dX12_exchange_87 : decode cX12_exchange 87 = .ok (.iastore, 1) := by decide +kernel
theorem dX12_exchange_88 : decode cX12_exchange 88 = .ok (.aload_n 0, 1) := by decide +kernel
theorem dX12_exchange_89 : decode cX12_exchange 89 = .ok (.getfield 39, 3) := by decide +kernel
theorem dX12_exchange_92 : decode cX12_exchange 92 = .ok (.sipush 600, 3) := by decide +kernel
theorem dX12_exchange_95 : decode cX12_exchange 95 = .ok (.iload_n 2, 1) := by decide +kernel
theorem dX12_exchange_96 : decode cX12_exchange 96 = .ok (.imul, 1) := by decide +kernel
theorem dX12_exchange_97 : decode cX12_exchange 97 = .ok (.iload_n 3, 1) := by decide +kernel
theorem dX12_exchange_98 : decode cX12_exchange 98 = .ok (.iadd, 1) := by decide +kernel
theorem dX12_exchange_99 : decode cX12_exchange 99 = .ok (.iload 4, 2) := by decide +kernel
theorem dX12_exchange_101 : decode cX12_exchange 101 = .ok (.iastore, 1) := by decide +kernel
theorem dX12_exchange_102 : decode cX12_exchange 102 = .ok (.iinc 3 1, 3) := by decide +kernel
theorem dX12_exchange_105 : decode cX12_exchange 105 = .ok (.goto (-62), 3) := by decide +kernel
theorem dX12_exchange_108 : decode cX12_exchange 108 = .ok (.aload_n 0, 1) := by decide +kernel
theorem dX12_exchange_109 : decode cX12_exchange 109 = .ok (.getfield 42, 3) := by decide +kernel
theorem dX12_exchange_112 : decode cX12_exchange 112 = .ok (.iload_n 1, 1) := by decide +kernel
theorem dX12_exchange_113 : decode cX12_exchange 113 = .ok (.iaload, 1) := by decide +kernel
theorem dX12_exchange_114 : decode cX12_exchange 114 = .ok (.istore_n 3, 1) := by decide +kernel
theorem dX12_exchange_115 : decode cX12_exchange 115 = .ok (.aload_n 0, 1) := by decide +kernel
theorem dX12_exchange_116 : decode cX12_exchange 116 = .ok (.getfield 42, 3) := by decide +kernel
theorem dX12_exchange_119 : decode cX12_exchange 119 = .ok (.iload_n 1, 1) := by decide +kernel
theorem dX12_exchange_120 : decode cX12_exchange 120 = .ok (.aload_n 0, 1) := by decide +kernel
theorem dX12_exchange_121 : decode cX12_exchange 121 = .ok (.getfield 42, 3) := by decide +kernel
theorem dX12_exchange_124 : decode cX12_exchange 124 = .ok (.iload_n 2, 1) := by decide +kernel
theorem dX12_exchange_125 : decode cX12_exchange 125 = .ok (.iaload, 1) := by decide +kernel
theorem dX12_exchange_126 : decode cX12_exchange 126 = .ok (.iastore, 1) := by decide +kernel
theorem dX12_exchange_127 : decode cX12_exchange 127 = .ok (.aload_n 0, 1) := by decide +kernel
theorem dX12_exchange_128 : decode cX12_exchange 128 = .ok (.getfield 42, 3) := by decide +kernel
theorem dX12_exchange_131 : decode cX12_exchange 131 = .ok (.iload_n 2, 1) := by decide +kernel
theorem dX12_exchange_132 : decode cX12_exchange 132 = .ok (.iload_n 3, 1) := by decide +kernel
theorem dX12_exchange_133 : decode cX12_exchange 133 = .ok (.iastore, 1) := by decide +kernel
theorem dX12_exchange_134 : decode cX12_exchange 134 = .ok (.iconst 1, 1) := by decide +kernel
theorem dX12_exchange_135 : decode cX12_exchange 135 = .ok (.ireturn, 1) := by decide +kernel
set_option maxHeartbeats 4000000 in
set_option maxRecDepth 100000 in
theorem r_exchange (G : EnvG) (l : Launch) (Φ : Hm) (sz x : Nat) (rd : (Nat → Int32) → Prop) (nw : (Nat → Int32) → Prop) (cr : (Nat → Int64) → Prop) (tp : (Nat → Int32) → Prop) (tt : (Nat → Int64) → Prop) (sI : (Nat → Int32) → Prop) (sT : (Nat → Int32) → Prop) (pt : (Nat → Int32) → Prop) (fl : Nat) (pe : Nat) (le : Nat) (nx : Nat) (il : Nat) (qu : Nat) (kn : Int32) (ec : Int32) (nu : Int32) (va : Int64) (st : Nat) (ep : Int32) (ti : Int32) (ad : Int32) (ob : Int64) (ra : Int32) (rt : Nat) (ex : Int32) (sa : Int64) (us : Int64) (tk : Nat) (th : Int32) (me : Int32) (dr : Int32) (se : Int64) (sn : Int64) (L : Nat → Nat) (a : Int32) (b : Int32) (hx : G.2.2.2 ≤ x) (hI : Im G x (rd, nw, cr, tp, tt, sI, sT, pt, (QlQ qu L), fl, pe, le, nx, il, qu, kn, ec, nu, va, st, ep, ti, ad, ob, ra, rt, ex, sa, us, tk, th, me, dr, se, sn) Φ) (hnw : ∀ f9 : Nat → Int32, nw f9 → NN f9) : Ct G l yX12_exchange wsX12_exchange ({ frames := 2, cells := 0, slots := 0, locals := 46 }) 0 0 [.ref x, .int a, .int b] Φ sz (fun v Φ1 sz1 => (∃ (r9 th9 : Int32) (l9 : List Value), v = some (.int r9) ∧ Φ1 x = some (o_ 14 (.int th9 :: l9)) ∧ AnsR (InQ qu a ∧ InQ qu b) True ((if a = b then (0 : Int32) else 1)).toInt64 th9 r9.toInt64) ∧ sz1 = sz ∧ (∃ (L1 : Nat → Nat) (th1 : Int32), ((¬ (InQ qu a ∧ InQ qu b) ∧ L1 = L) ∨ (∃ u9 w9 : Nat, u9 < qu ∧ w9 < qu ∧ a = nI u9 ∧ b = nI w9 ∧ L1 = exQ qu L u9 w9)) ∧ Im G x (rd, nw, cr, tp, tt, sI, sT, pt, (QlQ qu L1), fl, pe, le, nx, il, qu, kn, ec, nu, va, st, ep, ti, ad, ob, ra, rt, ex, sa, us, tk, th1, me, dr, se, sn) Φ1) ∧ Fr x (fun j9 => j9 = 0 ∨ j9 = 9 ∨ j9 = 10) Φ Φ1) := by
  refine Ct.of (cc := cX12_exchange) (maxL := 5) (ret := (some .boolean)) (by decide) rfl (Nat.le_of_ble_eq_true rfl) ?_
  intro p9 e9 s9 m9 w9 t9 k9 B
  show Z p9 l e9 _ s9 m9 _ w9 t9 k9 _ G 5 0 [(0, .ref x), (1, .int a), (2, .int b)] [] Φ sz 0 0
  refine z_aload_n B dX12_exchange_0 rfl 0 rfl ?_
  refine z_iconst (v := 0) B dX12_exchange_1 rfl ?_
  obtain ⟨n_1, v_1, n_2, h_1, b_13, b_1, b_2, b_3, b_4, b_5, b_6, b_7, b_8, b_9, b_10, b_11, b_12⟩ := im0 hI
  replace b_1 : 1 ≤ rt := b_1
  replace b_2 : rt ≤ 1024 := b_2
  replace b_3 : fl ≤ 12 := b_3
  replace b_4 : pe ≤ 24 := b_4
  replace b_5 : le ≤ 700 := b_5
  replace b_6 : qu ≤ 12 := b_6
  replace b_7 : n_1 ≤ 8 := b_7
  replace b_8 : n_2 ≤ 24 := b_8
  replace b_9 : tk ≤ 24 := b_9
  replace b_10 : il ≤ 700 := b_10
  replace b_11 : nx ≤ 701 := b_11
  replace b_12 : st ≤ 701 := b_12
  have h_2 : Φ x = some (o_ 14 [.int th, .ref (x + 1), .ref (x + 2), .int ti, .int ra, .int (nI rt), .int ex, .int ad, .ref (x + 3), .ref (x + 4), .int me, .long se, .ref (x + 5), .int (nI fl), .int dr, .long ob, .long sa, .long sn, .long us, .ref (x + 6), .ref (x + 7), .int (nI pe), .ref (x + 8), .int (nI le), .ref (x + 9), .ref (x + 10), .int (nI qu), .ref (x + 11), .ref (x + 12), .ref (x + 13), .ref (x + 14), .ref (x + 15), .ref (x + 16), .int (nI n_1), .long v_1, .ref (x + 17), .ref (x + 18), .ref (x + 19), .ref (x + 20), .ref (x + 21), .ref (x + 22), .int (nI n_2), .ref (x + 23), .ref (x + 24), .int (nI tk), .ref (x + 25), .int (nI il), .int (nI nx), .int ec, .int ep, .int kn, .int (nI st), .int nu, .long va]) := h_1
  refine z_put (ref := "FlowExporterModel") (C := RX12) (T := TX12) (N := 54) (ci := 14) (v := .int 0) B hu_X12_exchange_X12 tyX12 tyX12_ok nmX12 rfl 0 (Nat.le_of_ble_eq_true rfl) hv_X12_exchange_1 rfl (Or.inl rfl) h_2 hx rfl rfl (Nat.le_of_ble_eq_true rfl) dX12_exchange_2 (fun Φ1 hΦ1 => ?_)
  have h_3 : Φ1 x = some (o_ 14 [.int 0, .ref (x + 1), .ref (x + 2), .int ti, .int ra, .int (nI rt), .int ex, .int ad, .ref (x + 3), .ref (x + 4), .int me, .long se, .ref (x + 5), .int (nI fl), .int dr, .long ob, .long sa, .long sn, .long us, .ref (x + 6), .ref (x + 7), .int (nI pe), .ref (x + 8), .int (nI le), .ref (x + 9), .ref (x + 10), .int (nI qu), .ref (x + 11), .ref (x + 12), .ref (x + 13), .ref (x + 14), .ref (x + 15), .ref (x + 16), .int (nI n_1), .long v_1, .ref (x + 17), .ref (x + 18), .ref (x + 19), .ref (x + 20), .ref (x + 21), .ref (x + 22), .int (nI n_2), .ref (x + 23), .ref (x + 24), .int (nI tk), .ref (x + 25), .int (nI il), .int (nI nx), .int ec, .int ep, .int kn, .int (nI st), .int nu, .long va]) := fset_at hΦ1
  have hI1 : Im G x (rd, nw, cr, tp, tt, sI, sT, pt, (QlQ qu L), fl, pe, le, nx, il, qu, kn, ec, nu, va, st, ep, ti, ad, ob, ra, rt, ex, sa, us, tk, 0, me, dr, se, sn) Φ1 := Im.put0 hI hΦ1 ⟨n_1, v_1, n_2, rfl, b_13, b_1, b_2, b_3, b_4, b_5, b_6, b_7, b_8, b_9, b_10, b_11, b_12⟩
  refine z_aload_n B dX12_exchange_5 rfl 0 rfl ?_
  refine z_aload_n B dX12_exchange_6 rfl 0 rfl ?_
  refine z_iload_n B dX12_exchange_7 rfl 1 rfl ?_
  refine z_callV (As := [.int a]) (rest := [.ref x]) B (r_isMessageX G l Φ1 sz x rd nw cr tp tt sI sT pt (QlQ qu L) fl pe le nx il qu kn ec nu va st ep ti ad ob ra rt ex sa us tk 0 me dr se sn a hx hI1 hnw) (cwV 1 B.1.2.2.2.2 gX12_exchange_X12_isMessage rfl rfl rfl (by decide +kernel) ⟨Nat.le_of_ble_eq_true rfl, Nat.le_of_ble_eq_true rfl⟩) h_3 rfl rfl rfl rfl (Nat.le_of_ble_eq_true rfl) dX12_exchange_8 ⟨Nat.le_of_ble_eq_true rfl, Nat.le_of_ble_eq_true rfl⟩ (fun r_1 Φ2 sz1 st1 hp1 hs1 => ?_)
  obtain ⟨ha1, hq1, hI2, hF1⟩ := hp1
  subst sz1
  replace hI2 : Im G x (rd, nw, cr, tp, tt, sI, sT, pt, (QlQ qu L), fl, pe, le, nx, il, qu, kn, ec, nu, va, st, ep, ti, ad, ob, ra, rt, ex, sa, us, tk, 0, me, dr, se, sn) Φ2 := hI2
  rcases ha1 with ⟨rfl, hq2⟩ | ⟨rfl, n_3, b_14, rfl, hq3⟩
  · replace hs1 : st1 = [.int 0, .ref x] := hs1
    subst st1
    refine z_if_eq (tgt := 22) B dX12_exchange_11 rfl (fun c_1 => ?_) (fun h9 => absurd (by decide) h9)
    refine z_iconst (v := 1) B dX12_exchange_22 rfl ?_
    refine z_goto (tgt := 27) B dX12_exchange_23 rfl ?_
    refine z_iconst (v := 1) B dX12_exchange_27 rfl ?_
    have h_4 : Φ2 x = some (o_ 14 [.int 0, .ref (x + 1), .ref (x + 2), .int ti, .int ra, .int (nI rt), .int ex, .int ad, .ref (x + 3), .ref (x + 4), .int me, .long se, .ref (x + 5), .int (nI fl), .int dr, .long ob, .long sa, .long sn, .long us, .ref (x + 6), .ref (x + 7), .int (nI pe), .ref (x + 8), .int (nI le), .ref (x + 9), .ref (x + 10), .int (nI qu), .ref (x + 11), .ref (x + 12), .ref (x + 13), .ref (x + 14), .ref (x + 15), .ref (x + 16), .int (nI n_1), .long v_1, .ref (x + 17), .ref (x + 18), .ref (x + 19), .ref (x + 20), .ref (x + 21), .ref (x + 22), .int (nI n_2), .ref (x + 23), .ref (x + 24), .int (nI tk), .ref (x + 25), .int (nI il), .int (nI nx), .int ec, .int ep, .int kn, .int (nI st), .int nu, .long va]) := ((hF1 x (fun j9 h8 h7 => (show False from h7).elim)).trans h_3)
    refine z_callV (As := [.int 1, .int 1]) (rest := []) B (r_throwsIf1 G l Φ2 sz x rd nw cr tp tt sI sT pt (QlQ qu L) fl pe le nx il qu kn ec nu va st ep ti ad ob ra rt ex sa us tk 0 me dr se sn  hx hI2 hnw) (cwV 2 B.1.2.2.2.2 gX12_exchange_X12_throwsIf rfl rfl rfl (by decide +kernel) ⟨Nat.le_of_ble_eq_true rfl, Nat.le_of_ble_eq_true rfl⟩) h_4 rfl rfl rfl rfl (Nat.le_of_ble_eq_true rfl) dX12_exchange_28 ⟨Nat.le_of_ble_eq_true rfl, Nat.le_of_ble_eq_true rfl⟩ (fun r_2 Φ3 sz2 st2 hp2 hs2 => ?_)
    obtain ⟨⟨rfl, l_1, h_5⟩, hq4, hI3, hF2⟩ := hp2
    subst sz2
    replace hs2 : st2 = [.int 1] := hs2
    subst st2
    replace hI3 : Im G x (rd, nw, cr, tp, tt, sI, sT, pt, (QlQ qu L), fl, pe, le, nx, il, qu, kn, ec, nu, va, st, ep, ti, ad, ob, ra, rt, ex, sa, us, tk, 1, me, dr, se, sn) Φ3 := hI3
    refine z_if_ne (tgt := 39) B dX12_exchange_31 rfl (fun c_2 => ?_) (fun h9 => absurd h9 (by decide))
    refine z_iconst (v := 0) B dX12_exchange_39 rfl ?_
    exact z_ret_z B dX12_exchange_40 (by decide) ⟨⟨0, 1, l_1, rfl, h_5, Or.inr (Or.inl ⟨(fun h9 => hq2 h9.1), rfl⟩)⟩, rfl, ⟨L, 1, (Or.inl ⟨(fun h9 => hq2 h9.1), rfl⟩), hI3⟩, (fun b9 h9 => ((hF2 b9 (fun j9 h8 h7 => h9 j9 h8 (fq_1083 j9 h7))).trans ((hF1 b9 (fun j9 h8 h7 => (show False from h7).elim)).trans ((fset_fr hΦ1 (fun h8 => h9 (0) h8 (show 0 = 0 ∨ 0 = 9 ∨ 0 = 10 by decide))).trans rfl))))⟩
  · replace hs1 : st1 = [.int 1, .ref x] := hs1
    subst st1
    replace b_14 : n_3 < qu := b_14
    refine z_if_eq (tgt := 22) B dX12_exchange_11 rfl (fun h9 => absurd h9 (by decide)) (fun c_3 => ?_)
    refine z_aload_n B dX12_exchange_14 rfl 0 rfl ?_
    refine z_iload_n B dX12_exchange_15 rfl 2 rfl ?_
    have h_6 : Φ2 x = some (o_ 14 [.int 0, .ref (x + 1), .ref (x + 2), .int ti, .int ra, .int (nI rt), .int ex, .int ad, .ref (x + 3), .ref (x + 4), .int me, .long se, .ref (x + 5), .int (nI fl), .int dr, .long ob, .long sa, .long sn, .long us, .ref (x + 6), .ref (x + 7), .int (nI pe), .ref (x + 8), .int (nI le), .ref (x + 9), .ref (x + 10), .int (nI qu), .ref (x + 11), .ref (x + 12), .ref (x + 13), .ref (x + 14), .ref (x + 15), .ref (x + 16), .int (nI n_1), .long v_1, .ref (x + 17), .ref (x + 18), .ref (x + 19), .ref (x + 20), .ref (x + 21), .ref (x + 22), .int (nI n_2), .ref (x + 23), .ref (x + 24), .int (nI tk), .ref (x + 25), .int (nI il), .int (nI nx), .int ec, .int ep, .int kn, .int (nI st), .int nu, .long va]) := ((hF1 x (fun j9 h8 h7 => (show False from h7).elim)).trans h_3)
    refine z_callV (As := [.int b]) (rest := [.ref x]) B (r_isMessageX G l Φ2 sz x rd nw cr tp tt sI sT pt (QlQ qu L) fl pe le nx il qu kn ec nu va st ep ti ad ob ra rt ex sa us tk 0 me dr se sn b hx hI2 hnw) (cwV 1 B.1.2.2.2.2 gX12_exchange_X12_isMessage rfl rfl rfl (by decide +kernel) ⟨Nat.le_of_ble_eq_true rfl, Nat.le_of_ble_eq_true rfl⟩) h_6 rfl rfl rfl rfl (Nat.le_of_ble_eq_true rfl) dX12_exchange_16 ⟨Nat.le_of_ble_eq_true rfl, Nat.le_of_ble_eq_true rfl⟩ (fun r_3 Φ4 sz3 st3 hp3 hs3 => ?_)
    obtain ⟨ha2, hq5, hI4, hF3⟩ := hp3
    subst sz3
    replace hI4 : Im G x (rd, nw, cr, tp, tt, sI, sT, pt, (QlQ qu L), fl, pe, le, nx, il, qu, kn, ec, nu, va, st, ep, ti, ad, ob, ra, rt, ex, sa, us, tk, 0, me, dr, se, sn) Φ4 := hI4
    rcases ha2 with ⟨rfl, hq6⟩ | ⟨rfl, n_4, b_15, rfl, hq7⟩
    · replace hs3 : st3 = [.int 0, .ref x] := hs3
      subst st3
      refine z_if_ne (tgt := 26) B dX12_exchange_19 rfl (fun h9 => absurd (by decide) h9) (fun c_4 => ?_)
      refine z_iconst (v := 1) B dX12_exchange_22 rfl ?_
      refine z_goto (tgt := 27) B dX12_exchange_23 rfl ?_
      refine z_iconst (v := 1) B dX12_exchange_27 rfl ?_
      have h_7 : Φ4 x = some (o_ 14 [.int 0, .ref (x + 1), .ref (x + 2), .int ti, .int ra, .int (nI rt), .int ex, .int ad, .ref (x + 3), .ref (x + 4), .int me, .long se, .ref (x + 5), .int (nI fl), .int dr, .long ob, .long sa, .long sn, .long us, .ref (x + 6), .ref (x + 7), .int (nI pe), .ref (x + 8), .int (nI le), .ref (x + 9), .ref (x + 10), .int (nI qu), .ref (x + 11), .ref (x + 12), .ref (x + 13), .ref (x + 14), .ref (x + 15), .ref (x + 16), .int (nI n_1), .long v_1, .ref (x + 17), .ref (x + 18), .ref (x + 19), .ref (x + 20), .ref (x + 21), .ref (x + 22), .int (nI n_2), .ref (x + 23), .ref (x + 24), .int (nI tk), .ref (x + 25), .int (nI il), .int (nI nx), .int ec, .int ep, .int kn, .int (nI st), .int nu, .long va]) := ((hF3 x (fun j9 h8 h7 => (show False from h7).elim)).trans h_6)
      refine z_callV (As := [.int 1, .int 1]) (rest := []) B (r_throwsIf1 G l Φ4 sz x rd nw cr tp tt sI sT pt (QlQ qu L) fl pe le nx il qu kn ec nu va st ep ti ad ob ra rt ex sa us tk 0 me dr se sn  hx hI4 hnw) (cwV 2 B.1.2.2.2.2 gX12_exchange_X12_throwsIf rfl rfl rfl (by decide +kernel) ⟨Nat.le_of_ble_eq_true rfl, Nat.le_of_ble_eq_true rfl⟩) h_7 rfl rfl rfl rfl (Nat.le_of_ble_eq_true rfl) dX12_exchange_28 ⟨Nat.le_of_ble_eq_true rfl, Nat.le_of_ble_eq_true rfl⟩ (fun r_4 Φ5 sz4 st4 hp4 hs4 => ?_)
      obtain ⟨⟨rfl, l_2, h_8⟩, hq8, hI5, hF4⟩ := hp4
      subst sz4
      replace hs4 : st4 = [.int 1] := hs4
      subst st4
      replace hI5 : Im G x (rd, nw, cr, tp, tt, sI, sT, pt, (QlQ qu L), fl, pe, le, nx, il, qu, kn, ec, nu, va, st, ep, ti, ad, ob, ra, rt, ex, sa, us, tk, 1, me, dr, se, sn) Φ5 := hI5
      refine z_if_ne (tgt := 39) B dX12_exchange_31 rfl (fun c_5 => ?_) (fun h9 => absurd h9 (by decide))
      refine z_iconst (v := 0) B dX12_exchange_39 rfl ?_
      exact z_ret_z B dX12_exchange_40 (by decide) ⟨⟨0, 1, l_2, rfl, h_8, Or.inr (Or.inl ⟨(fun h9 => hq6 h9.2), rfl⟩)⟩, rfl, ⟨L, 1, (Or.inl ⟨(fun h9 => hq6 h9.2), rfl⟩), hI5⟩, (fun b9 h9 => ((hF4 b9 (fun j9 h8 h7 => h9 j9 h8 (fq_1083 j9 h7))).trans ((hF3 b9 (fun j9 h8 h7 => (show False from h7).elim)).trans ((hF1 b9 (fun j9 h8 h7 => (show False from h7).elim)).trans ((fset_fr hΦ1 (fun h8 => h9 (0) h8 (show 0 = 0 ∨ 0 = 9 ∨ 0 = 10 by decide))).trans rfl)))))⟩
    · replace hs3 : st3 = [.int 1, .ref x] := hs3
      subst st3
      replace b_15 : n_4 < qu := b_15
      refine z_if_ne (tgt := 26) B dX12_exchange_19 rfl (fun c_6 => ?_) (fun h9 => absurd h9 (by decide))
      refine z_iconst (v := 0) B dX12_exchange_26 rfl ?_
      refine z_iconst (v := 1) B dX12_exchange_27 rfl ?_
      have h_9 : Φ4 x = some (o_ 14 [.int 0, .ref (x + 1), .ref (x + 2), .int ti, .int ra, .int (nI rt), .int ex, .int ad, .ref (x + 3), .ref (x + 4), .int me, .long se, .ref (x + 5), .int (nI fl), .int dr, .long ob, .long sa, .long sn, .long us, .ref (x + 6), .ref (x + 7), .int (nI pe), .ref (x + 8), .int (nI le), .ref (x + 9), .ref (x + 10), .int (nI qu), .ref (x + 11), .ref (x + 12), .ref (x + 13), .ref (x + 14), .ref (x + 15), .ref (x + 16), .int (nI n_1), .long v_1, .ref (x + 17), .ref (x + 18), .ref (x + 19), .ref (x + 20), .ref (x + 21), .ref (x + 22), .int (nI n_2), .ref (x + 23), .ref (x + 24), .int (nI tk), .ref (x + 25), .int (nI il), .int (nI nx), .int ec, .int ep, .int kn, .int (nI st), .int nu, .long va]) := ((hF3 x (fun j9 h8 h7 => (show False from h7).elim)).trans h_6)
      refine z_callV (As := [.int 0, .int 1]) (rest := []) B (r_throwsIf0 G l Φ4 sz x rd nw cr tp tt sI sT pt (QlQ qu L) fl pe le nx il qu kn ec nu va st ep ti ad ob ra rt ex sa us tk 0 me dr se sn  hx hI4 hnw) (cwV 2 B.1.2.2.2.2 gX12_exchange_X12_throwsIf rfl rfl rfl (by decide +kernel) ⟨Nat.le_of_ble_eq_true rfl, Nat.le_of_ble_eq_true rfl⟩) h_9 rfl rfl rfl rfl (Nat.le_of_ble_eq_true rfl) dX12_exchange_28 ⟨Nat.le_of_ble_eq_true rfl, Nat.le_of_ble_eq_true rfl⟩ (fun r_5 Φ6 sz5 st5 hp5 hs5 => ?_)
      obtain ⟨rfl, hq9, hI6, hF5⟩ := hp5
      subst sz5
      replace hs5 : st5 = [.int 0] := hs5
      subst st5
      replace hI6 : Im G x (rd, nw, cr, tp, tt, sI, sT, pt, (QlQ qu L), fl, pe, le, nx, il, qu, kn, ec, nu, va, st, ep, ti, ad, ob, ra, rt, ex, sa, us, tk, 0, me, dr, se, sn) Φ6 := hI6
      refine z_if_ne (tgt := 39) B dX12_exchange_31 rfl (fun h9 => absurd (by decide) h9) (fun c_7 => ?_)
      refine z_iload_n B dX12_exchange_34 rfl 1 rfl ?_
      refine z_iload_n B dX12_exchange_35 rfl 2 rfl ?_
      refine z_icmp_ne (tgt := 41) B dX12_exchange_36 rfl (fun c_8 => ?_) (fun c_8 => ?_)
      · have e_1 : ¬ (n_3 = n_4) := fun h9 => c_8 ((nI_eq (a := n_3) (b := n_4) (by omega) (by omega)).mpr h9)
        refine z_iconst (v := 0) B dX12_exchange_41 rfl ?_
        refine z_istore_n (lv' := [(3, .int 0), (0, .ref x), (1, .int (nI n_3)), (2, .int (nI n_4))]) B dX12_exchange_42 rfl (Nat.le_of_ble_eq_true rfl) rfl ?_
        refine z_lv [0, 1, 2, 3] rfl ?_
        refine z_loop (α := Nat) (fun (a9 : Nat) Φi => Im G x (rd, nw, cr, tp, tt, sI, sT, pt, (QlQ qu L), fl, pe, le, nx, il, qu, kn, ec, nu, va, st, ep, ti, ad, ob, ra, rt, ex, sa, us, tk, 0, me, dr, se, sn) Φi ∧ Fr x (fun j9 => j9 = 9) Φ6 Φi ∧ (a9 ≤ 600) ∧ True) (fun a9 => [(3, .int (nI a9)), (0, .ref x), (1, .int (nI n_3)), (2, .int (nI n_4))]) (fun a9 => 600 - a9) ?_ (0) ⟨hI6, fun _ _ => rfl, (show 0 ≤ 600 by omega), trivial⟩
        rintro i_1 Φl1 ⟨hI7, hF6, b_16, -⟩ ih1
        replace hI7 : Im G x (rd, nw, cr, tp, tt, sI, sT, pt, (QlQ qu L), fl, pe, le, nx, il, qu, kn, ec, nu, va, st, ep, ti, ad, ob, ra, rt, ex, sa, us, tk, 0, me, dr, se, sn) Φl1 := hI7
        replace b_16 : i_1 ≤ 600 := b_16
        show Z p9 l e9 _ s9 m9 _ w9 t9 k9 _ G 5 43 [(3, .int (nI i_1)), (0, .ref x), (1, .int (nI n_3)), (2, .int (nI n_4))] [] Φl1 _ _ _
        refine z_iload_n B dX12_exchange_43 rfl 0 rfl ?_
        refine z_sipush (v := 600) B dX12_exchange_44 rfl ?_
        refine z_icmp_ge (tgt := 108) B dX12_exchange_47 rfl (fun c_9 => ?_) (fun c_9 => ?_)
        · have e_2 : 600 ≤ i_1 := (nI_leI (a := 600) (b := i_1) (by omega) (by omega)).mp c_9
          refine z_aload_n B dX12_exchange_108 rfl 1 rfl ?_
          have h_10 : Φl1 x = some (o_ 14 [.int 0, .ref (x + 1), .ref (x + 2), .int ti, .int ra, .int (nI rt), .int ex, .int ad, .ref (x + 3), .ref (x + 4), .int me, .long se, .ref (x + 5), .int (nI fl), .int dr, .long ob, .long sa, .long sn, .long us, .ref (x + 6), .ref (x + 7), .int (nI pe), .ref (x + 8), .int (nI le), .ref (x + 9), .ref (x + 10), .int (nI qu), .ref (x + 11), .ref (x + 12), .ref (x + 13), .ref (x + 14), .ref (x + 15), .ref (x + 16), .int (nI n_1), .long v_1, .ref (x + 17), .ref (x + 18), .ref (x + 19), .ref (x + 20), .ref (x + 21), .ref (x + 22), .int (nI n_2), .ref (x + 23), .ref (x + 24), .int (nI tk), .ref (x + 25), .int (nI il), .int (nI nx), .int ec, .int ep, .int kn, .int (nI st), .int nu, .long va]) := ((hF6 x fq_971).trans ((hF5 x (fun j9 h8 h7 => (show False from h7).elim)).trans h_9))
          refine z_get (ref := "FlowExporterModel") (C := RX12) (T := TX12) (N := 54) (ci := 14) (v := .ref (x + 10)) B hu_X12_exchange_X12 rfl 25 (Nat.le_of_ble_eq_true rfl) hv_X12_exchange_42 rfl h_10 rfl dX12_exchange_109 ?_
          refine z_iload_n B dX12_exchange_112 rfl 2 rfl ?_
          obtain ⟨f_1, h_11, r_6, r_7⟩ := imk (k := 10) hI7
          replace r_7 : (QlQ qu L) f_1 := r_7
          replace r_6 : Rw 600 f_1 := r_6
          have h_12 : Φl1 (x + 10) = some (ai_ G 12 f_1) := h_11
          refine z_iald B h_12 (vp_in_nI (by omega) (by omega)) dX12_exchange_113 ?_
          refine z_top (st1 := [.int (nI (L n_3))]) (congrArg (fun w9 : Int32 => ([.int w9] : List Value)) ((congrArg f_1 (nI_clamp (by omega))).trans (r_7 n_3 (by omega)).1)) ?_
          refine z_istore_n (lv' := [(3, .int (nI (L n_3))), (0, .ref x), (1, .int (nI n_3)), (2, .int (nI n_4))]) B dX12_exchange_114 rfl (Nat.le_of_ble_eq_true rfl) rfl ?_
          refine z_aload_n B dX12_exchange_115 rfl 1 rfl ?_
          refine z_get (ref := "FlowExporterModel") (C := RX12) (T := TX12) (N := 54) (ci := 14) (v := .ref (x + 10)) B hu_X12_exchange_X12 rfl 25 (Nat.le_of_ble_eq_true rfl) hv_X12_exchange_42 rfl h_10 rfl dX12_exchange_116 ?_
          refine z_iload_n B dX12_exchange_119 rfl 2 rfl ?_
          refine z_aload_n B dX12_exchange_120 rfl 1 rfl ?_
          refine z_get (ref := "FlowExporterModel") (C := RX12) (T := TX12) (N := 54) (ci := 14) (v := .ref (x + 10)) B hu_X12_exchange_X12 rfl 25 (Nat.le_of_ble_eq_true rfl) hv_X12_exchange_42 rfl h_10 rfl dX12_exchange_121 ?_
          refine z_iload_n B dX12_exchange_124 rfl 3 rfl ?_
          refine z_iald B h_12 (vp_in_nI (by omega) (by omega)) dX12_exchange_125 ?_
          refine z_top (st1 := [.int (nI (L n_4)), .int (nI n_3), .ref (x + 10)]) (congrArg (fun w9 : Int32 => ([.int w9, .int (nI n_3), .ref (x + 10)] : List Value)) ((congrArg f_1 (nI_clamp (by omega))).trans (r_7 n_4 (by omega)).1)) ?_
          have b_17 := (r_7 n_3 (by omega)).2
          have b_18 := (r_7 n_4 (by omega)).2
          refine z_iast B h_12 (Nat.le_trans hx (Nat.le_add_right x 10)) (vp_in_nI (by omega) (by omega)) dX12_exchange_126 (fun Φ7 hΦ2 => ?_)
          have h_13 : Φ7 (x + 10) = some (ai_ G 12 (upd f_1 (nI n_3).toNatClampNeg (nI (L n_4)))) := fset_at hΦ2
          have hI8 : Im G x (rd, nw, cr, tp, tt, sI, sT, pt, (fun g9 => g9 = (upd f_1 (nI n_3).toNatClampNeg (nI (L n_4)))), fl, pe, le, nx, il, qu, kn, ec, nu, va, st, ep, ti, ad, ob, ra, rt, ex, sa, us, tk, 0, me, dr, se, sn) Φ7 := Im.put10 (ql1 := (fun g9 => g9 = (upd f_1 (nI n_3).toNatClampNeg (nI (L n_4))))) hI7 hΦ2 (Rw.up (n := L n_4) r_6 (show L n_4 ≤ 600 by omega)) rfl
          have r_8 : Rw 600 (upd f_1 (nI n_3).toNatClampNeg (nI (L n_4))) := Rw.up (n := L n_4) r_6 (show L n_4 ≤ 600 by omega)
          refine z_aload_n B dX12_exchange_127 rfl 1 rfl ?_
          have h_14 : Φ7 x = some (o_ 14 [.int 0, .ref (x + 1), .ref (x + 2), .int ti, .int ra, .int (nI rt), .int ex, .int ad, .ref (x + 3), .ref (x + 4), .int me, .long se, .ref (x + 5), .int (nI fl), .int dr, .long ob, .long sa, .long sn, .long us, .ref (x + 6), .ref (x + 7), .int (nI pe), .ref (x + 8), .int (nI le), .ref (x + 9), .ref (x + 10), .int (nI qu), .ref (x + 11), .ref (x + 12), .ref (x + 13), .ref (x + 14), .ref (x + 15), .ref (x + 16), .int (nI n_1), .long v_1, .ref (x + 17), .ref (x + 18), .ref (x + 19), .ref (x + 20), .ref (x + 21), .ref (x + 22), .int (nI n_2), .ref (x + 23), .ref (x + 24), .int (nI tk), .ref (x + 25), .int (nI il), .int (nI nx), .int ec, .int ep, .int kn, .int (nI st), .int nu, .long va]) := ((fset_fr hΦ2 (ne_off (x := x) (i := 0) (j := 10) rfl)).trans h_10)
          refine z_get (ref := "FlowExporterModel") (C := RX12) (T := TX12) (N := 54) (ci := 14) (v := .ref (x + 10)) B hu_X12_exchange_X12 rfl 25 (Nat.le_of_ble_eq_true rfl) hv_X12_exchange_42 rfl h_14 rfl dX12_exchange_128 ?_
          refine z_iload_n B dX12_exchange_131 rfl 3 rfl ?_
          refine z_iload_n B dX12_exchange_132 rfl 0 rfl ?_
          refine z_iast B h_13 (Nat.le_trans hx (Nat.le_add_right x 10)) (vp_in_nI (by omega) (by omega)) dX12_exchange_133 (fun Φ8 hΦ3 => ?_)
          have h_15 : Φ8 (x + 10) = some (ai_ G 12 (upd (upd f_1 (nI n_3).toNatClampNeg (nI (L n_4))) (nI n_4).toNatClampNeg (nI (L n_3)))) := fset_at hΦ3
          have hI9 : Im G x (rd, nw, cr, tp, tt, sI, sT, pt, (fun g9 => g9 = (upd (upd f_1 (nI n_3).toNatClampNeg (nI (L n_4))) (nI n_4).toNatClampNeg (nI (L n_3)))), fl, pe, le, nx, il, qu, kn, ec, nu, va, st, ep, ti, ad, ob, ra, rt, ex, sa, us, tk, 0, me, dr, se, sn) Φ8 := Im.put10 (ql1 := (fun g9 => g9 = (upd (upd f_1 (nI n_3).toNatClampNeg (nI (L n_4))) (nI n_4).toNatClampNeg (nI (L n_3))))) hI8 hΦ3 (Rw.up (n := L n_3) r_8 (show L n_3 ≤ 600 by omega)) rfl
          have r_9 : Rw 600 (upd (upd f_1 (nI n_3).toNatClampNeg (nI (L n_4))) (nI n_4).toNatClampNeg (nI (L n_3))) := Rw.up (n := L n_3) r_8 (show L n_3 ≤ 600 by omega)
          have hI10 : Im G x (rd, nw, cr, tp, tt, sI, sT, pt, (QlQ qu (swN L n_3 n_4)), fl, pe, le, nx, il, qu, kn, ec, nu, va, st, ep, ti, ad, ob, ra, rt, ex, sa, us, tk, 0, me, dr, se, sn) Φ8 := Im.weak5 hI9 (fun _ q9 => q9) (fun _ q9 => q9) (fun _ q9 => q9) (fun _ q9 => q9) (fun _ q9 => q9) (fun _ q9 => q9) (fun _ q9 => q9) (fun _ q9 => q9) (fun g9 q9 => by obtain rfl := q9; exact QlQ.sw r_7 (by omega) (by omega) (nI_clamp (by omega)) (nI_clamp (by omega)))
          refine z_iconst (v := 1) B dX12_exchange_134 rfl ?_
          have h_16 : Φ8 x = some (o_ 14 [.int 0, .ref (x + 1), .ref (x + 2), .int ti, .int ra, .int (nI rt), .int ex, .int ad, .ref (x + 3), .ref (x + 4), .int me, .long se, .ref (x + 5), .int (nI fl), .int dr, .long ob, .long sa, .long sn, .long us, .ref (x + 6), .ref (x + 7), .int (nI pe), .ref (x + 8), .int (nI le), .ref (x + 9), .ref (x + 10), .int (nI qu), .ref (x + 11), .ref (x + 12), .ref (x + 13), .ref (x + 14), .ref (x + 15), .ref (x + 16), .int (nI n_1), .long v_1, .ref (x + 17), .ref (x + 18), .ref (x + 19), .ref (x + 20), .ref (x + 21), .ref (x + 22), .int (nI n_2), .ref (x + 23), .ref (x + 24), .int (nI tk), .ref (x + 25), .int (nI il), .int (nI nx), .int ec, .int ep, .int kn, .int (nI st), .int nu, .long va]) := ((fset_fr hΦ3 (ne_off (x := x) (i := 0) (j := 10) rfl)).trans h_14)
          exact z_ret_z B dX12_exchange_135 (by decide) ⟨⟨1, 0, _, rfl, h_16, Or.inl ⟨⟨hq3, hq7⟩, trivial, rfl, congrArg Int32.toInt64 (show 1 = (if (nI n_3) = (nI n_4) then (0 : Int32) else 1) from (if_neg c_8).symm)⟩⟩, rfl, ⟨(swN L n_3 n_4), 0, (Or.inr ⟨n_3, n_4, by omega, by omega, rfl, rfl, (if_neg (by omega)).symm⟩), hI10⟩, (fun b9 h9 => ((fset_fr hΦ3 (fun h8 => h9 (10) h8 (show 10 = 0 ∨ 10 = 9 ∨ 10 = 10 by decide))).trans ((fset_fr hΦ2 (fun h8 => h9 (10) h8 (show 10 = 0 ∨ 10 = 9 ∨ 10 = 10 by decide))).trans ((hF6 b9 (fun j9 h8 h7 => h9 j9 h8 (fq_974 j9 h7))).trans ((hF5 b9 (fun j9 h8 h7 => (show False from h7).elim)).trans ((hF3 b9 (fun j9 h8 h7 => (show False from h7).elim)).trans ((hF1 b9 (fun j9 h8 h7 => (show False from h7).elim)).trans ((fset_fr hΦ1 (fun h8 => h9 (0) h8 (show 0 = 0 ∨ 0 = 9 ∨ 0 = 10 by decide))).trans rfl))))))))⟩
        · have e_3 : ¬ (600 ≤ i_1) := fun h9 => c_9 ((nI_leI (a := 600) (b := i_1) (by omega) (by omega)).mpr h9)
          refine z_aload_n B dX12_exchange_50 rfl 1 rfl ?_
          have h_17 : Φl1 x = some (o_ 14 [.int 0, .ref (x + 1), .ref (x + 2), .int ti, .int ra, .int (nI rt), .int ex, .int ad, .ref (x + 3), .ref (x + 4), .int me, .long se, .ref (x + 5), .int (nI fl), .int dr, .long ob, .long sa, .long sn, .long us, .ref (x + 6), .ref (x + 7), .int (nI pe), .ref (x + 8), .int (nI le), .ref (x + 9), .ref (x + 10), .int (nI qu), .ref (x + 11), .ref (x + 12), .ref (x + 13), .ref (x + 14), .ref (x + 15), .ref (x + 16), .int (nI n_1), .long v_1, .ref (x + 17), .ref (x + 18), .ref (x + 19), .ref (x + 20), .ref (x + 21), .ref (x + 22), .int (nI n_2), .ref (x + 23), .ref (x + 24), .int (nI tk), .ref (x + 25), .int (nI il), .int (nI nx), .int ec, .int ep, .int kn, .int (nI st), .int nu, .long va]) := ((hF6 x fq_971).trans ((hF5 x (fun j9 h8 h7 => (show False from h7).elim)).trans h_9))
          refine z_get (ref := "FlowExporterModel") (C := RX12) (T := TX12) (N := 54) (ci := 14) (v := .ref (x + 9)) B hu_X12_exchange_X12 rfl 24 (Nat.le_of_ble_eq_true rfl) hv_X12_exchange_39 rfl h_17 rfl dX12_exchange_51 ?_
          refine z_sipush (v := 600) B dX12_exchange_54 rfl ?_
          refine z_iload_n B dX12_exchange_57 rfl 2 rfl ?_
          refine z_imul B dX12_exchange_58 ?_
          refine z_top (st1 := [.int (nI (600 * n_3)), .ref (x + 9)]) (congrArg (fun w9 : Int32 => ([.int w9, .ref (x + 9)] : List Value)) (nI_mul 600 n_3)) ?_
          refine z_iload_n B dX12_exchange_59 rfl 0 rfl ?_
          refine z_iadd B dX12_exchange_60 ?_
          refine z_top (st1 := [.int (nI (600 * n_3 + i_1)), .ref (x + 9)]) (congrArg (fun w9 : Int32 => ([.int w9, .ref (x + 9)] : List Value)) (nI_add (600 * n_3) i_1)) ?_
          obtain ⟨f_2, h_18, r_10⟩ := imk (k := 9) hI7
          replace r_10 : Rw 255 f_2 := r_10
          have h_19 : Φl1 (x + 9) = some (ai_ G 7200 f_2) := h_18
          refine z_iald B h_19 (vp_in_nI (by omega) (by omega)) dX12_exchange_61 ?_
          obtain ⟨n_5, b_19, e_4⟩ := r_10 ((nI (600 * n_3 + i_1)).toNatClampNeg)
          refine z_top (st1 := [.int (nI n_5)]) (congrArg (fun w9 : Int32 => ([.int w9] : List Value)) (e_4)) ?_
          refine z_istore (lv' := [(4, .int (nI n_5)), (3, .int (nI i_1)), (0, .ref x), (1, .int (nI n_3)), (2, .int (nI n_4))]) B dX12_exchange_62 (Nat.le_of_ble_eq_true rfl) rfl ?_
          refine z_aload_n B dX12_exchange_64 rfl 2 rfl ?_
          refine z_get (ref := "FlowExporterModel") (C := RX12) (T := TX12) (N := 54) (ci := 14) (v := .ref (x + 9)) B hu_X12_exchange_X12 rfl 24 (Nat.le_of_ble_eq_true rfl) hv_X12_exchange_39 rfl h_17 rfl dX12_exchange_65 ?_
          refine z_sipush (v := 600) B dX12_exchange_68 rfl ?_
          refine z_iload_n B dX12_exchange_71 rfl 3 rfl ?_
          refine z_imul B dX12_exchange_72 ?_
          refine z_top (st1 := [.int (nI (600 * n_3)), .ref (x + 9)]) (congrArg (fun w9 : Int32 => ([.int w9, .ref (x + 9)] : List Value)) (nI_mul 600 n_3)) ?_
          refine z_iload_n B dX12_exchange_73 rfl 1 rfl ?_
          refine z_iadd B dX12_exchange_74 ?_
          refine z_top (st1 := [.int (nI (600 * n_3 + i_1)), .ref (x + 9)]) (congrArg (fun w9 : Int32 => ([.int w9, .ref (x + 9)] : List Value)) (nI_add (600 * n_3) i_1)) ?_
          refine z_aload_n B dX12_exchange_75 rfl 2 rfl ?_
          refine z_get (ref := "FlowExporterModel") (C := RX12) (T := TX12) (N := 54) (ci := 14) (v := .ref (x + 9)) B hu_X12_exchange_X12 rfl 24 (Nat.le_of_ble_eq_true rfl) hv_X12_exchange_39 rfl h_17 rfl dX12_exchange_76 ?_
          refine z_sipush (v := 600) B dX12_exchange_79 rfl ?_
          refine z_iload_n B dX12_exchange_82 rfl 4 rfl ?_
          refine z_imul B dX12_exchange_83 ?_
          refine z_top (st1 := [.int (nI (600 * n_4)), .ref (x + 9), .int (nI (600 * n_3 + i_1)), .ref (x + 9)]) (congrArg (fun w9 : Int32 => ([.int w9, .ref (x + 9), .int (nI (600 * n_3 + i_1)), .ref (x + 9)] : List Value)) (nI_mul 600 n_4)) ?_
          refine z_iload_n B dX12_exchange_84 rfl 1 rfl ?_
          refine z_iadd B dX12_exchange_85 ?_
          refine z_top (st1 := [.int (nI (600 * n_4 + i_1)), .ref (x + 9), .int (nI (600 * n_3 + i_1)), .ref (x + 9)]) (congrArg (fun w9 : Int32 => ([.int w9, .ref (x + 9), .int (nI (600 * n_3 + i_1)), .ref (x + 9)] : List Value)) (nI_add (600 * n_4) i_1)) ?_
          refine z_iald B h_19 (vp_in_nI (by omega) (by omega)) dX12_exchange_86 ?_
          obtain ⟨n_6, b_20, e_5⟩ := r_10 ((nI (600 * n_4 + i_1)).toNatClampNeg)
          refine z_top (st1 := [.int (nI n_6), .int (nI (600 * n_3 + i_1)), .ref (x + 9)]) (congrArg (fun w9 : Int32 => ([.int w9, .int (nI (600 * n_3 + i_1)), .ref (x + 9)] : List Value)) (e_5)) ?_
          refine z_iast B h_19 (Nat.le_trans hx (Nat.le_add_right x 9)) (vp_in_nI (by omega) (by omega)) dX12_exchange_87 (fun Φ9 hΦ4 => ?_)
          have h_20 : Φ9 (x + 9) = some (ai_ G 7200 (upd f_2 (nI (600 * n_3 + i_1)).toNatClampNeg (nI n_6))) := fset_at hΦ4
          have hI11 : Im G x (rd, nw, cr, tp, tt, sI, sT, pt, (QlQ qu L), fl, pe, le, nx, il, qu, kn, ec, nu, va, st, ep, ti, ad, ob, ra, rt, ex, sa, us, tk, 0, me, dr, se, sn) Φ9 := Im.put (k := 9) hI7 hΦ4 ⟨_, rfl, Rw.up (n := n_6) r_10 (show n_6 ≤ 255 by omega)⟩
          refine z_aload_n B dX12_exchange_88 rfl 2 rfl ?_
          have h_21 : Φ9 x = some (o_ 14 [.int 0, .ref (x + 1), .ref (x + 2), .int ti, .int ra, .int (nI rt), .int ex, .int ad, .ref (x + 3), .ref (x + 4), .int me, .long se, .ref (x + 5), .int (nI fl), .int dr, .long ob, .long sa, .long sn, .long us, .ref (x + 6), .ref (x + 7), .int (nI pe), .ref (x + 8), .int (nI le), .ref (x + 9), .ref (x + 10), .int (nI qu), .ref (x + 11), .ref (x + 12), .ref (x + 13), .ref (x + 14), .ref (x + 15), .ref (x + 16), .int (nI n_1), .long v_1, .ref (x + 17), .ref (x + 18), .ref (x + 19), .ref (x + 20), .ref (x + 21), .ref (x + 22), .int (nI n_2), .ref (x + 23), .ref (x + 24), .int (nI tk), .ref (x + 25), .int (nI il), .int (nI nx), .int ec, .int ep, .int kn, .int (nI st), .int nu, .long va]) := ((fset_fr hΦ4 (ne_off (x := x) (i := 0) (j := 9) rfl)).trans h_17)
          refine z_get (ref := "FlowExporterModel") (C := RX12) (T := TX12) (N := 54) (ci := 14) (v := .ref (x + 9)) B hu_X12_exchange_X12 rfl 24 (Nat.le_of_ble_eq_true rfl) hv_X12_exchange_39 rfl h_21 rfl dX12_exchange_89 ?_
          refine z_sipush (v := 600) B dX12_exchange_92 rfl ?_
          refine z_iload_n B dX12_exchange_95 rfl 4 rfl ?_
          refine z_imul B dX12_exchange_96 ?_
          refine z_top (st1 := [.int (nI (600 * n_4)), .ref (x + 9)]) (congrArg (fun w9 : Int32 => ([.int w9, .ref (x + 9)] : List Value)) (nI_mul 600 n_4)) ?_
          refine z_iload_n B dX12_exchange_97 rfl 1 rfl ?_
          refine z_iadd B dX12_exchange_98 ?_
          refine z_top (st1 := [.int (nI (600 * n_4 + i_1)), .ref (x + 9)]) (congrArg (fun w9 : Int32 => ([.int w9, .ref (x + 9)] : List Value)) (nI_add (600 * n_4) i_1)) ?_
          refine z_iload B dX12_exchange_99 0 rfl ?_
          obtain ⟨f_3, h_22, r_11⟩ := imk (k := 9) hI11
          replace r_11 : Rw 255 f_3 := r_11
          have h_23 : Φ9 (x + 9) = some (ai_ G 7200 f_3) := h_22
          refine z_iast B h_23 (Nat.le_trans hx (Nat.le_add_right x 9)) (vp_in_nI (by omega) (by omega)) dX12_exchange_101 (fun Φ10 hΦ5 => ?_)
          have h_24 : Φ10 (x + 9) = some (ai_ G 7200 (upd f_3 (nI (600 * n_4 + i_1)).toNatClampNeg (nI n_5))) := fset_at hΦ5
          have hI12 : Im G x (rd, nw, cr, tp, tt, sI, sT, pt, (QlQ qu L), fl, pe, le, nx, il, qu, kn, ec, nu, va, st, ep, ti, ad, ob, ra, rt, ex, sa, us, tk, 0, me, dr, se, sn) Φ10 := Im.put (k := 9) hI11 hΦ5 ⟨_, rfl, Rw.up (n := n_5) r_11 (show n_5 ≤ 255 by omega)⟩
          refine z_iinc (k := 1) (v := nI (i_1 + 1)) (lv' := [(3, .int (nI (i_1 + 1))), (4, .int (nI n_5)), (0, .ref x), (1, .int (nI n_3)), (2, .int (nI n_4))]) B dX12_exchange_102 rfl (nI_add i_1 1) (Nat.le_of_ble_eq_true rfl) rfl ?_
          refine z_goto (tgt := 43) B dX12_exchange_105 rfl ?_
          refine z_lv [0, 2, 3, 4] rfl ?_
          exact ih1 (i_1 + 1) Φ10 (show 600 - (i_1 + 1) < 600 - i_1 by omega) ⟨hI12, (fun b9 h9 => ((fset_fr hΦ5 (fun h8 => h9 (9) h8 (show 9 = 9 by decide))).trans ((fset_fr hΦ4 (fun h8 => h9 (9) h8 (show 9 = 9 by decide))).trans ((hF6 b9 h9).trans rfl)))), (show (i_1 + 1) ≤ 600 by omega), trivial⟩
      · have e_6 : n_3 = n_4 := (nI_eq (a := n_3) (b := n_4) (by omega) (by omega)).mp c_8
        refine z_iconst (v := 0) B dX12_exchange_39 rfl ?_
        have h_25 : Φ6 x = some (o_ 14 [.int 0, .ref (x + 1), .ref (x + 2), .int ti, .int ra, .int (nI rt), .int ex, .int ad, .ref (x + 3), .ref (x + 4), .int me, .long se, .ref (x + 5), .int (nI fl), .int dr, .long ob, .long sa, .long sn, .long us, .ref (x + 6), .ref (x + 7), .int (nI pe), .ref (x + 8), .int (nI le), .ref (x + 9), .ref (x + 10), .int (nI qu), .ref (x + 11), .ref (x + 12), .ref (x + 13), .ref (x + 14), .ref (x + 15), .ref (x + 16), .int (nI n_1), .long v_1, .ref (x + 17), .ref (x + 18), .ref (x + 19), .ref (x + 20), .ref (x + 21), .ref (x + 22), .int (nI n_2), .ref (x + 23), .ref (x + 24), .int (nI tk), .ref (x + 25), .int (nI il), .int (nI nx), .int ec, .int ep, .int kn, .int (nI st), .int nu, .long va]) := ((hF5 x (fun j9 h8 h7 => (show False from h7).elim)).trans h_9)
        exact z_ret_z B dX12_exchange_40 (by decide) ⟨⟨0, 0, _, rfl, h_25, Or.inl ⟨⟨hq3, hq7⟩, trivial, rfl, congrArg Int32.toInt64 (show 0 = (if (nI n_3) = (nI n_4) then (0 : Int32) else 1) from (if_pos (congrArg nI (by omega))).symm)⟩⟩, rfl, ⟨L, 0, (Or.inr ⟨n_3, n_4, by omega, by omega, rfl, rfl, (if_pos (by omega)).symm⟩), hI6⟩, (fun b9 h9 => ((hF5 b9 (fun j9 h8 h7 => (show False from h7).elim)).trans ((hF3 b9 (fun j9 h8 h7 => (show False from h7).elim)).trans ((hF1 b9 (fun j9 h8 h7 => (show False from h7).elim)).trans ((fset_fr hΦ1 (fun h8 => h9 (0) h8 (show 0 = 0 ∨ 0 = 9 ∨ 0 = 10 by decide))).trans rfl)))))⟩

theorem hu_X12_messageByte_X12 : ∀ w ∈ u_ws RX12 TX12 54, w ∈ wsX12_messageByte := fun _ h => List.mem_cons_of_mem _ (List.mem_append_left _ (List.mem_append_right _ (h)))

theorem hv_X12_messageByte_1 : Cond.fieldLink RX12 1 "FlowExporterModel" (TX12 0).2.1 (TX12 0).2.2.1 ∈ wsX12_messageByte := List.mem_cons_of_mem _ (List.mem_append_left _ (List.mem_append_left _ (List.mem_of_getElem? (i := 0) rfl)))

theorem hv_X12_messageByte_42 : Cond.fieldLink RX12 42 "FlowExporterModel" (TX12 25).2.1 (TX12 25).2.2.1 ∈ wsX12_messageByte := List.mem_cons_of_mem _ (List.mem_append_left _ (List.mem_append_left _ (List.mem_of_getElem? (i := 1) rfl)))

theorem hv_X12_messageByte_39 : Cond.fieldLink RX12 39 "FlowExporterModel" (TX12 24).2.1 (TX12 24).2.2.1 ∈ wsX12_messageByte := List.mem_cons_of_mem _ (List.mem_append_left _ (List.mem_append_left _ (List.mem_of_getElem? (i := 2) rfl)))

set_option maxHeartbeats 4000000 in
set_option maxRecDepth 100000 in
theorem r_messageByte (G : EnvG) (l : Launch) (Φ : Hm) (sz x : Nat) (rd : (Nat → Int32) → Prop) (nw : (Nat → Int32) → Prop) (cr : (Nat → Int64) → Prop) (tp : (Nat → Int32) → Prop) (tt : (Nat → Int64) → Prop) (sI : (Nat → Int32) → Prop) (sT : (Nat → Int32) → Prop) (pt : (Nat → Int32) → Prop) (ql : (Nat → Int32) → Prop) (fl : Nat) (pe : Nat) (le : Nat) (nx : Nat) (il : Nat) (qu : Nat) (kn : Int32) (ec : Int32) (nu : Int32) (va : Int64) (st : Nat) (ep : Int32) (ti : Int32) (ad : Int32) (ob : Int64) (ra : Int32) (rt : Nat) (ex : Int32) (sa : Int64) (us : Int64) (tk : Nat) (th : Int32) (me : Int32) (dr : Int32) (se : Int64) (sn : Int64) (a : Int32) (b : Int32) (hx : G.2.2.2 ≤ x) (hI : Im G x (rd, nw, cr, tp, tt, sI, sT, pt, ql, fl, pe, le, nx, il, qu, kn, ec, nu, va, st, ep, ti, ad, ob, ra, rt, ex, sa, us, tk, th, me, dr, se, sn) Φ) (hnw : ∀ f9 : Nat → Int32, nw f9 → NN f9) : Ct G l yX12_messageByte wsX12_messageByte ({ frames := 2, cells := 0, slots := 0, locals := 46 }) 0 0 [.ref x, .int a, .int b] Φ sz (fun v Φ1 sz1 => (∃ r9 : Int32, v = some (.int r9)) ∧ sz1 = sz ∧ (∃ (th1 : Int32), Im G x (rd, nw, cr, tp, tt, sI, sT, pt, ql, fl, pe, le, nx, il, qu, kn, ec, nu, va, st, ep, ti, ad, ob, ra, rt, ex, sa, us, tk, th1, me, dr, se, sn) Φ1) ∧ Fr x (fun j9 => j9 = 0) Φ Φ1) := by
  refine Ct.of (cc := cX12_messageByte) (maxL := 3) (ret := (some .int)) (by decide) rfl (Nat.le_of_ble_eq_true rfl) ?_
  intro p9 e9 s9 m9 w9 t9 k9 B
  show Z p9 l e9 _ s9 m9 _ w9 t9 k9 _ G 3 0 [(0, .ref x), (1, .int a), (2, .int b)] [] Φ sz 0 0
  refine z_aload_n B dX12_messageByte_0 rfl 0 rfl ?_
  refine z_iconst (v := 0) B dX12_messageByte_1 rfl ?_
  obtain ⟨n_1, v_1, n_2, h_1, b_13, b_1, b_2, b_3, b_4, b_5, b_6, b_7, b_8, b_9, b_10, b_11, b_12⟩ := im0 hI
  replace b_1 : 1 ≤ rt := b_1
  replace b_2 : rt ≤ 1024 := b_2
  replace b_3 : fl ≤ 12 := b_3
  replace b_4 : pe ≤ 24 := b_4
  replace b_5 : le ≤ 700 := b_5
  replace b_6 : qu ≤ 12 := b_6
  replace b_7 : n_1 ≤ 8 := b_7
  replace b_8 : n_2 ≤ 24 := b_8
  replace b_9 : tk ≤ 24 := b_9
  replace b_10 : il ≤ 700 := b_10
  replace b_11 : nx ≤ 701 := b_11
  replace b_12 : st ≤ 701 := b_12
  have h_2 : Φ x = some (o_ 14 [.int th, .ref (x + 1), .ref (x + 2), .int ti, .int ra, .int (nI rt), .int ex, .int ad, .ref (x + 3), .ref (x + 4), .int me, .long se, .ref (x + 5), .int (nI fl), .int dr, .long ob, .long sa, .long sn, .long us, .ref (x + 6), .ref (x + 7), .int (nI pe), .ref (x + 8), .int (nI le), .ref (x + 9), .ref (x + 10), .int (nI qu), .ref (x + 11), .ref (x + 12), .ref (x + 13), .ref (x + 14), .ref (x + 15), .ref (x + 16), .int (nI n_1), .long v_1, .ref (x + 17), .ref (x + 18), .ref (x + 19), .ref (x + 20), .ref (x + 21), .ref (x + 22), .int (nI n_2), .ref (x + 23), .ref (x + 24), .int (nI tk), .ref (x + 25), .int (nI il), .int (nI nx), .int ec, .int ep, .int kn, .int (nI st), .int nu, .long va]) := h_1
  refine z_put (ref := "FlowExporterModel") (C := RX12) (T := TX12) (N := 54) (ci := 14) (v := .int 0) B hu_X12_messageByte_X12 tyX12 tyX12_ok nmX12 rfl 0 (Nat.le_of_ble_eq_true rfl) hv_X12_messageByte_1 rfl (Or.inl rfl) h_2 hx rfl rfl (Nat.le_of_ble_eq_true rfl) dX12_messageByte_2 (fun Φ1 hΦ1 => ?_)
  have h_3 : Φ1 x = some (o_ 14 [.int 0, .ref (x + 1), .ref (x + 2), .int ti, .int ra, .int (nI rt), .int ex, .int ad, .ref (x + 3), .ref (x + 4), .int me, .long se, .ref (x + 5), .int (nI fl), .int dr, .long ob, .long sa, .long sn, .long us, .ref (x + 6), .ref (x + 7), .int (nI pe), .ref (x + 8), .int (nI le), .ref (x + 9), .ref (x + 10), .int (nI qu), .ref (x + 11), .ref (x + 12), .ref (x + 13), .ref (x + 14), .ref (x + 15), .ref (x + 16), .int (nI n_1), .long v_1, .ref (x + 17), .ref (x + 18), .ref (x + 19), .ref (x + 20), .ref (x + 21), .ref (x + 22), .int (nI n_2), .ref (x + 23), .ref (x + 24), .int (nI tk), .ref (x + 25), .int (nI il), .int (nI nx), .int ec, .int ep, .int kn, .int (nI st), .int nu, .long va]) := fset_at hΦ1
  have hI1 : Im G x (rd, nw, cr, tp, tt, sI, sT, pt, ql, fl, pe, le, nx, il, qu, kn, ec, nu, va, st, ep, ti, ad, ob, ra, rt, ex, sa, us, tk, 0, me, dr, se, sn) Φ1 := Im.put0 hI hΦ1 ⟨n_1, v_1, n_2, rfl, b_13, b_1, b_2, b_3, b_4, b_5, b_6, b_7, b_8, b_9, b_10, b_11, b_12⟩
  refine z_aload_n B dX12_messageByte_5 rfl 0 rfl ?_
  refine z_aload_n B dX12_messageByte_6 rfl 0 rfl ?_
  refine z_iload_n B dX12_messageByte_7 rfl 1 rfl ?_
  refine z_callV (As := [.int a]) (rest := [.ref x]) B (r_isMessage G l Φ1 sz x rd nw cr tp tt sI sT pt ql fl pe le nx il qu kn ec nu va st ep ti ad ob ra rt ex sa us tk 0 me dr se sn a hx hI1 hnw) (cwV 1 B.1.2.2.2.2 gX12_messageByte_X12_isMessage rfl rfl rfl (by decide +kernel) ⟨Nat.le_of_ble_eq_true rfl, Nat.le_of_ble_eq_true rfl⟩) h_3 rfl rfl rfl rfl (Nat.le_of_ble_eq_true rfl) dX12_messageByte_8 ⟨Nat.le_of_ble_eq_true rfl, Nat.le_of_ble_eq_true rfl⟩ (fun r_1 Φ2 sz1 st1 hp1 hs1 => ?_)
  obtain ⟨ha1, hq1, hI2, hF1⟩ := hp1
  subst sz1
  replace hI2 : Im G x (rd, nw, cr, tp, tt, sI, sT, pt, ql, fl, pe, le, nx, il, qu, kn, ec, nu, va, st, ep, ti, ad, ob, ra, rt, ex, sa, us, tk, 0, me, dr, se, sn) Φ2 := hI2
  rcases ha1 with rfl | ⟨rfl, n_3, b_14, rfl⟩
  · replace hs1 : st1 = [.int 0, .ref x] := hs1
    subst st1
    refine z_if_ne (tgt := 18) B dX12_messageByte_11 rfl (fun h9 => absurd (by decide) h9) (fun c_1 => ?_)
    refine z_iconst (v := 1) B dX12_messageByte_14 rfl ?_
    refine z_goto (tgt := 19) B dX12_messageByte_15 rfl ?_
    refine z_iconst (v := 1) B dX12_messageByte_19 rfl ?_
    have h_4 : Φ2 x = some (o_ 14 [.int 0, .ref (x + 1), .ref (x + 2), .int ti, .int ra, .int (nI rt), .int ex, .int ad, .ref (x + 3), .ref (x + 4), .int me, .long se, .ref (x + 5), .int (nI fl), .int dr, .long ob, .long sa, .long sn, .long us, .ref (x + 6), .ref (x + 7), .int (nI pe), .ref (x + 8), .int (nI le), .ref (x + 9), .ref (x + 10), .int (nI qu), .ref (x + 11), .ref (x + 12), .ref (x + 13), .ref (x + 14), .ref (x + 15), .ref (x + 16), .int (nI n_1), .long v_1, .ref (x + 17), .ref (x + 18), .ref (x + 19), .ref (x + 20), .ref (x + 21), .ref (x + 22), .int (nI n_2), .ref (x + 23), .ref (x + 24), .int (nI tk), .ref (x + 25), .int (nI il), .int (nI nx), .int ec, .int ep, .int kn, .int (nI st), .int nu, .long va]) := ((hF1 x (fun j9 h8 h7 => (show False from h7).elim)).trans h_3)
    refine z_callV (As := [.int 1, .int 1]) (rest := []) B (r_throwsIf G l Φ2 sz x rd nw cr tp tt sI sT pt ql fl pe le nx il qu kn ec nu va st ep ti ad ob ra rt ex sa us tk 0 me dr se sn 1 1 hx hI2 (by decide) hnw) (cwV 2 B.1.2.2.2.2 gX12_messageByte_X12_throwsIf rfl rfl rfl (by decide +kernel) ⟨Nat.le_of_ble_eq_true rfl, Nat.le_of_ble_eq_true rfl⟩) h_4 rfl rfl rfl rfl (Nat.le_of_ble_eq_true rfl) dX12_messageByte_20 ⟨Nat.le_of_ble_eq_true rfl, Nat.le_of_ble_eq_true rfl⟩ (fun r_2 Φ3 sz2 st2 hp2 hs2 => ?_)
    obtain ⟨rfl, hq2, ⟨v_2, hI3⟩, hF2⟩ := hp2
    subst sz2
    replace hs2 : st2 = [.int 1] := hs2
    subst st2
    replace hI3 : Im G x (rd, nw, cr, tp, tt, sI, sT, pt, ql, fl, pe, le, nx, il, qu, kn, ec, nu, va, st, ep, ti, ad, ob, ra, rt, ex, sa, us, tk, v_2, me, dr, se, sn) Φ3 := hI3
    refine z_if_eq (tgt := 30) B dX12_messageByte_23 rfl (fun h9 => absurd h9 (by decide)) (fun c_2 => ?_)
    refine z_iconst (v := 0) B dX12_messageByte_26 rfl ?_
    refine z_goto (tgt := 64) B dX12_messageByte_27 rfl ?_
    exact z_ret_i B dX12_messageByte_64 ⟨⟨_, rfl⟩, rfl, ⟨v_2, hI3⟩, (fun b9 h9 => ((hF2 b9 h9).trans ((hF1 b9 (fun j9 h8 h7 => (show False from h7).elim)).trans ((fset_fr hΦ1 (fun h8 => h9 (0) h8 (show 0 = 0 by decide))).trans rfl))))⟩
  · replace hs1 : st1 = [.int 1, .ref x] := hs1
    subst st1
    replace b_14 : n_3 < qu := b_14
    refine z_if_ne (tgt := 18) B dX12_messageByte_11 rfl (fun c_3 => ?_) (fun h9 => absurd h9 (by decide))
    refine z_iconst (v := 0) B dX12_messageByte_18 rfl ?_
    refine z_iconst (v := 1) B dX12_messageByte_19 rfl ?_
    have h_5 : Φ2 x = some (o_ 14 [.int 0, .ref (x + 1), .ref (x + 2), .int ti, .int ra, .int (nI rt), .int ex, .int ad, .ref (x + 3), .ref (x + 4), .int me, .long se, .ref (x + 5), .int (nI fl), .int dr, .long ob, .long sa, .long sn, .long us, .ref (x + 6), .ref (x + 7), .int (nI pe), .ref (x + 8), .int (nI le), .ref (x + 9), .ref (x + 10), .int (nI qu), .ref (x + 11), .ref (x + 12), .ref (x + 13), .ref (x + 14), .ref (x + 15), .ref (x + 16), .int (nI n_1), .long v_1, .ref (x + 17), .ref (x + 18), .ref (x + 19), .ref (x + 20), .ref (x + 21), .ref (x + 22), .int (nI n_2), .ref (x + 23), .ref (x + 24), .int (nI tk), .ref (x + 25), .int (nI il), .int (nI nx), .int ec, .int ep, .int kn, .int (nI st), .int nu, .long va]) := ((hF1 x (fun j9 h8 h7 => (show False from h7).elim)).trans h_3)
    refine z_callV (As := [.int 0, .int 1]) (rest := []) B (r_throwsIf G l Φ2 sz x rd nw cr tp tt sI sT pt ql fl pe le nx il qu kn ec nu va st ep ti ad ob ra rt ex sa us tk 0 me dr se sn 0 1 hx hI2 (by decide) hnw) (cwV 2 B.1.2.2.2.2 gX12_messageByte_X12_throwsIf rfl rfl rfl (by decide +kernel) ⟨Nat.le_of_ble_eq_true rfl, Nat.le_of_ble_eq_true rfl⟩) h_5 rfl rfl rfl rfl (Nat.le_of_ble_eq_true rfl) dX12_messageByte_20 ⟨Nat.le_of_ble_eq_true rfl, Nat.le_of_ble_eq_true rfl⟩ (fun r_3 Φ4 sz3 st3 hp3 hs3 => ?_)
    obtain ⟨rfl, hq3, ⟨v_3, hI4⟩, hF3⟩ := hp3
    subst sz3
    replace hs3 : st3 = [.int 0] := hs3
    subst st3
    replace hI4 : Im G x (rd, nw, cr, tp, tt, sI, sT, pt, ql, fl, pe, le, nx, il, qu, kn, ec, nu, va, st, ep, ti, ad, ob, ra, rt, ex, sa, us, tk, v_3, me, dr, se, sn) Φ4 := hI4
    refine z_if_eq (tgt := 30) B dX12_messageByte_23 rfl (fun c_4 => ?_) (fun h9 => absurd (by decide) h9)
    refine z_iload_n B dX12_messageByte_30 rfl 2 rfl ?_
    refine z_i2l (v := b.toInt64) B dX12_messageByte_31 rfl ?_
    refine z_lconst (v := 0) B dX12_messageByte_32 rfl ?_
    refine z_aload_n B dX12_messageByte_33 rfl 0 rfl ?_
    obtain ⟨n_4, v_4, n_5, h_6, b_27, b_15, b_16, b_17, b_18, b_19, b_20, b_21, b_22, b_23, b_24, b_25, b_26⟩ := im0 hI4
    replace b_15 : 1 ≤ rt := b_15
    replace b_16 : rt ≤ 1024 := b_16
    replace b_17 : fl ≤ 12 := b_17
    replace b_18 : pe ≤ 24 := b_18
    replace b_19 : le ≤ 700 := b_19
    replace b_20 : qu ≤ 12 := b_20
    replace b_21 : n_4 ≤ 8 := b_21
    replace b_22 : n_5 ≤ 24 := b_22
    replace b_23 : tk ≤ 24 := b_23
    replace b_24 : il ≤ 700 := b_24
    replace b_25 : nx ≤ 701 := b_25
    replace b_26 : st ≤ 701 := b_26
    have h_7 : Φ4 x = some (o_ 14 [.int v_3, .ref (x + 1), .ref (x + 2), .int ti, .int ra, .int (nI rt), .int ex, .int ad, .ref (x + 3), .ref (x + 4), .int me, .long se, .ref (x + 5), .int (nI fl), .int dr, .long ob, .long sa, .long sn, .long us, .ref (x + 6), .ref (x + 7), .int (nI pe), .ref (x + 8), .int (nI le), .ref (x + 9), .ref (x + 10), .int (nI qu), .ref (x + 11), .ref (x + 12), .ref (x + 13), .ref (x + 14), .ref (x + 15), .ref (x + 16), .int (nI n_4), .long v_4, .ref (x + 17), .ref (x + 18), .ref (x + 19), .ref (x + 20), .ref (x + 21), .ref (x + 22), .int (nI n_5), .ref (x + 23), .ref (x + 24), .int (nI tk), .ref (x + 25), .int (nI il), .int (nI nx), .int ec, .int ep, .int kn, .int (nI st), .int nu, .long va]) := h_6
    refine z_get (ref := "FlowExporterModel") (C := RX12) (T := TX12) (N := 54) (ci := 14) (v := .ref (x + 10)) B hu_X12_messageByte_X12 rfl 25 (Nat.le_of_ble_eq_true rfl) hv_X12_messageByte_42 rfl h_7 rfl dX12_messageByte_34 ?_
    refine z_iload_n B dX12_messageByte_37 rfl 1 rfl ?_
    obtain ⟨f_1, h_8, r_4, r_5⟩ := imk (k := 10) hI4
    replace r_5 : ql f_1 := r_5
    replace r_4 : Rw 600 f_1 := r_4
    have h_9 : Φ4 (x + 10) = some (ai_ G 12 f_1) := h_8
    refine z_iald B h_9 (vp_in_nI (by omega) (by omega)) dX12_messageByte_38 ?_
    obtain ⟨n_6, b_28, e_1⟩ := r_4 ((nI n_3).toNatClampNeg)
    refine z_top (st1 := [.int (nI n_6), .long 0, .long b.toInt64]) (congrArg (fun w9 : Int32 => ([.int w9, .long 0, .long b.toInt64] : List Value)) (e_1)) ?_
    refine z_iconst (v := 1) B dX12_messageByte_39 rfl ?_
    refine z_isub B dX12_messageByte_40 ?_
    refine z_i2l (v := (nI n_6 - 1).toInt64) B dX12_messageByte_41 rfl ?_
    by_cases hR1 : inP b.toInt64 0 ((nI n_6 - 1).toInt64)
    · obtain ⟨n_7, e_2, e_3, e_4, rfl⟩ := in_get (L := 0) (H := ((n_6 : Nat) : Int) - 1) (by decide) (predL (by omega)) hR1
      refine z_callS (As := [.long ((nI n_7).toInt64), .long 0, .long ((nI n_6 - 1).toInt64)]) (rest := []) B (c_inR1 G l Φ4 sz ((nI n_7).toInt64) 0 ((nI n_6 - 1).toInt64) hR1 (fun v8 Φ8 sz8 => v8 = some (.int 1) ∧ sz8 = sz ∧ Im G x (rd, nw, cr, tp, tt, sI, sT, pt, ql, fl, pe, le, nx, il, qu, kn, ec, nu, va, st, ep, ti, ad, ob, ra, rt, ex, sa, us, tk, v_3, me, dr, se, sn) Φ8 ∧ Fr x (fun j9 => False) Φ4 Φ8) ⟨rfl, rfl, hI4, fun _ _ => rfl⟩) (va_cwS 3 B.1.2.2.2.2 gX12_messageByte_X12_inRange rfl rfl rfl (by decide +kernel) ⟨Nat.le_of_ble_eq_true rfl, Nat.le_of_ble_eq_true rfl⟩) rfl rfl (Nat.le_of_ble_eq_true rfl) dX12_messageByte_42 ⟨Nat.le_of_ble_eq_true rfl, Nat.le_of_ble_eq_true rfl⟩ (fun r_6 Φ5 sz4 st4 hp4 hs4 => ?_)
      obtain ⟨rfl, hq4, hI5, hF4⟩ := hp4
      subst sz4
      replace hs4 : st4 = [.int 1] := hs4
      subst st4
      refine z_if_eq (tgt := 63) B dX12_messageByte_45 rfl (fun h9 => absurd h9 (by decide)) (fun c_5 => ?_)
      refine z_aload_n B dX12_messageByte_48 rfl 0 rfl ?_
      have h_10 : Φ5 x = some (o_ 14 [.int v_3, .ref (x + 1), .ref (x + 2), .int ti, .int ra, .int (nI rt), .int ex, .int ad, .ref (x + 3), .ref (x + 4), .int me, .long se, .ref (x + 5), .int (nI fl), .int dr, .long ob, .long sa, .long sn, .long us, .ref (x + 6), .ref (x + 7), .int (nI pe), .ref (x + 8), .int (nI le), .ref (x + 9), .ref (x + 10), .int (nI qu), .ref (x + 11), .ref (x + 12), .ref (x + 13), .ref (x + 14), .ref (x + 15), .ref (x + 16), .int (nI n_4), .long v_4, .ref (x + 17), .ref (x + 18), .ref (x + 19), .ref (x + 20), .ref (x + 21), .ref (x + 22), .int (nI n_5), .ref (x + 23), .ref (x + 24), .int (nI tk), .ref (x + 25), .int (nI il), .int (nI nx), .int ec, .int ep, .int kn, .int (nI st), .int nu, .long va]) := ((hF4 x (fun j9 h8 h7 => (show False from h7).elim)).trans h_7)
      refine z_get (ref := "FlowExporterModel") (C := RX12) (T := TX12) (N := 54) (ci := 14) (v := .ref (x + 9)) B hu_X12_messageByte_X12 rfl 24 (Nat.le_of_ble_eq_true rfl) hv_X12_messageByte_39 rfl h_10 rfl dX12_messageByte_49 ?_
      refine z_sipush (v := 600) B dX12_messageByte_52 rfl ?_
      refine z_iload_n B dX12_messageByte_55 rfl 1 rfl ?_
      refine z_imul B dX12_messageByte_56 ?_
      refine z_top (st1 := [.int (nI (600 * n_3)), .ref (x + 9)]) (congrArg (fun w9 : Int32 => ([.int w9, .ref (x + 9)] : List Value)) (nI_mul 600 n_3)) ?_
      refine z_iload_n B dX12_messageByte_57 rfl 2 rfl ?_
      refine z_iadd B dX12_messageByte_58 ?_
      refine z_top (st1 := [.int (nI (600 * n_3 + n_7)), .ref (x + 9)]) (congrArg (fun w9 : Int32 => ([.int w9, .ref (x + 9)] : List Value)) (nI_add (600 * n_3) n_7)) ?_
      obtain ⟨f_2, h_11, r_7⟩ := imk (k := 9) hI5
      replace r_7 : Rw 255 f_2 := r_7
      have h_12 : Φ5 (x + 9) = some (ai_ G 7200 f_2) := h_11
      refine z_iald B h_12 (vp_in_nI (by omega) (by omega)) dX12_messageByte_59 ?_
      obtain ⟨n_8, b_29, e_5⟩ := r_7 ((nI (600 * n_3 + n_7)).toNatClampNeg)
      refine z_top (st1 := [.int (nI n_8)]) (congrArg (fun w9 : Int32 => ([.int w9] : List Value)) (e_5)) ?_
      refine z_goto (tgt := 64) B dX12_messageByte_60 rfl ?_
      exact z_ret_i B dX12_messageByte_64 ⟨⟨_, rfl⟩, rfl, ⟨v_3, hI5⟩, (fun b9 h9 => ((hF4 b9 (fun j9 h8 h7 => (show False from h7).elim)).trans ((hF3 b9 h9).trans ((hF1 b9 (fun j9 h8 h7 => (show False from h7).elim)).trans ((fset_fr hΦ1 (fun h8 => h9 (0) h8 (show 0 = 0 by decide))).trans rfl)))))⟩
    · refine z_callS (As := [.long b.toInt64, .long 0, .long ((nI n_6 - 1).toInt64)]) (rest := []) B (c_inR0 G l Φ4 sz b.toInt64 0 ((nI n_6 - 1).toInt64) hR1 (fun v8 Φ8 sz8 => v8 = some (.int 0) ∧ sz8 = sz ∧ Im G x (rd, nw, cr, tp, tt, sI, sT, pt, ql, fl, pe, le, nx, il, qu, kn, ec, nu, va, st, ep, ti, ad, ob, ra, rt, ex, sa, us, tk, v_3, me, dr, se, sn) Φ8 ∧ Fr x (fun j9 => False) Φ4 Φ8) ⟨rfl, rfl, hI4, fun _ _ => rfl⟩) (va_cwS 3 B.1.2.2.2.2 gX12_messageByte_X12_inRange rfl rfl rfl (by decide +kernel) ⟨Nat.le_of_ble_eq_true rfl, Nat.le_of_ble_eq_true rfl⟩) rfl rfl (Nat.le_of_ble_eq_true rfl) dX12_messageByte_42 ⟨Nat.le_of_ble_eq_true rfl, Nat.le_of_ble_eq_true rfl⟩ (fun r_8 Φ6 sz5 st5 hp5 hs5 => ?_)
      obtain ⟨rfl, hq5, hI6, hF5⟩ := hp5
      subst sz5
      replace hs5 : st5 = [.int 0] := hs5
      subst st5
      refine z_if_eq (tgt := 63) B dX12_messageByte_45 rfl (fun c_6 => ?_) (fun h9 => absurd (by decide) h9)
      refine z_iconst (v := (-1)) B dX12_messageByte_63 rfl ?_
      exact z_ret_i B dX12_messageByte_64 ⟨⟨_, rfl⟩, rfl, ⟨v_3, hI6⟩, (fun b9 h9 => ((hF5 b9 (fun j9 h8 h7 => (show False from h7).elim)).trans ((hF3 b9 h9).trans ((hF1 b9 (fun j9 h8 h7 => (show False from h7).elim)).trans ((fset_fr hΦ1 (fun h8 => h9 (0) h8 (show 0 = 0 by decide))).trans rfl)))))⟩

theorem hu_X12_restartCollector_X12 : ∀ w ∈ u_ws RX12 TX12 54, w ∈ wsX12_restartCollector := fun _ h => List.mem_cons_of_mem _ (List.mem_append_left _ (List.mem_append_right _ (h)))

theorem hv_X12_restartCollector_1 : Cond.fieldLink RX12 1 "FlowExporterModel" (TX12 0).2.1 (TX12 0).2.2.1 ∈ wsX12_restartCollector := List.mem_cons_of_mem _ (List.mem_append_left _ (List.mem_append_left _ (List.mem_of_getElem? (i := 0) rfl)))

theorem hv_X12_restartCollector_48 : Cond.fieldLink RX12 48 "FlowExporterModel" (TX12 28).2.1 (TX12 28).2.2.1 ∈ wsX12_restartCollector := List.mem_cons_of_mem _ (List.mem_append_left _ (List.mem_append_left _ (List.mem_of_getElem? (i := 1) rfl)))

set_option maxRecDepth 20000 in
theorem ggX12_totalMargin_X12_isWhat : GoodIn wsX12_totalMargin wsX12_isWhat := (goodIn_r _ [7, 8, 9, 6, 10] rfl (by decide +kernel))
set_option maxRecDepth 20000 in
theorem gX12_totalMargin_X12_isWhat : GoodIn wsX12_totalMargin (va_wsS RX12 397 yX12_isWhat wsX12_isWhat) := goodIn_app (goodIn_m (mem_cA (List.mem_cons_of_mem _ (List.mem_append_left _ (List.mem_append_left _ (List.mem_append_left _ (List.mem_of_getElem? (i := 3) rfl))))) (mem_cA (List.mem_cons_of_mem _ (List.mem_append_left _ (List.mem_append_left _ (List.mem_append_left _ (List.mem_of_getElem? (i := 4) rfl))))) (mem_cA (List.mem_cons_of_mem _ (List.mem_append_left _ (List.mem_append_left _ (List.mem_append_left _ (List.mem_of_getElem? (i := 5) rfl))))) mem_cZ))) (by decide +kernel)) ggX12_totalMargin_X12_isWhat
set_option maxRecDepth 20000 in
theorem ggX12_totalMargin_X12_throwsIf : GoodIn wsX12_totalMargin wsX12_throwsIf := (goodIn_ca (goodIn_r _ [14, 1] rfl (by decide +kernel)) (goodIn_sub (fun _ h => List.mem_cons_of_mem _ (List.mem_append_left _ (List.mem_append_right _ h))) gw_wsX120))
set_option maxRecDepth 20000 in
theorem gX12_totalMargin_X12_throwsIf : GoodIn wsX12_totalMargin (wsV RX12 185 RX12 yX12_throwsIf wsX12_throwsIf) := goodIn_app (goodIn_m (mem_cA (List.mem_cons_of_mem _ (List.mem_append_left _ (List.mem_append_left _ (List.mem_append_left _ (List.mem_of_getElem? (i := 10) rfl))))) (mem_cA (List.mem_cons_of_mem _ (List.mem_append_left _ (List.mem_append_left _ (List.mem_append_left _ (List.mem_of_getElem? (i := 11) rfl))))) (mem_cA (List.mem_cons_of_mem _ (List.mem_append_left _ (List.mem_append_left _ (List.mem_append_left _ (List.mem_of_getElem? (i := 12) rfl))))) (mem_cA (List.mem_cons_of_mem _ (List.mem_append_left _ (List.mem_append_left _ (List.mem_append_left _ (List.mem_of_getElem? (i := 5) rfl))))) mem_cZ)))) (by decide +kernel)) ggX12_totalMargin_X12_throwsIf
set_option maxRecDepth 20000 in
theorem ggX12_totalMargin_X12_marginOf : GoodIn wsX12_totalMargin wsX12_marginOf := (goodIn_r _ [17, 18, 19, 20, 6, 21, 22, 23, 24, 25, 26, 27, 28, 29, 30, 31, 32, 33, 34, 35, 36, 37, 38, 39, 40, 41] rfl (by decide +kernel))
set_option maxRecDepth 20000 in
theorem gX12_totalMargin_X12_marginOf : GoodIn wsX12_totalMargin (va_wsS RX12 424 yX12_marginOf wsX12_marginOf) := goodIn_app (goodIn_m (mem_cA (List.mem_cons_of_mem _ (List.mem_append_left _ (List.mem_append_left _ (List.mem_append_left _ (List.mem_of_getElem? (i := 14) rfl))))) (mem_cA (List.mem_cons_of_mem _ (List.mem_append_left _ (List.mem_append_left _ (List.mem_append_left _ (List.mem_of_getElem? (i := 15) rfl))))) (mem_cA (List.mem_cons_of_mem _ (List.mem_append_left _ (List.mem_append_left _ (List.mem_append_left _ (List.mem_of_getElem? (i := 5) rfl))))) mem_cZ))) (by decide +kernel)) ggX12_totalMargin_X12_marginOf
theorem dX12_totalMargin_0 : decode cX12_totalMargin 0 = .ok (.aload_n 0, 1) := by decide +kernel
theorem dX12_totalMargin_1 : decode cX12_totalMargin 1 = .ok (.iconst 0, 1) := by decide +kernel
theorem dX12_totalMargin_2 : decode cX12_totalMargin 2 = .ok (.putfield 1, 3) := by decide +kernel
theorem dX12_totalMargin_5 : decode cX12_totalMargin 5 = .ok (.aload_n 0, 1) := by decide +kernel
theorem dX12_totalMargin_6 : decode cX12_totalMargin 6 = .ok (.iload_n 1, 1) := by decide +kernel
theorem dX12_totalMargin_7 : decode cX12_totalMargin 7 = .ok (.invokestatic 397, 3) := by decide +kernel
theorem dX12_totalMargin_10 : decode cX12_totalMargin 10 = .ok (.ifCond .ne 7, 3) := by decide +kernel
theorem dX12_totalMargin_13 : decode cX12_totalMargin 13 = .ok (.iconst 1, 1) := by decide +kernel
theorem dX12_totalMargin_14 : decode cX12_totalMargin 14 = .ok (.goto 4, 3) := by decide +kernel
theorem dX12_totalMargin_17 : decode cX12_totalMargin 17 = .ok (.iconst 0, 1) := by decide +kernel
theorem dX12_totalMargin_18 : decode cX12_totalMargin 18 = .ok (.iconst 1, 1) := by decide +kernel
theorem dX12_totalMargin_19 : decode cX12_totalMargin 19 = .ok (.invokevirtual 185, 3) := by decide +kernel
theorem dX12_totalMargin_22 : decode cX12_totalMargin 22 = .ok (.ifCond .eq 5, 3) := by decide +kernel
theorem dX12_totalMargin_25 : decode cX12_totalMargin 25 = .ok (.dconst 0, 1) := by decide +kernel
theorem dX12_totalMargin_26 : decode cX12_totalMargin 26 = .ok (.dreturn, 1) := by decide +kernel
theorem dX12_totalMargin_27 : decode cX12_totalMargin 27 = .ok (.dconst 0, 1) := by decide +kernel
theorem dX12_totalMargin_28 : decode cX12_totalMargin 28 = .ok (.dstore_n 2, 1) := by decide +kernel
theorem dX12_totalMargin_29 : decode cX12_totalMargin 29 = .ok (.iconst 0, 1) := by decide +kernel
theorem dX12_totalMargin_30 : decode cX12_totalMargin 30 = .ok (.istore 4, 2) := by decide +kernel
theorem dX12_totalMargin_32 : decode cX12_totalMargin 32 = .ok (.iload 4, 2) := by decide +kernel
theorem dX12_totalMargin_34 : decode cX12_totalMargin 34 = .ok (.aload_n 0, 1) := by decide +kernel
theorem dX12_totalMargin_35 : decode cX12_totalMargin 35 = .ok (.getfield 148, 3) := by decide +kernel
theorem dX12_totalMargin_38 : decode cX12_totalMargin 38 = .ok (.if_icmp .ge 23, 3) := by decide +kernel
theorem dX12_totalMargin_41 : decode cX12_totalMargin 41 = .ok (.dload_n 2, 1) := by decide +kernel
theorem dX12_totalMargin_42 : decode cX12_totalMargin 42 = .ok (.aload_n 0, 1) := by decide +kernel
theorem dX12_totalMargin_43 : decode cX12_totalMargin 43 = .ok (.getfield 78, 3) := by decide +kernel
theorem dX12_totalMargin_46 : decode cX12_totalMargin 46 = .ok (.iconst 2, 1) := by decide +kernel
theorem dX12_totalMargin_47 : decode cX12_totalMargin 47 = .ok (.iload 4, 2) := by decide +kernel
theorem dX12_totalMargin_49 : decode cX12_totalMargin 49 = .ok (.imul, 1) := by decide +kernel
theorem dX12_totalMargin_50 : decode cX12_totalMargin 50 = .ok (.iload_n 1, 1) := by decide +kernel
theorem dX12_totalMargin_51 : decode cX12_totalMargin 51 = .ok (.iadd, 1) := by decide +kernel
theorem dX12_totalMargin_52 : decode cX12_totalMargin 52 = .ok (.daload, 1) := by decide +kernel
theorem dX12_totalMargin_53 : decode cX12_totalMargin 53 = .ok (.dadd, 1) := by decide +kernel
theorem dX12_totalMargin_54 : decode cX12_totalMargin 54 = .ok (.dstore_n 2, 1) := by decide +kernel
theorem dX12_totalMargin_55 : decode cX12_totalMargin 55 = .ok (.iinc 4 1, 3) := by decide +kernel
theorem dX12_totalMargin_58 : decode cX12_totalMargin 58 = .ok (.goto (-26), 3) := by decide +kernel
theorem dX12_totalMargin_61 : decode cX12_totalMargin 61 = .ok (.dload_n 2, 1) := by decide +kernel
theorem dX12_totalMargin_62 : decode cX12_totalMargin 62 = .ok (.invokestatic 424, 3) := by decide +kernel
theorem dX12_totalMargin_65 : decode cX12_totalMargin 65 = .ok (.dreturn, 1) := by decide +kernel
set_option maxRecDepth 20000 in
theorem ggX12_ranked_X12_isWhat : GoodIn wsX12_ranked wsX12_isWhat := (goodIn_r _ [7, 8, 9, 6, 10] rfl (by decide +kernel))
set_option maxRecDepth 20000 in
theorem gX12_ranked_X12_isWhat : GoodIn wsX12_ranked (va_wsS RX12 397 yX12_isWhat wsX12_isWhat) := goodIn_app (goodIn_m (mem_cA (List.mem_cons_of_mem _ (List.mem_append_left _ (List.mem_append_left _ (List.mem_of_getElem? (i := 3) rfl)))) (mem_cA (List.mem_cons_of_mem _ (List.mem_append_left _ (List.mem_append_left _ (List.mem_of_getElem? (i := 4) rfl)))) (mem_cA (List.mem_cons_of_mem _ (List.mem_append_left _ (List.mem_append_left _ (List.mem_of_getElem? (i := 5) rfl)))) mem_cZ))) (by decide +kernel)) ggX12_ranked_X12_isWhat
set_option maxRecDepth 20000 in
theorem ggX12_ranked_X12_throwsIf : GoodIn wsX12_ranked wsX12_throwsIf := (goodIn_ca (goodIn_r _ [14, 1] rfl (by decide +kernel)) (goodIn_sub (fun _ h => List.mem_cons_of_mem _ (List.mem_append_left _ (List.mem_append_right _ h))) gw_wsX120))
set_option maxRecDepth 20000 in
theorem gX12_ranked_X12_throwsIf : GoodIn wsX12_ranked (wsV RX12 185 RX12 yX12_throwsIf wsX12_throwsIf) := goodIn_app (goodIn_m (mem_cA (List.mem_cons_of_mem _ (List.mem_append_left _ (List.mem_append_left _ (List.mem_of_getElem? (i := 10) rfl)))) (mem_cA (List.mem_cons_of_mem _ (List.mem_append_left _ (List.mem_append_left _ (List.mem_of_getElem? (i := 11) rfl)))) (mem_cA (List.mem_cons_of_mem _ (List.mem_append_left _ (List.mem_append_left _ (List.mem_of_getElem? (i := 12) rfl)))) (mem_cA (List.mem_cons_of_mem _ (List.mem_append_left _ (List.mem_append_left _ (List.mem_of_getElem? (i := 5) rfl)))) mem_cZ)))) (by decide +kernel)) ggX12_ranked_X12_throwsIf
theorem dX12_ranked_0 : decode cX12_ranked 0 = .ok (.aload_n 0, 1) := by decide +kernel
theorem dX12_ranked_1 : decode cX12_ranked 1 = .ok (.iconst 0, 1) := by decide +kernel
theorem dX12_ranked_2 : decode cX12_ranked 2 = .ok (.putfield 1, 3) := by decide +kernel
theorem dX12_ranked_5 : decode cX12_ranked 5 = .ok (.aload_n 0, 1) := by decide +kernel
theorem dX12_ranked_6 : decode cX12_ranked 6 = .ok (.iload_n 2, 1) := by decide +kernel
theorem dX12_ranked_7 : decode cX12_ranked 7 = .ok (.invokestatic 397, 3) := by decide +kernel
theorem dX12_ranked_10 : decode cX12_ranked 10 = .ok (.ifCond .ne 7, 3) := by decide +kernel
theorem dX12_ranked_13 : decode cX12_ranked 13 = .ok (.iconst 1, 1) := by decide +kernel
theorem dX12_ranked_14 : decode cX12_ranked 14 = .ok (.goto 4, 3) := by decide +kernel
theorem dX12_ranked_17 : decode cX12_ranked 17 = .ok (.iconst 0, 1) := by decide +kernel
theorem dX12_ranked_18 : decode cX12_ranked 18 = .ok (.iconst 1, 1) := by decide +kernel
theorem dX12_ranked_19 : decode cX12_ranked 19 = .ok (.invokevirtual 185, 3) := by decide +kernel
theorem dX12_ranked_22 : decode cX12_ranked 22 = .ok (.ifCond .eq 5, 3) := by decide +kernel
theorem dX12_ranked_25 : decode cX12_ranked 25 = .ok (.iconst 0, 1) := by decide +kernel
theorem dX12_ranked_26 : decode cX12_ranked 26 = .ok (.ireturn, 1) := by decide +kernel
theorem dX12_ranked_27 : decode cX12_ranked 27 = .ok (.iconst 0, 1) := by decide +kernel
theorem dX12_ranked_28 : decode cX12_ranked 28 = .ok (.istore_n 3, 1) := by decide +kernel
theorem dX12_ranked_29 : decode cX12_ranked 29 = .ok (.iload_n 3, 1) := by decide +kernel
theorem dX12_ranked_30 : decode cX12_ranked 30 = .ok (.aload_n 0, 1) := by decide +kernel
theorem dX12_ranked_31 : decode cX12_ranked 31 = .ok (.getfield 148, 3) := by decide +kernel
theorem dX12_ranked_34 : decode cX12_ranked 34 = .ok (.if_icmp .ge 95, 3) := by decide +kernel
theorem dX12_ranked_37 : decode cX12_ranked 37 = .ok (.iconst 0, 1) := by decide +kernel
theorem dX12_ranked_38 : decode cX12_ranked 38 = .ok (.istore 4, 2) := by decide +kernel
theorem dX12_ranked_40 : decode cX12_ranked 40 = .ok (.iconst 0, 1) := by decide +kernel
theorem dX12_ranked_41 : decode cX12_ranked 41 = .ok (.istore 5, 2) := by decide +kernel
theorem dX12_ranked_43 : decode cX12_ranked 43 = .ok (.iload 5, 2) := by decide +kernel
theorem dX12_ranked_45 : decode cX12_ranked 45 = .ok (.aload_n 0, 1) := by decide +kernel
theorem dX12_ranked_46 : decode cX12_ranked 46 = .ok (.getfield 148, 3) := by decide +kernel
theorem dX12_ranked_49 : decode cX12_ranked 49 = .ok (.if_icmp .ge 66, 3) := by decide +kernel
theorem dX12_ranked_52 : decode cX12_ranked 52 = .ok (.aload_n 0, 1) := by decide +kernel
theorem dX12_ranked_53 : decode cX12_ranked 53 = .ok (.getfield 75, 3) := by decide +kernel
theorem dX12_ranked_56 : decode cX12_ranked 56 = .ok (.iconst 2, 1) := by decide +kernel
theorem dX12_ranked_57 : decode cX12_ranked 57 = .ok (.iload 5, 2) := by decide +kernel
theorem dX12_ranked_59 : decode cX12_ranked 59 = .ok (.imul, 1) := by decide +kernel
theorem dX12_ranked_60 : decode cX12_ranked 60 = .ok (.iload_n 2, 1) := by decide +kernel
theorem dX12_ranked_61 : decode cX12_ranked 61 = .ok (.iadd, 1) := by decide +kernel
theorem dX12_ranked_62 : decode cX12_ranked 62 = .ok (.laload, 1) := by decide +kernel
theorem dX12_ranked_63 : decode cX12_ranked 63 = .ok (.lstore 6, 2) := by decide +kernel
theorem dX12_ranked_65 : decode cX12_ranked 65 = .ok (.aload_n 0, 1) := by decide +kernel
theorem dX12_ranked_66 : decode cX12_ranked 66 = .ok (.getfield 75, 3) := by decide +kernel
theorem dX12_ranked_69 : decode cX12_ranked 69 = .ok (.iconst 2, 1) := by decide +kernel
theorem dX12_ranked_70 : decode cX12_ranked 70 = .ok (.iload_n 3, 1) := by decide +kernel
theorem dX12_ranked_71 : decode cX12_ranked 71 = .ok (.imul, 1) := by decide +kernel
theorem dX12_ranked_72 : decode cX12_ranked 72 = .ok (.iload_n 2, 1) := by decide +kernel
theorem dX12_ranked_73 : decode cX12_ranked 73 = .ok (.iadd, 1) := by decide +kernel
theorem dX12_ranked_74 : decode cX12_ranked 74 = .ok (.laload, 1) := by decide +kernel
theorem dX12_ranked_75 : decode cX12_ranked 75 = .ok (.lstore 8, 2) := by decide +kernel
theorem dX12_ranked_77 : decode cX12_ranked 77 = .ok (.iload 4, 2) := by decide +kernel
theorem dX12_ranked_79 : decode cX12_ranked 79 = .ok (.lload 6, 2) := by decide +kernel
theorem dX12_ranked_81 : decode cX12_ranked 81 = .ok (.lload 8, 2) := by decide +kernel
theorem dX12_ranked_83 : decode cX12_ranked 83 = .ok (.lcmp, 1) := by decide +kernel
theorem dX12_ranked_84 : decode cX12_ranked 84 = .ok (.ifCond .gt 17, 3) := by decide +kernel
theorem dX12_ranked_87 : decode cX12_ranked 87 = .ok (.lload 6, 2) := by decide +kernel
theorem dX12_ranked_89 : decode cX12_ranked 89 = .ok (.lload 8, 2) := by decide +kernel
theorem dX12_ranked_91 : decode cX12_ranked 91 = .ok (.lcmp, 1) := by decide +kernel
theorem dX12_ranked_92 : decode cX12_ranked 92 = .ok (.ifCond .ne 13, 3) := by decide +kernel
theorem dX12_ranked_95 : decode cX12_ranked 95 = .ok (.iload 5, 2) := by decide +kernel
theorem dX12_ranked_97 : decode cX12_ranked 97 = .ok (.iload_n 3, 1) := by decide +kernel
theorem dX12_ranked_98 : decode cX12_ranked 98 = .ok (.if_icmp .ge 7, 3) := by decide +kernel
theorem dX12_ranked_101 : decode cX12_ranked 101 = .ok (.iconst 1, 1) := by decide +kernel
theorem dX12_ranked_102 : decode cX12_ranked 102 = .ok (.goto 4, 3) := by decide +kernel
theorem dX12_ranked_105 : decode cX12_ranked 105 = .ok (.iconst 0, 1) := by decide +kernel
theorem dX12_ranked_106 : decode cX12_ranked 106 = .ok (.iadd, 1) := by decide +kernel
theorem dX12_ranked_107 : decode cX12_ranked 107 = .ok (.istore 4, 2) := by decide +kernel
theorem dX12_ranked_109 : decode cX12_ranked 109 = .ok (.iinc 5 1, 3) := by decide +kernel
theorem dX12_ranked_112 : decode cX12_ranked 112 = .ok (.goto (-69), 3) := by decide +kernel
theorem dX12_ranked_115 : decode cX12_ranked 115 = .ok (.iload 4, 2) := by decide +kernel
theorem dX12_ranked_117 : decode cX12_ranked 117 = .ok (.iload_n 1, 1) := by decide +kernel
theorem dX12_ranked_118 : decode cX12_ranked 118 = .ok (.if_icmp .ne 5, 3) := by decide +kernel
theorem dX12_ranked_121 : decode cX12_ranked 121 = .ok (.iload_n 3, 1) := by decide +kernel
theorem dX12_ranked_122 : decode cX12_ranked 122 = .ok (.ireturn, 1) := by decide +kernel
theorem dX12_ranked_123 : decode cX12_ranked 123 = .ok (.iinc 3 1, 3) := by decide +kernel
theorem dX12_ranked_126 : decode cX12_ranked 126 = .ok (.goto (-97), 3) := by decide +kernel
theorem dX12_ranked_129 : decode cX12_ranked 129 = .ok (.iconst (-1), 1) := by decide +kernel
theorem dX12_ranked_130 : decode cX12_ranked 130 = .ok (.ireturn, 1) := by decide +kernel
theorem dX12_appendBytes_0 : decode cX12_appendBytes 0 = .ok (.bipush 24, 2) := by decide +kernel
theorem dX12_appendBytes_2 : decode cX12_appendBytes 2 = .ok (.istore_n 2, 1) := by decide +kernel
theorem dX12_appendBytes_3 : decode cX12_appendBytes 3 = .ok (.iload_n 2, 1) := by decide +kernel
theorem dX12_appendBytes_4 : decode cX12_appendBytes 4 = .ok (.ifCond .lt 32, 3) := by decide +kernel
theorem dX12_appendBytes_7 : decode cX12_appendBytes 7 = .ok (.aload_n 0, 1) := by decide +kernel
theorem dX12_appendBytes_8 : decode cX12_appendBytes 8 = .ok (.getfield 88, 3) := by decide +kernel
theorem dX12_appendBytes_11 : decode cX12_appendBytes 11 = .ok (.aload_n 0, 1) := by decide +kernel
theorem dX12_appendBytes_12 : decode cX12_appendBytes 12 = .ok (.getfield 441, 3) := by decide +kernel
theorem dX12_appendBytes_15 : decode cX12_appendBytes 15 = .ok (.iload_n 1, 1) := by decide +kernel
theorem dX12_appendBytes_16 : decode cX12_appendBytes 16 = .ok (.iload_n 2, 1) := by decide +kernel
theorem dX12_appendBytes_17 : decode cX12_appendBytes 17 = .ok (.ishr, 1) := by decide +kernel
theorem dX12_appendBytes_18 : decode cX12_appendBytes 18 = .ok (.i2b, 1) := by decide +kernel
theorem dX12_appendBytes_19 : decode cX12_appendBytes 19 = .ok (.bastore, 1) := by decide +kernel
theorem dX12_appendBytes_20 : decode cX12_appendBytes 20 = .ok (.aload_n 0, 1) := by decide +kernel
theorem dX12_appendBytes_21 : decode cX12_appendBytes 21 = .ok (.dup, 1) := by decide +kernel
theorem dX12_appendBytes_22 : decode cX12_appendBytes 22 = .ok (.getfield 441, 3) := by decide +kernel
theorem dX12_appendBytes_25 : decode cX12_appendBytes 25 = .ok (.iconst 1, 1) := by decide +kernel
theorem dX12_appendBytes_26 : decode cX12_appendBytes 26 = .ok (.iadd, 1) := by decide +kernel
theorem dX12_appendBytes_27 : decode cX12_appendBytes 27 = .ok (.putfield 441, 3) := by decide +kernel
theorem dX12_appendBytes_30 : decode cX12_appendBytes 30 = .ok (.iinc 2 (-8), 3) := by decide +kernel
theorem dX12_appendBytes_33 : decode cX12_appendBytes 33 = .ok (.goto (-30), 3) := by decide +kernel
theorem dX12_appendBytes_36 : decode cX12_appendBytes 36 = .ok (.return_, 1) := by decide +kernel
set_option maxHeartbeats 4000000 in
set_option maxRecDepth 100000 in
theorem r_totalMargin (G : EnvG) (l : Launch) (Φ : Hm) (sz x : Nat) (rd : (Nat → Int32) → Prop) (nw : (Nat → Int32) → Prop) (cr : (Nat → Int64) → Prop) (tp : (Nat → Int32) → Prop) (tt : (Nat → Int64) → Prop) (sI : (Nat → Int32) → Prop) (sT : (Nat → Int32) → Prop) (pt : (Nat → Int32) → Prop) (ql : (Nat → Int32) → Prop) (fl : Nat) (pe : Nat) (le : Nat) (nx : Nat) (il : Nat) (qu : Nat) (kn : Int32) (ec : Int32) (nu : Int32) (va : Int64) (st : Nat) (ep : Int32) (ti : Int32) (ad : Int32) (ob : Int64) (ra : Int32) (rt : Nat) (ex : Int32) (sa : Int64) (us : Int64) (tk : Nat) (th : Int32) (me : Int32) (dr : Int32) (se : Int64) (sn : Int64) (a : Int32) (hx : G.2.2.2 ≤ x) (hI : Im G x (rd, nw, cr, tp, tt, sI, sT, pt, ql, fl, pe, le, nx, il, qu, kn, ec, nu, va, st, ep, ti, ad, ob, ra, rt, ex, sa, us, tk, th, me, dr, se, sn) Φ) (hnw : ∀ f9 : Nat → Int32, nw f9 → NN f9) : Ct G l yX12_totalMargin wsX12_totalMargin ({ frames := 4, cells := 0, slots := 0, locals := 94 }) 0 0 [.ref x, .int a] Φ sz (fun v Φ1 sz1 => (∃ r9 : UInt64, v = some (.double r9) ∧ nn64 r9) ∧ sz1 = sz ∧ (∃ (th1 : Int32), Im G x (rd, nw, cr, tp, tt, sI, sT, pt, ql, fl, pe, le, nx, il, qu, kn, ec, nu, va, st, ep, ti, ad, ob, ra, rt, ex, sa, us, tk, th1, me, dr, se, sn) Φ1) ∧ Fr x (fun j9 => j9 = 0) Φ Φ1) := by
  refine Ct.of (cc := cX12_totalMargin) (maxL := 5) (ret := (some .double)) (by decide) rfl (Nat.le_of_ble_eq_true rfl) ?_
  intro p9 e9 s9 m9 w9 t9 k9 B
  show Z p9 l e9 _ s9 m9 _ w9 t9 k9 _ G 5 0 [(0, .ref x), (1, .int a)] [] Φ sz 0 0
  refine z_aload_n B dX12_totalMargin_0 rfl 0 rfl ?_
  refine z_iconst (v := 0) B dX12_totalMargin_1 rfl ?_
  obtain ⟨n_1, v_1, n_2, h_1, b_13, b_1, b_2, b_3, b_4, b_5, b_6, b_7, b_8, b_9, b_10, b_11, b_12⟩ := im0 hI
  replace b_1 : 1 ≤ rt := b_1
  replace b_2 : rt ≤ 1024 := b_2
  replace b_3 : fl ≤ 12 := b_3
  replace b_4 : pe ≤ 24 := b_4
  replace b_5 : le ≤ 700 := b_5
  replace b_6 : qu ≤ 12 := b_6
  replace b_7 : n_1 ≤ 8 := b_7
  replace b_8 : n_2 ≤ 24 := b_8
  replace b_9 : tk ≤ 24 := b_9
  replace b_10 : il ≤ 700 := b_10
  replace b_11 : nx ≤ 701 := b_11
  replace b_12 : st ≤ 701 := b_12
  have h_2 : Φ x = some (o_ 14 [.int th, .ref (x + 1), .ref (x + 2), .int ti, .int ra, .int (nI rt), .int ex, .int ad, .ref (x + 3), .ref (x + 4), .int me, .long se, .ref (x + 5), .int (nI fl), .int dr, .long ob, .long sa, .long sn, .long us, .ref (x + 6), .ref (x + 7), .int (nI pe), .ref (x + 8), .int (nI le), .ref (x + 9), .ref (x + 10), .int (nI qu), .ref (x + 11), .ref (x + 12), .ref (x + 13), .ref (x + 14), .ref (x + 15), .ref (x + 16), .int (nI n_1), .long v_1, .ref (x + 17), .ref (x + 18), .ref (x + 19), .ref (x + 20), .ref (x + 21), .ref (x + 22), .int (nI n_2), .ref (x + 23), .ref (x + 24), .int (nI tk), .ref (x + 25), .int (nI il), .int (nI nx), .int ec, .int ep, .int kn, .int (nI st), .int nu, .long va]) := h_1
  refine z_put (ref := "FlowExporterModel") (C := RX12) (T := TX12) (N := 54) (ci := 14) (v := .int 0) B hu_X12_totalMargin_X12 tyX12 tyX12_ok nmX12 rfl 0 (Nat.le_of_ble_eq_true rfl) hv_X12_totalMargin_1 rfl (Or.inl rfl) h_2 hx rfl rfl (Nat.le_of_ble_eq_true rfl) dX12_totalMargin_2 (fun Φ1 hΦ1 => ?_)
  have h_3 : Φ1 x = some (o_ 14 [.int 0, .ref (x + 1), .ref (x + 2), .int ti, .int ra, .int (nI rt), .int ex, .int ad, .ref (x + 3), .ref (x + 4), .int me, .long se, .ref (x + 5), .int (nI fl), .int dr, .long ob, .long sa, .long sn, .long us, .ref (x + 6), .ref (x + 7), .int (nI pe), .ref (x + 8), .int (nI le), .ref (x + 9), .ref (x + 10), .int (nI qu), .ref (x + 11), .ref (x + 12), .ref (x + 13), .ref (x + 14), .ref (x + 15), .ref (x + 16), .int (nI n_1), .long v_1, .ref (x + 17), .ref (x + 18), .ref (x + 19), .ref (x + 20), .ref (x + 21), .ref (x + 22), .int (nI n_2), .ref (x + 23), .ref (x + 24), .int (nI tk), .ref (x + 25), .int (nI il), .int (nI nx), .int ec, .int ep, .int kn, .int (nI st), .int nu, .long va]) := fset_at hΦ1
  have hI1 : Im G x (rd, nw, cr, tp, tt, sI, sT, pt, ql, fl, pe, le, nx, il, qu, kn, ec, nu, va, st, ep, ti, ad, ob, ra, rt, ex, sa, us, tk, 0, me, dr, se, sn) Φ1 := Im.put0 hI hΦ1 ⟨n_1, v_1, n_2, rfl, b_13, b_1, b_2, b_3, b_4, b_5, b_6, b_7, b_8, b_9, b_10, b_11, b_12⟩
  refine z_aload_n B dX12_totalMargin_5 rfl 0 rfl ?_
  refine z_iload_n B dX12_totalMargin_6 rfl 1 rfl ?_
  refine z_callS (As := [.int a]) (rest := [.ref x]) B (r_isWhat G l Φ1 sz x rd nw cr tp tt sI sT pt ql fl pe le nx il qu kn ec nu va st ep ti ad ob ra rt ex sa us tk 0 me dr se sn a hx hI1 hnw) (va_cwS 1 B.1.2.2.2.2 gX12_totalMargin_X12_isWhat rfl rfl rfl (by decide +kernel) ⟨Nat.le_of_ble_eq_true rfl, Nat.le_of_ble_eq_true rfl⟩) rfl rfl (Nat.le_of_ble_eq_true rfl) dX12_totalMargin_7 ⟨Nat.le_of_ble_eq_true rfl, Nat.le_of_ble_eq_true rfl⟩ (fun r_1 Φ2 sz1 st1 hp1 hs1 => ?_)
  obtain ⟨ha1, hq1, hI2, hF1⟩ := hp1
  subst sz1
  replace hI2 : Im G x (rd, nw, cr, tp, tt, sI, sT, pt, ql, fl, pe, le, nx, il, qu, kn, ec, nu, va, st, ep, ti, ad, ob, ra, rt, ex, sa, us, tk, 0, me, dr, se, sn) Φ2 := hI2
  rcases ha1 with rfl | ⟨rfl, n_3, b_14, rfl⟩
  · replace hs1 : st1 = [.int 0, .ref x] := hs1
    subst st1
    refine z_if_ne (tgt := 17) B dX12_totalMargin_10 rfl (fun h9 => absurd (by decide) h9) (fun c_1 => ?_)
    refine z_iconst (v := 1) B dX12_totalMargin_13 rfl ?_
    refine z_goto (tgt := 18) B dX12_totalMargin_14 rfl ?_
    refine z_iconst (v := 1) B dX12_totalMargin_18 rfl ?_
    have h_4 : Φ2 x = some (o_ 14 [.int 0, .ref (x + 1), .ref (x + 2), .int ti, .int ra, .int (nI rt), .int ex, .int ad, .ref (x + 3), .ref (x + 4), .int me, .long se, .ref (x + 5), .int (nI fl), .int dr, .long ob, .long sa, .long sn, .long us, .ref (x + 6), .ref (x + 7), .int (nI pe), .ref (x + 8), .int (nI le), .ref (x + 9), .ref (x + 10), .int (nI qu), .ref (x + 11), .ref (x + 12), .ref (x + 13), .ref (x + 14), .ref (x + 15), .ref (x + 16), .int (nI n_1), .long v_1, .ref (x + 17), .ref (x + 18), .ref (x + 19), .ref (x + 20), .ref (x + 21), .ref (x + 22), .int (nI n_2), .ref (x + 23), .ref (x + 24), .int (nI tk), .ref (x + 25), .int (nI il), .int (nI nx), .int ec, .int ep, .int kn, .int (nI st), .int nu, .long va]) := ((hF1 x (fun j9 h8 h7 => (show False from h7).elim)).trans h_3)
    refine z_callV (As := [.int 1, .int 1]) (rest := []) B (r_throwsIf G l Φ2 sz x rd nw cr tp tt sI sT pt ql fl pe le nx il qu kn ec nu va st ep ti ad ob ra rt ex sa us tk 0 me dr se sn 1 1 hx hI2 (by decide) hnw) (cwV 2 B.1.2.2.2.2 gX12_totalMargin_X12_throwsIf rfl rfl rfl (by decide +kernel) ⟨Nat.le_of_ble_eq_true rfl, Nat.le_of_ble_eq_true rfl⟩) h_4 rfl rfl rfl rfl (Nat.le_of_ble_eq_true rfl) dX12_totalMargin_19 ⟨Nat.le_of_ble_eq_true rfl, Nat.le_of_ble_eq_true rfl⟩ (fun r_2 Φ3 sz2 st2 hp2 hs2 => ?_)
    obtain ⟨rfl, hq2, ⟨v_2, hI3⟩, hF2⟩ := hp2
    subst sz2
    replace hs2 : st2 = [.int 1] := hs2
    subst st2
    replace hI3 : Im G x (rd, nw, cr, tp, tt, sI, sT, pt, ql, fl, pe, le, nx, il, qu, kn, ec, nu, va, st, ep, ti, ad, ob, ra, rt, ex, sa, us, tk, v_2, me, dr, se, sn) Φ3 := hI3
    refine z_if_eq (tgt := 27) B dX12_totalMargin_22 rfl (fun h9 => absurd h9 (by decide)) (fun c_2 => ?_)
    refine z_dconst0 B dX12_totalMargin_25 ?_
    exact z_ret_d B dX12_totalMargin_26 ⟨⟨_, rfl, (sm_nn sm_zero)⟩, rfl, ⟨v_2, hI3⟩, (fun b9 h9 => ((hF2 b9 h9).trans ((hF1 b9 (fun j9 h8 h7 => (show False from h7).elim)).trans ((fset_fr hΦ1 (fun h8 => h9 (0) h8 (show 0 = 0 by decide))).trans rfl))))⟩
  · replace hs1 : st1 = [.int 1, .ref x] := hs1
    subst st1
    replace b_14 : n_3 < 2 := b_14
    refine z_if_ne (tgt := 17) B dX12_totalMargin_10 rfl (fun c_3 => ?_) (fun h9 => absurd h9 (by decide))
    refine z_iconst (v := 0) B dX12_totalMargin_17 rfl ?_
    refine z_iconst (v := 1) B dX12_totalMargin_18 rfl ?_
    have h_5 : Φ2 x = some (o_ 14 [.int 0, .ref (x + 1), .ref (x + 2), .int ti, .int ra, .int (nI rt), .int ex, .int ad, .ref (x + 3), .ref (x + 4), .int me, .long se, .ref (x + 5), .int (nI fl), .int dr, .long ob, .long sa, .long sn, .long us, .ref (x + 6), .ref (x + 7), .int (nI pe), .ref (x + 8), .int (nI le), .ref (x + 9), .ref (x + 10), .int (nI qu), .ref (x + 11), .ref (x + 12), .ref (x + 13), .ref (x + 14), .ref (x + 15), .ref (x + 16), .int (nI n_1), .long v_1, .ref (x + 17), .ref (x + 18), .ref (x + 19), .ref (x + 20), .ref (x + 21), .ref (x + 22), .int (nI n_2), .ref (x + 23), .ref (x + 24), .int (nI tk), .ref (x + 25), .int (nI il), .int (nI nx), .int ec, .int ep, .int kn, .int (nI st), .int nu, .long va]) := ((hF1 x (fun j9 h8 h7 => (show False from h7).elim)).trans h_3)
    refine z_callV (As := [.int 0, .int 1]) (rest := []) B (r_throwsIf G l Φ2 sz x rd nw cr tp tt sI sT pt ql fl pe le nx il qu kn ec nu va st ep ti ad ob ra rt ex sa us tk 0 me dr se sn 0 1 hx hI2 (by decide) hnw) (cwV 2 B.1.2.2.2.2 gX12_totalMargin_X12_throwsIf rfl rfl rfl (by decide +kernel) ⟨Nat.le_of_ble_eq_true rfl, Nat.le_of_ble_eq_true rfl⟩) h_5 rfl rfl rfl rfl (Nat.le_of_ble_eq_true rfl) dX12_totalMargin_19 ⟨Nat.le_of_ble_eq_true rfl, Nat.le_of_ble_eq_true rfl⟩ (fun r_3 Φ4 sz3 st3 hp3 hs3 => ?_)
    obtain ⟨rfl, hq3, ⟨v_3, hI4⟩, hF3⟩ := hp3
    subst sz3
    replace hs3 : st3 = [.int 0] := hs3
    subst st3
    replace hI4 : Im G x (rd, nw, cr, tp, tt, sI, sT, pt, ql, fl, pe, le, nx, il, qu, kn, ec, nu, va, st, ep, ti, ad, ob, ra, rt, ex, sa, us, tk, v_3, me, dr, se, sn) Φ4 := hI4
    refine z_if_eq (tgt := 27) B dX12_totalMargin_22 rfl (fun c_4 => ?_) (fun h9 => absurd (by decide) h9)
    refine z_dconst0 B dX12_totalMargin_27 ?_
    refine z_dstore_n (lv' := [(2, .double FP.dconst0), (0, .ref x), (1, .int (nI n_3))]) B dX12_totalMargin_28 rfl (Nat.le_of_ble_eq_true rfl) rfl ?_
    refine z_iconst (v := 0) B dX12_totalMargin_29 rfl ?_
    refine z_istore (lv' := [(4, .int 0), (2, .double FP.dconst0), (0, .ref x), (1, .int (nI n_3))]) B dX12_totalMargin_30 (Nat.le_of_ble_eq_true rfl) rfl ?_
    refine z_lv [0, 1, 2, 3] rfl ?_
    refine z_loop (α := Nat × UInt64) (fun (a9 : Nat × UInt64) Φi => Im G x (rd, nw, cr, tp, tt, sI, sT, pt, ql, fl, pe, le, nx, il, qu, kn, ec, nu, va, st, ep, ti, ad, ob, ra, rt, ex, sa, us, tk, v_3, me, dr, se, sn) Φi ∧ Fr x (fun j9 => False) Φ4 Φi ∧ (a9.1 ≤ 24) ∧ (pd64 a9.2) ∧ True) (fun a9 => [(4, .int (nI (a9.1))), (2, .double a9.2), (0, .ref x), (1, .int (nI n_3))]) (fun a9 => 24 - a9.1) ?_ (0, FP.dconst0) ⟨hI4, fun _ _ => rfl, (show 0 ≤ 24 by omega), pd_zero, trivial⟩
    rintro ⟨i_1, i_2⟩ Φl1 ⟨hI5, hF4, b_15, b_16, -⟩ ih1
    replace hI5 : Im G x (rd, nw, cr, tp, tt, sI, sT, pt, ql, fl, pe, le, nx, il, qu, kn, ec, nu, va, st, ep, ti, ad, ob, ra, rt, ex, sa, us, tk, v_3, me, dr, se, sn) Φl1 := hI5
    replace b_15 : i_1 ≤ 24 := b_15
    replace b_16 : pd64 i_2 := b_16
    show Z p9 l e9 _ s9 m9 _ w9 t9 k9 _ G 5 32 [(4, .int (nI i_1)), (2, .double i_2), (0, .ref x), (1, .int (nI n_3))] [] Φl1 _ _ _
    refine z_iload B dX12_totalMargin_32 0 rfl ?_
    refine z_aload_n B dX12_totalMargin_34 rfl 2 rfl ?_
    obtain ⟨n_4, v_4, n_5, h_6, b_29, b_17, b_18, b_19, b_20, b_21, b_22, b_23, b_24, b_25, b_26, b_27, b_28⟩ := im0 hI5
    replace b_17 : 1 ≤ rt := b_17
    replace b_18 : rt ≤ 1024 := b_18
    replace b_19 : fl ≤ 12 := b_19
    replace b_20 : pe ≤ 24 := b_20
    replace b_21 : le ≤ 700 := b_21
    replace b_22 : qu ≤ 12 := b_22
    replace b_23 : n_4 ≤ 8 := b_23
    replace b_24 : n_5 ≤ 24 := b_24
    replace b_25 : tk ≤ 24 := b_25
    replace b_26 : il ≤ 700 := b_26
    replace b_27 : nx ≤ 701 := b_27
    replace b_28 : st ≤ 701 := b_28
    have h_7 : Φl1 x = some (o_ 14 [.int v_3, .ref (x + 1), .ref (x + 2), .int ti, .int ra, .int (nI rt), .int ex, .int ad, .ref (x + 3), .ref (x + 4), .int me, .long se, .ref (x + 5), .int (nI fl), .int dr, .long ob, .long sa, .long sn, .long us, .ref (x + 6), .ref (x + 7), .int (nI pe), .ref (x + 8), .int (nI le), .ref (x + 9), .ref (x + 10), .int (nI qu), .ref (x + 11), .ref (x + 12), .ref (x + 13), .ref (x + 14), .ref (x + 15), .ref (x + 16), .int (nI n_4), .long v_4, .ref (x + 17), .ref (x + 18), .ref (x + 19), .ref (x + 20), .ref (x + 21), .ref (x + 22), .int (nI n_5), .ref (x + 23), .ref (x + 24), .int (nI tk), .ref (x + 25), .int (nI il), .int (nI nx), .int ec, .int ep, .int kn, .int (nI st), .int nu, .long va]) := h_6
    refine z_get (ref := "FlowExporterModel") (C := RX12) (T := TX12) (N := 54) (ci := 14) (v := .int (nI n_5)) B hu_X12_totalMargin_X12 rfl 41 (Nat.le_of_ble_eq_true rfl) hv_X12_totalMargin_148 rfl h_7 rfl dX12_totalMargin_35 ?_
    refine z_icmp_ge (tgt := 61) B dX12_totalMargin_38 rfl (fun c_5 => ?_) (fun c_5 => ?_)
    · have e_1 : n_5 ≤ i_1 := (nI_leI (a := n_5) (b := i_1) (by omega) (by omega)).mp c_5
      refine z_dload_n B dX12_totalMargin_61 rfl 1 rfl ?_
      refine z_callS (As := [.double i_2]) (rest := []) B (r_marginOf G l Φl1 sz x rd nw cr tp tt sI sT pt ql fl pe le nx il qu kn ec nu va st ep ti ad ob ra rt ex sa us tk v_3 me dr se sn i_2 hx hI5 b_16 hnw) (va_cwS 1 B.1.2.2.2.2 gX12_totalMargin_X12_marginOf rfl rfl rfl (by decide +kernel) ⟨Nat.le_of_ble_eq_true rfl, Nat.le_of_ble_eq_true rfl⟩) rfl rfl (Nat.le_of_ble_eq_true rfl) dX12_totalMargin_62 ⟨Nat.le_of_ble_eq_true rfl, Nat.le_of_ble_eq_true rfl⟩ (fun r_4 Φ5 sz4 st4 hp4 hs4 => ?_)
      obtain ⟨⟨v_5, rfl, q_1⟩, hq4, hI6, hF5⟩ := hp4
      subst sz4
      replace hs4 : st4 = [.double v_5] := hs4
      subst st4
      replace hI6 : Im G x (rd, nw, cr, tp, tt, sI, sT, pt, ql, fl, pe, le, nx, il, qu, kn, ec, nu, va, st, ep, ti, ad, ob, ra, rt, ex, sa, us, tk, v_3, me, dr, se, sn) Φ5 := hI6
      exact z_ret_d B dX12_totalMargin_65 ⟨⟨_, rfl, q_1⟩, rfl, ⟨v_3, hI6⟩, (fun b9 h9 => ((hF5 b9 (fun j9 h8 h7 => (show False from h7).elim)).trans ((hF4 b9 (fun j9 h8 h7 => (show False from h7).elim)).trans ((hF3 b9 h9).trans ((hF1 b9 (fun j9 h8 h7 => (show False from h7).elim)).trans ((fset_fr hΦ1 (fun h8 => h9 (0) h8 (show 0 = 0 by decide))).trans rfl))))))⟩
    · have e_2 : ¬ (n_5 ≤ i_1) := fun h9 => c_5 ((nI_leI (a := n_5) (b := i_1) (by omega) (by omega)).mpr h9)
      refine z_dload_n B dX12_totalMargin_41 rfl 1 rfl ?_
      refine z_aload_n B dX12_totalMargin_42 rfl 2 rfl ?_
      refine z_get (ref := "FlowExporterModel") (C := RX12) (T := TX12) (N := 54) (ci := 14) (v := .ref (x + 22)) B hu_X12_totalMargin_X12 rfl 40 (Nat.le_of_ble_eq_true rfl) hv_X12_totalMargin_78 rfl h_7 rfl dX12_totalMargin_43 ?_
      refine z_iconst (v := 2) B dX12_totalMargin_46 rfl ?_
      refine z_iload B dX12_totalMargin_47 0 rfl ?_
      refine z_imul B dX12_totalMargin_49 ?_
      refine z_top (st1 := [.int (nI (2 * i_1)), .ref (x + 22), .double i_2]) (congrArg (fun w9 : Int32 => ([.int w9, .ref (x + 22), .double i_2] : List Value)) (nI_mul 2 i_1)) ?_
      refine z_iload_n B dX12_totalMargin_50 rfl 3 rfl ?_
      refine z_iadd B dX12_totalMargin_51 ?_
      refine z_top (st1 := [.int (nI (2 * i_1 + n_3)), .ref (x + 22), .double i_2]) (congrArg (fun w9 : Int32 => ([.int w9, .ref (x + 22), .double i_2] : List Value)) (nI_add (2 * i_1) n_3)) ?_
      obtain ⟨f_1, h_8, r_5⟩ := imk (k := 22) hI5
      have h_9 : Φl1 (x + 22) = some (ad_ G 48 f_1) := h_8
      refine z_dald B h_9 (vp_in_nI (by omega) (by omega)) dX12_totalMargin_52 ?_
      refine z_fdq (P := fun u9 : UInt64 => pd64 u9) (r_5 _) (fun v_7 q_3 => ?_)
      replace q_3 : pd64 v_7 := q_3
      have q_5 : pd64 (FP.dadd i_2 v_7) := (pd_add b_16 q_3)
      refine z_dadd B dX12_totalMargin_53 (vf_of (pd_nn q_5)) ?_
      refine z_fdq (P := fun u9 : UInt64 => pd64 u9) q_5 (fun v_8 q_7 => ?_)
      replace q_7 : pd64 v_8 := q_7
      refine z_dstore_n (lv' := [(2, .double v_8), (4, .int (nI i_1)), (0, .ref x), (1, .int (nI n_3))]) B dX12_totalMargin_54 rfl (Nat.le_of_ble_eq_true rfl) rfl ?_
      refine z_iinc (k := 1) (v := nI (i_1 + 1)) (lv' := [(4, .int (nI (i_1 + 1))), (2, .double v_8), (0, .ref x), (1, .int (nI n_3))]) B dX12_totalMargin_55 rfl (nI_add i_1 1) (Nat.le_of_ble_eq_true rfl) rfl ?_
      refine z_goto (tgt := 32) B dX12_totalMargin_58 rfl ?_
      refine z_lv [0, 1, 2, 3] rfl ?_
      exact ih1 (i_1 + 1, v_8) Φl1 (show 24 - (i_1 + 1) < 24 - i_1 by omega) ⟨hI5, (fun b9 h9 => ((hF4 b9 (fun j9 h8 h7 => (show False from h7).elim)).trans rfl)), (show (i_1 + 1) ≤ 24 by omega), q_7, trivial⟩

theorem hu_X12_ranked_X12 : ∀ w ∈ u_ws RX12 TX12 54, w ∈ wsX12_ranked := fun _ h => List.mem_cons_of_mem _ (List.mem_append_left _ (List.mem_append_right _ (h)))

theorem hv_X12_ranked_1 : Cond.fieldLink RX12 1 "FlowExporterModel" (TX12 0).2.1 (TX12 0).2.2.1 ∈ wsX12_ranked := List.mem_cons_of_mem _ (List.mem_append_left _ (List.mem_append_left _ (List.mem_of_getElem? (i := 0) rfl)))

theorem hv_X12_ranked_148 : Cond.fieldLink RX12 148 "FlowExporterModel" (TX12 41).2.1 (TX12 41).2.2.1 ∈ wsX12_ranked := List.mem_cons_of_mem _ (List.mem_append_left _ (List.mem_append_left _ (List.mem_of_getElem? (i := 1) rfl)))

theorem hv_X12_ranked_75 : Cond.fieldLink RX12 75 "FlowExporterModel" (TX12 39).2.1 (TX12 39).2.2.1 ∈ wsX12_ranked := List.mem_cons_of_mem _ (List.mem_append_left _ (List.mem_append_left _ (List.mem_of_getElem? (i := 2) rfl)))

set_option maxHeartbeats 4000000 in
set_option maxRecDepth 100000 in
theorem r_ranked (G : EnvG) (l : Launch) (Φ : Hm) (sz x : Nat) (rd : (Nat → Int32) → Prop) (nw : (Nat → Int32) → Prop) (cr : (Nat → Int64) → Prop) (tp : (Nat → Int32) → Prop) (tt : (Nat → Int64) → Prop) (sI : (Nat → Int32) → Prop) (sT : (Nat → Int32) → Prop) (pt : (Nat → Int32) → Prop) (ql : (Nat → Int32) → Prop) (fl : Nat) (pe : Nat) (le : Nat) (nx : Nat) (il : Nat) (qu : Nat) (kn : Int32) (ec : Int32) (nu : Int32) (va : Int64) (st : Nat) (ep : Int32) (ti : Int32) (ad : Int32) (ob : Int64) (ra : Int32) (rt : Nat) (ex : Int32) (sa : Int64) (us : Int64) (tk : Nat) (th : Int32) (me : Int32) (dr : Int32) (se : Int64) (sn : Int64) (a : Int32) (b : Int32) (hx : G.2.2.2 ≤ x) (hI : Im G x (rd, nw, cr, tp, tt, sI, sT, pt, ql, fl, pe, le, nx, il, qu, kn, ec, nu, va, st, ep, ti, ad, ob, ra, rt, ex, sa, us, tk, th, me, dr, se, sn) Φ) (hnw : ∀ f9 : Nat → Int32, nw f9 → NN f9) : Ct G l yX12_ranked wsX12_ranked ({ frames := 2, cells := 0, slots := 0, locals := 45 }) 0 0 [.ref x, .int a, .int b] Φ sz (fun v Φ1 sz1 => (∃ r9 : Int32, v = some (.int r9)) ∧ sz1 = sz ∧ (∃ (th1 : Int32), Im G x (rd, nw, cr, tp, tt, sI, sT, pt, ql, fl, pe, le, nx, il, qu, kn, ec, nu, va, st, ep, ti, ad, ob, ra, rt, ex, sa, us, tk, th1, me, dr, se, sn) Φ1) ∧ Fr x (fun j9 => j9 = 0) Φ Φ1) := by
  refine Ct.of (cc := cX12_ranked) (maxL := 10) (ret := (some .int)) (by decide) rfl (Nat.le_of_ble_eq_true rfl) ?_
  intro p9 e9 s9 m9 w9 t9 k9 B
  show Z p9 l e9 _ s9 m9 _ w9 t9 k9 _ G 10 0 [(0, .ref x), (1, .int a), (2, .int b)] [] Φ sz 0 0
  refine z_aload_n B dX12_ranked_0 rfl 0 rfl ?_
  refine z_iconst (v := 0) B dX12_ranked_1 rfl ?_
  obtain ⟨n_1, v_1, n_2, h_1, b_13, b_1, b_2, b_3, b_4, b_5, b_6, b_7, b_8, b_9, b_10, b_11, b_12⟩ := im0 hI
  replace b_1 : 1 ≤ rt := b_1
  replace b_2 : rt ≤ 1024 := b_2
  replace b_3 : fl ≤ 12 := b_3
  replace b_4 : pe ≤ 24 := b_4
  replace b_5 : le ≤ 700 := b_5
  replace b_6 : qu ≤ 12 := b_6
  replace b_7 : n_1 ≤ 8 := b_7
  replace b_8 : n_2 ≤ 24 := b_8
  replace b_9 : tk ≤ 24 := b_9
  replace b_10 : il ≤ 700 := b_10
  replace b_11 : nx ≤ 701 := b_11
  replace b_12 : st ≤ 701 := b_12
  have h_2 : Φ x = some (o_ 14 [.int th, .ref (x + 1), .ref (x + 2), .int ti, .int ra, .int (nI rt), .int ex, .int ad, .ref (x + 3), .ref (x + 4), .int me, .long se, .ref (x + 5), .int (nI fl), .int dr, .long ob, .long sa, .long sn, .long us, .ref (x + 6), .ref (x + 7), .int (nI pe), .ref (x + 8), .int (nI le), .ref (x + 9), .ref (x + 10), .int (nI qu), .ref (x + 11), .ref (x + 12), .ref (x + 13), .ref (x + 14), .ref (x + 15), .ref (x + 16), .int (nI n_1), .long v_1, .ref (x + 17), .ref (x + 18), .ref (x + 19), .ref (x + 20), .ref (x + 21), .ref (x + 22), .int (nI n_2), .ref (x + 23), .ref (x + 24), .int (nI tk), .ref (x + 25), .int (nI il), .int (nI nx), .int ec, .int ep, .int kn, .int (nI st), .int nu, .long va]) := h_1
  refine z_put (ref := "FlowExporterModel") (C := RX12) (T := TX12) (N := 54) (ci := 14) (v := .int 0) B hu_X12_ranked_X12 tyX12 tyX12_ok nmX12 rfl 0 (Nat.le_of_ble_eq_true rfl) hv_X12_ranked_1 rfl (Or.inl rfl) h_2 hx rfl rfl (Nat.le_of_ble_eq_true rfl) dX12_ranked_2 (fun Φ1 hΦ1 => ?_)
  have h_3 : Φ1 x = some (o_ 14 [.int 0, .ref (x + 1), .ref (x + 2), .int ti, .int ra, .int (nI rt), .int ex, .int ad, .ref (x + 3), .ref (x + 4), .int me, .long se, .ref (x + 5), .int (nI fl), .int dr, .long ob, .long sa, .long sn, .long us, .ref (x + 6), .ref (x + 7), .int (nI pe), .ref (x + 8), .int (nI le), .ref (x + 9), .ref (x + 10), .int (nI qu), .ref (x + 11), .ref (x + 12), .ref (x + 13), .ref (x + 14), .ref (x + 15), .ref (x + 16), .int (nI n_1), .long v_1, .ref (x + 17), .ref (x + 18), .ref (x + 19), .ref (x + 20), .ref (x + 21), .ref (x + 22), .int (nI n_2), .ref (x + 23), .ref (x + 24), .int (nI tk), .ref (x + 25), .int (nI il), .int (nI nx), .int ec, .int ep, .int kn, .int (nI st), .int nu, .long va]) := fset_at hΦ1
  have hI1 : Im G x (rd, nw, cr, tp, tt, sI, sT, pt, ql, fl, pe, le, nx, il, qu, kn, ec, nu, va, st, ep, ti, ad, ob, ra, rt, ex, sa, us, tk, 0, me, dr, se, sn) Φ1 := Im.put0 hI hΦ1 ⟨n_1, v_1, n_2, rfl, b_13, b_1, b_2, b_3, b_4, b_5, b_6, b_7, b_8, b_9, b_10, b_11, b_12⟩
  refine z_aload_n B dX12_ranked_5 rfl 0 rfl ?_
  refine z_iload_n B dX12_ranked_6 rfl 2 rfl ?_
  refine z_callS (As := [.int b]) (rest := [.ref x]) B (r_isWhat G l Φ1 sz x rd nw cr tp tt sI sT pt ql fl pe le nx il qu kn ec nu va st ep ti ad ob ra rt ex sa us tk 0 me dr se sn b hx hI1 hnw) (va_cwS 1 B.1.2.2.2.2 gX12_ranked_X12_isWhat rfl rfl rfl (by decide +kernel) ⟨Nat.le_of_ble_eq_true rfl, Nat.le_of_ble_eq_true rfl⟩) rfl rfl (Nat.le_of_ble_eq_true rfl) dX12_ranked_7 ⟨Nat.le_of_ble_eq_true rfl, Nat.le_of_ble_eq_true rfl⟩ (fun r_1 Φ2 sz1 st1 hp1 hs1 => ?_)
  obtain ⟨ha1, hq1, hI2, hF1⟩ := hp1
  subst sz1
  replace hI2 : Im G x (rd, nw, cr, tp, tt, sI, sT, pt, ql, fl, pe, le, nx, il, qu, kn, ec, nu, va, st, ep, ti, ad, ob, ra, rt, ex, sa, us, tk, 0, me, dr, se, sn) Φ2 := hI2
  rcases ha1 with rfl | ⟨rfl, n_3, b_14, rfl⟩
  · replace hs1 : st1 = [.int 0, .ref x] := hs1
    subst st1
    refine z_if_ne (tgt := 17) B dX12_ranked_10 rfl (fun h9 => absurd (by decide) h9) (fun c_1 => ?_)
    refine z_iconst (v := 1) B dX12_ranked_13 rfl ?_
    refine z_goto (tgt := 18) B dX12_ranked_14 rfl ?_
    refine z_iconst (v := 1) B dX12_ranked_18 rfl ?_
    have h_4 : Φ2 x = some (o_ 14 [.int 0, .ref (x + 1), .ref (x + 2), .int ti, .int ra, .int (nI rt), .int ex, .int ad, .ref (x + 3), .ref (x + 4), .int me, .long se, .ref (x + 5), .int (nI fl), .int dr, .long ob, .long sa, .long sn, .long us, .ref (x + 6), .ref (x + 7), .int (nI pe), .ref (x + 8), .int (nI le), .ref (x + 9), .ref (x + 10), .int (nI qu), .ref (x + 11), .ref (x + 12), .ref (x + 13), .ref (x + 14), .ref (x + 15), .ref (x + 16), .int (nI n_1), .long v_1, .ref (x + 17), .ref (x + 18), .ref (x + 19), .ref (x + 20), .ref (x + 21), .ref (x + 22), .int (nI n_2), .ref (x + 23), .ref (x + 24), .int (nI tk), .ref (x + 25), .int (nI il), .int (nI nx), .int ec, .int ep, .int kn, .int (nI st), .int nu, .long va]) := ((hF1 x (fun j9 h8 h7 => (show False from h7).elim)).trans h_3)
    refine z_callV (As := [.int 1, .int 1]) (rest := []) B (r_throwsIf G l Φ2 sz x rd nw cr tp tt sI sT pt ql fl pe le nx il qu kn ec nu va st ep ti ad ob ra rt ex sa us tk 0 me dr se sn 1 1 hx hI2 (by decide) hnw) (cwV 2 B.1.2.2.2.2 gX12_ranked_X12_throwsIf rfl rfl rfl (by decide +kernel) ⟨Nat.le_of_ble_eq_true rfl, Nat.le_of_ble_eq_true rfl⟩) h_4 rfl rfl rfl rfl (Nat.le_of_ble_eq_true rfl) dX12_ranked_19 ⟨Nat.le_of_ble_eq_true rfl, Nat.le_of_ble_eq_true rfl⟩ (fun r_2 Φ3 sz2 st2 hp2 hs2 => ?_)
    obtain ⟨rfl, hq2, ⟨v_2, hI3⟩, hF2⟩ := hp2
    subst sz2
    replace hs2 : st2 = [.int 1] := hs2
    subst st2
    replace hI3 : Im G x (rd, nw, cr, tp, tt, sI, sT, pt, ql, fl, pe, le, nx, il, qu, kn, ec, nu, va, st, ep, ti, ad, ob, ra, rt, ex, sa, us, tk, v_2, me, dr, se, sn) Φ3 := hI3
    refine z_if_eq (tgt := 27) B dX12_ranked_22 rfl (fun h9 => absurd h9 (by decide)) (fun c_2 => ?_)
    refine z_iconst (v := 0) B dX12_ranked_25 rfl ?_
    exact z_ret_i B dX12_ranked_26 ⟨⟨_, rfl⟩, rfl, ⟨v_2, hI3⟩, (fun b9 h9 => ((hF2 b9 h9).trans ((hF1 b9 (fun j9 h8 h7 => (show False from h7).elim)).trans ((fset_fr hΦ1 (fun h8 => h9 (0) h8 (show 0 = 0 by decide))).trans rfl))))⟩
  · replace hs1 : st1 = [.int 1, .ref x] := hs1
    subst st1
    replace b_14 : n_3 < 2 := b_14
    refine z_if_ne (tgt := 17) B dX12_ranked_10 rfl (fun c_3 => ?_) (fun h9 => absurd h9 (by decide))
    refine z_iconst (v := 0) B dX12_ranked_17 rfl ?_
    refine z_iconst (v := 1) B dX12_ranked_18 rfl ?_
    have h_5 : Φ2 x = some (o_ 14 [.int 0, .ref (x + 1), .ref (x + 2), .int ti, .int ra, .int (nI rt), .int ex, .int ad, .ref (x + 3), .ref (x + 4), .int me, .long se, .ref (x + 5), .int (nI fl), .int dr, .long ob, .long sa, .long sn, .long us, .ref (x + 6), .ref (x + 7), .int (nI pe), .ref (x + 8), .int (nI le), .ref (x + 9), .ref (x + 10), .int (nI qu), .ref (x + 11), .ref (x + 12), .ref (x + 13), .ref (x + 14), .ref (x + 15), .ref (x + 16), .int (nI n_1), .long v_1, .ref (x + 17), .ref (x + 18), .ref (x + 19), .ref (x + 20), .ref (x + 21), .ref (x + 22), .int (nI n_2), .ref (x + 23), .ref (x + 24), .int (nI tk), .ref (x + 25), .int (nI il), .int (nI nx), .int ec, .int ep, .int kn, .int (nI st), .int nu, .long va]) := ((hF1 x (fun j9 h8 h7 => (show False from h7).elim)).trans h_3)
    refine z_callV (As := [.int 0, .int 1]) (rest := []) B (r_throwsIf G l Φ2 sz x rd nw cr tp tt sI sT pt ql fl pe le nx il qu kn ec nu va st ep ti ad ob ra rt ex sa us tk 0 me dr se sn 0 1 hx hI2 (by decide) hnw) (cwV 2 B.1.2.2.2.2 gX12_ranked_X12_throwsIf rfl rfl rfl (by decide +kernel) ⟨Nat.le_of_ble_eq_true rfl, Nat.le_of_ble_eq_true rfl⟩) h_5 rfl rfl rfl rfl (Nat.le_of_ble_eq_true rfl) dX12_ranked_19 ⟨Nat.le_of_ble_eq_true rfl, Nat.le_of_ble_eq_true rfl⟩ (fun r_3 Φ4 sz3 st3 hp3 hs3 => ?_)
    obtain ⟨rfl, hq3, ⟨v_3, hI4⟩, hF3⟩ := hp3
    subst sz3
    replace hs3 : st3 = [.int 0] := hs3
    subst st3
    replace hI4 : Im G x (rd, nw, cr, tp, tt, sI, sT, pt, ql, fl, pe, le, nx, il, qu, kn, ec, nu, va, st, ep, ti, ad, ob, ra, rt, ex, sa, us, tk, v_3, me, dr, se, sn) Φ4 := hI4
    refine z_if_eq (tgt := 27) B dX12_ranked_22 rfl (fun c_4 => ?_) (fun h9 => absurd (by decide) h9)
    refine z_iconst (v := 0) B dX12_ranked_27 rfl ?_
    refine z_istore_n (lv' := [(3, .int 0), (0, .ref x), (1, .int a), (2, .int (nI n_3))]) B dX12_ranked_28 rfl (Nat.le_of_ble_eq_true rfl) rfl ?_
    refine z_lv [0, 1, 2, 3] rfl ?_
    refine z_loop (α := Nat) (fun (a9 : Nat) Φi => Im G x (rd, nw, cr, tp, tt, sI, sT, pt, ql, fl, pe, le, nx, il, qu, kn, ec, nu, va, st, ep, ti, ad, ob, ra, rt, ex, sa, us, tk, v_3, me, dr, se, sn) Φi ∧ Fr x (fun j9 => False) Φ4 Φi ∧ (a9 ≤ 24) ∧ True) (fun a9 => [(3, .int (nI a9)), (0, .ref x), (1, .int a), (2, .int (nI n_3))]) (fun a9 => 24 - a9) ?_ (0) ⟨hI4, fun _ _ => rfl, (show 0 ≤ 24 by omega), trivial⟩
    rintro i_1 Φl1 ⟨hI5, hF4, b_15, -⟩ ih1
    replace hI5 : Im G x (rd, nw, cr, tp, tt, sI, sT, pt, ql, fl, pe, le, nx, il, qu, kn, ec, nu, va, st, ep, ti, ad, ob, ra, rt, ex, sa, us, tk, v_3, me, dr, se, sn) Φl1 := hI5
    replace b_15 : i_1 ≤ 24 := b_15
    show Z p9 l e9 _ s9 m9 _ w9 t9 k9 _ G 10 29 [(3, .int (nI i_1)), (0, .ref x), (1, .int a), (2, .int (nI n_3))] [] Φl1 _ _ _
    refine z_iload_n B dX12_ranked_29 rfl 0 rfl ?_
    refine z_aload_n B dX12_ranked_30 rfl 1 rfl ?_
    obtain ⟨n_4, v_4, n_5, h_6, b_28, b_16, b_17, b_18, b_19, b_20, b_21, b_22, b_23, b_24, b_25, b_26, b_27⟩ := im0 hI5
    replace b_16 : 1 ≤ rt := b_16
    replace b_17 : rt ≤ 1024 := b_17
    replace b_18 : fl ≤ 12 := b_18
    replace b_19 : pe ≤ 24 := b_19
    replace b_20 : le ≤ 700 := b_20
    replace b_21 : qu ≤ 12 := b_21
    replace b_22 : n_4 ≤ 8 := b_22
    replace b_23 : n_5 ≤ 24 := b_23
    replace b_24 : tk ≤ 24 := b_24
    replace b_25 : il ≤ 700 := b_25
    replace b_26 : nx ≤ 701 := b_26
    replace b_27 : st ≤ 701 := b_27
    have h_7 : Φl1 x = some (o_ 14 [.int v_3, .ref (x + 1), .ref (x + 2), .int ti, .int ra, .int (nI rt), .int ex, .int ad, .ref (x + 3), .ref (x + 4), .int me, .long se, .ref (x + 5), .int (nI fl), .int dr, .long ob, .long sa, .long sn, .long us, .ref (x + 6), .ref (x + 7), .int (nI pe), .ref (x + 8), .int (nI le), .ref (x + 9), .ref (x + 10), .int (nI qu), .ref (x + 11), .ref (x + 12), .ref (x + 13), .ref (x + 14), .ref (x + 15), .ref (x + 16), .int (nI n_4), .long v_4, .ref (x + 17), .ref (x + 18), .ref (x + 19), .ref (x + 20), .ref (x + 21), .ref (x + 22), .int (nI n_5), .ref (x + 23), .ref (x + 24), .int (nI tk), .ref (x + 25), .int (nI il), .int (nI nx), .int ec, .int ep, .int kn, .int (nI st), .int nu, .long va]) := h_6
    refine z_get (ref := "FlowExporterModel") (C := RX12) (T := TX12) (N := 54) (ci := 14) (v := .int (nI n_5)) B hu_X12_ranked_X12 rfl 41 (Nat.le_of_ble_eq_true rfl) hv_X12_ranked_148 rfl h_7 rfl dX12_ranked_31 ?_
    refine z_icmp_ge (tgt := 129) B dX12_ranked_34 rfl (fun c_5 => ?_) (fun c_5 => ?_)
    · have e_1 : n_5 ≤ i_1 := (nI_leI (a := n_5) (b := i_1) (by omega) (by omega)).mp c_5
      refine z_iconst (v := (-1)) B dX12_ranked_129 rfl ?_
      exact z_ret_i B dX12_ranked_130 ⟨⟨_, rfl⟩, rfl, ⟨v_3, hI5⟩, (fun b9 h9 => ((hF4 b9 (fun j9 h8 h7 => (show False from h7).elim)).trans ((hF3 b9 h9).trans ((hF1 b9 (fun j9 h8 h7 => (show False from h7).elim)).trans ((fset_fr hΦ1 (fun h8 => h9 (0) h8 (show 0 = 0 by decide))).trans rfl)))))⟩
    · have e_2 : ¬ (n_5 ≤ i_1) := fun h9 => c_5 ((nI_leI (a := n_5) (b := i_1) (by omega) (by omega)).mpr h9)
      refine z_iconst (v := 0) B dX12_ranked_37 rfl ?_
      refine z_istore (lv' := [(4, .int 0), (3, .int (nI i_1)), (0, .ref x), (1, .int a), (2, .int (nI n_3))]) B dX12_ranked_38 (Nat.le_of_ble_eq_true rfl) rfl ?_
      refine z_iconst (v := 0) B dX12_ranked_40 rfl ?_
      refine z_istore (lv' := [(5, .int 0), (4, .int 0), (3, .int (nI i_1)), (0, .ref x), (1, .int a), (2, .int (nI n_3))]) B dX12_ranked_41 (Nat.le_of_ble_eq_true rfl) rfl ?_
      refine z_lv [0, 1, 2, 3, 4, 5] rfl ?_
      refine z_loop (α := Nat × Int32) (fun (a9 : Nat × Int32) Φi => Im G x (rd, nw, cr, tp, tt, sI, sT, pt, ql, fl, pe, le, nx, il, qu, kn, ec, nu, va, st, ep, ti, ad, ob, ra, rt, ex, sa, us, tk, v_3, me, dr, se, sn) Φi ∧ Fr x (fun j9 => False) Φl1 Φi ∧ (a9.1 ≤ 24) ∧ True) (fun a9 => [(5, .int (nI (a9.1))), (4, .int a9.2), (3, .int (nI i_1)), (0, .ref x), (1, .int a), (2, .int (nI n_3))]) (fun a9 => 24 - a9.1) ?_ (0, 0) ⟨hI5, fun _ _ => rfl, (show 0 ≤ 24 by omega), trivial⟩
      rintro ⟨i_2, i_3⟩ Φl2 ⟨hI6, hF5, b_29, -⟩ ih2
      replace hI6 : Im G x (rd, nw, cr, tp, tt, sI, sT, pt, ql, fl, pe, le, nx, il, qu, kn, ec, nu, va, st, ep, ti, ad, ob, ra, rt, ex, sa, us, tk, v_3, me, dr, se, sn) Φl2 := hI6
      replace b_29 : i_2 ≤ 24 := b_29
      show Z p9 l e9 _ s9 m9 _ w9 t9 k9 _ G 10 43 [(5, .int (nI i_2)), (4, .int i_3), (3, .int (nI i_1)), (0, .ref x), (1, .int a), (2, .int (nI n_3))] [] Φl2 _ _ _
      refine z_iload B dX12_ranked_43 0 rfl ?_
      refine z_aload_n B dX12_ranked_45 rfl 3 rfl ?_
      have h_8 : Φl2 x = some (o_ 14 [.int v_3, .ref (x + 1), .ref (x + 2), .int ti, .int ra, .int (nI rt), .int ex, .int ad, .ref (x + 3), .ref (x + 4), .int me, .long se, .ref (x + 5), .int (nI fl), .int dr, .long ob, .long sa, .long sn, .long us, .ref (x + 6), .ref (x + 7), .int (nI pe), .ref (x + 8), .int (nI le), .ref (x + 9), .ref (x + 10), .int (nI qu), .ref (x + 11), .ref (x + 12), .ref (x + 13), .ref (x + 14), .ref (x + 15), .ref (x + 16), .int (nI n_4), .long v_4, .ref (x + 17), .ref (x + 18), .ref (x + 19), .ref (x + 20), .ref (x + 21), .ref (x + 22), .int (nI n_5), .ref (x + 23), .ref (x + 24), .int (nI tk), .ref (x + 25), .int (nI il), .int (nI nx), .int ec, .int ep, .int kn, .int (nI st), .int nu, .long va]) := ((hF5 x (fun j9 h8 h7 => (show False from h7).elim)).trans h_7)
      refine z_get (ref := "FlowExporterModel") (C := RX12) (T := TX12) (N := 54) (ci := 14) (v := .int (nI n_5)) B hu_X12_ranked_X12 rfl 41 (Nat.le_of_ble_eq_true rfl) hv_X12_ranked_148 rfl h_8 rfl dX12_ranked_46 ?_
      refine z_icmp_ge (tgt := 115) B dX12_ranked_49 rfl (fun c_6 => ?_) (fun c_6 => ?_)
      · have e_3 : n_5 ≤ i_2 := (nI_leI (a := n_5) (b := i_2) (by omega) (by omega)).mp c_6
        refine z_iload B dX12_ranked_115 1 rfl ?_
        refine z_iload_n B dX12_ranked_117 rfl 4 rfl ?_
        refine z_icmp_ne (tgt := 123) B dX12_ranked_118 rfl (fun c_7 => ?_) (fun c_7 => ?_)
        · refine z_iinc (k := 2) (v := nI (i_1 + 1)) (lv' := [(3, .int (nI (i_1 + 1))), (5, .int (nI i_2)), (4, .int i_3), (0, .ref x), (1, .int a), (2, .int (nI n_3))]) B dX12_ranked_123 rfl (nI_add i_1 1) (Nat.le_of_ble_eq_true rfl) rfl ?_
          refine z_goto (tgt := 29) B dX12_ranked_126 rfl ?_
          refine z_lv [0, 3, 4, 5] rfl ?_
          exact ih1 (i_1 + 1) Φl2 (show 24 - (i_1 + 1) < 24 - i_1 by omega) ⟨hI6, (fun b9 h9 => ((hF5 b9 (fun j9 h8 h7 => (show False from h7).elim)).trans ((hF4 b9 (fun j9 h8 h7 => (show False from h7).elim)).trans rfl))), (show (i_1 + 1) ≤ 24 by omega), trivial⟩
        · refine z_iload_n B dX12_ranked_121 rfl 2 rfl ?_
          exact z_ret_i B dX12_ranked_122 ⟨⟨_, rfl⟩, rfl, ⟨v_3, hI6⟩, (fun b9 h9 => ((hF5 b9 (fun j9 h8 h7 => (show False from h7).elim)).trans ((hF4 b9 (fun j9 h8 h7 => (show False from h7).elim)).trans ((hF3 b9 h9).trans ((hF1 b9 (fun j9 h8 h7 => (show False from h7).elim)).trans ((fset_fr hΦ1 (fun h8 => h9 (0) h8 (show 0 = 0 by decide))).trans rfl))))))⟩
      · have e_4 : ¬ (n_5 ≤ i_2) := fun h9 => c_6 ((nI_leI (a := n_5) (b := i_2) (by omega) (by omega)).mpr h9)
        refine z_aload_n B dX12_ranked_52 rfl 3 rfl ?_
        refine z_get (ref := "FlowExporterModel") (C := RX12) (T := TX12) (N := 54) (ci := 14) (v := .ref (x + 21)) B hu_X12_ranked_X12 rfl 39 (Nat.le_of_ble_eq_true rfl) hv_X12_ranked_75 rfl h_8 rfl dX12_ranked_53 ?_
        refine z_iconst (v := 2) B dX12_ranked_56 rfl ?_
        refine z_iload B dX12_ranked_57 0 rfl ?_
        refine z_imul B dX12_ranked_59 ?_
        refine z_top (st1 := [.int (nI (2 * i_2)), .ref (x + 21)]) (congrArg (fun w9 : Int32 => ([.int w9, .ref (x + 21)] : List Value)) (nI_mul 2 i_2)) ?_
        refine z_iload_n B dX12_ranked_60 rfl 5 rfl ?_
        refine z_iadd B dX12_ranked_61 ?_
        refine z_top (st1 := [.int (nI (2 * i_2 + n_3)), .ref (x + 21)]) (congrArg (fun w9 : Int32 => ([.int w9, .ref (x + 21)] : List Value)) (nI_add (2 * i_2) n_3)) ?_
        obtain ⟨f_1, h_9⟩ := imk (k := 21) hI6
        have h_10 : Φl2 (x + 21) = some (al_ G 48 f_1) := h_9
        refine z_lald B h_10 (vp_in_nI (by omega) (by omega)) dX12_ranked_62 ?_
        refine z_fl (fun v_5 => ?_)
        refine z_lstore (lv' := [(6, .long v_5), (5, .int (nI i_2)), (4, .int i_3), (3, .int (nI i_1)), (0, .ref x), (1, .int a), (2, .int (nI n_3))]) B dX12_ranked_63 (Nat.le_of_ble_eq_true rfl) rfl ?_
        refine z_aload_n B dX12_ranked_65 rfl 4 rfl ?_
        refine z_get (ref := "FlowExporterModel") (C := RX12) (T := TX12) (N := 54) (ci := 14) (v := .ref (x + 21)) B hu_X12_ranked_X12 rfl 39 (Nat.le_of_ble_eq_true rfl) hv_X12_ranked_75 rfl h_8 rfl dX12_ranked_66 ?_
        refine z_iconst (v := 2) B dX12_ranked_69 rfl ?_
        refine z_iload_n B dX12_ranked_70 rfl 3 rfl ?_
        refine z_imul B dX12_ranked_71 ?_
        refine z_top (st1 := [.int (nI (2 * i_1)), .ref (x + 21)]) (congrArg (fun w9 : Int32 => ([.int w9, .ref (x + 21)] : List Value)) (nI_mul 2 i_1)) ?_
        refine z_iload_n B dX12_ranked_72 rfl 6 rfl ?_
        refine z_iadd B dX12_ranked_73 ?_
        refine z_top (st1 := [.int (nI (2 * i_1 + n_3)), .ref (x + 21)]) (congrArg (fun w9 : Int32 => ([.int w9, .ref (x + 21)] : List Value)) (nI_add (2 * i_1) n_3)) ?_
        refine z_lald B h_10 (vp_in_nI (by omega) (by omega)) dX12_ranked_74 ?_
        refine z_fl (fun v_6 => ?_)
        refine z_lstore (lv' := [(8, .long v_6), (6, .long v_5), (5, .int (nI i_2)), (4, .int i_3), (3, .int (nI i_1)), (0, .ref x), (1, .int a), (2, .int (nI n_3))]) B dX12_ranked_75 (Nat.le_of_ble_eq_true rfl) rfl ?_
        refine z_iload B dX12_ranked_77 3 rfl ?_
        refine z_lload B dX12_ranked_79 1 rfl ?_
        refine z_lload B dX12_ranked_81 0 rfl ?_
        refine z_lcmp B dX12_ranked_83 ?_
        refine z_fi (fun v_7 => ?_)
        refine z_if_gt (tgt := 101) B dX12_ranked_84 rfl (fun c_8 => ?_) (fun c_8 => ?_)
        · obtain ⟨n_6, e_6, e_5, rfl⟩ := nI_ofp (Int32.not_le.mpr c_8)
          refine z_iconst (v := 1) B dX12_ranked_101 rfl ?_
          refine z_goto (tgt := 106) B dX12_ranked_102 rfl ?_
          refine z_iadd B dX12_ranked_106 ?_
          refine z_fi (fun v_8 => ?_)
          refine z_istore (lv' := [(4, .int v_8), (8, .long v_6), (6, .long v_5), (5, .int (nI i_2)), (3, .int (nI i_1)), (0, .ref x), (1, .int a), (2, .int (nI n_3))]) B dX12_ranked_107 (Nat.le_of_ble_eq_true rfl) rfl ?_
          refine z_iinc (k := 3) (v := nI (i_2 + 1)) (lv' := [(5, .int (nI (i_2 + 1))), (4, .int v_8), (8, .long v_6), (6, .long v_5), (3, .int (nI i_1)), (0, .ref x), (1, .int a), (2, .int (nI n_3))]) B dX12_ranked_109 rfl (nI_add i_2 1) (Nat.le_of_ble_eq_true rfl) rfl ?_
          refine z_goto (tgt := 43) B dX12_ranked_112 rfl ?_
          refine z_lv [0, 1, 4, 5, 6, 7] rfl ?_
          exact ih2 (i_2 + 1, v_8) Φl2 (show 24 - (i_2 + 1) < 24 - i_2 by omega) ⟨hI6, (fun b9 h9 => ((hF5 b9 (fun j9 h8 h7 => (show False from h7).elim)).trans rfl)), (show (i_2 + 1) ≤ 24 by omega), trivial⟩
        · refine z_lload B dX12_ranked_87 1 rfl ?_
          refine z_lload B dX12_ranked_89 0 rfl ?_
          refine z_lcmp B dX12_ranked_91 ?_
          refine z_fi (fun v_9 => ?_)
          refine z_if_ne (tgt := 105) B dX12_ranked_92 rfl (fun c_9 => ?_) (fun c_9 => ?_)
          · refine z_iconst (v := 0) B dX12_ranked_105 rfl ?_
            refine z_iadd B dX12_ranked_106 ?_
            refine z_fi (fun v_10 => ?_)
            refine z_istore (lv' := [(4, .int v_10), (8, .long v_6), (6, .long v_5), (5, .int (nI i_2)), (3, .int (nI i_1)), (0, .ref x), (1, .int a), (2, .int (nI n_3))]) B dX12_ranked_107 (Nat.le_of_ble_eq_true rfl) rfl ?_
            refine z_iinc (k := 3) (v := nI (i_2 + 1)) (lv' := [(5, .int (nI (i_2 + 1))), (4, .int v_10), (8, .long v_6), (6, .long v_5), (3, .int (nI i_1)), (0, .ref x), (1, .int a), (2, .int (nI n_3))]) B dX12_ranked_109 rfl (nI_add i_2 1) (Nat.le_of_ble_eq_true rfl) rfl ?_
            refine z_goto (tgt := 43) B dX12_ranked_112 rfl ?_
            refine z_lv [0, 1, 4, 5, 6, 7] rfl ?_
            exact ih2 (i_2 + 1, v_10) Φl2 (show 24 - (i_2 + 1) < 24 - i_2 by omega) ⟨hI6, (fun b9 h9 => ((hF5 b9 (fun j9 h8 h7 => (show False from h7).elim)).trans rfl)), (show (i_2 + 1) ≤ 24 by omega), trivial⟩
          · refine z_iload B dX12_ranked_95 2 rfl ?_
            refine z_iload_n B dX12_ranked_97 rfl 4 rfl ?_
            refine z_icmp_ge (tgt := 105) B dX12_ranked_98 rfl (fun c_10 => ?_) (fun c_10 => ?_)
            · have e_7 : i_1 ≤ i_2 := (nI_leI (a := i_1) (b := i_2) (by omega) (by omega)).mp c_10
              refine z_iconst (v := 0) B dX12_ranked_105 rfl ?_
              refine z_iadd B dX12_ranked_106 ?_
              refine z_fi (fun v_11 => ?_)
              refine z_istore (lv' := [(4, .int v_11), (8, .long v_6), (6, .long v_5), (5, .int (nI i_2)), (3, .int (nI i_1)), (0, .ref x), (1, .int a), (2, .int (nI n_3))]) B dX12_ranked_107 (Nat.le_of_ble_eq_true rfl) rfl ?_
              refine z_iinc (k := 3) (v := nI (i_2 + 1)) (lv' := [(5, .int (nI (i_2 + 1))), (4, .int v_11), (8, .long v_6), (6, .long v_5), (3, .int (nI i_1)), (0, .ref x), (1, .int a), (2, .int (nI n_3))]) B dX12_ranked_109 rfl (nI_add i_2 1) (Nat.le_of_ble_eq_true rfl) rfl ?_
              refine z_goto (tgt := 43) B dX12_ranked_112 rfl ?_
              refine z_lv [0, 1, 4, 5, 6, 7] rfl ?_
              exact ih2 (i_2 + 1, v_11) Φl2 (show 24 - (i_2 + 1) < 24 - i_2 by omega) ⟨hI6, (fun b9 h9 => ((hF5 b9 (fun j9 h8 h7 => (show False from h7).elim)).trans rfl)), (show (i_2 + 1) ≤ 24 by omega), trivial⟩
            · have e_8 : ¬ (i_1 ≤ i_2) := fun h9 => c_10 ((nI_leI (a := i_1) (b := i_2) (by omega) (by omega)).mpr h9)
              refine z_iconst (v := 1) B dX12_ranked_101 rfl ?_
              refine z_goto (tgt := 106) B dX12_ranked_102 rfl ?_
              refine z_iadd B dX12_ranked_106 ?_
              refine z_fi (fun v_12 => ?_)
              refine z_istore (lv' := [(4, .int v_12), (8, .long v_6), (6, .long v_5), (5, .int (nI i_2)), (3, .int (nI i_1)), (0, .ref x), (1, .int a), (2, .int (nI n_3))]) B dX12_ranked_107 (Nat.le_of_ble_eq_true rfl) rfl ?_
              refine z_iinc (k := 3) (v := nI (i_2 + 1)) (lv' := [(5, .int (nI (i_2 + 1))), (4, .int v_12), (8, .long v_6), (6, .long v_5), (3, .int (nI i_1)), (0, .ref x), (1, .int a), (2, .int (nI n_3))]) B dX12_ranked_109 rfl (nI_add i_2 1) (Nat.le_of_ble_eq_true rfl) rfl ?_
              refine z_goto (tgt := 43) B dX12_ranked_112 rfl ?_
              refine z_lv [0, 1, 4, 5, 6, 7] rfl ?_
              exact ih2 (i_2 + 1, v_12) Φl2 (show 24 - (i_2 + 1) < 24 - i_2 by omega) ⟨hI6, (fun b9 h9 => ((hF5 b9 (fun j9 h8 h7 => (show False from h7).elim)).trans rfl)), (show (i_2 + 1) ≤ 24 by omega), trivial⟩

theorem hu_X12_appendBytes_X12 : ∀ w ∈ u_ws RX12 TX12 54, w ∈ wsX12_appendBytes := fun _ h => List.mem_cons_of_mem _ (List.mem_append_left _ (List.mem_append_right _ (h)))

theorem hv_X12_appendBytes_88 : Cond.fieldLink RX12 88 "FlowExporterModel" (TX12 45).2.1 (TX12 45).2.2.1 ∈ wsX12_appendBytes := List.mem_cons_of_mem _ (List.mem_append_left _ (List.mem_append_left _ (List.mem_of_getElem? (i := 0) rfl)))

theorem hv_X12_appendBytes_441 : Cond.fieldLink RX12 441 "FlowExporterModel" (TX12 46).2.1 (TX12 46).2.2.1 ∈ wsX12_appendBytes := List.mem_cons_of_mem _ (List.mem_append_left _ (List.mem_append_left _ (List.mem_of_getElem? (i := 1) rfl)))

set_option maxHeartbeats 4000000 in
set_option maxRecDepth 100000 in
theorem r_appendBytes (G : EnvG) (l : Launch) (Φ : Hm) (sz x : Nat) (rd : (Nat → Int32) → Prop) (nw : (Nat → Int32) → Prop) (cr : (Nat → Int64) → Prop) (tp : (Nat → Int32) → Prop) (tt : (Nat → Int64) → Prop) (sI : (Nat → Int32) → Prop) (sT : (Nat → Int32) → Prop) (pt : (Nat → Int32) → Prop) (ql : (Nat → Int32) → Prop) (fl : Nat) (pe : Nat) (le : Nat) (nx : Nat) (il : Nat) (qu : Nat) (kn : Int32) (ec : Int32) (nu : Int32) (va : Int64) (st : Nat) (ep : Int32) (ti : Int32) (ad : Int32) (ob : Int64) (ra : Int32) (rt : Nat) (ex : Int32) (sa : Int64) (us : Int64) (tk : Nat) (th : Int32) (me : Int32) (dr : Int32) (se : Int64) (sn : Int64) (a : Int32) (hx : G.2.2.2 ≤ x) (hI : Im G x (rd, nw, cr, tp, tt, sI, sT, pt, ql, fl, pe, le, nx, il, qu, kn, ec, nu, va, st, ep, ti, ad, ob, ra, rt, ex, sa, us, tk, th, me, dr, se, sn) Φ) (hl : il + 4 ≤ 700) (hnw : ∀ f9 : Nat → Int32, nw f9 → NN f9) : Ct G l yX12_appendBytes wsX12_appendBytes ({ frames := 0, cells := 0, slots := 0, locals := 0 }) 0 0 [.ref x, .int a] Φ sz (fun v Φ1 sz1 => (v = none) ∧ sz1 = sz ∧ (∃ (il1 : Nat), (il1 = il + 4) ∧ Im G x (rd, nw, cr, tp, tt, sI, sT, pt, ql, fl, pe, le, nx, il1, qu, kn, ec, nu, va, st, ep, ti, ad, ob, ra, rt, ex, sa, us, tk, th, me, dr, se, sn) Φ1) ∧ Fr x (fun j9 => j9 = 0 ∨ j9 = 25) Φ Φ1) := by
  refine Ct.of (cc := cX12_appendBytes) (maxL := 3) (ret := none) (by decide) rfl (Nat.le_of_ble_eq_true rfl) ?_
  intro p9 e9 s9 m9 w9 t9 k9 B
  show Z p9 l e9 _ s9 m9 _ w9 t9 k9 _ G 3 0 [(0, .ref x), (1, .int a)] [] Φ sz 0 0
  refine z_bipush (v := 24) B dX12_appendBytes_0 rfl ?_
  refine z_istore_n (lv' := [(2, .int 24), (0, .ref x), (1, .int a)]) B dX12_appendBytes_2 rfl (Nat.le_of_ble_eq_true rfl) rfl ?_
  refine z_lv (lv' := [(2, .int (nI (8 * 4) - 8)), (0, .ref x), (1, .int a)]) [0, 1, 2] (by rw [show nI (8 * 4) - 8 = (24 : Int32) by decide]; first | done | rfl) ?_
  refine z_loop (α := Nat × Nat) (fun (a9 : Nat × Nat) Φi => Im G x (rd, nw, cr, tp, tt, sI, sT, pt, ql, fl, pe, le, nx, a9.2, qu, kn, ec, nu, va, st, ep, ti, ad, ob, ra, rt, ex, sa, us, tk, th, me, dr, se, sn) Φi ∧ Fr x (fun j9 => j9 = 0 ∨ j9 = 25) Φ Φi ∧ (a9.1 ≤ 4) ∧ (a9.2 + a9.1 = il + 4) ∧ True) (fun a9 => [(2, .int (nI (8 * (a9.1)) - 8)), (0, .ref x), (1, .int a)]) (fun a9 => a9.1) ?_ (4, il) ⟨hI, fun _ _ => rfl, (show 4 ≤ 4 by omega), (show il + 4 = il + 4 by omega), trivial⟩
  rintro ⟨i_1, i_2⟩ Φl1 ⟨hI1, hF1, b_1, b_2, -⟩ ih1
  replace hI1 : Im G x (rd, nw, cr, tp, tt, sI, sT, pt, ql, fl, pe, le, nx, i_2, qu, kn, ec, nu, va, st, ep, ti, ad, ob, ra, rt, ex, sa, us, tk, th, me, dr, se, sn) Φl1 := hI1
  replace b_1 : i_1 ≤ 4 := b_1
  replace b_2 : i_2 + i_1 = il + 4 := b_2
  show Z p9 l e9 _ s9 m9 _ w9 t9 k9 _ G 3 3 [(2, .int (nI (8 * i_1) - 8)), (0, .ref x), (1, .int a)] [] Φl1 _ _ _
  refine z_iload_n B dX12_appendBytes_3 rfl 0 rfl ?_
  refine z_if_lt (tgt := 36) B dX12_appendBytes_4 rfl (fun c_1 => ?_) (fun c_1 => ?_)
  · have e_1 : i_1 = 0 := (m8_lt (j := i_1) (by omega)).1 c_1
    exact z_ret_v B dX12_appendBytes_36 ⟨rfl, rfl, ⟨i_2, (show i_2 = il + 4 by omega), hI1⟩, (fun b9 h9 => ((hF1 b9 h9).trans rfl))⟩
  · have e_2 : 1 ≤ i_1 := (m8_lt (j := i_1) (by omega)).2 c_1
    refine z_aload_n B dX12_appendBytes_7 rfl 1 rfl ?_
    obtain ⟨n_1, v_1, n_2, h_1, b_15, b_3, b_4, b_5, b_6, b_7, b_8, b_9, b_10, b_11, b_12, b_13, b_14⟩ := im0 hI1
    replace b_3 : 1 ≤ rt := b_3
    replace b_4 : rt ≤ 1024 := b_4
    replace b_5 : fl ≤ 12 := b_5
    replace b_6 : pe ≤ 24 := b_6
    replace b_7 : le ≤ 700 := b_7
    replace b_8 : qu ≤ 12 := b_8
    replace b_9 : n_1 ≤ 8 := b_9
    replace b_10 : n_2 ≤ 24 := b_10
    replace b_11 : tk ≤ 24 := b_11
    replace b_12 : i_2 ≤ 700 := b_12
    replace b_13 : nx ≤ 701 := b_13
    replace b_14 : st ≤ 701 := b_14
    have h_2 : Φl1 x = some (o_ 14 [.int th, .ref (x + 1), .ref (x + 2), .int ti, .int ra, .int (nI rt), .int ex, .int ad, .ref (x + 3), .ref (x + 4), .int me, .long se, .ref (x + 5), .int (nI fl), .int dr, .long ob, .long sa, .long sn, .long us, .ref (x + 6), .ref (x + 7), .int (nI pe), .ref (x + 8), .int (nI le), .ref (x + 9), .ref (x + 10), .int (nI qu), .ref (x + 11), .ref (x + 12), .ref (x + 13), .ref (x + 14), .ref (x + 15), .ref (x + 16), .int (nI n_1), .long v_1, .ref (x + 17), .ref (x + 18), .ref (x + 19), .ref (x + 20), .ref (x + 21), .ref (x + 22), .int (nI n_2), .ref (x + 23), .ref (x + 24), .int (nI tk), .ref (x + 25), .int (nI i_2), .int (nI nx), .int ec, .int ep, .int kn, .int (nI st), .int nu, .long va]) := h_1
    refine z_get (ref := "FlowExporterModel") (C := RX12) (T := TX12) (N := 54) (ci := 14) (v := .ref (x + 25)) B hu_X12_appendBytes_X12 rfl 45 (Nat.le_of_ble_eq_true rfl) hv_X12_appendBytes_88 rfl h_2 rfl dX12_appendBytes_8 ?_
    refine z_aload_n B dX12_appendBytes_11 rfl 1 rfl ?_
    refine z_get (ref := "FlowExporterModel") (C := RX12) (T := TX12) (N := 54) (ci := 14) (v := .int (nI i_2)) B hu_X12_appendBytes_X12 rfl 46 (Nat.le_of_ble_eq_true rfl) hv_X12_appendBytes_441 rfl h_2 rfl dX12_appendBytes_12 ?_
    refine z_iload_n B dX12_appendBytes_15 rfl 2 rfl ?_
    refine z_iload_n B dX12_appendBytes_16 rfl 0 rfl ?_
    refine z_ishr B dX12_appendBytes_17 ?_
    refine z_fi (fun v_2 => ?_)
    refine z_i2b (v := v_2.toInt8.toInt32) B dX12_appendBytes_18 rfl ?_
    refine z_fi (fun v_3 => ?_)
    obtain ⟨f_1, h_3, r_1⟩ := imk (k := 25) hI1
    have h_4 : Φl1 (x + 25) = some (ab_ G 700 f_1) := h_3
    refine z_bast B h_4 (Nat.le_trans hx (Nat.le_add_right x 25)) (vp_in_nI (by omega) (by omega)) dX12_appendBytes_19 (fun Φ1 hΦ1 => ?_)
    have h_5 : Φ1 (x + 25) = some (ab_ G 700 (upd f_1 (nI i_2).toNatClampNeg (vp_nar .byte v_3))) := fset_at hΦ1
    have hI2 : Im G x (rd, nw, cr, tp, tt, sI, sT, pt, ql, fl, pe, le, nx, i_2, qu, kn, ec, nu, va, st, ep, ti, ad, ob, ra, rt, ex, sa, us, tk, th, me, dr, se, sn) Φ1 := Im.put (k := 25) hI1 hΦ1 ⟨_, rfl, upd_fit r_1⟩
    refine z_aload_n B dX12_appendBytes_20 rfl 1 rfl ?_
    refine z_dup B dX12_appendBytes_21 rfl ?_
    have h_6 : Φ1 x = some (o_ 14 [.int th, .ref (x + 1), .ref (x + 2), .int ti, .int ra, .int (nI rt), .int ex, .int ad, .ref (x + 3), .ref (x + 4), .int me, .long se, .ref (x + 5), .int (nI fl), .int dr, .long ob, .long sa, .long sn, .long us, .ref (x + 6), .ref (x + 7), .int (nI pe), .ref (x + 8), .int (nI le), .ref (x + 9), .ref (x + 10), .int (nI qu), .ref (x + 11), .ref (x + 12), .ref (x + 13), .ref (x + 14), .ref (x + 15), .ref (x + 16), .int (nI n_1), .long v_1, .ref (x + 17), .ref (x + 18), .ref (x + 19), .ref (x + 20), .ref (x + 21), .ref (x + 22), .int (nI n_2), .ref (x + 23), .ref (x + 24), .int (nI tk), .ref (x + 25), .int (nI i_2), .int (nI nx), .int ec, .int ep, .int kn, .int (nI st), .int nu, .long va]) := ((fset_fr hΦ1 (ne_off (x := x) (i := 0) (j := 25) rfl)).trans h_2)
    refine z_get (ref := "FlowExporterModel") (C := RX12) (T := TX12) (N := 54) (ci := 14) (v := .int (nI i_2)) B hu_X12_appendBytes_X12 rfl 46 (Nat.le_of_ble_eq_true rfl) hv_X12_appendBytes_441 rfl h_6 rfl dX12_appendBytes_22 ?_
    refine z_iconst (v := 1) B dX12_appendBytes_25 rfl ?_
    refine z_iadd B dX12_appendBytes_26 ?_
    refine z_top (st1 := [.int (nI (i_2 + 1)), .ref x]) (congrArg (fun w9 : Int32 => ([.int w9, .ref x] : List Value)) (nI_add i_2 1)) ?_
    refine z_put (ref := "FlowExporterModel") (C := RX12) (T := TX12) (N := 54) (ci := 14) (v := .int (nI (i_2 + 1))) B hu_X12_appendBytes_X12 tyX12 tyX12_ok nmX12 rfl 46 (Nat.le_of_ble_eq_true rfl) hv_X12_appendBytes_441 rfl (Or.inl rfl) h_6 hx rfl rfl (Nat.le_of_ble_eq_true rfl) dX12_appendBytes_27 (fun Φ2 hΦ2 => ?_)
    have h_7 : Φ2 x = some (o_ 14 [.int th, .ref (x + 1), .ref (x + 2), .int ti, .int ra, .int (nI rt), .int ex, .int ad, .ref (x + 3), .ref (x + 4), .int me, .long se, .ref (x + 5), .int (nI fl), .int dr, .long ob, .long sa, .long sn, .long us, .ref (x + 6), .ref (x + 7), .int (nI pe), .ref (x + 8), .int (nI le), .ref (x + 9), .ref (x + 10), .int (nI qu), .ref (x + 11), .ref (x + 12), .ref (x + 13), .ref (x + 14), .ref (x + 15), .ref (x + 16), .int (nI n_1), .long v_1, .ref (x + 17), .ref (x + 18), .ref (x + 19), .ref (x + 20), .ref (x + 21), .ref (x + 22), .int (nI n_2), .ref (x + 23), .ref (x + 24), .int (nI tk), .ref (x + 25), .int (nI (i_2 + 1)), .int (nI nx), .int ec, .int ep, .int kn, .int (nI st), .int nu, .long va]) := fset_at hΦ2
    have hI3 : Im G x (rd, nw, cr, tp, tt, sI, sT, pt, ql, fl, pe, le, nx, i_2 + 1, qu, kn, ec, nu, va, st, ep, ti, ad, ob, ra, rt, ex, sa, us, tk, th, me, dr, se, sn) Φ2 := Im.put0 hI2 hΦ2 ⟨n_1, v_1, n_2, rfl, b_15, b_3, b_4, b_5, b_6, b_7, b_8, b_9, b_10, b_11, (show (i_2 + 1) ≤ 700 by omega), b_13, b_14⟩
    refine z_iinc (k := 0) (v := nI (8 * (i_1 - 1)) - 8) (lv' := [(2, .int (nI (8 * (i_1 - 1)) - 8)), (0, .ref x), (1, .int a)]) B dX12_appendBytes_30 rfl (m8_dec (show 1 ≤ i_1 by omega)) (Nat.le_of_ble_eq_true rfl) rfl ?_
    refine z_goto (tgt := 3) B dX12_appendBytes_33 rfl ?_
    refine z_lv [0, 1, 2] rfl ?_
    exact ih1 (i_1 - 1, i_2 + 1) Φ2 (show (i_1 - 1) < i_1 by omega) ⟨hI3, (fun b9 h9 => ((fset_fr hΦ2 (fun h8 => h9 (0) h8 (show 0 = 0 ∨ 0 = 25 by decide))).trans ((fset_fr hΦ1 (fun h8 => h9 (25) h8 (show 25 = 0 ∨ 25 = 25 by decide))).trans ((hF1 b9 h9).trans rfl)))), (show (i_1 - 1) ≤ 4 by omega), (show (i_2 + 1) + (i_1 - 1) = il + 4 by omega), trivial⟩

theorem hu_X12_appendInput_X12 : ∀ w ∈ u_ws RX12 TX12 54, w ∈ wsX12_appendInput := fun _ h => List.mem_cons_of_mem _ (List.mem_append_left _ (List.mem_append_right _ (h)))

theorem hv_X12_appendInput_1 : Cond.fieldLink RX12 1 "FlowExporterModel" (TX12 0).2.1 (TX12 0).2.2.1 ∈ wsX12_appendInput := List.mem_cons_of_mem _ (List.mem_append_left _ (List.mem_append_left _ (List.mem_of_getElem? (i := 0) rfl)))

theorem hv_X12_appendInput_441 : Cond.fieldLink RX12 441 "FlowExporterModel" (TX12 46).2.1 (TX12 46).2.2.1 ∈ wsX12_appendInput := List.mem_cons_of_mem _ (List.mem_append_left _ (List.mem_append_left _ (List.mem_of_getElem? (i := 1) rfl)))

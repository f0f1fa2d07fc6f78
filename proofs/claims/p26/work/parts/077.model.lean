set_option maxRecDepth 20000 in
theorem ggX12_advance_X12_inRange : GoodIn wsX12_advance wsX12_inRange := (goodIn_r _ [8] rfl (by decide +kernel))
set_option maxRecDepth 20000 in
theorem gX12_advance_X12_inRange : GoodIn wsX12_advance (va_wsS RX12 169 yX12_inRange wsX12_inRange) := goodIn_app (goodIn_m (mem_cA (List.mem_cons_of_mem _ (List.mem_append_left _ (List.mem_append_left _ (List.mem_append_left _ (List.mem_of_getElem? (i := 4) rfl))))) (mem_cA (List.mem_cons_of_mem _ (List.mem_append_left _ (List.mem_append_left _ (List.mem_append_left _ (List.mem_of_getElem? (i := 5) rfl))))) (mem_cA (List.mem_cons_of_mem _ (List.mem_append_left _ (List.mem_append_left _ (List.mem_append_left _ (List.mem_of_getElem? (i := 6) rfl))))) mem_cZ))) (by decide +kernel)) ggX12_advance_X12_inRange
set_option maxRecDepth 20000 in
theorem ggX12_advance_X12_throwsIf : GoodIn wsX12_advance wsX12_throwsIf := (goodIn_ca (goodIn_r _ [12, 1] rfl (by decide +kernel)) (goodIn_sub (fun _ h => List.mem_cons_of_mem _ (List.mem_append_left _ (List.mem_append_right _ h))) gw_wsX120))
set_option maxRecDepth 20000 in
theorem gX12_advance_X12_throwsIf : GoodIn wsX12_advance (wsV RX12 185 RX12 yX12_throwsIf wsX12_throwsIf) := goodIn_app (goodIn_m (mem_cA (List.mem_cons_of_mem _ (List.mem_append_left _ (List.mem_append_left _ (List.mem_append_left _ (List.mem_of_getElem? (i := 8) rfl))))) (mem_cA (List.mem_cons_of_mem _ (List.mem_append_left _ (List.mem_append_left _ (List.mem_append_left _ (List.mem_of_getElem? (i := 9) rfl))))) (mem_cA (List.mem_cons_of_mem _ (List.mem_append_left _ (List.mem_append_left _ (List.mem_append_left _ (List.mem_of_getElem? (i := 10) rfl))))) (mem_cA (List.mem_cons_of_mem _ (List.mem_append_left _ (List.mem_append_left _ (List.mem_append_left _ (List.mem_of_getElem? (i := 6) rfl))))) mem_cZ)))) (by decide +kernel)) ggX12_advance_X12_throwsIf
set_option maxRecDepth 20000 in
theorem ggX12_advance_X12_tick : GoodIn wsX12_advance wsX12_tick := goodIn_ca ((goodIn_ca (goodIn_r _ [16, 3, 17, 18, 19, 20, 7, 21, 22, 23, 24, 25, 26, 27, 28, 29, 30, 31, 32, 33, 34, 35, 36, 37, 38, 39, 40, 41, 42, 43, 44, 45, 46, 47, 48, 49, 50, 51, 52, 53, 54, 55, 56, 57, 58, 59, 60, 61, 62, 63, 64, 65, 66, 67, 68, 69, 70, 71, 72, 73, 74, 75, 76, 77, 78, 79, 80, 81, 82, 83, 84, 85, 86, 87, 88, 89, 90, 91, 92, 93, 94, 95, 96, 97, 98, 99, 100, 101, 102, 103, 104, 105, 106, 107, 108, 109, 110, 111, 112, 113, 114, 115, 116, 117, 118, 119, 120, 121, 122, 123, 124, 125, 126, 127, 128, 129, 130, 131, 132, 133, 134, 135, 136, 137, 138, 139, 140, 141, 142, 143] rfl (by decide +kernel)) (goodIn_sub (fun _ h => List.mem_cons_of_mem _ (List.mem_append_left _ (List.mem_append_right _ h))) gw_wsX120))) (goodIn_sub (fun _ h => List.mem_cons_of_mem _ (List.mem_append_right _ h)) (all_fg _))
set_option maxRecDepth 20000 in
theorem gX12_advance_X12_tick : GoodIn wsX12_advance (wsV RX12 277 RX12 yX12_tick wsX12_tick) := goodIn_app (goodIn_m (mem_cA (List.mem_cons_of_mem _ (List.mem_append_left _ (List.mem_append_left _ (List.mem_append_left _ (List.mem_of_getElem? (i := 12) rfl))))) (mem_cA (List.mem_cons_of_mem _ (List.mem_append_left _ (List.mem_append_left _ (List.mem_append_left _ (List.mem_of_getElem? (i := 13) rfl))))) (mem_cA (List.mem_cons_of_mem _ (List.mem_append_left _ (List.mem_append_left _ (List.mem_append_left _ (List.mem_of_getElem? (i := 14) rfl))))) (mem_cA (List.mem_cons_of_mem _ (List.mem_append_left _ (List.mem_append_left _ (List.mem_append_left _ (List.mem_of_getElem? (i := 6) rfl))))) mem_cZ)))) (by decide +kernel)) ggX12_advance_X12_tick
theorem dX12_advance_0 : decode cX12_advance 0 = .ok (.aload_n 0, 1) := by decide +kernel
theorem dX12_advance_1 : decode cX12_advance 1 = .ok (.iconst 0, 1) := by decide +kernel
theorem dX12_advance_2 : decode cX12_advance 2 = .ok (.putfield 1, 3) := by decide +kernel
theorem dX12_advance_5 : decode cX12_advance 5 = .ok (.aload_n 0, 1) := by decide +kernel
theorem dX12_advance_6 : decode cX12_advance 6 = .ok (.iload_n 1, 1) := by decide +kernel
theorem dX12_advance_7 : decode cX12_advance 7 = .ok (.i2l, 1) := by decide +kernel
theorem dX12_advance_8 : decode cX12_advance 8 = .ok (.lconst 1, 1) := by decide +kernel
theorem dX12_advance_9 : decode cX12_advance 9 = .ok (.ldc2_w 274, 3) := by decide +kernel
theorem dX12_advance_12 : decode cX12_advance 12 = .ok (.invokestatic 169, 3) := by decide +kernel
theorem dX12_advance_15 : decode cX12_advance 15 = .ok (.ifCond .ne 7, 3) := by decide +kernel
theorem dX12_advance_18 : decode cX12_advance 18 = .ok (.iconst 1, 1) := by decide +kernel
theorem dX12_advance_19 : decode cX12_advance 19 = .ok (.goto 4, 3) := by decide +kernel
theorem dX12_advance_22 : decode cX12_advance 22 = .ok (.iconst 0, 1) := by decide +kernel
theorem dX12_advance_23 : decode cX12_advance 23 = .ok (.iconst 1, 1) := by decide +kernel
theorem dX12_advance_24 : decode cX12_advance 24 = .ok (.invokevirtual 185, 3) := by decide +kernel
theorem dX12_advance_27 : decode cX12_advance 27 = .ok (.ifCond .ne 28, 3) := by decide +kernel
theorem dX12_advance_30 : decode cX12_advance 30 = .ok (.aload_n 0, 1) := by decide +kernel
theorem dX12_advance_31 : decode cX12_advance 31 = .ok (.aload_n 0, 1) := by decide +kernel
theorem dX12_advance_32 : decode cX12_advance 32 = .ok (.getfield 101, 3) := by decide +kernel
theorem dX12_advance_35 : decode cX12_advance 35 = .ok (.iload_n 1, 1) := by decide +kernel
theorem dX12_advance_36 : decode cX12_advance 36 = .ok (.iadd, 1) := by decide +kernel
theorem dX12_advance_37 : decode cX12_advance 37 = .ok (.ldc_w 276, 3) := by decide +kernel
theorem dX12_advance_40 : decode cX12_advance 40 = .ok (.if_icmp .le 7, 3) := by decide +kernel
theorem dX12_advance_43 : decode cX12_advance 43 = .ok (.iconst 1, 1) := by decide +kernel
theorem dX12_advance_44 : decode cX12_advance 44 = .ok (.goto 4, 3) := by decide +kernel
theorem dX12_advance_47 : decode cX12_advance 47 = .ok (.iconst 0, 1) := by decide +kernel
theorem dX12_advance_48 : decode cX12_advance 48 = .ok (.iconst 2, 1) := by decide +kernel
theorem dX12_advance_49 : decode cX12_advance 49 = .ok (.invokevirtual 185, 3) := by decide +kernel
theorem dX12_advance_52 : decode cX12_advance 52 = .ok (.ifCond .eq 5, 3) := by decide +kernel
theorem dX12_advance_55 : decode cX12_advance 55 = .ok (.iconst 0, 1) := by decide +kernel
theorem dX12_advance_56 : decode cX12_advance 56 = .ok (.ireturn, 1) := by decide +kernel
theorem dX12_advance_57 : decode cX12_advance 57 = .ok (.iconst 0, 1) := by decide +kernel
theorem dX12_advance_58 : decode cX12_advance 58 = .ok (.istore_n 2, 1) := by decide +kernel
theorem dX12_advance_59 : decode cX12_advance 59 = .ok (.iconst 0, 1) := by decide +kernel
theorem dX12_advance_60 : decode cX12_advance 60 = .ok (.istore_n 3, 1) := by decide +kernel
theorem dX12_advance_61 : decode cX12_advance 61 = .ok (.iload_n 3, 1) := by decide +kernel
theorem dX12_advance_62 : decode cX12_advance 62 = .ok (.iload_n 1, 1) := by decide +kernel
theorem dX12_advance_63 : decode cX12_advance 63 = .ok (.if_icmp .ge 16, 3) := by decide +kernel
theorem dX12_advance_66 : decode cX12_advance 66 = .ok (.iload_n 2, 1) := by decide +kernel
theorem dX12_advance_67 : decode cX12_advance 67 = .ok (.aload_n 0, 1) := by decide +kernel
theorem dX12_advance_68 : decode cX12_advance 68 = .ok (.invokevirtual 277, 3) := by decide +kernel
theorem dX12_advance_71 : decode cX12_advance 71 = .ok (.iadd, 1) := by decide +kernel
theorem dX12_advance_72 : decode cX12_advance 72 = .ok (.istore_n 2, 1) := by decide +kernel
theorem dX12_advance_73 : decode cX12_advance 73 = .ok (.iinc 3 1, 3) := by decide +kernel
theorem dX12_advance_76 : decode cX12_advance 76 = .ok (.goto (-15), 3) := by decide +kernel
theorem dX12_advance_79 : decode cX12_advance 79 = .ok (.iload_n 2, 1) := by decide +kernel
theorem dX12_advance_80 : decode cX12_advance 80 = .ok (.ireturn, 1) := by decide +kernel
set_option maxHeartbeats 4000000 in
set_option maxRecDepth 100000 in
theorem r_advance (G : EnvG) (l : Launch) (Φ : Hm) (sz x : Nat) (rd : (Nat → Int32) → Prop) (tp : (Nat → Int32) → Prop) (tt : (Nat → Int64) → Prop) (fl : Nat) (le : Nat) (nx : Nat) (il : Nat) (qu : Nat) (kn : Int32) (ec : Int32) (nu : Int32) (va : Int64) (st : Nat) (ep : Int32) (ad : Int32) (ob : Int64) (ra : Int32) (rt : Nat) (ex : Int32) (sa : Int64) (us : Int64) (tk : Nat) (th : Int32) (me : Int32) (dr : Int32) (se : Int64) (sn : Int64) (c : Cf) (Fs : Nat → Fl) (tm : Nat) (fa : Nat → Int32) (fb : Nat → Int32) (L : Nat → Nat) (sq : Int32) (a : Int32) (hx : G.2.2.2 ≤ x) (hI : Im G x (rd, (NNq c), (CaQ fl Fs), tp, tt, (SiQ fa), (AtQ fb), (PtQ 0 (fun _ => 0)), (QlQ qu L), fl, 0, le, nx, il, qu, kn, ec, nu, va, st, ep, (nI tm), ad, ob, ra, rt, ex, sa, us, tk, th, me, dr, se, sn) Φ) (htm : tm ≤ 1000000) (hcw : CfW c) (hg : CfG c) (hcr : CfR c) (hse : se = sq.toInt64 &&& 4294967295) : Ct G l yX12_advance wsX12_advance ({ frames := 9, cells := 0, slots := 0, locals := 197 }) 0 0 [.ref x, .int a] Φ sz (fun v Φ1 sz1 => (∃ r9 : Int32, v = some (.int r9)) ∧ sz1 = sz ∧ (∃ (us1 : Int64) (fl1 : Nat) (ex1 : Int32) (F1 : Nat → Fl) (fa1 : Nat → Int32) (fb1 : Nat → Int32) (L1 : Nat → Nat) (me1 : Int32) (dr1 : Int32) (se1 : Int64) (sn1 : Int64) (sq1 : Int32) (le1 : Nat) (qu1 : Nat) (rt1 : Nat) (ti1 : Int32) (k1 : Nat) (th1 : Int32) (pt1 : (Nat → Int32) → Prop), (fl1 ≤ 12) ∧ (((Av1 a ∧ Av2 tm a) ∧ v = some (.int (nI k1)) ∧ ti1 = nI (tm + a.toNatClampNeg) ∧ txI c ad tm (((fl, Fs, us, 0, fun _ => 0), rt, ex, 0), ((fa, fb, me, sn, sq), qu, L, dr)) a.toNatClampNeg = (((fl1, F1, us1, 0, fun _ => 0), rt1, ex1, k1), ((fa1, fb1, me1, sn1, sq1), qu1, L1, dr1)) ∧ th1 = 0) ∨ (((¬ Av1 a ∧ th1 = 1) ∨ (Av1 a ∧ ¬ Av2 tm a ∧ th1 = 2)) ∧ v = some (.int 0) ∧ ti1 = nI tm ∧ fl1 = fl ∧ F1 = Fs ∧ us1 = us ∧ rt1 = rt ∧ ex1 = ex ∧ ((fa1, fb1, me1, sn1, sq1), qu1, L1, dr1) = ((fa, fb, me, sn, sq), qu, L, dr))) ∧ (se1 = sq1.toInt64 &&& 4294967295) ∧ Im G x (rd, (NNq c), (CaQ fl1 F1), tp, tt, (SiQ fa1), (AtQ fb1), pt1, (QlQ qu1 L1), fl1, 0, le1, nx, il, qu1, kn, ec, nu, va, st, ep, ti1, ad, ob, ra, rt1, ex1, sa, us1, tk, th1, me1, dr1, se1, sn1) Φ1) ∧ Fr x (fun j9 => j9 = 0 ∨ j9 = 3 ∨ j9 = 4 ∨ j9 = 5 ∨ j9 = 6 ∨ j9 = 7 ∨ j9 = 8 ∨ j9 = 9 ∨ j9 = 10) Φ Φ1) := by
  refine Ct.of (cc := cX12_advance) (maxL := 4) (ret := (some .int)) (by decide) rfl (Nat.le_of_ble_eq_true rfl) ?_
  intro p9 e9 s9 m9 w9 t9 k9 B
  show Z p9 l e9 _ s9 m9 _ w9 t9 k9 _ G 4 0 [(0, .ref x), (1, .int a)] [] Φ sz 0 0
  refine z_aload_n B dX12_advance_0 rfl 0 rfl ?_
  refine z_iconst (v := 0) B dX12_advance_1 rfl ?_
  obtain ⟨n_1, v_1, n_2, h_1, b_13, b_1, b_2, b_3, b_4, b_5, b_6, b_7, b_8, b_9, b_10, b_11, b_12⟩ := im0 hI
  replace b_1 : 1 ≤ rt := b_1
  replace b_2 : rt ≤ 1024 := b_2
  replace b_3 : fl ≤ 12 := b_3
  replace b_4 : 0 ≤ 24 := b_4
  replace b_5 : le ≤ 700 := b_5
  replace b_6 : qu ≤ 12 := b_6
  replace b_7 : n_1 ≤ 8 := b_7
  replace b_8 : n_2 ≤ 24 := b_8
  replace b_9 : tk ≤ 24 := b_9
  replace b_10 : il ≤ 700 := b_10
  replace b_11 : nx ≤ 701 := b_11
  replace b_12 : st ≤ 701 := b_12
  have h_2 : Φ x = some (o_ 14 [.int th, .ref (x + 1), .ref (x + 2), .int (nI tm), .int ra, .int (nI rt), .int ex, .int ad, .ref (x + 3), .ref (x + 4), .int me, .long se, .ref (x + 5), .int (nI fl), .int dr, .long ob, .long sa, .long sn, .long us, .ref (x + 6), .ref (x + 7), .int (nI 0), .ref (x + 8), .int (nI le), .ref (x + 9), .ref (x + 10), .int (nI qu), .ref (x + 11), .ref (x + 12), .ref (x + 13), .ref (x + 14), .ref (x + 15), .ref (x + 16), .int (nI n_1), .long v_1, .ref (x + 17), .ref (x + 18), .ref (x + 19), .ref (x + 20), .ref (x + 21), .ref (x + 22), .int (nI n_2), .ref (x + 23), .ref (x + 24), .int (nI tk), .ref (x + 25), .int (nI il), .int (nI nx), .int ec, .int ep, .int kn, .int (nI st), .int nu, .long va]) := h_1
  refine z_put (ref := "FlowExporterModel") (C := RX12) (T := TX12) (N := 54) (ci := 14) (v := .int 0) B hu_X12_advance_X12 tyX12 tyX12_ok nmX12 rfl 0 (Nat.le_of_ble_eq_true rfl) hv_X12_advance_1 rfl (Or.inl rfl) h_2 hx rfl rfl (Nat.le_of_ble_eq_true rfl) dX12_advance_2 (fun Φ1 hΦ1 => ?_)
  have h_3 : Φ1 x = some (o_ 14 [.int 0, .ref (x + 1), .ref (x + 2), .int (nI tm), .int ra, .int (nI rt), .int ex, .int ad, .ref (x + 3), .ref (x + 4), .int me, .long se, .ref (x + 5), .int (nI fl), .int dr, .long ob, .long sa, .long sn, .long us, .ref (x + 6), .ref (x + 7), .int (nI 0), .ref (x + 8), .int (nI le), .ref (x + 9), .ref (x + 10), .int (nI qu), .ref (x + 11), .ref (x + 12), .ref (x + 13), .ref (x + 14), .ref (x + 15), .ref (x + 16), .int (nI n_1), .long v_1, .ref (x + 17), .ref (x + 18), .ref (x + 19), .ref (x + 20), .ref (x + 21), .ref (x + 22), .int (nI n_2), .ref (x + 23), .ref (x + 24), .int (nI tk), .ref (x + 25), .int (nI il), .int (nI nx), .int ec, .int ep, .int kn, .int (nI st), .int nu, .long va]) := fset_at hΦ1
  have hI1 : Im G x (rd, (NNq c), (CaQ fl Fs), tp, tt, (SiQ fa), (AtQ fb), (PtQ 0 (fun _ => 0)), (QlQ qu L), fl, 0, le, nx, il, qu, kn, ec, nu, va, st, ep, nI tm, ad, ob, ra, rt, ex, sa, us, tk, 0, me, dr, se, sn) Φ1 := Im.put0 hI hΦ1 ⟨n_1, v_1, n_2, rfl, b_13, b_1, b_2, b_3, b_4, b_5, b_6, b_7, b_8, b_9, b_10, b_11, b_12⟩
  refine z_aload_n B dX12_advance_5 rfl 0 rfl ?_
  refine z_iload_n B dX12_advance_6 rfl 1 rfl ?_
  refine z_i2l (v := a.toInt64) B dX12_advance_7 rfl ?_
  refine z_lconst (v := 1) B dX12_advance_8 rfl ?_
  refine z_ldc2 (v := 1000) B (by decide +kernel) dX12_advance_9 ?_
  by_cases hR1 : inP a.toInt64 1 1000
  · obtain ⟨n_3, e_1, e_2, e_3, rfl⟩ := in_get (L := 1) (H := 1000) (by decide) (by decide) hR1
    refine z_callS (As := [.long ((nI n_3).toInt64), .long 1, .long 1000]) (rest := [.ref x]) B (c_inR1 G l Φ1 sz ((nI n_3).toInt64) 1 1000 hR1 (fun v8 Φ8 sz8 => v8 = some (.int 1) ∧ sz8 = sz ∧ Im G x (rd, (NNq c), (CaQ fl Fs), tp, tt, (SiQ fa), (AtQ fb), (PtQ 0 (fun _ => 0)), (QlQ qu L), fl, 0, le, nx, il, qu, kn, ec, nu, va, st, ep, nI tm, ad, ob, ra, rt, ex, sa, us, tk, 0, me, dr, se, sn) Φ8 ∧ Fr x (fun j9 => False) Φ1 Φ8) ⟨rfl, rfl, hI1, fun _ _ => rfl⟩) (va_cwS 3 B.1.2.2.2.2 gX12_advance_X12_inRange rfl rfl rfl (by decide +kernel) ⟨Nat.le_of_ble_eq_true rfl, Nat.le_of_ble_eq_true rfl⟩) rfl rfl (Nat.le_of_ble_eq_true rfl) dX12_advance_12 ⟨Nat.le_of_ble_eq_true rfl, Nat.le_of_ble_eq_true rfl⟩ (fun r_1 Φ2 sz1 st1 hp1 hs1 => ?_)
    obtain ⟨rfl, hq1, hI2, hF1⟩ := hp1
    subst sz1
    replace hs1 : st1 = [.int 1, .ref x] := hs1
    subst st1
    refine z_if_ne (tgt := 22) B dX12_advance_15 rfl (fun c_1 => ?_) (fun h9 => absurd h9 (by decide))
    refine z_iconst (v := 0) B dX12_advance_22 rfl ?_
    refine z_iconst (v := 1) B dX12_advance_23 rfl ?_
    have h_4 : Φ2 x = some (o_ 14 [.int 0, .ref (x + 1), .ref (x + 2), .int (nI tm), .int ra, .int (nI rt), .int ex, .int ad, .ref (x + 3), .ref (x + 4), .int me, .long se, .ref (x + 5), .int (nI fl), .int dr, .long ob, .long sa, .long sn, .long us, .ref (x + 6), .ref (x + 7), .int (nI 0), .ref (x + 8), .int (nI le), .ref (x + 9), .ref (x + 10), .int (nI qu), .ref (x + 11), .ref (x + 12), .ref (x + 13), .ref (x + 14), .ref (x + 15), .ref (x + 16), .int (nI n_1), .long v_1, .ref (x + 17), .ref (x + 18), .ref (x + 19), .ref (x + 20), .ref (x + 21), .ref (x + 22), .int (nI n_2), .ref (x + 23), .ref (x + 24), .int (nI tk), .ref (x + 25), .int (nI il), .int (nI nx), .int ec, .int ep, .int kn, .int (nI st), .int nu, .long va]) := ((hF1 x (fun j9 h8 h7 => (show False from h7).elim)).trans h_3)
    refine z_callV (As := [.int 0, .int 1]) (rest := []) B (r_throwsIf0 G l Φ2 sz x rd (NNq c) (CaQ fl Fs) tp tt (SiQ fa) (AtQ fb) (PtQ 0 (fun _ => 0)) (QlQ qu L) fl 0 le nx il qu kn ec nu va st ep (nI tm) ad ob ra rt ex sa us tk 0 me dr se sn  hx hI2 (fun f9 h9 => h9.1)) (cwV 2 B.1.2.2.2.2 gX12_advance_X12_throwsIf rfl rfl rfl (by decide +kernel) ⟨Nat.le_of_ble_eq_true rfl, Nat.le_of_ble_eq_true rfl⟩) h_4 rfl rfl rfl rfl (Nat.le_of_ble_eq_true rfl) dX12_advance_24 ⟨Nat.le_of_ble_eq_true rfl, Nat.le_of_ble_eq_true rfl⟩ (fun r_2 Φ3 sz2 st2 hp2 hs2 => ?_)
    obtain ⟨rfl, hq2, hI3, hF2⟩ := hp2
    subst sz2
    replace hs2 : st2 = [.int 0] := hs2
    subst st2
    replace hI3 : Im G x (rd, (NNq c), (CaQ fl Fs), tp, tt, (SiQ fa), (AtQ fb), (PtQ 0 (fun _ => 0)), (QlQ qu L), fl, 0, le, nx, il, qu, kn, ec, nu, va, st, ep, nI tm, ad, ob, ra, rt, ex, sa, us, tk, 0, me, dr, se, sn) Φ3 := hI3
    refine z_if_ne (tgt := 55) B dX12_advance_27 rfl (fun h9 => absurd (by decide) h9) (fun c_2 => ?_)
    refine z_aload_n B dX12_advance_30 rfl 0 rfl ?_
    refine z_aload_n B dX12_advance_31 rfl 0 rfl ?_
    have h_5 : Φ3 x = some (o_ 14 [.int 0, .ref (x + 1), .ref (x + 2), .int (nI tm), .int ra, .int (nI rt), .int ex, .int ad, .ref (x + 3), .ref (x + 4), .int me, .long se, .ref (x + 5), .int (nI fl), .int dr, .long ob, .long sa, .long sn, .long us, .ref (x + 6), .ref (x + 7), .int (nI 0), .ref (x + 8), .int (nI le), .ref (x + 9), .ref (x + 10), .int (nI qu), .ref (x + 11), .ref (x + 12), .ref (x + 13), .ref (x + 14), .ref (x + 15), .ref (x + 16), .int (nI n_1), .long v_1, .ref (x + 17), .ref (x + 18), .ref (x + 19), .ref (x + 20), .ref (x + 21), .ref (x + 22), .int (nI n_2), .ref (x + 23), .ref (x + 24), .int (nI tk), .ref (x + 25), .int (nI il), .int (nI nx), .int ec, .int ep, .int kn, .int (nI st), .int nu, .long va]) := ((hF2 x (fun j9 h8 h7 => (show False from h7).elim)).trans h_4)
    refine z_get (ref := "FlowExporterModel") (C := RX12) (T := TX12) (N := 54) (ci := 14) (v := .int (nI tm)) B hu_X12_advance_X12 rfl 3 (Nat.le_of_ble_eq_true rfl) hv_X12_advance_101 rfl h_5 rfl dX12_advance_32 ?_
    refine z_iload_n B dX12_advance_35 rfl 1 rfl ?_
    refine z_iadd B dX12_advance_36 ?_
    refine z_top (st1 := [.int (nI (tm + n_3)), .ref x]) (congrArg (fun w9 : Int32 => ([.int w9, .ref x] : List Value)) (nI_add tm n_3)) ?_
    refine z_ldcw (v := 1000000) B (by decide +kernel) dX12_advance_37 ?_
    refine z_icmp_le (tgt := 47) B dX12_advance_40 rfl (fun c_3 => ?_) (fun c_3 => ?_)
    · have e_4 : tm + n_3 ≤ 1000000 := (nI_leI (a := tm + n_3) (b := 1000000) (by omega) (by omega)).mp c_3
      refine z_iconst (v := 0) B dX12_advance_47 rfl ?_
      refine z_iconst (v := 2) B dX12_advance_48 rfl ?_
      refine z_callV (As := [.int 0, .int 2]) (rest := []) B (r_throwsIf02 G l Φ3 sz x rd (NNq c) (CaQ fl Fs) tp tt (SiQ fa) (AtQ fb) (PtQ 0 (fun _ => 0)) (QlQ qu L) fl 0 le nx il qu kn ec nu va st ep (nI tm) ad ob ra rt ex sa us tk 0 me dr se sn  hx hI3 (fun f9 h9 => h9.1)) (cwV 2 B.1.2.2.2.2 gX12_advance_X12_throwsIf rfl rfl rfl (by decide +kernel) ⟨Nat.le_of_ble_eq_true rfl, Nat.le_of_ble_eq_true rfl⟩) h_5 rfl rfl rfl rfl (Nat.le_of_ble_eq_true rfl) dX12_advance_49 ⟨Nat.le_of_ble_eq_true rfl, Nat.le_of_ble_eq_true rfl⟩ (fun r_3 Φ4 sz3 st3 hp3 hs3 => ?_)
      obtain ⟨rfl, hq3, hI4, hF3⟩ := hp3
      subst sz3
      replace hs3 : st3 = [.int 0] := hs3
      subst st3
      replace hI4 : Im G x (rd, (NNq c), (CaQ fl Fs), tp, tt, (SiQ fa), (AtQ fb), (PtQ 0 (fun _ => 0)), (QlQ qu L), fl, 0, le, nx, il, qu, kn, ec, nu, va, st, ep, nI tm, ad, ob, ra, rt, ex, sa, us, tk, 0, me, dr, se, sn) Φ4 := hI4
      refine z_if_eq (tgt := 57) B dX12_advance_52 rfl (fun c_4 => ?_) (fun h9 => absurd (by decide) h9)
      refine z_iconst (v := 0) B dX12_advance_57 rfl ?_
      refine z_istore_n (lv' := [(2, .int 0), (0, .ref x), (1, .int (nI n_3))]) B dX12_advance_58 rfl (Nat.le_of_ble_eq_true rfl) rfl ?_
      refine z_iconst (v := 0) B dX12_advance_59 rfl ?_
      refine z_istore_n (lv' := [(3, .int 0), (2, .int 0), (0, .ref x), (1, .int (nI n_3))]) B dX12_advance_60 rfl (Nat.le_of_ble_eq_true rfl) rfl ?_
      refine z_lv [0, 1, 2, 3] rfl ?_
      refine z_loop (α := Nat × Nat × Nat × Nat × Nat × Int64 × Int32 × Nat × Int32 × Int32 × Int32 × Int64 × Int64 × (Nat → Fl) × (Nat → Int32) × (Nat → Int32) × (Nat → Nat) × Int32) (fun (a9 : Nat × Nat × Nat × Nat × Nat × Int64 × Int32 × Nat × Int32 × Int32 × Int32 × Int64 × Int64 × (Nat → Fl) × (Nat → Int32) × (Nat → Int32) × (Nat → Nat) × Int32) Φi => Im G x (rd, (NNq c), (CaQ a9.2.2.1 a9.2.2.2.2.2.2.2.2.2.2.2.2.2.1), tp, tt, (SiQ a9.2.2.2.2.2.2.2.2.2.2.2.2.2.2.1), (AtQ a9.2.2.2.2.2.2.2.2.2.2.2.2.2.2.2.1), (PtQ 0 (fun _ => 0)), (QlQ a9.2.2.2.2.1 a9.2.2.2.2.2.2.2.2.2.2.2.2.2.2.2.2.1), a9.2.2.1, 0, a9.2.2.2.1, nx, il, a9.2.2.2.2.1, kn, ec, nu, va, st, ep, a9.2.2.2.2.2.2.2.2.1, ad, ob, ra, a9.2.2.2.2.2.2.2.1, a9.2.2.2.2.2.2.1, sa, a9.2.2.2.2.2.1, tk, 0, a9.2.2.2.2.2.2.2.2.2.1, a9.2.2.2.2.2.2.2.2.2.2.1, a9.2.2.2.2.2.2.2.2.2.2.2.1, a9.2.2.2.2.2.2.2.2.2.2.2.2.1) Φi ∧ Fr x (fun j9 => j9 = 0 ∨ j9 = 3 ∨ j9 = 4 ∨ j9 = 5 ∨ j9 = 6 ∨ j9 = 7 ∨ j9 = 8 ∨ j9 = 9 ∨ j9 = 10) Φ4 Φi ∧ (a9.1 ≤ n_3) ∧ (a9.2.1 ≤ 24000) ∧ (a9.2.1 ≤ 24 * a9.1) ∧ (txI c ad tm (((fl, Fs, us, 0, fun _ => 0), rt, ex, 0), (fa, fb, me, sn, sq), qu, L, dr) a9.1 = (((a9.2.2.1, a9.2.2.2.2.2.2.2.2.2.2.2.2.2.1, a9.2.2.2.2.2.1, 0, fun _ => 0), a9.2.2.2.2.2.2.2.1, a9.2.2.2.2.2.2.1, a9.2.1), (a9.2.2.2.2.2.2.2.2.2.2.2.2.2.2.1, a9.2.2.2.2.2.2.2.2.2.2.2.2.2.2.2.1, a9.2.2.2.2.2.2.2.2.2.1, a9.2.2.2.2.2.2.2.2.2.2.2.2.1, a9.2.2.2.2.2.2.2.2.2.2.2.2.2.2.2.2.2), a9.2.2.2.2.1, a9.2.2.2.2.2.2.2.2.2.2.2.2.2.2.2.2.1, a9.2.2.2.2.2.2.2.2.2.2.1)) ∧ (a9.2.2.2.2.2.2.2.2.1 = nI (tm + a9.1)) ∧ (a9.2.2.2.2.2.2.2.2.2.2.2.1 = a9.2.2.2.2.2.2.2.2.2.2.2.2.2.2.2.2.2.toInt64 &&& 4294967295) ∧ True) (fun a9 => [(3, .int (nI (a9.1))), (2, .int (nI (a9.2.1))), (0, .ref x), (1, .int (nI n_3))]) (fun a9 => n_3 - a9.1) ?_ (0, 0, fl, le, qu, us, ex, rt, nI tm, me, dr, se, sn, Fs, fa, fb, L, sq) ⟨(Im.weak5 hI4 (fun _ q9 => q9) (fun _ q9 => q9) (fun _ q9 => q9) (fun _ q9 => q9) (fun _ q9 => q9) (fun _ q9 => q9) (fun _ q9 => q9) (fun _ q9 => q9) (fun _ q9 => q9)), fun _ _ => rfl, (show 0 ≤ n_3 by omega), (show 0 ≤ 24000 by omega), (show 0 ≤ 24 * 0 by omega), rfl, rfl, hse, trivial⟩
      rintro ⟨i_1, i_2, i_3, i_4, i_5, i_6, i_7, i_8, i_9, i_10, i_11, i_12, i_13, i_14, i_15, i_16, i_17, i_18⟩ Φl1 ⟨hI5, hF4, b_14, b_15, b_16, b_17, b_18, b_19, -⟩ ih1
      replace hI5 : Im G x (rd, (NNq c), (CaQ i_3 i_14), tp, tt, (SiQ i_15), (AtQ i_16), (PtQ 0 (fun _ => 0)), (QlQ i_5 i_17), i_3, 0, i_4, nx, il, i_5, kn, ec, nu, va, st, ep, i_9, ad, ob, ra, i_8, i_7, sa, i_6, tk, 0, i_10, i_11, i_12, i_13) Φl1 := hI5
      replace b_14 : i_1 ≤ n_3 := b_14
      replace b_15 : i_2 ≤ 24000 := b_15
      replace b_16 : i_2 ≤ 24 * i_1 := b_16
      replace b_17 : txI c ad tm (((fl, Fs, us, 0, fun _ => 0), rt, ex, 0), (fa, fb, me, sn, sq), qu, L, dr) i_1 = (((i_3, i_14, i_6, 0, fun _ => 0), i_8, i_7, i_2), (i_15, i_16, i_10, i_13, i_18), i_5, i_17, i_11) := b_17
      replace b_18 : i_9 = nI (tm + i_1) := b_18
      replace b_19 : i_12 = i_18.toInt64 &&& 4294967295 := b_19
      show Z p9 l e9 _ s9 m9 _ w9 t9 k9 _ G 4 61 [(3, .int (nI i_1)), (2, .int (nI i_2)), (0, .ref x), (1, .int (nI n_3))] [] Φl1 _ _ _
      have ht9 : i_9 = nI (tm + i_1) := b_18
      subst ht9
      refine z_iload_n B dX12_advance_61 rfl 0 rfl ?_
      refine z_iload_n B dX12_advance_62 rfl 3 rfl ?_
      refine z_icmp_ge (tgt := 79) B dX12_advance_63 rfl (fun c_5 => ?_) (fun c_5 => ?_)
      · have e_5 : n_3 ≤ i_1 := (nI_leI (a := n_3) (b := i_1) (by omega) (by omega)).mp c_5
        refine z_iload_n B dX12_advance_79 rfl 1 rfl ?_
        obtain ⟨n_4, v_2, n_5, h_6, b_32, b_20, b_21, b_22, b_23, b_24, b_25, b_26, b_27, b_28, b_29, b_30, b_31⟩ := im0 hI5
        replace b_20 : 1 ≤ i_8 := b_20
        replace b_21 : i_8 ≤ 1024 := b_21
        replace b_22 : i_3 ≤ 12 := b_22
        replace b_23 : 0 ≤ 24 := b_23
        replace b_24 : i_4 ≤ 700 := b_24
        replace b_25 : i_5 ≤ 12 := b_25
        replace b_26 : n_4 ≤ 8 := b_26
        replace b_27 : n_5 ≤ 24 := b_27
        replace b_28 : tk ≤ 24 := b_28
        replace b_29 : il ≤ 700 := b_29
        replace b_30 : nx ≤ 701 := b_30
        replace b_31 : st ≤ 701 := b_31
        have h_7 : Φl1 x = some (o_ 14 [.int 0, .ref (x + 1), .ref (x + 2), .int (nI (tm + i_1)), .int ra, .int (nI i_8), .int i_7, .int ad, .ref (x + 3), .ref (x + 4), .int i_10, .long i_12, .ref (x + 5), .int (nI i_3), .int i_11, .long ob, .long sa, .long i_13, .long i_6, .ref (x + 6), .ref (x + 7), .int (nI 0), .ref (x + 8), .int (nI i_4), .ref (x + 9), .ref (x + 10), .int (nI i_5), .ref (x + 11), .ref (x + 12), .ref (x + 13), .ref (x + 14), .ref (x + 15), .ref (x + 16), .int (nI n_4), .long v_2, .ref (x + 17), .ref (x + 18), .ref (x + 19), .ref (x + 20), .ref (x + 21), .ref (x + 22), .int (nI n_5), .ref (x + 23), .ref (x + 24), .int (nI tk), .ref (x + 25), .int (nI il), .int (nI nx), .int ec, .int ep, .int kn, .int (nI st), .int nu, .long va]) := h_6
        have k_1 : (nI n_3).toInt = ((n_3 : Nat) : Int) := nI_toInt (by omega)
        have k_2 : (nI (tm + i_1)).toInt = ((tm + i_1 : Nat) : Int) := nI_toInt (by omega)
        have hi9 : i_1 = (nI n_3).toNatClampNeg := (show i_1 = n_3 by omega).trans (nI_clamp (by omega)).symm
        exact z_ret_i B dX12_advance_80 ⟨⟨_, rfl⟩, rfl, ⟨i_6, i_3, i_7, i_14, i_15, i_16, i_17, i_10, i_11, i_12, i_13, i_18, i_4, i_5, i_8, nI (tm + i_1), i_2, 0, (PtQ 0 (fun _ => 0)), (show i_3 ≤ 12 by omega), (Or.inl ⟨⟨by unfold Av1; omega, by unfold Av2; omega⟩, rfl, congrArg (fun w8 : Nat => nI (tm + w8)) hi9, (congrArg (fun w9 : Nat => txI c ad tm (((fl, Fs, us, 0, fun _ => 0), rt, ex, 0), (fa, fb, me, sn, sq), qu, L, dr) w9) hi9.symm).trans b_17, rfl⟩), b_19, hI5⟩, (fun b9 h9 => ((hF4 b9 h9).trans ((hF3 b9 (fun j9 h8 h7 => (show False from h7).elim)).trans ((hF2 b9 (fun j9 h8 h7 => (show False from h7).elim)).trans ((hF1 b9 (fun j9 h8 h7 => (show False from h7).elim)).trans ((fset_fr hΦ1 (fun h8 => h9 (0) h8 (show 0 = 0 ∨ 0 = 3 ∨ 0 = 4 ∨ 0 = 5 ∨ 0 = 6 ∨ 0 = 7 ∨ 0 = 8 ∨ 0 = 9 ∨ 0 = 10 by decide))).trans rfl))))))⟩
      · have e_6 : ¬ (n_3 ≤ i_1) := fun h9 => c_5 ((nI_leI (a := n_3) (b := i_1) (by omega) (by omega)).mpr h9)
        refine z_iload_n B dX12_advance_66 rfl 1 rfl ?_
        refine z_aload_n B dX12_advance_67 rfl 2 rfl ?_
        obtain ⟨n_6, v_3, n_7, h_8, b_45, b_33, b_34, b_35, b_36, b_37, b_38, b_39, b_40, b_41, b_42, b_43, b_44⟩ := im0 hI5
        replace b_33 : 1 ≤ i_8 := b_33
        replace b_34 : i_8 ≤ 1024 := b_34
        replace b_35 : i_3 ≤ 12 := b_35
        replace b_36 : 0 ≤ 24 := b_36
        replace b_37 : i_4 ≤ 700 := b_37
        replace b_38 : i_5 ≤ 12 := b_38
        replace b_39 : n_6 ≤ 8 := b_39
        replace b_40 : n_7 ≤ 24 := b_40
        replace b_41 : tk ≤ 24 := b_41
        replace b_42 : il ≤ 700 := b_42
        replace b_43 : nx ≤ 701 := b_43
        replace b_44 : st ≤ 701 := b_44
        have h_9 : Φl1 x = some (o_ 14 [.int 0, .ref (x + 1), .ref (x + 2), .int (nI (tm + i_1)), .int ra, .int (nI i_8), .int i_7, .int ad, .ref (x + 3), .ref (x + 4), .int i_10, .long i_12, .ref (x + 5), .int (nI i_3), .int i_11, .long ob, .long sa, .long i_13, .long i_6, .ref (x + 6), .ref (x + 7), .int (nI 0), .ref (x + 8), .int (nI i_4), .ref (x + 9), .ref (x + 10), .int (nI i_5), .ref (x + 11), .ref (x + 12), .ref (x + 13), .ref (x + 14), .ref (x + 15), .ref (x + 16), .int (nI n_6), .long v_3, .ref (x + 17), .ref (x + 18), .ref (x + 19), .ref (x + 20), .ref (x + 21), .ref (x + 22), .int (nI n_7), .ref (x + 23), .ref (x + 24), .int (nI tk), .ref (x + 25), .int (nI il), .int (nI nx), .int ec, .int ep, .int kn, .int (nI st), .int nu, .long va]) := h_8
        refine z_callV (As := []) (rest := [.int (nI i_2)]) B (r_tick G l Φl1 sz x rd tp tt i_3 i_4 nx il i_5 kn ec nu va st ep ad ob ra i_8 i_7 sa i_6 tk 0 i_10 i_11 i_12 i_13 c i_14 (tm + i_1) i_15 i_16 i_17 i_18 hx hI5 (show (tm + i_1) < 1000000 by omega) hcw hg hcr b_19) (cwV 0 B.1.2.2.2.2 gX12_advance_X12_tick rfl rfl rfl (by decide +kernel) ⟨Nat.le_of_ble_eq_true rfl, Nat.le_of_ble_eq_true rfl⟩) h_9 rfl rfl rfl rfl (Nat.le_of_ble_eq_true rfl) dX12_advance_68 ⟨Nat.le_of_ble_eq_true rfl, Nat.le_of_ble_eq_true rfl⟩ (fun r_4 Φ5 sz4 st4 hp4 hs4 => ?_)
        obtain ⟨⟨v_12, rfl⟩, hq4, ⟨n_8, n_9, v_4, n_10, v_5, v_6, n_11, v_7, v_8, v_9, v_10, v_11, n_12, n_13, n_14, n_15, n_16, b_46, b_47, b_48, b_49, b_50, hI6⟩, hF5⟩ := hp4
        subst sz4
        replace hs4 : st4 = [.int v_12, .int (nI i_2)] := hs4
        subst st4
        replace hI6 : Im G x (rd, (NNq c), CaQ n_9 n_10, tp, tt, SiQ v_5, AtQ v_6, n_16, QlQ n_13 n_11, n_9, 0, n_12, nx, il, n_13, kn, ec, nu, va, st, ep, nI ((tm + i_1) + 1), ad, ob, ra, n_14, v_4, sa, n_8.1, tk, 0, v_7, v_8, v_9, v_10) Φ5 := hI6
        replace b_46 : n_9 ≤ 12 := b_46
        replace b_47 : n_15 ≤ 24 := b_47
        replace b_48 : (some (Value.int v_12)) = some (.int (nI n_15)) ∧ tiS c ad ((tm + i_1) + 1) ((i_3, i_14, i_6, 0, fun _ => 0), i_8, i_7, 0) = ((n_9, n_10, n_8), n_14, v_4, n_15) := b_48
        replace b_49 : spS c (nI ((tm + i_1) + 1)) n_8.2.2 n_8.2.1 (i_15, i_16, i_10, i_13, i_18) (i_5, i_17, i_11) = ((v_5, v_6, v_7, v_10, v_11), (n_13, n_11, v_8)) := b_49
        replace b_50 : v_9 = v_11.toInt64 &&& 4294967295 := b_50
        obtain ⟨hv1, ha1⟩ := b_48
        have hq5 : v_12 = nI n_15 := Value.int.inj (Option.some.inj hv1)
        subst hq5
        refine z_iadd B dX12_advance_71 ?_
        refine z_top (st1 := [.int (nI (i_2 + n_15))]) (congrArg (fun w9 : Int32 => ([.int w9] : List Value)) (nI_add i_2 n_15)) ?_
        refine z_istore_n (lv' := [(2, .int (nI (i_2 + n_15))), (3, .int (nI i_1)), (0, .ref x), (1, .int (nI n_3))]) B dX12_advance_72 rfl (Nat.le_of_ble_eq_true rfl) rfl ?_
        refine z_iinc (k := 1) (v := nI (i_1 + 1)) (lv' := [(3, .int (nI (i_1 + 1))), (2, .int (nI (i_2 + n_15))), (0, .ref x), (1, .int (nI n_3))]) B dX12_advance_73 rfl (nI_add i_1 1) (Nat.le_of_ble_eq_true rfl) rfl ?_
        refine z_goto (tgt := 61) B dX12_advance_76 rfl ?_
        refine z_lv [0, 1, 2, 3] rfl ?_
        exact ih1 (i_1 + 1, i_2 + n_15, n_9, n_12, n_13, n_8.1, v_4, n_14, nI ((tm + i_1) + 1), v_7, v_8, v_9, v_10, n_10, v_5, v_6, n_11, v_11) Φ5 (show n_3 - (i_1 + 1) < n_3 - i_1 by omega) ⟨(Im.weak5 hI6 (fun _ q9 => q9) (fun _ q9 => q9) (fun _ q9 => q9) (fun _ q9 => q9) (fun _ q9 => q9) (fun _ q9 => q9) (fun _ q9 => q9) (fun _ q9 => q9) (fun _ q9 => q9)), (fun b9 h9 => ((hF5 b9 h9).trans ((hF4 b9 h9).trans rfl))), (show (i_1 + 1) ≤ n_3 by omega), (show (i_2 + n_15) ≤ 24000 by omega), (show (i_2 + n_15) ≤ 24 * (i_1 + 1) by omega), (txI_s b_17 (tiS_d ha1) b_49 rfl), rfl, b_50, trivial⟩
    · have e_7 : ¬ (tm + n_3 ≤ 1000000) := fun h9 => c_3 ((nI_leI (a := tm + n_3) (b := 1000000) (by omega) (by omega)).mpr h9)
      refine z_iconst (v := 1) B dX12_advance_43 rfl ?_
      refine z_goto (tgt := 48) B dX12_advance_44 rfl ?_
      refine z_iconst (v := 2) B dX12_advance_48 rfl ?_
      refine z_callV (As := [.int 1, .int 2]) (rest := []) B (r_throwsIf12 G l Φ3 sz x rd (NNq c) (CaQ fl Fs) tp tt (SiQ fa) (AtQ fb) (PtQ 0 (fun _ => 0)) (QlQ qu L) fl 0 le nx il qu kn ec nu va st ep (nI tm) ad ob ra rt ex sa us tk 0 me dr se sn  hx hI3 (fun f9 h9 => h9.1)) (cwV 2 B.1.2.2.2.2 gX12_advance_X12_throwsIf rfl rfl rfl (by decide +kernel) ⟨Nat.le_of_ble_eq_true rfl, Nat.le_of_ble_eq_true rfl⟩) h_5 rfl rfl rfl rfl (Nat.le_of_ble_eq_true rfl) dX12_advance_49 ⟨Nat.le_of_ble_eq_true rfl, Nat.le_of_ble_eq_true rfl⟩ (fun r_5 Φ6 sz5 st5 hp5 hs5 => ?_)
      obtain ⟨⟨rfl, l_1, h_10⟩, hq6, hI7, hF6⟩ := hp5
      subst sz5
      replace hs5 : st5 = [.int 1] := hs5
      subst st5
      replace hI7 : Im G x (rd, (NNq c), (CaQ fl Fs), tp, tt, (SiQ fa), (AtQ fb), (PtQ 0 (fun _ => 0)), (QlQ qu L), fl, 0, le, nx, il, qu, kn, ec, nu, va, st, ep, nI tm, ad, ob, ra, rt, ex, sa, us, tk, 2, me, dr, se, sn) Φ6 := hI7
      refine z_if_eq (tgt := 57) B dX12_advance_52 rfl (fun h9 => absurd h9 (by decide)) (fun c_6 => ?_)
      refine z_iconst (v := 0) B dX12_advance_55 rfl ?_
      have k_3 : (nI n_3).toInt = ((n_3 : Nat) : Int) := nI_toInt (by omega)
      have k_4 : (nI n_3).toInt = ((n_3 : Nat) : Int) := nI_toInt (by omega)
      have k_5 : (nI (tm + n_3)).toInt = ((tm + n_3 : Nat) : Int) := nI_toInt (by omega)
      have k_6 : (1000000 : Int32).toInt = 1000000 := by decide
      have q_1 : ¬ ((nI (tm + n_3)).toInt ≤ (1000000 : Int32).toInt) := fun h9 => c_3 (Int32.le_iff_toInt_le.mpr h9)
      exact z_ret_i B dX12_advance_56 ⟨⟨_, rfl⟩, rfl, ⟨us, fl, ex, Fs, fa, fb, L, me, dr, se, sn, sq, le, qu, rt, nI tm, 0, 2, (PtQ 0 (fun _ => 0)), (show fl ≤ 12 by omega), (Or.inr ⟨(Or.inr ⟨by unfold Av1; omega, fun h9 => by unfold Av2 at h9; omega, rfl⟩), rfl, rfl, rfl, rfl, rfl, rfl, rfl, rfl⟩), hse, hI7⟩, (fun b9 h9 => ((hF6 b9 (fun j9 h8 h7 => h9 j9 h8 (fq_1044 j9 h7))).trans ((hF2 b9 (fun j9 h8 h7 => (show False from h7).elim)).trans ((hF1 b9 (fun j9 h8 h7 => (show False from h7).elim)).trans ((fset_fr hΦ1 (fun h8 => h9 (0) h8 (show 0 = 0 ∨ 0 = 3 ∨ 0 = 4 ∨ 0 = 5 ∨ 0 = 6 ∨ 0 = 7 ∨ 0 = 8 ∨ 0 = 9 ∨ 0 = 10 by decide))).trans rfl)))))⟩
  · have q_2 : ¬ (1 ≤ a.toInt ∧ a.toInt ≤ 1000) := fun h9 => hR1 ((inP_i (by decide) (by decide)).mpr h9)
    refine z_callS (As := [.long a.toInt64, .long 1, .long 1000]) (rest := [.ref x]) B (c_inR0 G l Φ1 sz a.toInt64 1 1000 hR1 (fun v8 Φ8 sz8 => v8 = some (.int 0) ∧ sz8 = sz ∧ Im G x (rd, (NNq c), (CaQ fl Fs), tp, tt, (SiQ fa), (AtQ fb), (PtQ 0 (fun _ => 0)), (QlQ qu L), fl, 0, le, nx, il, qu, kn, ec, nu, va, st, ep, nI tm, ad, ob, ra, rt, ex, sa, us, tk, 0, me, dr, se, sn) Φ8 ∧ Fr x (fun j9 => False) Φ1 Φ8) ⟨rfl, rfl, hI1, fun _ _ => rfl⟩) (va_cwS 3 B.1.2.2.2.2 gX12_advance_X12_inRange rfl rfl rfl (by decide +kernel) ⟨Nat.le_of_ble_eq_true rfl, Nat.le_of_ble_eq_true rfl⟩) rfl rfl (Nat.le_of_ble_eq_true rfl) dX12_advance_12 ⟨Nat.le_of_ble_eq_true rfl, Nat.le_of_ble_eq_true rfl⟩ (fun r_6 Φ7 sz6 st6 hp6 hs6 => ?_)
    obtain ⟨rfl, hq7, hI8, hF7⟩ := hp6
    subst sz6
    replace hs6 : st6 = [.int 0, .ref x] := hs6
    subst st6
    refine z_if_ne (tgt := 22) B dX12_advance_15 rfl (fun h9 => absurd (by decide) h9) (fun c_7 => ?_)
    refine z_iconst (v := 1) B dX12_advance_18 rfl ?_
    refine z_goto (tgt := 23) B dX12_advance_19 rfl ?_
    refine z_iconst (v := 1) B dX12_advance_23 rfl ?_
    have h_11 : Φ7 x = some (o_ 14 [.int 0, .ref (x + 1), .ref (x + 2), .int (nI tm), .int ra, .int (nI rt), .int ex, .int ad, .ref (x + 3), .ref (x + 4), .int me, .long se, .ref (x + 5), .int (nI fl), .int dr, .long ob, .long sa, .long sn, .long us, .ref (x + 6), .ref (x + 7), .int (nI 0), .ref (x + 8), .int (nI le), .ref (x + 9), .ref (x + 10), .int (nI qu), .ref (x + 11), .ref (x + 12), .ref (x + 13), .ref (x + 14), .ref (x + 15), .ref (x + 16), .int (nI n_1), .long v_1, .ref (x + 17), .ref (x + 18), .ref (x + 19), .ref (x + 20), .ref (x + 21), .ref (x + 22), .int (nI n_2), .ref (x + 23), .ref (x + 24), .int (nI tk), .ref (x + 25), .int (nI il), .int (nI nx), .int ec, .int ep, .int kn, .int (nI st), .int nu, .long va]) := ((hF7 x (fun j9 h8 h7 => (show False from h7).elim)).trans h_3)
    refine z_callV (As := [.int 1, .int 1]) (rest := []) B (r_throwsIf1 G l Φ7 sz x rd (NNq c) (CaQ fl Fs) tp tt (SiQ fa) (AtQ fb) (PtQ 0 (fun _ => 0)) (QlQ qu L) fl 0 le nx il qu kn ec nu va st ep (nI tm) ad ob ra rt ex sa us tk 0 me dr se sn  hx hI8 (fun f9 h9 => h9.1)) (cwV 2 B.1.2.2.2.2 gX12_advance_X12_throwsIf rfl rfl rfl (by decide +kernel) ⟨Nat.le_of_ble_eq_true rfl, Nat.le_of_ble_eq_true rfl⟩) h_11 rfl rfl rfl rfl (Nat.le_of_ble_eq_true rfl) dX12_advance_24 ⟨Nat.le_of_ble_eq_true rfl, Nat.le_of_ble_eq_true rfl⟩ (fun r_7 Φ8 sz7 st7 hp7 hs7 => ?_)
    obtain ⟨⟨rfl, l_2, h_12⟩, hq8, hI9, hF8⟩ := hp7
    subst sz7
    replace hs7 : st7 = [.int 1] := hs7
    subst st7
    replace hI9 : Im G x (rd, (NNq c), (CaQ fl Fs), tp, tt, (SiQ fa), (AtQ fb), (PtQ 0 (fun _ => 0)), (QlQ qu L), fl, 0, le, nx, il, qu, kn, ec, nu, va, st, ep, nI tm, ad, ob, ra, rt, ex, sa, us, tk, 1, me, dr, se, sn) Φ8 := hI9
    refine z_if_ne (tgt := 55) B dX12_advance_27 rfl (fun c_8 => ?_) (fun h9 => absurd h9 (by decide))
    refine z_iconst (v := 0) B dX12_advance_55 rfl ?_
    exact z_ret_i B dX12_advance_56 ⟨⟨_, rfl⟩, rfl, ⟨us, fl, ex, Fs, fa, fb, L, me, dr, se, sn, sq, le, qu, rt, nI tm, 0, 1, (PtQ 0 (fun _ => 0)), (show fl ≤ 12 by omega), (Or.inr ⟨(Or.inl ⟨fun h9 => by unfold Av1 at h9; omega, rfl⟩), rfl, rfl, rfl, rfl, rfl, rfl, rfl, rfl⟩), hse, hI9⟩, (fun b9 h9 => ((hF8 b9 (fun j9 h8 h7 => h9 j9 h8 (fq_1044 j9 h7))).trans ((hF7 b9 (fun j9 h8 h7 => (show False from h7).elim)).trans ((fset_fr hΦ1 (fun h8 => h9 (0) h8 (show 0 = 0 ∨ 0 = 3 ∨ 0 = 4 ∨ 0 = 5 ∨ 0 = 6 ∨ 0 = 7 ∨ 0 = 8 ∨ 0 = 9 ∨ 0 = 10 by decide))).trans rfl))))⟩

/-! a flow that is met, a flow that is new; keys by their parts -/
theorem all8 {P : Nat → Prop} (h : P 0 ∧ P 1 ∧ P 2 ∧ P 3 ∧ P 4 ∧ P 5 ∧ P 6 ∧ P 7) : ∀ q, q < 8 → P q := by
  obtain ⟨h0, h1, h2, h3, h4, h5, h6, h7⟩ := h
  intro q hq
  rcases (show q = 0 ∨ q = 1 ∨ q = 2 ∨ q = 3 ∨ q = 4 ∨ q = 5 ∨ q = 6 ∨ q = 7 by omega) with rfl | rfl | rfl | rfl | rfl | rfl | rfl | rfl
  · exact h0
  · exact h1
  · exact h2
  · exact h3
  · exact h4
  · exact h5
  · exact h6
  · exact h7
theorem l_inj {a b : Int32} (h : a.toInt64 = b.toInt64) : a = b := by
  apply Int32.toInt_inj.mp
  have h2 := congrArg Int64.toInt h
  rw [Int32.toInt_toInt64, Int32.toInt_toInt64] at h2
  exact h2
theorem ky_key {a b d g : Int32} {v : Nat} (hk : KyP a b d g) (hv : v < 2 ^ 40) : (nI (v / 2 ^ 32 % 2 ^ 8) = a ∧ nI (v / 2 ^ 24 % 2 ^ 8) = b ∧ nI (v / 2 ^ 8 % 2 ^ 16) = d ∧ nI (v % 256) = g) ↔ v = kyN a b d g := by
  obtain ⟨a1, b1, d1, g1, e1, e2, e3, e4, rfl, rfl, rfl, rfl⟩ := KyP_nat hk
  have hK : kyN (nI a1) (nI b1) (nI d1) (nI g1) = ((a1 * 2 ^ 8 + b1) * 2 ^ 16 + d1) * 2 ^ 8 + g1 := by
    unfold kyN
    rw [nI_toInt (by omega), nI_toInt (by omega), nI_toInt (by omega), nI_toInt (by omega)]
    rfl
  rw [hK]
  constructor
  · rintro ⟨h1, h2, h3, h4⟩
    have k1 := (nI_eq (a := v / 2 ^ 32 % 2 ^ 8) (b := a1) (by omega) (by omega)).mp h1
    have k2 := (nI_eq (a := v / 2 ^ 24 % 2 ^ 8) (b := b1) (by omega) (by omega)).mp h2
    have k3 := (nI_eq (a := v / 2 ^ 8 % 2 ^ 16) (b := d1) (by omega) (by omega)).mp h3
    have k4 := (nI_eq (a := v % 256) (b := g1) (by omega) (by omega)).mp h4
    omega
  · intro h
    subst h
    exact ⟨congrArg nI (by omega), congrArg nI (by omega), congrArg nI (by omega), congrArg nI (by omega)⟩
theorem kyN_lt {a b d g : Int32} (hk : KyP a b d g) : kyN a b d g < 2 ^ 40 := (keyF_N hk).2
/-- a flow of the reference has the key just where its four parts are the key's -/
theorem CaQ.key {n j : Nat} {F : Nat → Fl} {f : Nat → Int64} {a b d g : Int32} (h : CaQ n F f) (hj : j < n) (hk : KyP a b d g) : rK f j a b d g ↔ (F j).1 = kyN a b d g := by
  obtain ⟨hb, hv⟩ := h j hj
  rw [← ky_key hk hb.1]
  have v0 : f (8 * j) = (nI ((F j).1 / 2 ^ 32 % 2 ^ 8)).toInt64 := hv 0 (by decide)
  have v1 : f (8 * j + 1) = (nI ((F j).1 / 2 ^ 24 % 2 ^ 8)).toInt64 := hv 1 (by decide)
  have v2 : f (8 * j + 2) = (nI ((F j).1 / 2 ^ 8 % 2 ^ 16)).toInt64 := hv 2 (by decide)
  have v3 : f (8 * j + 3) = (nI ((F j).1 % 256)).toInt64 := hv 3 (by decide)
  unfold rK
  rw [v0, v1, v2, v3]
  exact ⟨fun ⟨q1, q2, q3, q4⟩ => ⟨l_inj q1, l_inj q2, l_inj q3, l_inj q4⟩, fun ⟨q1, q2, q3, q4⟩ => ⟨congrArg _ q1, congrArg _ q2, congrArg _ q3, congrArg _ q4⟩⟩
theorem vl_0 (v : Fl) : vlL v 0 = (nI (v.1 / 2 ^ 32 % 2 ^ 8)).toInt64 := rfl
theorem vl_1 (v : Fl) : vlL v 1 = (nI (v.1 / 2 ^ 24 % 2 ^ 8)).toInt64 := rfl
theorem vl_2 (v : Fl) : vlL v 2 = (nI (v.1 / 2 ^ 8 % 2 ^ 16)).toInt64 := rfl
theorem vl_3 (v : Fl) : vlL v 3 = (nI (v.1 % 256)).toInt64 := rfl
theorem vl_4 (v : Fl) : vlL v 4 = v.2.1 := rfl
theorem vl_5 (v : Fl) : vlL v 5 = v.2.2.1 := rfl
theorem vl_6 (v : Fl) : vlL v 6 = (nI v.2.2.2.1).toInt64 := rfl
theorem vl_7 (v : Fl) : vlL v 7 = (nI v.2.2.2.2).toInt64 := rfl
theorem bump_k {v : Fl} {b : Int64} {t : Nat} : (bump v b t).1 = v.1 := rfl
theorem bump_p {v : Fl} {b : Int64} {t : Nat} : (bump v b t).2.1 = v.2.1 + 1 := rfl
theorem bump_b {v : Fl} {b : Int64} {t : Nat} : (bump v b t).2.2.1 = v.2.2.1 + b := rfl
theorem bump_f {v : Fl} {b : Int64} {t : Nat} : (bump v b t).2.2.2.1 = v.2.2.2.1 := rfl
theorem bump_l {v : Fl} {b : Int64} {t : Nat} : (bump v b t).2.2.2.2 = t := rfl
theorem CaQ.hit {n j p4 p5 p7 t : Nat} {F : Nat → Fl} {f : Nat → Int64} {e : Int64} (h : CaQ n F f) (hj : j < n) (ht : t ≤ 1000000) (h4 : p4 = 8 * j + 4) (h5 : p5 = 8 * j + 5) (h7 : p7 = 8 * j + 7) : CaQ n (updF F j (bump (F j) e t)) (vp_updL (vp_updL (vp_updL f p4 (f p4 + 1)) p5 (vp_updL f p4 (f p4 + 1) p5 + e)) p7 (nI t).toInt64) := by
  subst h4 h5 h7
  intro i hi
  obtain ⟨hb, hv⟩ := h i hi
  by_cases ei : i = j
  · subst ei
    rw [updF_at]
    refine ⟨hb.bump ht, all8 ⟨?_, ?_, ?_, ?_, ?_, ?_, ?_, ?_⟩⟩
    · rw [updL_ne (by omega), updL_ne (by omega), updL_ne (by omega), vl_0, bump_k, ← vl_0]; exact hv 0 (by decide)
    · rw [updL_ne (by omega), updL_ne (by omega), updL_ne (by omega), vl_1, bump_k, ← vl_1]; exact hv 1 (by decide)
    · rw [updL_ne (by omega), updL_ne (by omega), updL_ne (by omega), vl_2, bump_k, ← vl_2]; exact hv 2 (by decide)
    · rw [updL_ne (by omega), updL_ne (by omega), updL_ne (by omega), vl_3, bump_k, ← vl_3]; exact hv 3 (by decide)
    · rw [updL_ne (by omega), updL_ne (by omega), updL_eq, vl_4, bump_p, ← vl_4]; exact congrArg (fun w => w + 1) (hv 4 (by decide))
    · rw [updL_ne (by omega), updL_eq, updL_ne (by omega), vl_5, bump_b, ← vl_5]; exact congrArg (fun w => w + e) (hv 5 (by decide))
    · rw [updL_ne (by omega), updL_ne (by omega), updL_ne (by omega), vl_6, bump_f, ← vl_6]; exact hv 6 (by decide)
    · rw [updL_eq, vl_7, bump_l]
  · rw [updF_ne ei]
    refine ⟨hb, fun q hq => ?_⟩
    rw [updL_ne (by omega), updL_ne (by omega), updL_ne (by omega)]
    exact hv q hq
theorem CaQ.new {n p0 p1 p2 p3 p4 p5 p6 q4 q5 q7 t : Nat} {F : Nat → Fl} {f f1 f2 f3 f4 f5 f6 f7 f8 f9 : Nat → Int64} {e : Int64} {a b d g : Int32} (h : CaQ n F f) (hk : KyP a b d g) (ht : t ≤ 1000000) (h0 : p0 = 8 * n) (h1 : p1 = 8 * n + 1) (h2 : p2 = 8 * n + 2) (h3 : p3 = 8 * n + 3) (h4 : p4 = 8 * n + 4) (h5 : p5 = 8 * n + 5) (h6 : p6 = 8 * n + 6) (k4 : q4 = 8 * n + 4) (k5 : q5 = 8 * n + 5) (k7 : q7 = 8 * n + 7) (e1 : f1 = vp_updL f p0 a.toInt64) (e2 : f2 = vp_updL f1 p1 b.toInt64) (e3 : f3 = vp_updL f2 p2 d.toInt64) (e4 : f4 = vp_updL f3 p3 g.toInt64) (e5 : f5 = vp_updL f4 p4 0) (e6 : f6 = vp_updL f5 p5 0) (e7 : f7 = vp_updL f6 p6 (nI t).toInt64) (e8 : f8 = vp_updL f7 q4 (f7 q4 + 1)) (e9 : f9 = vp_updL f8 q5 (f8 q5 + e)) : CaQ (n + 1) (updF F n (kyN a b d g, 1, 0 + e, t, t)) (vp_updL f9 q7 (nI t).toInt64) := by
  subst h0 h1 h2 h3 h4 h5 h6 k4 k5 k7
  intro i hi
  by_cases ei : i = n
  · subst ei
    rw [updF_at]
    obtain ⟨w1, w2, w3, w4⟩ := (ky_key hk (kyN_lt hk)).mpr rfl
    refine ⟨FlB.new (kyN_lt hk) ht, all8 ⟨?_, ?_, ?_, ?_, ?_, ?_, ?_, ?_⟩⟩
    · rw [updL_ne (by omega), e9, updL_ne (by omega), e8, updL_ne (by omega), e7, updL_ne (by omega), e6, updL_ne (by omega), e5, updL_ne (by omega), e4, updL_ne (by omega), e3, updL_ne (by omega), e2, updL_ne (by omega), e1]
      exact updL_eq.trans (congrArg Int32.toInt64 w1.symm)
    · rw [updL_ne (by omega), e9, updL_ne (by omega), e8, updL_ne (by omega), e7, updL_ne (by omega), e6, updL_ne (by omega), e5, updL_ne (by omega), e4, updL_ne (by omega), e3, updL_ne (by omega), e2]
      exact updL_eq.trans (congrArg Int32.toInt64 w2.symm)
    · rw [updL_ne (by omega), e9, updL_ne (by omega), e8, updL_ne (by omega), e7, updL_ne (by omega), e6, updL_ne (by omega), e5, updL_ne (by omega), e4, updL_ne (by omega), e3]
      exact updL_eq.trans (congrArg Int32.toInt64 w3.symm)
    · rw [updL_ne (by omega), e9, updL_ne (by omega), e8, updL_ne (by omega), e7, updL_ne (by omega), e6, updL_ne (by omega), e5, updL_ne (by omega), e4]
      exact updL_eq.trans (congrArg Int32.toInt64 w4.symm)
    · rw [updL_ne (by omega), e9, updL_ne (by omega), e8, updL_eq, e7, updL_ne (by omega), e6, updL_ne (by omega), e5, updL_eq]
      exact (by decide : (0 : Int64) + 1 = 1)
    · rw [updL_ne (by omega), e9, updL_eq, e8, updL_ne (by omega), e7, updL_ne (by omega), e6, updL_eq]
      rfl
    · rw [updL_ne (by omega), e9, updL_ne (by omega), e8, updL_ne (by omega), e7]
      exact updL_eq
    · exact updL_eq
  · rw [updF_ne ei]
    obtain ⟨hb, hv⟩ := h i (by omega)
    refine ⟨hb, fun q hq => ?_⟩
    rw [updL_ne (by omega), e9, updL_ne (by omega), e8, updL_ne (by omega), e7, updL_ne (by omega), e6, updL_ne (by omega), e5, updL_ne (by omega), e4, updL_ne (by omega), e3, updL_ne (by omega), e2, updL_ne (by omega), e1, updL_ne (by omega)]
    exact hv q hq
/-- the rows of the real keys -/
noncomputable def TpQ (n : Nat) (F : Nat → Fl) (f : Nat → Int32) : Prop := ∀ j, j < n → FlB (F j) ∧ f (4 * j) = nI ((F j).1 / 2 ^ 32 % 2 ^ 8) ∧ f (4 * j + 1) = nI ((F j).1 / 2 ^ 24 % 2 ^ 8) ∧ f (4 * j + 2) = nI ((F j).1 / 2 ^ 8 % 2 ^ 16) ∧ f (4 * j + 3) = nI ((F j).1 % 256)
noncomputable def TtQ (n : Nat) (F : Nat → Fl) (f : Nat → Int64) : Prop := ∀ j, j < n → f (2 * j) = (F j).2.1 ∧ f (2 * j + 1) = (F j).2.2.1
theorem TpQ.hit {n j : Nat} {F : Nat → Fl} {f : Nat → Int32} {v w : Int64} (h : TpQ n F f) : TpQ n (updF F j ((F j).1, v, w, (F j).2.2.2.1, (F j).2.2.2.2)) f := by
  intro i hi
  by_cases e : i = j
  · subst e
    rw [updF_at]
    exact h i hi
  · rw [updF_ne e]
    exact h i hi
theorem TtQ.hit {n j p0 p1 : Nat} {F : Nat → Fl} {f : Nat → Int64} {e : Int64} (h : TtQ n F f) (h0 : p0 = 2 * j) (h1 : p1 = 2 * j + 1) : TtQ n (updF F j ((F j).1, (F j).2.1 + 1, (F j).2.2.1 + e, (F j).2.2.2.1, (F j).2.2.2.2)) (vp_updL (vp_updL f p0 (f p0 + 1)) p1 (vp_updL f p0 (f p0 + 1) p1 + e)) := by
  subst h0 h1
  intro i hi
  by_cases ei : i = j
  · subst ei
    rw [updF_at]
    constructor
    · rw [updL_ne (by omega), updL_eq]; exact congrArg (fun w => w + 1) (h i hi).1
    · rw [updL_eq, updL_ne (by omega)]; exact congrArg (fun w => w + e) (h i hi).2
  · rw [updF_ne ei]
    constructor
    · rw [updL_ne (by omega), updL_ne (by omega)]; exact (h i hi).1
    · rw [updL_ne (by omega), updL_ne (by omega)]; exact (h i hi).2
theorem TpQ.new {n p0 p1 p2 p3 t : Nat} {F : Nat → Fl} {f : Nat → Int32} {v w : Int64} {a b d g : Int32} (h : TpQ n F f) (hk : KyP a b d g) (ht : t ≤ 1000000) (h0 : p0 = 4 * n) (h1 : p1 = 4 * n + 1) (h2 : p2 = 4 * n + 2) (h3 : p3 = 4 * n + 3) : TpQ (n + 1) (updF F n (kyN a b d g, v, w, t, t)) (upd (upd (upd (upd f p0 a) p1 b) p2 d) p3 g) := by
  subst h0 h1 h2 h3
  intro i hi
  by_cases ei : i = n
  · subst ei
    rw [updF_at]
    obtain ⟨w1, w2, w3, w4⟩ := (ky_key hk (kyN_lt hk)).mpr rfl
    refine ⟨FlB.new (kyN_lt hk) ht, ?_, ?_, ?_, ?_⟩
    · rw [upd_ne (by omega), upd_ne (by omega), upd_ne (by omega)]; exact upd_at.trans w1.symm
    · rw [upd_ne (by omega), upd_ne (by omega)]; exact upd_at.trans w2.symm
    · rw [upd_ne (by omega)]; exact upd_at.trans w3.symm
    · exact upd_at.trans w4.symm
  · rw [updF_ne ei]
    obtain ⟨hb, q1, q2, q3, q4⟩ := h i (by omega)
    refine ⟨hb, ?_, ?_, ?_, ?_⟩
    · rw [upd_ne (by omega), upd_ne (by omega), upd_ne (by omega), upd_ne (by omega)]; exact q1
    · rw [upd_ne (by omega), upd_ne (by omega), upd_ne (by omega), upd_ne (by omega)]; exact q2
    · rw [upd_ne (by omega), upd_ne (by omega), upd_ne (by omega), upd_ne (by omega)]; exact q3
    · rw [upd_ne (by omega), upd_ne (by omega), upd_ne (by omega), upd_ne (by omega)]; exact q4
theorem TtQ.new {n p0 p1 q0 q1 K t : Nat} {F : Nat → Fl} {f f1 f2 f3 : Nat → Int64} {e : Int64} (h : TtQ n F f) (h0 : p0 = 2 * n) (h1 : p1 = 2 * n + 1) (k0 : q0 = 2 * n) (k1 : q1 = 2 * n + 1) (e1 : f1 = vp_updL f p0 0) (e2 : f2 = vp_updL f1 p1 0) (e3 : f3 = vp_updL f2 q0 (f2 q0 + 1)) : TtQ (n + 1) (updF F n (K, 0 + 1, 0 + e, t, t)) (vp_updL f3 q1 (f3 q1 + e)) := by
  subst h0 h1 k0 k1
  intro i hi
  by_cases ei : i = n
  · subst ei
    rw [updF_at]
    constructor
    · rw [updL_ne (by omega), e3, updL_eq, e2, updL_ne (by omega), e1, updL_eq]
    · rw [updL_eq, e3, updL_ne (by omega), e2, updL_eq]
  · rw [updF_ne ei]
    obtain ⟨q1, q2⟩ := h i (by omega)
    constructor
    · rw [updL_ne (by omega), e3, updL_ne (by omega), e2, updL_ne (by omega), e1, updL_ne (by omega)]; exact q1
    · rw [updL_ne (by omega), e3, updL_ne (by omega), e2, updL_ne (by omega), e1, updL_ne (by omega)]; exact q2
theorem Im.set23 {G : EnvG} {x : Nat} {T : MT} {tp1 : (Nat → Int32) → Prop} {f : Nat → Int32} {Φ : Hm} (h : Im G x T Φ) (hc : Φ (x + 23) = some (ai_ G 96 f)) (hf : tp1 f) : Im G x (T.1, T.2.1, T.2.2.1, tp1, T.2.2.2.2) Φ := by
  refine ⟨h.1, fun j h3 h4 => ?_⟩
  by_cases e : j = 23
  · subst e
    exact ⟨f, hc, hf⟩
  · have q := h.2 j h3 h4
    revert q e
    match j, h3, h4 with
    | 1, _, _ => intro _ q; exact q
    | 2, _, _ => intro _ q; exact q
    | 3, _, _ => intro _ q; exact q
    | 4, _, _ => intro _ q; exact q
    | 5, _, _ => intro _ q; exact q
    | 6, _, _ => intro _ q; exact q
    | 7, _, _ => intro _ q; exact q
    | 8, _, _ => intro _ q; exact q
    | 9, _, _ => intro _ q; exact q
    | 10, _, _ => intro _ q; exact q
    | 11, _, _ => intro _ q; exact q
    | 12, _, _ => intro _ q; exact q
    | 13, _, _ => intro _ q; exact q
    | 14, _, _ => intro _ q; exact q
    | 15, _, _ => intro _ q; exact q
    | 16, _, _ => intro _ q; exact q
    | 17, _, _ => intro _ q; exact q
    | 18, _, _ => intro _ q; exact q
    | 19, _, _ => intro _ q; exact q
    | 20, _, _ => intro _ q; exact q
    | 21, _, _ => intro _ q; exact q
    | 22, _, _ => intro _ q; exact q
    | 23, _, _ => intro e _; exact absurd rfl e
    | 24, _, _ => intro _ q; exact q
    | 25, _, _ => intro _ q; exact q
    | j + 26, _, h4 => omega
theorem Im.set24 {G : EnvG} {x : Nat} {T : MT} {tt1 : (Nat → Int64) → Prop} {f : Nat → Int64} {Φ : Hm} (h : Im G x T Φ) (hc : Φ (x + 24) = some (al_ G 48 f)) (hf : tt1 f) : Im G x (T.1, T.2.1, T.2.2.1, T.2.2.2.1, tt1, T.2.2.2.2.2) Φ := by
  refine ⟨h.1, fun j h3 h4 => ?_⟩
  by_cases e : j = 24
  · subst e
    exact ⟨f, hc, hf⟩
  · have q := h.2 j h3 h4
    revert q e
    match j, h3, h4 with
    | 1, _, _ => intro _ q; exact q
    | 2, _, _ => intro _ q; exact q
    | 3, _, _ => intro _ q; exact q
    | 4, _, _ => intro _ q; exact q
    | 5, _, _ => intro _ q; exact q
    | 6, _, _ => intro _ q; exact q
    | 7, _, _ => intro _ q; exact q
    | 8, _, _ => intro _ q; exact q
    | 9, _, _ => intro _ q; exact q
    | 10, _, _ => intro _ q; exact q
    | 11, _, _ => intro _ q; exact q
    | 12, _, _ => intro _ q; exact q
    | 13, _, _ => intro _ q; exact q
    | 14, _, _ => intro _ q; exact q
    | 15, _, _ => intro _ q; exact q
    | 16, _, _ => intro _ q; exact q
    | 17, _, _ => intro _ q; exact q
    | 18, _, _ => intro _ q; exact q
    | 19, _, _ => intro _ q; exact q
    | 20, _, _ => intro _ q; exact q
    | 21, _, _ => intro _ q; exact q
    | 22, _, _ => intro _ q; exact q
    | 23, _, _ => intro _ q; exact q
    | 24, _, _ => intro e _; exact absurd rfl e
    | 25, _, _ => intro _ q; exact q
    | j + 26, _, h4 => omega
noncomputable def sm4 (v : Nat) (a b d g : Int64) : Prop := (nI (v / 2 ^ 32 % 2 ^ 8)).toInt64 = a ∧ (nI (v / 2 ^ 24 % 2 ^ 8)).toInt64 = b ∧ (nI (v / 2 ^ 8 % 2 ^ 16)).toInt64 = d ∧ (nI (v % 256)).toInt64 = g
theorem sm4_key {a b d g : Int32} {v : Nat} (hk : KyP a b d g) (hv : v < 2 ^ 40) : sm4 v a.toInt64 b.toInt64 d.toInt64 g.toInt64 ↔ v = kyN a b d g := by
  rw [← ky_key hk hv]
  exact ⟨fun ⟨q1, q2, q3, q4⟩ => ⟨l_inj q1, l_inj q2, l_inj q3, l_inj q4⟩, fun ⟨q1, q2, q3, q4⟩ => ⟨congrArg _ q1, congrArg _ q2, congrArg _ q3, congrArg _ q4⟩⟩
theorem rmS_f1 {K n t : Nat} {b : Int64} {F : Nat → Fl} (h : ixN F K n < n) : rmS K b 1 t (n, F) = (n, updF F (ixN F K n) ((F (ixN F K n)).1, (F (ixN F K n)).2.1 + 1, (F (ixN F K n)).2.2.1 + b, (F (ixN F K n)).2.2.2.1, (F (ixN F K n)).2.2.2.2)) := by
  have e := rmS_f (m := 1) (t := t) (b := b) h
  rw [show (nI 1).toInt64 = 1 from by decide, Int64.one_mul] at e
  exact e
theorem rmS_n1 {K n t : Nat} {b : Int64} {F : Nat → Fl} (h : ¬ ixN F K n < n) (hn : ¬ n = 24) : rmS K b 1 t (n, F) = (n + 1, updF F n (K, 0 + 1, 0 + b, t, t)) := by
  have e := rmS_no (m := 1) (t := t) (b := b) h hn
  rw [show (nI 1).toInt64 = 1 from by decide, Int64.one_mul] at e
  exact e
theorem ixN_lt {F : Nat → Fl} {K j : Nat} : ∀ n, j < n → (F j).1 = K → ixN F K n < n
  | 0, h, _ => absurd h (Nat.not_lt_zero j)
  | n + 1, h, e => by
    unfold ixN
    by_cases h1 : ixN F K n < n
    · rw [if_pos h1]
      omega
    · have hj : j = n := by
        rcases Nat.lt_or_ge j n with h2 | h2
        · exact absurd (ixN_lt n h2 e) h1
        · omega
      subst hj
      rw [if_neg h1, if_pos e]
      omega
theorem ixN_hit {F : Nat → Fl} {K n : Nat} {b : Int64} {t : Nat} (h : ixN F K n < n) : ixN (updF F (ixN F K n) (bump (F (ixN F K n)) b t)) K n < n :=
  ixN_lt n h (by rw [updF_at]; exact ixN_at n h)
theorem ixN_new {F : Nat → Fl} {K n : Nat} {b e : Int64} {t s : Nat} : ixN (updF F n (K, b, e, t, s)) K (n + 1) < n + 1 :=
  ixN_lt (n + 1) (Nat.lt_succ_self n) (by rw [updF_at])
/-! many packets of a key, one by one -/
noncomputable def rmI (K : Nat) (b : Int64) (t : Nat) (s : Nat × (Nat → Fl)) : Nat → Nat × (Nat → Fl)
  | 0 => s
  | i + 1 => rmS K b 1 t (rmI K b t s i)
theorem rmI_s {K t i n n1 : Nat} {b : Int64} {F F1 : Nat → Fl} {s : Nat × (Nat → Fl)} (h : rmI K b t s i = (n, F)) (h1 : rmS K b 1 t (n, F) = (n1, F1)) : rmI K b t s (i + 1) = (n1, F1) := by
  show rmS K b 1 t (rmI K b t s i) = _
  rw [h]
  exact h1
theorem ixN_cong {F H : Nat → Fl} {K : Nat} : ∀ n, (∀ j, j < n → (F j).1 = (H j).1) → ixN F K n = ixN H K n
  | 0, _ => rfl
  | n + 1, h => by
    unfold ixN
    rw [ixN_cong n (fun j hj => h j (by omega)), h n (Nat.lt_succ_self n)]
theorem ixN_up {F : Nat → Fl} {K n i : Nat} {v : Fl} (hv : v.1 = (F i).1) : ixN (updF F i v) K n = ixN F K n :=
  ixN_cong n (fun j _ => by
    by_cases e : j = i
    · subst e
      rw [updF_at, hv]
    · rw [updF_ne e])
theorem updF_2 {F : Nat → Fl} {i : Nat} {v w : Fl} : updF (updF F i v) i w = updF F i w := by
  funext j
  by_cases e : j = i
  · subst e
    rw [updF_at, updF_at]
  · rw [updF_ne e, updF_ne e, updF_ne e]
theorem mul_s {b x : Int64} {m : Nat} (hm : m < 200) : x + (nI m).toInt64 * b + b = x + (nI (m + 1)).toInt64 * b := by
  have e : (nI (m + 1)).toInt64 = (nI m).toInt64 + 1 := by
    have h := ladd_s (a := 0) (i := m) (by omega)
    rw [Int64.zero_add, Int64.zero_add] at h
    exact h.symm
  rw [e, Int64.add_mul, Int64.one_mul, Int64.add_assoc]
theorem rmS_s {K t m n : Nat} {b : Int64} {F : Nat → Fl} (hm : m < 200) : rmS K b 1 t (rmS K b m t (n, F)) = rmS K b (m + 1) t (n, F) := by
  by_cases h : ixN F K n < n
  · rw [rmS_f h, rmS_f h]
    have hx : ixN (updF F (ixN F K n) ((F (ixN F K n)).1, (F (ixN F K n)).2.1 + (nI m).toInt64, (F (ixN F K n)).2.2.1 + (nI m).toInt64 * b, (F (ixN F K n)).2.2.2.1, (F (ixN F K n)).2.2.2.2)) K n = ixN F K n := ixN_up rfl
    rw [rmS_f1 (by rw [hx]; exact h), hx, updF_at, updF_2]
    dsimp only
    rw [ladd_s (by omega), mul_s hm]
  · by_cases h24 : n = 24
    · rw [rmS_24 h h24, rmS_24 h h24, rmS_24 h h24]
    · rw [rmS_no h h24, rmS_no h h24]
      have h0 : ixN F K n = n := by
        have := ixN_le F K n
        omega
      have hx : ixN (updF F n (K, 0 + (nI m).toInt64, 0 + (nI m).toInt64 * b, t, t)) K (n + 1) = n := by
        refine ixN_ok (fun i hi => ?_) (by rw [updF_at]) (n + 1) (Nat.lt_succ_self n)
        rw [updF_ne (by omega)]
        intro e
        exact h (ixN_lt n hi e)
      rw [rmS_f1 (by rw [hx]; exact Nat.lt_succ_self n), hx, updF_at, updF_2]
      dsimp only
      rw [ladd_s (by omega), mul_s hm]
theorem rmI_m {K t n : Nat} {b : Int64} {F : Nat → Fl} : ∀ m, m < 200 → rmI K b t (n, F) (m + 1) = rmS K b (m + 1) t (n, F)
  | 0, _ => rfl
  | m + 1, h => by
    show rmS K b 1 t (rmI K b t (n, F) (m + 1)) = _
    rw [rmI_m m (by omega)]
    exact rmS_s (by omega)
theorem TpQ.z {F : Nat → Fl} {f : Nat → Int32} : TpQ 0 F f := fun j hj => absurd hj (Nat.not_lt_zero j)
theorem TtQ.z {F : Nat → Fl} {f : Nat → Int64} : TtQ 0 F f := fun j hj => absurd hj (Nat.not_lt_zero j)
theorem sm4_KyP {a b d g : Int32} {v : Nat} (h : sm4 v a.toInt64 b.toInt64 d.toInt64 g.toInt64) : KyP a b d g := by
  obtain ⟨q1, q2, q3, q4⟩ := h
  have e1 := congrArg Int32.toInt (l_inj q1)
  have e2 := congrArg Int32.toInt (l_inj q2)
  have e3 := congrArg Int32.toInt (l_inj q3)
  have e4 := congrArg Int32.toInt (l_inj q4)
  rw [nI_toInt (by omega)] at e1 e2 e3 e4
  unfold KyP
  omega

set_option maxHeartbeats 4000000 in
set_option maxRecDepth 100000 in
theorem r_isSame_23X (G : EnvG) (l : Launch) (Φ : Hm) (sz x : Nat) (rd : (Nat → Int32) → Prop) (nw : (Nat → Int32) → Prop) (cr : (Nat → Int64) → Prop) (tt : (Nat → Int64) → Prop) (sI : (Nat → Int32) → Prop) (sT : (Nat → Int32) → Prop) (pt : (Nat → Int32) → Prop) (ql : (Nat → Int32) → Prop) (fl : Nat) (pe : Nat) (le : Nat) (nx : Nat) (il : Nat) (qu : Nat) (kn : Int32) (ec : Int32) (nu : Int32) (va : Int64) (st : Nat) (ep : Int32) (ti : Int32) (ad : Int32) (ob : Int64) (ra : Int32) (rt : Nat) (ex : Int32) (sa : Int64) (us : Int64) (tk : Nat) (th : Int32) (me : Int32) (dr : Int32) (se : Int64) (sn : Int64) (Ft : Nat → Fl) (i : Nat) (a : Int64) (b : Int64) (d : Int64) (f : Int64) (hx : G.2.2.2 ≤ x) (hI : Im G x (rd, nw, cr, (TpQ tk Ft), tt, sI, sT, pt, ql, fl, pe, le, nx, il, qu, kn, ec, nu, va, st, ep, ti, ad, ob, ra, rt, ex, sa, us, tk, th, me, dr, se, sn) Φ) (hi : i < tk) (hi2 : i < 24) (hnw : ∀ f9 : Nat → Int32, nw f9 → NN f9) : Ct G l yX12_isSame wsX12_isSame ({ frames := 0, cells := 0, slots := 0, locals := 0 }) 0 0 [.ref (x + 23), .int (nI i), .long a, .long b, .long d, .long f] Φ sz (fun v Φ1 sz1 => ((v = some (.int 1) ∧ sm4 (Ft i).1 a b d f) ∨ (v = some (.int 0) ∧ ¬ sm4 (Ft i).1 a b d f)) ∧ sz1 = sz ∧ (Im G x (rd, nw, cr, (TpQ tk Ft), tt, sI, sT, pt, ql, fl, pe, le, nx, il, qu, kn, ec, nu, va, st, ep, ti, ad, ob, ra, rt, ex, sa, us, tk, th, me, dr, se, sn) Φ1) ∧ Fr x (fun j9 => False) Φ Φ1) := by
  refine Ct.of (cc := cX12_isSame) (maxL := 10) (ret := (some .boolean)) (by decide) rfl (Nat.le_of_ble_eq_true rfl) ?_
  intro p9 e9 s9 m9 w9 t9 k9 B
  show Z p9 l e9 _ s9 m9 _ w9 t9 k9 _ G 10 0 [(0, .ref (x + 23)), (1, .int (nI i)), (2, .long a), (4, .long b), (6, .long d), (8, .long f)] [] Φ sz 0 0
  refine z_aload_n B dX12_isSame_0 rfl 0 rfl ?_
  refine z_iconst (v := 4) B dX12_isSame_1 rfl ?_
  refine z_iload_n B dX12_isSame_2 rfl 1 rfl ?_
  refine z_imul B dX12_isSame_3 ?_
  refine z_top (st1 := [.int (nI (4 * i)), .ref (x + 23)]) (congrArg (fun w9 : Int32 => ([.int w9, .ref (x + 23)] : List Value)) (nI_mul 4 i)) ?_
  obtain ⟨f_1, h_1, r_1⟩ := imk (k := 23) hI
  replace r_1 : (TpQ tk Ft) f_1 := r_1
  have h_2 : Φ (x + 23) = some (ai_ G 96 f_1) := h_1
  refine z_iald B h_2 (vp_in_nI (by omega) (by omega)) dX12_isSame_4 ?_
  refine z_top (st1 := [.int (nI ((Ft i).1 / 2 ^ 32 % 2 ^ 8))]) (congrArg (fun w9 : Int32 => ([.int w9] : List Value)) ((congrArg f_1 (nI_clamp (by omega))).trans (r_1 i (by omega)).2.1)) ?_
  refine z_i2l (v := (nI ((Ft i).1 / 2 ^ 32 % 2 ^ 8)).toInt64) B dX12_isSame_5 rfl ?_
  refine z_lload_n B dX12_isSame_6 rfl 2 rfl ?_
  refine z_lcmp B dX12_isSame_7 ?_
  refine z_if_ne (tgt := 57) B dX12_isSame_8 rfl (fun c_1 => ?_) (fun c_1 => ?_)
  · refine z_iconst (v := 0) B dX12_isSame_57 rfl ?_
    exact z_ret_z B dX12_isSame_58 (by decide) ⟨(Or.inr ⟨rfl, fun h9 => c_1 ((lg_cmp_eq _ _).mpr h9.1)⟩), rfl, hI, (fun b9 h9 => rfl)⟩
  · refine z_aload_n B dX12_isSame_11 rfl 0 rfl ?_
    refine z_iconst (v := 4) B dX12_isSame_12 rfl ?_
    refine z_iload_n B dX12_isSame_13 rfl 1 rfl ?_
    refine z_imul B dX12_isSame_14 ?_
    refine z_top (st1 := [.int (nI (4 * i)), .ref (x + 23)]) (congrArg (fun w9 : Int32 => ([.int w9, .ref (x + 23)] : List Value)) (nI_mul 4 i)) ?_
    refine z_iconst (v := 1) B dX12_isSame_15 rfl ?_
    refine z_iadd B dX12_isSame_16 ?_
    refine z_top (st1 := [.int (nI (4 * i + 1)), .ref (x + 23)]) (congrArg (fun w9 : Int32 => ([.int w9, .ref (x + 23)] : List Value)) (nI_add (4 * i) 1)) ?_
    refine z_iald B h_2 (vp_in_nI (by omega) (by omega)) dX12_isSame_17 ?_
    refine z_top (st1 := [.int (nI ((Ft i).1 / 2 ^ 24 % 2 ^ 8))]) (congrArg (fun w9 : Int32 => ([.int w9] : List Value)) ((congrArg f_1 (nI_clamp (by omega))).trans (r_1 i (by omega)).2.2.1)) ?_
    refine z_i2l (v := (nI ((Ft i).1 / 2 ^ 24 % 2 ^ 8)).toInt64) B dX12_isSame_18 rfl ?_
    refine z_lload B dX12_isSame_19 3 rfl ?_
    refine z_lcmp B dX12_isSame_21 ?_
    refine z_if_ne (tgt := 57) B dX12_isSame_22 rfl (fun c_2 => ?_) (fun c_2 => ?_)
    · refine z_iconst (v := 0) B dX12_isSame_57 rfl ?_
      exact z_ret_z B dX12_isSame_58 (by decide) ⟨(Or.inr ⟨rfl, fun h9 => c_2 ((lg_cmp_eq _ _).mpr h9.2.1)⟩), rfl, hI, (fun b9 h9 => rfl)⟩
    · refine z_aload_n B dX12_isSame_25 rfl 0 rfl ?_
      refine z_iconst (v := 4) B dX12_isSame_26 rfl ?_
      refine z_iload_n B dX12_isSame_27 rfl 1 rfl ?_
      refine z_imul B dX12_isSame_28 ?_
      refine z_top (st1 := [.int (nI (4 * i)), .ref (x + 23)]) (congrArg (fun w9 : Int32 => ([.int w9, .ref (x + 23)] : List Value)) (nI_mul 4 i)) ?_
      refine z_iconst (v := 2) B dX12_isSame_29 rfl ?_
      refine z_iadd B dX12_isSame_30 ?_
      refine z_top (st1 := [.int (nI (4 * i + 2)), .ref (x + 23)]) (congrArg (fun w9 : Int32 => ([.int w9, .ref (x + 23)] : List Value)) (nI_add (4 * i) 2)) ?_
      refine z_iald B h_2 (vp_in_nI (by omega) (by omega)) dX12_isSame_31 ?_
      refine z_top (st1 := [.int (nI ((Ft i).1 / 2 ^ 8 % 2 ^ 16))]) (congrArg (fun w9 : Int32 => ([.int w9] : List Value)) ((congrArg f_1 (nI_clamp (by omega))).trans (r_1 i (by omega)).2.2.2.1)) ?_
      refine z_i2l (v := (nI ((Ft i).1 / 2 ^ 8 % 2 ^ 16)).toInt64) B dX12_isSame_32 rfl ?_
      refine z_lload B dX12_isSame_33 4 rfl ?_
      refine z_lcmp B dX12_isSame_35 ?_
      refine z_if_ne (tgt := 57) B dX12_isSame_36 rfl (fun c_3 => ?_) (fun c_3 => ?_)
      · refine z_iconst (v := 0) B dX12_isSame_57 rfl ?_
        exact z_ret_z B dX12_isSame_58 (by decide) ⟨(Or.inr ⟨rfl, fun h9 => c_3 ((lg_cmp_eq _ _).mpr h9.2.2.1)⟩), rfl, hI, (fun b9 h9 => rfl)⟩
      · refine z_aload_n B dX12_isSame_39 rfl 0 rfl ?_
        refine z_iconst (v := 4) B dX12_isSame_40 rfl ?_
        refine z_iload_n B dX12_isSame_41 rfl 1 rfl ?_
        refine z_imul B dX12_isSame_42 ?_
        refine z_top (st1 := [.int (nI (4 * i)), .ref (x + 23)]) (congrArg (fun w9 : Int32 => ([.int w9, .ref (x + 23)] : List Value)) (nI_mul 4 i)) ?_
        refine z_iconst (v := 3) B dX12_isSame_43 rfl ?_
        refine z_iadd B dX12_isSame_44 ?_
        refine z_top (st1 := [.int (nI (4 * i + 3)), .ref (x + 23)]) (congrArg (fun w9 : Int32 => ([.int w9, .ref (x + 23)] : List Value)) (nI_add (4 * i) 3)) ?_
        refine z_iald B h_2 (vp_in_nI (by omega) (by omega)) dX12_isSame_45 ?_
        refine z_top (st1 := [.int (nI ((Ft i).1 % 256))]) (congrArg (fun w9 : Int32 => ([.int w9] : List Value)) ((congrArg f_1 (nI_clamp (by omega))).trans (r_1 i (by omega)).2.2.2.2)) ?_
        refine z_i2l (v := (nI ((Ft i).1 % 256)).toInt64) B dX12_isSame_46 rfl ?_
        refine z_lload B dX12_isSame_47 5 rfl ?_
        refine z_lcmp B dX12_isSame_49 ?_
        refine z_if_ne (tgt := 57) B dX12_isSame_50 rfl (fun c_4 => ?_) (fun c_4 => ?_)
        · refine z_iconst (v := 0) B dX12_isSame_57 rfl ?_
          exact z_ret_z B dX12_isSame_58 (by decide) ⟨(Or.inr ⟨rfl, fun h9 => c_4 ((lg_cmp_eq _ _).mpr h9.2.2.2)⟩), rfl, hI, (fun b9 h9 => rfl)⟩
        · refine z_iconst (v := 1) B dX12_isSame_53 rfl ?_
          refine z_goto (tgt := 58) B dX12_isSame_54 rfl ?_
          exact z_ret_z B dX12_isSame_58 (by decide) ⟨(Or.inl ⟨rfl, lcmp_eq c_1, lcmp_eq c_2, lcmp_eq c_3, lcmp_eq c_4⟩), rfl, hI, (fun b9 h9 => rfl)⟩

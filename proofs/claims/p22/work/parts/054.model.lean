set_option maxRecDepth 20000 in
theorem ggX12_isPacket_X12_isByte : GoodIn wsX12_isPacket wsX12_isByte := (goodIn_r _ [5, 6, 7, 8, 4, 9] rfl (by decide +kernel))
set_option maxRecDepth 20000 in
theorem gX12_isPacket_X12_isByte : GoodIn wsX12_isPacket (va_wsS RX12 242 yX12_isByte wsX12_isByte) := goodIn_app (goodIn_m (mem_cA (List.mem_cons_of_mem _ (List.mem_of_getElem? (i := 1) rfl)) (mem_cA (List.mem_cons_of_mem _ (List.mem_of_getElem? (i := 2) rfl)) (mem_cA (List.mem_cons_of_mem _ (List.mem_of_getElem? (i := 3) rfl)) mem_cZ))) (by decide +kernel)) ggX12_isPacket_X12_isByte
set_option maxRecDepth 20000 in
theorem ggX12_isPacket_X12_inRange : GoodIn wsX12_isPacket wsX12_inRange := (goodIn_r _ [9] rfl (by decide +kernel))
set_option maxRecDepth 20000 in
theorem gX12_isPacket_X12_inRange : GoodIn wsX12_isPacket (va_wsS RX12 169 yX12_inRange wsX12_inRange) := goodIn_app (goodIn_m (mem_cA (List.mem_cons_of_mem _ (List.mem_of_getElem? (i := 6) rfl)) (mem_cA (List.mem_cons_of_mem _ (List.mem_of_getElem? (i := 7) rfl)) (mem_cA (List.mem_cons_of_mem _ (List.mem_of_getElem? (i := 3) rfl)) mem_cZ))) (by decide +kernel)) ggX12_isPacket_X12_inRange
theorem dX12_isPacket_0 : decode cX12_isPacket 0 = .ok (.iload_n 0, 1) := by decide +kernel
theorem dX12_isPacket_1 : decode cX12_isPacket 1 = .ok (.invokestatic 242, 3) := by decide +kernel
theorem dX12_isPacket_4 : decode cX12_isPacket 4 = .ok (.ifCond .eq 46, 3) := by decide +kernel
theorem dX12_isPacket_7 : decode cX12_isPacket 7 = .ok (.iload_n 1, 1) := by decide +kernel
theorem dX12_isPacket_8 : decode cX12_isPacket 8 = .ok (.invokestatic 242, 3) := by decide +kernel
theorem dX12_isPacket_11 : decode cX12_isPacket 11 = .ok (.ifCond .eq 39, 3) := by decide +kernel
theorem dX12_isPacket_14 : decode cX12_isPacket 14 = .ok (.iload_n 2, 1) := by decide +kernel
theorem dX12_isPacket_15 : decode cX12_isPacket 15 = .ok (.i2l, 1) := by decide +kernel
theorem dX12_isPacket_16 : decode cX12_isPacket 16 = .ok (.lconst 0, 1) := by decide +kernel
theorem dX12_isPacket_17 : decode cX12_isPacket 17 = .ok (.ldc2_w 245, 3) := by decide +kernel
theorem dX12_isPacket_20 : decode cX12_isPacket 20 = .ok (.invokestatic 169, 3) := by decide +kernel
theorem dX12_isPacket_23 : decode cX12_isPacket 23 = .ok (.ifCond .eq 27, 3) := by decide +kernel
theorem dX12_isPacket_26 : decode cX12_isPacket 26 = .ok (.iload_n 3, 1) := by decide +kernel
theorem dX12_isPacket_27 : decode cX12_isPacket 27 = .ok (.invokestatic 242, 3) := by decide +kernel
theorem dX12_isPacket_30 : decode cX12_isPacket 30 = .ok (.ifCond .eq 20, 3) := by decide +kernel
theorem dX12_isPacket_33 : decode cX12_isPacket 33 = .ok (.iload 4, 2) := by decide +kernel
theorem dX12_isPacket_35 : decode cX12_isPacket 35 = .ok (.i2l, 1) := by decide +kernel
theorem dX12_isPacket_36 : decode cX12_isPacket 36 = .ok (.lconst 1, 1) := by decide +kernel
theorem dX12_isPacket_37 : decode cX12_isPacket 37 = .ok (.ldc2_w 245, 3) := by decide +kernel
theorem dX12_isPacket_40 : decode cX12_isPacket 40 = .ok (.invokestatic 169, 3) := by decide +kernel
theorem dX12_isPacket_43 : decode cX12_isPacket 43 = .ok (.ifCond .eq 7, 3) := by decide +kernel
theorem dX12_isPacket_46 : decode cX12_isPacket 46 = .ok (.iconst 1, 1) := by decide +kernel
theorem dX12_isPacket_47 : decode cX12_isPacket 47 = .ok (.goto 4, 3) := by decide +kernel
theorem dX12_isPacket_50 : decode cX12_isPacket 50 = .ok (.iconst 0, 1) := by decide +kernel
theorem dX12_isPacket_51 : decode cX12_isPacket 51 = .ok (.ireturn, 1) := by decide +kernel
set_option maxHeartbeats 4000000 in
set_option maxRecDepth 100000 in
theorem r_isPacket (G : EnvG) (l : Launch) (Φ : Hm) (sz x : Nat) (rd : (Nat → Int32) → Prop) (nw : (Nat → Int32) → Prop) (fl : Nat) (pe : Nat) (le : Nat) (nx : Nat) (il : Nat) (qu : Nat) (kn : Int32) (ec : Int32) (nu : Int32) (va : Int64) (st : Nat) (ep : Int32) (ti : Int32) (ad : Int32) (ob : Int64) (a : Int32) (b : Int32) (d : Int32) (f : Int32) (g : Int32) (hx : G.2.2.2 ≤ x) (hI : Im G x (rd, nw, fl, pe, le, nx, il, qu, kn, ec, nu, va, st, ep, ti, ad, ob) Φ) (hnw : ∀ f9 : Nat → Int32, nw f9 → NN f9) : Ct G l yX12_isPacket wsX12_isPacket ({ frames := 2, cells := 0, slots := 0, locals := 45 }) 0 0 [.int a, .int b, .int d, .int f, .int g] Φ sz (fun v Φ1 sz1 => ((v = some (.int 0) ∧ ¬ PkP a b d f g) ∨ (v = some (.int 1) ∧ PkP a b d f g ∧ ∃ n9 : Nat, n9 ≤ 255 ∧ f = nI n9)) ∧ sz1 = sz ∧ (Im G x (rd, nw, fl, pe, le, nx, il, qu, kn, ec, nu, va, st, ep, ti, ad, ob) Φ1) ∧ Fr x (fun j9 => False) Φ Φ1) := by
  refine Ct.of (cc := cX12_isPacket) (maxL := 5) (ret := (some .boolean)) (by decide) rfl (Nat.le_of_ble_eq_true rfl) ?_
  intro p9 e9 s9 m9 w9 t9 k9 B
  show Z p9 l e9 _ s9 m9 _ w9 t9 k9 _ G 5 0 [(0, .int a), (1, .int b), (2, .int d), (3, .int f), (4, .int g)] [] Φ sz 0 0
  refine z_iload_n B dX12_isPacket_0 rfl 0 rfl ?_
  refine z_callS (As := [.int a]) (rest := []) B (r_isByte G l Φ sz x rd nw fl pe le nx il qu kn ec nu va st ep ti ad ob a hx hI hnw) (va_cwS 1 B.1.2.2.2.2 gX12_isPacket_X12_isByte rfl rfl rfl (by decide +kernel) ⟨Nat.le_of_ble_eq_true rfl, Nat.le_of_ble_eq_true rfl⟩) rfl rfl (Nat.le_of_ble_eq_true rfl) dX12_isPacket_1 ⟨Nat.le_of_ble_eq_true rfl, Nat.le_of_ble_eq_true rfl⟩ (fun r_1 Φ1 sz1 st1 hp1 hs1 => ?_)
  obtain ⟨ha1, hq1, hI1, hF1⟩ := hp1
  subst sz1
  replace hI1 : Im G x (rd, nw, fl, pe, le, nx, il, qu, kn, ec, nu, va, st, ep, ti, ad, ob) Φ1 := hI1
  rcases ha1 with ⟨rfl, hP1⟩ | ⟨rfl, hP1⟩
  · replace hs1 : st1 = [.int 0] := hs1
    subst st1
    replace hP1 : ¬ (0 ≤ a.toInt ∧ a.toInt ≤ 255) := hP1
    refine z_if_eq (tgt := 50) B dX12_isPacket_4 rfl (fun c_1 => ?_) (fun h9 => absurd (by decide) h9)
    refine z_iconst (v := 0) B dX12_isPacket_50 rfl ?_
    exact z_ret_z B dX12_isPacket_51 (by decide) ⟨(Or.inl ⟨rfl, by first | omega | (unfold PkP; omega)⟩), rfl, hI1, (fun b9 h9 => ((hF1 b9 (fun j9 h8 h7 => (show False from h7).elim)).trans rfl))⟩
  · replace hs1 : st1 = [.int 1] := hs1
    subst st1
    replace hP1 : (0 ≤ a.toInt ∧ a.toInt ≤ 255) := hP1
    refine z_if_eq (tgt := 50) B dX12_isPacket_4 rfl (fun h9 => absurd h9 (by decide)) (fun c_2 => ?_)
    refine z_iload_n B dX12_isPacket_7 rfl 1 rfl ?_
    refine z_callS (As := [.int b]) (rest := []) B (r_isByte G l Φ1 sz x rd nw fl pe le nx il qu kn ec nu va st ep ti ad ob b hx hI1 hnw) (va_cwS 1 B.1.2.2.2.2 gX12_isPacket_X12_isByte rfl rfl rfl (by decide +kernel) ⟨Nat.le_of_ble_eq_true rfl, Nat.le_of_ble_eq_true rfl⟩) rfl rfl (Nat.le_of_ble_eq_true rfl) dX12_isPacket_8 ⟨Nat.le_of_ble_eq_true rfl, Nat.le_of_ble_eq_true rfl⟩ (fun r_2 Φ2 sz2 st2 hp2 hs2 => ?_)
    obtain ⟨ha2, hq2, hI2, hF2⟩ := hp2
    subst sz2
    replace hI2 : Im G x (rd, nw, fl, pe, le, nx, il, qu, kn, ec, nu, va, st, ep, ti, ad, ob) Φ2 := hI2
    rcases ha2 with ⟨rfl, hP2⟩ | ⟨rfl, hP2⟩
    · replace hs2 : st2 = [.int 0] := hs2
      subst st2
      replace hP2 : ¬ (0 ≤ b.toInt ∧ b.toInt ≤ 255) := hP2
      refine z_if_eq (tgt := 50) B dX12_isPacket_11 rfl (fun c_3 => ?_) (fun h9 => absurd (by decide) h9)
      refine z_iconst (v := 0) B dX12_isPacket_50 rfl ?_
      exact z_ret_z B dX12_isPacket_51 (by decide) ⟨(Or.inl ⟨rfl, by first | omega | (unfold PkP; omega)⟩), rfl, hI2, (fun b9 h9 => ((hF2 b9 (fun j9 h8 h7 => (show False from h7).elim)).trans ((hF1 b9 (fun j9 h8 h7 => (show False from h7).elim)).trans rfl)))⟩
    · replace hs2 : st2 = [.int 1] := hs2
      subst st2
      replace hP2 : (0 ≤ b.toInt ∧ b.toInt ≤ 255) := hP2
      refine z_if_eq (tgt := 50) B dX12_isPacket_11 rfl (fun h9 => absurd h9 (by decide)) (fun c_4 => ?_)
      refine z_iload_n B dX12_isPacket_14 rfl 2 rfl ?_
      refine z_i2l (v := d.toInt64) B dX12_isPacket_15 rfl ?_
      refine z_lconst (v := 0) B dX12_isPacket_16 rfl ?_
      refine z_ldc2 (v := 65535) B (by decide +kernel) dX12_isPacket_17 ?_
      by_cases hR1 : inP d.toInt64 0 65535
      · obtain ⟨n_1, e_1, e_2, e_3, rfl⟩ := in_get (L := 0) (H := 65535) (by decide) (by decide) hR1
        refine z_callS (As := [.long ((nI n_1).toInt64), .long 0, .long 65535]) (rest := []) B (c_inR1 G l Φ2 sz ((nI n_1).toInt64) 0 65535 hR1 (fun v8 Φ8 sz8 => v8 = some (.int 1) ∧ sz8 = sz ∧ Im G x (rd, nw, fl, pe, le, nx, il, qu, kn, ec, nu, va, st, ep, ti, ad, ob) Φ8 ∧ Fr x (fun j9 => False) Φ2 Φ8) ⟨rfl, rfl, hI2, fun _ _ => rfl⟩) (va_cwS 3 B.1.2.2.2.2 gX12_isPacket_X12_inRange rfl rfl rfl (by decide +kernel) ⟨Nat.le_of_ble_eq_true rfl, Nat.le_of_ble_eq_true rfl⟩) rfl rfl (Nat.le_of_ble_eq_true rfl) dX12_isPacket_20 ⟨Nat.le_of_ble_eq_true rfl, Nat.le_of_ble_eq_true rfl⟩ (fun r_3 Φ3 sz3 st3 hp3 hs3 => ?_)
        obtain ⟨rfl, hq3, hI3, hF3⟩ := hp3
        subst sz3
        replace hs3 : st3 = [.int 1] := hs3
        subst st3
        refine z_if_eq (tgt := 50) B dX12_isPacket_23 rfl (fun h9 => absurd h9 (by decide)) (fun c_5 => ?_)
        refine z_iload_n B dX12_isPacket_26 rfl 3 rfl ?_
        refine z_callS (As := [.int f]) (rest := []) B (r_isByte G l Φ3 sz x rd nw fl pe le nx il qu kn ec nu va st ep ti ad ob f hx hI3 hnw) (va_cwS 1 B.1.2.2.2.2 gX12_isPacket_X12_isByte rfl rfl rfl (by decide +kernel) ⟨Nat.le_of_ble_eq_true rfl, Nat.le_of_ble_eq_true rfl⟩) rfl rfl (Nat.le_of_ble_eq_true rfl) dX12_isPacket_27 ⟨Nat.le_of_ble_eq_true rfl, Nat.le_of_ble_eq_true rfl⟩ (fun r_4 Φ4 sz4 st4 hp4 hs4 => ?_)
        obtain ⟨ha3, hq4, hI4, hF4⟩ := hp4
        subst sz4
        replace hI4 : Im G x (rd, nw, fl, pe, le, nx, il, qu, kn, ec, nu, va, st, ep, ti, ad, ob) Φ4 := hI4
        rcases ha3 with ⟨rfl, hP3⟩ | ⟨rfl, hP3⟩
        · replace hs4 : st4 = [.int 0] := hs4
          subst st4
          replace hP3 : ¬ (0 ≤ f.toInt ∧ f.toInt ≤ 255) := hP3
          refine z_if_eq (tgt := 50) B dX12_isPacket_30 rfl (fun c_6 => ?_) (fun h9 => absurd (by decide) h9)
          refine z_iconst (v := 0) B dX12_isPacket_50 rfl ?_
          have k_1 : (nI n_1).toInt = ((n_1 : Nat) : Int) := nI_toInt (by omega)
          exact z_ret_z B dX12_isPacket_51 (by decide) ⟨(Or.inl ⟨rfl, by first | omega | (unfold PkP; omega)⟩), rfl, hI4, (fun b9 h9 => ((hF4 b9 (fun j9 h8 h7 => (show False from h7).elim)).trans ((hF3 b9 (fun j9 h8 h7 => (show False from h7).elim)).trans ((hF2 b9 (fun j9 h8 h7 => (show False from h7).elim)).trans ((hF1 b9 (fun j9 h8 h7 => (show False from h7).elim)).trans rfl)))))⟩
        · replace hs4 : st4 = [.int 1] := hs4
          subst st4
          replace hP3 : (0 ≤ f.toInt ∧ f.toInt ≤ 255) := hP3
          refine z_if_eq (tgt := 50) B dX12_isPacket_30 rfl (fun h9 => absurd h9 (by decide)) (fun c_7 => ?_)
          refine z_iload B dX12_isPacket_33 4 rfl ?_
          refine z_i2l (v := g.toInt64) B dX12_isPacket_35 rfl ?_
          refine z_lconst (v := 1) B dX12_isPacket_36 rfl ?_
          refine z_ldc2 (v := 65535) B (by decide +kernel) dX12_isPacket_37 ?_
          by_cases hR2 : inP g.toInt64 1 65535
          · obtain ⟨n_2, e_4, e_5, e_6, rfl⟩ := in_get (L := 1) (H := 65535) (by decide) (by decide) hR2
            refine z_callS (As := [.long ((nI n_2).toInt64), .long 1, .long 65535]) (rest := []) B (c_inR1 G l Φ4 sz ((nI n_2).toInt64) 1 65535 hR2 (fun v8 Φ8 sz8 => v8 = some (.int 1) ∧ sz8 = sz ∧ Im G x (rd, nw, fl, pe, le, nx, il, qu, kn, ec, nu, va, st, ep, ti, ad, ob) Φ8 ∧ Fr x (fun j9 => False) Φ4 Φ8) ⟨rfl, rfl, hI4, fun _ _ => rfl⟩) (va_cwS 3 B.1.2.2.2.2 gX12_isPacket_X12_inRange rfl rfl rfl (by decide +kernel) ⟨Nat.le_of_ble_eq_true rfl, Nat.le_of_ble_eq_true rfl⟩) rfl rfl (Nat.le_of_ble_eq_true rfl) dX12_isPacket_40 ⟨Nat.le_of_ble_eq_true rfl, Nat.le_of_ble_eq_true rfl⟩ (fun r_5 Φ5 sz5 st5 hp5 hs5 => ?_)
            obtain ⟨rfl, hq5, hI5, hF5⟩ := hp5
            subst sz5
            replace hs5 : st5 = [.int 1] := hs5
            subst st5
            refine z_if_eq (tgt := 50) B dX12_isPacket_43 rfl (fun h9 => absurd h9 (by decide)) (fun c_8 => ?_)
            refine z_iconst (v := 1) B dX12_isPacket_46 rfl ?_
            refine z_goto (tgt := 51) B dX12_isPacket_47 rfl ?_
            have k_2 : (nI n_1).toInt = ((n_1 : Nat) : Int) := nI_toInt (by omega)
            have k_3 : (nI n_2).toInt = ((n_2 : Nat) : Int) := nI_toInt (by omega)
            have hP4 : PkP a b (nI n_1) f (nI n_2) := by first | omega | (unfold PkP; omega)
            exact z_ret_z B dX12_isPacket_51 (by decide) ⟨(Or.inr ⟨rfl, hP4, PkP_f hP4⟩), rfl, hI5, (fun b9 h9 => ((hF5 b9 (fun j9 h8 h7 => (show False from h7).elim)).trans ((hF4 b9 (fun j9 h8 h7 => (show False from h7).elim)).trans ((hF3 b9 (fun j9 h8 h7 => (show False from h7).elim)).trans ((hF2 b9 (fun j9 h8 h7 => (show False from h7).elim)).trans ((hF1 b9 (fun j9 h8 h7 => (show False from h7).elim)).trans rfl))))))⟩
          · have q_1 : ¬ (1 ≤ g.toInt ∧ g.toInt ≤ 65535) := fun h9 => hR2 ((inP_i (by decide) (by decide)).mpr h9)
            refine z_callS (As := [.long g.toInt64, .long 1, .long 65535]) (rest := []) B (c_inR0 G l Φ4 sz g.toInt64 1 65535 hR2 (fun v8 Φ8 sz8 => v8 = some (.int 0) ∧ sz8 = sz ∧ Im G x (rd, nw, fl, pe, le, nx, il, qu, kn, ec, nu, va, st, ep, ti, ad, ob) Φ8 ∧ Fr x (fun j9 => False) Φ4 Φ8) ⟨rfl, rfl, hI4, fun _ _ => rfl⟩) (va_cwS 3 B.1.2.2.2.2 gX12_isPacket_X12_inRange rfl rfl rfl (by decide +kernel) ⟨Nat.le_of_ble_eq_true rfl, Nat.le_of_ble_eq_true rfl⟩) rfl rfl (Nat.le_of_ble_eq_true rfl) dX12_isPacket_40 ⟨Nat.le_of_ble_eq_true rfl, Nat.le_of_ble_eq_true rfl⟩ (fun r_6 Φ6 sz6 st6 hp6 hs6 => ?_)
            obtain ⟨rfl, hq6, hI6, hF6⟩ := hp6
            subst sz6
            replace hs6 : st6 = [.int 0] := hs6
            subst st6
            refine z_if_eq (tgt := 50) B dX12_isPacket_43 rfl (fun c_9 => ?_) (fun h9 => absurd (by decide) h9)
            refine z_iconst (v := 0) B dX12_isPacket_50 rfl ?_
            have k_4 : (nI n_1).toInt = ((n_1 : Nat) : Int) := nI_toInt (by omega)
            exact z_ret_z B dX12_isPacket_51 (by decide) ⟨(Or.inl ⟨rfl, by first | omega | (unfold PkP; omega)⟩), rfl, hI6, (fun b9 h9 => ((hF6 b9 (fun j9 h8 h7 => (show False from h7).elim)).trans ((hF4 b9 (fun j9 h8 h7 => (show False from h7).elim)).trans ((hF3 b9 (fun j9 h8 h7 => (show False from h7).elim)).trans ((hF2 b9 (fun j9 h8 h7 => (show False from h7).elim)).trans ((hF1 b9 (fun j9 h8 h7 => (show False from h7).elim)).trans rfl))))))⟩
      · have q_2 : ¬ (0 ≤ d.toInt ∧ d.toInt ≤ 65535) := fun h9 => hR1 ((inP_i (by decide) (by decide)).mpr h9)
        refine z_callS (As := [.long d.toInt64, .long 0, .long 65535]) (rest := []) B (c_inR0 G l Φ2 sz d.toInt64 0 65535 hR1 (fun v8 Φ8 sz8 => v8 = some (.int 0) ∧ sz8 = sz ∧ Im G x (rd, nw, fl, pe, le, nx, il, qu, kn, ec, nu, va, st, ep, ti, ad, ob) Φ8 ∧ Fr x (fun j9 => False) Φ2 Φ8) ⟨rfl, rfl, hI2, fun _ _ => rfl⟩) (va_cwS 3 B.1.2.2.2.2 gX12_isPacket_X12_inRange rfl rfl rfl (by decide +kernel) ⟨Nat.le_of_ble_eq_true rfl, Nat.le_of_ble_eq_true rfl⟩) rfl rfl (Nat.le_of_ble_eq_true rfl) dX12_isPacket_20 ⟨Nat.le_of_ble_eq_true rfl, Nat.le_of_ble_eq_true rfl⟩ (fun r_7 Φ7 sz7 st7 hp7 hs7 => ?_)
        obtain ⟨rfl, hq7, hI7, hF7⟩ := hp7
        subst sz7
        replace hs7 : st7 = [.int 0] := hs7
        subst st7
        refine z_if_eq (tgt := 50) B dX12_isPacket_23 rfl (fun c_10 => ?_) (fun h9 => absurd (by decide) h9)
        refine z_iconst (v := 0) B dX12_isPacket_50 rfl ?_
        exact z_ret_z B dX12_isPacket_51 (by decide) ⟨(Or.inl ⟨rfl, by first | omega | (unfold PkP; omega)⟩), rfl, hI7, (fun b9 h9 => ((hF7 b9 (fun j9 h8 h7 => (show False from h7).elim)).trans ((hF2 b9 (fun j9 h8 h7 => (show False from h7).elim)).trans ((hF1 b9 (fun j9 h8 h7 => (show False from h7).elim)).trans rfl))))⟩

theorem hu_X12_see_X12 : ∀ w ∈ u_ws RX12 TX12 54, w ∈ wsX12_see := fun _ h => List.mem_cons_of_mem _ (List.mem_append_left _ (List.mem_append_left _ (List.mem_append_right _ (h))))

theorem hv_X12_see_117 : Cond.fieldLink RX12 117 "FlowExporterModel" (TX12 15).2.1 (TX12 15).2.2.1 ∈ wsX12_see := List.mem_cons_of_mem _ (List.mem_append_left _ (List.mem_append_left _ (List.mem_append_left _ (List.mem_append_left _ (List.mem_of_getElem? (i := 0) rfl)))))

theorem hv_X12_see_107 : Cond.fieldLink RX12 107 "FlowExporterModel" (TX12 5).2.1 (TX12 5).2.2.1 ∈ wsX12_see := List.mem_cons_of_mem _ (List.mem_append_left _ (List.mem_append_left _ (List.mem_append_left _ (List.mem_append_left _ (List.mem_of_getElem? (i := 1) rfl)))))

theorem hv_X12_see_121 : Cond.fieldLink RX12 121 "FlowExporterModel" (TX12 16).2.1 (TX12 16).2.2.1 ∈ wsX12_see := List.mem_cons_of_mem _ (List.mem_append_left _ (List.mem_append_left _ (List.mem_append_left _ (List.mem_append_left _ (List.mem_of_getElem? (i := 2) rfl)))))

theorem fq_954 {x : Nat} : ∀ j9 : Nat, x + 5 = x + j9 → (j9 = 0 ∨ j9 = 23 ∨ j9 = 24) → False := by
  intro j9 h1 h2
  omega

theorem hv_X12_see_133 : Cond.fieldLink RX12 133 "FlowExporterModel" (TX12 13).2.1 (TX12 13).2.2.1 ∈ wsX12_see := List.mem_cons_of_mem _ (List.mem_append_left _ (List.mem_append_left _ (List.mem_append_left _ (List.mem_append_left _ (List.mem_of_getElem? (i := 3) rfl)))))

theorem hv_X12_see_26 : Cond.fieldLink RX12 26 "FlowExporterModel" (TX12 12).2.1 (TX12 12).2.2.1 ∈ wsX12_see := List.mem_cons_of_mem _ (List.mem_append_left _ (List.mem_append_left _ (List.mem_append_left _ (List.mem_append_left _ (List.mem_of_getElem? (i := 4) rfl)))))

theorem hv_X12_see_101 : Cond.fieldLink RX12 101 "FlowExporterModel" (TX12 3).2.1 (TX12 3).2.2.1 ∈ wsX12_see := List.mem_cons_of_mem _ (List.mem_append_left _ (List.mem_append_left _ (List.mem_append_left _ (List.mem_append_left _ (List.mem_of_getElem? (i := 5) rfl)))))

theorem fq_958 : ∀ j9 : Nat, (j9 = 0 ∨ j9 = 23 ∨ j9 = 24) → (j9 = 0 ∨ j9 = 5 ∨ j9 = 6 ∨ j9 = 7 ∨ j9 = 23 ∨ j9 = 24) := by
  intro j9 h
  omega

theorem fq_959 : ∀ j9 : Nat, (j9 = 0 ∨ j9 = 5 ∨ j9 = 6 ∨ j9 = 7) → (j9 = 0 ∨ j9 = 5 ∨ j9 = 6 ∨ j9 = 7 ∨ j9 = 23 ∨ j9 = 24) := by
  intro j9 h
  omega

theorem fq_960 {x : Nat} : ∀ j9 : Nat, x + 5 = x + j9 → (j9 = 0) → False := by
  intro j9 h1 h2
  omega

theorem fq_961 : ∀ j9 : Nat, (j9 = 0) → (j9 = 0 ∨ j9 = 5 ∨ j9 = 6 ∨ j9 = 7 ∨ j9 = 23 ∨ j9 = 24) := by
  intro j9 h
  omega

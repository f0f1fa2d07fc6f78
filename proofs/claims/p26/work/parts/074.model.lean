set_option maxRecDepth 20000 in
theorem ggX12_export_X12_effective : GoodIn wsX12_export wsX12_effective := goodIn_ca ((goodIn_ca (goodIn_r _ [10, 1, 11, 12, 13, 9, 14, 15, 16, 17, 18, 19, 20, 21, 22] rfl (by decide +kernel)) (goodIn_sub (fun _ h => List.mem_cons_of_mem _ (List.mem_append_left _ (List.mem_append_right _ h))) gw_wsX120))) (goodIn_sub (fun _ h => List.mem_cons_of_mem _ (List.mem_append_right _ h)) (all_fg _))
set_option maxRecDepth 20000 in
theorem gX12_export_X12_effective : GoodIn wsX12_export (wsV RX12 192 RX12 yX12_effective wsX12_effective) := goodIn_app (goodIn_m (mem_cA (List.mem_cons_of_mem _ (List.mem_append_left _ (List.mem_append_left _ (List.mem_append_left _ (List.mem_of_getElem? (i := 5) rfl))))) (mem_cA (List.mem_cons_of_mem _ (List.mem_append_left _ (List.mem_append_left _ (List.mem_append_left _ (List.mem_of_getElem? (i := 6) rfl))))) (mem_cA (List.mem_cons_of_mem _ (List.mem_append_left _ (List.mem_append_left _ (List.mem_append_left _ (List.mem_of_getElem? (i := 7) rfl))))) (mem_cA (List.mem_cons_of_mem _ (List.mem_append_left _ (List.mem_append_left _ (List.mem_append_left _ (List.mem_of_getElem? (i := 8) rfl))))) mem_cZ)))) (by decide +kernel)) ggX12_export_X12_effective
set_option maxRecDepth 20000 in
theorem ggX12_export_X12_appendRecord : GoodIn wsX12_export wsX12_appendRecord := goodIn_ca ((goodIn_ca (goodIn_r _ [26, 27, 28, 29, 30, 15, 16, 17, 9, 18, 1, 19, 20, 21, 22, 31, 32, 33, 34, 35, 36, 37, 38, 39, 40, 41, 42, 2, 43, 44, 45, 46, 47, 48, 49, 50, 51, 52, 53, 54] rfl (by decide +kernel)) (goodIn_sub (fun _ h => List.mem_cons_of_mem _ (List.mem_append_left _ (List.mem_append_right _ h))) gw_wsX120))) (goodIn_sub (fun _ h => List.mem_cons_of_mem _ (List.mem_append_right _ h)) (all_fg _))
set_option maxRecDepth 20000 in
theorem gX12_export_X12_appendRecord : GoodIn wsX12_export (wsV RX12 220 RX12 yX12_appendRecord wsX12_appendRecord) := goodIn_app (goodIn_m (mem_cA (List.mem_cons_of_mem _ (List.mem_append_left _ (List.mem_append_left _ (List.mem_append_left _ (List.mem_of_getElem? (i := 22) rfl))))) (mem_cA (List.mem_cons_of_mem _ (List.mem_append_left _ (List.mem_append_left _ (List.mem_append_left _ (List.mem_of_getElem? (i := 23) rfl))))) (mem_cA (List.mem_cons_of_mem _ (List.mem_append_left _ (List.mem_append_left _ (List.mem_append_right _ (List.mem_append_left _ (List.mem_of_getElem? (i := 0) rfl)))))) (mem_cA (List.mem_cons_of_mem _ (List.mem_append_left _ (List.mem_append_left _ (List.mem_append_left _ (List.mem_of_getElem? (i := 8) rfl))))) mem_cZ)))) (by decide +kernel)) ggX12_export_X12_appendRecord
theorem dX12_export_0 : decode cX12_export 0 = .ok (.aload_n 0, 1) := by decide +kernel
theorem dX12_export_1 : decode cX12_export 1 = .ok (.getfield 17, 3) := by decide +kernel
theorem dX12_export_4 : decode cX12_export 4 = .ok (.bipush 51, 2) := by decide +kernel
theorem dX12_export_6 : decode cX12_export 6 = .ok (.aload_n 0, 1) := by decide +kernel
theorem dX12_export_7 : decode cX12_export 7 = .ok (.getfield 26, 3) := by decide +kernel
theorem dX12_export_10 : decode cX12_export 10 = .ok (.bipush 8, 2) := by decide +kernel
theorem dX12_export_12 : decode cX12_export 12 = .ok (.iload_n 1, 1) := by decide +kernel
theorem dX12_export_13 : decode cX12_export 13 = .ok (.imul, 1) := by decide +kernel
theorem dX12_export_14 : decode cX12_export 14 = .ok (.iconst 3, 1) := by decide +kernel
theorem dX12_export_15 : decode cX12_export 15 = .ok (.iadd, 1) := by decide +kernel
theorem dX12_export_16 : decode cX12_export 16 = .ok (.laload, 1) := by decide +kernel
theorem dX12_export_17 : decode cX12_export 17 = .ok (.l2i, 1) := by decide +kernel
theorem dX12_export_18 : decode cX12_export 18 = .ok (.iadd, 1) := by decide +kernel
theorem dX12_export_19 : decode cX12_export 19 = .ok (.iaload, 1) := by decide +kernel
theorem dX12_export_20 : decode cX12_export 20 = .ok (.istore_n 2, 1) := by decide +kernel
theorem dX12_export_21 : decode cX12_export 21 = .ok (.aload_n 0, 1) := by decide +kernel
theorem dX12_export_22 : decode cX12_export 22 = .ok (.iload_n 2, 1) := by decide +kernel
theorem dX12_export_23 : decode cX12_export 23 = .ok (.invokevirtual 192, 3) := by decide +kernel
theorem dX12_export_26 : decode cX12_export 26 = .ok (.ifCond .eq 12, 3) := by decide +kernel
theorem dX12_export_29 : decode cX12_export 29 = .ok (.aload_n 0, 1) := by decide +kernel
theorem dX12_export_30 : decode cX12_export 30 = .ok (.iload_n 1, 1) := by decide +kernel
theorem dX12_export_31 : decode cX12_export 31 = .ok (.iload_n 2, 1) := by decide +kernel
theorem dX12_export_32 : decode cX12_export 32 = .ok (.invokevirtual 220, 3) := by decide +kernel
theorem dX12_export_35 : decode cX12_export 35 = .ok (.goto 13, 3) := by decide +kernel
theorem dX12_export_38 : decode cX12_export 38 = .ok (.aload_n 0, 1) := by decide +kernel
theorem dX12_export_39 : decode cX12_export 39 = .ok (.dup, 1) := by decide +kernel
theorem dX12_export_40 : decode cX12_export 40 = .ok (.getfield 127, 3) := by decide +kernel
theorem dX12_export_43 : decode cX12_export 43 = .ok (.lconst 1, 1) := by decide +kernel
theorem dX12_export_44 : decode cX12_export 44 = .ok (.ladd, 1) := by decide +kernel
theorem dX12_export_45 : decode cX12_export 45 = .ok (.putfield 127, 3) := by decide +kernel
theorem dX12_export_48 : decode cX12_export 48 = .ok (.aload_n 0, 1) := by decide +kernel
theorem dX12_export_49 : decode cX12_export 49 = .ok (.dup, 1) := by decide +kernel
theorem dX12_export_50 : decode cX12_export 50 = .ok (.getfield 114, 3) := by decide +kernel
theorem dX12_export_53 : decode cX12_export 53 = .ok (.iconst 1, 1) := by decide +kernel
theorem dX12_export_54 : decode cX12_export 54 = .ok (.iadd, 1) := by decide +kernel
theorem dX12_export_55 : decode cX12_export 55 = .ok (.putfield 114, 3) := by decide +kernel
theorem dX12_export_58 : decode cX12_export 58 = .ok (.aload_n 0, 1) := by decide +kernel
theorem dX12_export_59 : decode cX12_export 59 = .ok (.dup, 1) := by decide +kernel
theorem dX12_export_60 : decode cX12_export 60 = .ok (.getfield 133, 3) := by decide +kernel
theorem dX12_export_63 : decode cX12_export 63 = .ok (.iconst 1, 1) := by decide +kernel
theorem dX12_export_64 : decode cX12_export 64 = .ok (.isub, 1) := by decide +kernel
theorem dX12_export_65 : decode cX12_export 65 = .ok (.putfield 133, 3) := by decide +kernel
theorem dX12_export_68 : decode cX12_export 68 = .ok (.bipush 8, 2) := by decide +kernel
theorem dX12_export_70 : decode cX12_export 70 = .ok (.iload_n 1, 1) := by decide +kernel
theorem dX12_export_71 : decode cX12_export 71 = .ok (.imul, 1) := by decide +kernel
theorem dX12_export_72 : decode cX12_export 72 = .ok (.istore_n 3, 1) := by decide +kernel
theorem dX12_export_73 : decode cX12_export 73 = .ok (.iload_n 3, 1) := by decide +kernel
theorem dX12_export_74 : decode cX12_export 74 = .ok (.bipush 8, 2) := by decide +kernel
theorem dX12_export_76 : decode cX12_export 76 = .ok (.aload_n 0, 1) := by decide +kernel
theorem dX12_export_77 : decode cX12_export 77 = .ok (.getfield 133, 3) := by decide +kernel
theorem dX12_export_80 : decode cX12_export 80 = .ok (.imul, 1) := by decide +kernel
theorem dX12_export_81 : decode cX12_export 81 = .ok (.if_icmp .ge 24, 3) := by decide +kernel
theorem dX12_export_84 : decode cX12_export 84 = .ok (.aload_n 0, 1) := by decide +kernel
theorem dX12_export_85 : decode cX12_export 85 = .ok (.getfield 26, 3) := by decide +kernel
theorem dX12_export_88 : decode cX12_export 88 = .ok (.iload_n 3, 1) := by decide +kernel
theorem dX12_export_89 : decode cX12_export 89 = .ok (.aload_n 0, 1) := by decide +kernel
theorem dX12_export_90 : decode cX12_export 90 = .ok (.getfield 26, 3) := by decide +kernel
theorem dX12_export_93 : decode cX12_export 93 = .ok (.iload_n 3, 1) := by decide +kernel
theorem dX12_export_94 : decode cX12_export 94 = .ok (.bipush 8, 2) := by decide +kernel
theorem dX12_export_96 : decode cX12_export 96 = .ok (.iadd, 1) := by decide +kernel
theorem dX12_export_97 : decode cX12_export 97 = .ok (.laload, 1) := by decide +kernel
theorem dX12_export_98 : decode cX12_export 98 = .ok (.lastore, 1) := by decide +kernel
theorem dX12_export_99 : decode cX12_export 99 = .ok (.iinc 3 1, 3) := by decide +kernel
theorem dX12_export_102 : decode cX12_export 102 = .ok (.goto (-29), 3) := by decide +kernel
theorem dX12_export_105 : decode cX12_export 105 = .ok (.return_, 1) := by decide +kernel
set_option maxRecDepth 20000 in
theorem ggX12_exportAll_X12_export : GoodIn wsX12_exportAll wsX12_export := goodIn_ca ((goodIn_ca (goodIn_r _ [6, 7, 8, 9, 10, 1, 11, 12, 13, 5, 14, 15, 16, 17, 18, 19, 20, 21, 22, 23, 24, 25, 26, 27, 28, 29, 30, 31, 32, 33, 34, 35, 36, 37, 38, 39, 40, 41, 42, 43, 44, 45, 46, 47, 48, 49, 50, 51, 52, 53, 54, 55, 56, 57, 58] rfl (by decide +kernel)) (goodIn_sub (fun _ h => List.mem_cons_of_mem _ (List.mem_append_left _ (List.mem_append_right _ h))) gw_wsX120))) (goodIn_sub (fun _ h => List.mem_cons_of_mem _ (List.mem_append_right _ h)) (all_fg _))
set_option maxRecDepth 20000 in
theorem gX12_exportAll_X12_export : GoodIn wsX12_exportAll (wsV RX12 224 RX12 yX12_export wsX12_export) := goodIn_app (goodIn_m (mem_cA (List.mem_cons_of_mem _ (List.mem_append_left _ (List.mem_append_left _ (List.mem_append_left _ (List.mem_of_getElem? (i := 1) rfl))))) (mem_cA (List.mem_cons_of_mem _ (List.mem_append_left _ (List.mem_append_left _ (List.mem_append_left _ (List.mem_of_getElem? (i := 2) rfl))))) (mem_cA (List.mem_cons_of_mem _ (List.mem_append_left _ (List.mem_append_left _ (List.mem_append_left _ (List.mem_of_getElem? (i := 3) rfl))))) (mem_cA (List.mem_cons_of_mem _ (List.mem_append_left _ (List.mem_append_left _ (List.mem_append_left _ (List.mem_of_getElem? (i := 4) rfl))))) mem_cZ)))) (by decide +kernel)) ggX12_exportAll_X12_export
theorem dX12_exportAll_0 : decode cX12_exportAll 0 = .ok (.aload_n 0, 1) := by decide +kernel
theorem dX12_exportAll_1 : decode cX12_exportAll 1 = .ok (.getfield 133, 3) := by decide +kernel
theorem dX12_exportAll_4 : decode cX12_exportAll 4 = .ok (.istore_n 1, 1) := by decide +kernel
theorem dX12_exportAll_5 : decode cX12_exportAll 5 = .ok (.aload_n 0, 1) := by decide +kernel
theorem dX12_exportAll_6 : decode cX12_exportAll 6 = .ok (.getfield 133, 3) := by decide +kernel
theorem dX12_exportAll_9 : decode cX12_exportAll 9 = .ok (.ifCond .le 11, 3) := by decide +kernel
theorem dX12_exportAll_12 : decode cX12_exportAll 12 = .ok (.aload_n 0, 1) := by decide +kernel
theorem dX12_exportAll_13 : decode cX12_exportAll 13 = .ok (.iconst 0, 1) := by decide +kernel
theorem dX12_exportAll_14 : decode cX12_exportAll 14 = .ok (.invokevirtual 224, 3) := by decide +kernel
theorem dX12_exportAll_17 : decode cX12_exportAll 17 = .ok (.goto (-12), 3) := by decide +kernel
theorem dX12_exportAll_20 : decode cX12_exportAll 20 = .ok (.iload_n 1, 1) := by decide +kernel
theorem dX12_exportAll_21 : decode cX12_exportAll 21 = .ok (.ireturn, 1) := by decide +kernel
set_option maxRecDepth 20000 in
theorem ggX12_makeRoom_X12_export : GoodIn wsX12_makeRoom wsX12_export := goodIn_ca ((goodIn_ca (goodIn_r _ [7, 8, 2, 9, 10, 1, 11, 12, 13, 6, 14, 15, 16, 17, 18, 19, 20, 21, 22, 23, 24, 25, 26, 27, 28, 29, 30, 31, 32, 33, 34, 35, 36, 37, 38, 39, 40, 41, 42, 43, 44, 45, 46, 47, 48, 49, 50, 51, 52, 53, 54, 55, 56, 57, 58] rfl (by decide +kernel)) (goodIn_sub (fun _ h => List.mem_cons_of_mem _ (List.mem_append_left _ (List.mem_append_right _ h))) gw_wsX120))) (goodIn_sub (fun _ h => List.mem_cons_of_mem _ (List.mem_append_right _ h)) (all_fg _))
set_option maxRecDepth 20000 in
theorem gX12_makeRoom_X12_export : GoodIn wsX12_makeRoom (wsV RX12 224 RX12 yX12_export wsX12_export) := goodIn_app (goodIn_m (mem_cA (List.mem_cons_of_mem _ (List.mem_append_left _ (List.mem_append_left _ (List.mem_append_left _ (List.mem_of_getElem? (i := 2) rfl))))) (mem_cA (List.mem_cons_of_mem _ (List.mem_append_left _ (List.mem_append_left _ (List.mem_append_left _ (List.mem_of_getElem? (i := 3) rfl))))) (mem_cA (List.mem_cons_of_mem _ (List.mem_append_left _ (List.mem_append_left _ (List.mem_append_left _ (List.mem_of_getElem? (i := 4) rfl))))) (mem_cA (List.mem_cons_of_mem _ (List.mem_append_left _ (List.mem_append_left _ (List.mem_append_left _ (List.mem_of_getElem? (i := 5) rfl))))) mem_cZ)))) (by decide +kernel)) ggX12_makeRoom_X12_export
theorem dX12_makeRoom_0 : decode cX12_makeRoom 0 = .ok (.aload_n 0, 1) := by decide +kernel
theorem dX12_makeRoom_1 : decode cX12_makeRoom 1 = .ok (.getfield 133, 3) := by decide +kernel
theorem dX12_makeRoom_4 : decode cX12_makeRoom 4 = .ok (.bipush 12, 2) := by decide +kernel
theorem dX12_makeRoom_6 : decode cX12_makeRoom 6 = .ok (.if_icmp .ge 4, 3) := by decide +kernel
theorem dX12_makeRoom_9 : decode cX12_makeRoom 9 = .ok (.return_, 1) := by decide +kernel
theorem dX12_makeRoom_10 : decode cX12_makeRoom 10 = .ok (.iconst 0, 1) := by decide +kernel
theorem dX12_makeRoom_11 : decode cX12_makeRoom 11 = .ok (.istore_n 1, 1) := by decide +kernel
theorem dX12_makeRoom_12 : decode cX12_makeRoom 12 = .ok (.iconst 1, 1) := by decide +kernel
theorem dX12_makeRoom_13 : decode cX12_makeRoom 13 = .ok (.istore_n 2, 1) := by decide +kernel
theorem dX12_makeRoom_14 : decode cX12_makeRoom 14 = .ok (.iload_n 2, 1) := by decide +kernel
theorem dX12_makeRoom_15 : decode cX12_makeRoom 15 = .ok (.aload_n 0, 1) := by decide +kernel
theorem dX12_makeRoom_16 : decode cX12_makeRoom 16 = .ok (.getfield 133, 3) := by decide +kernel
theorem dX12_makeRoom_19 : decode cX12_makeRoom 19 = .ok (.if_icmp .ge 39, 3) := by decide +kernel
theorem dX12_makeRoom_22 : decode cX12_makeRoom 22 = .ok (.aload_n 0, 1) := by decide +kernel
theorem dX12_makeRoom_23 : decode cX12_makeRoom 23 = .ok (.getfield 26, 3) := by decide +kernel
theorem dX12_makeRoom_26 : decode cX12_makeRoom 26 = .ok (.bipush 8, 2) := by decide +kernel
theorem dX12_makeRoom_28 : decode cX12_makeRoom 28 = .ok (.iload_n 2, 1) := by decide +kernel
theorem dX12_makeRoom_29 : decode cX12_makeRoom 29 = .ok (.imul, 1) := by decide +kernel
theorem dX12_makeRoom_30 : decode cX12_makeRoom 30 = .ok (.bipush 7, 2) := by decide +kernel
theorem dX12_makeRoom_32 : decode cX12_makeRoom 32 = .ok (.iadd, 1) := by decide +kernel
theorem dX12_makeRoom_33 : decode cX12_makeRoom 33 = .ok (.laload, 1) := by decide +kernel
theorem dX12_makeRoom_34 : decode cX12_makeRoom 34 = .ok (.aload_n 0, 1) := by decide +kernel
theorem dX12_makeRoom_35 : decode cX12_makeRoom 35 = .ok (.getfield 26, 3) := by decide +kernel
theorem dX12_makeRoom_38 : decode cX12_makeRoom 38 = .ok (.bipush 8, 2) := by decide +kernel
theorem dX12_makeRoom_40 : decode cX12_makeRoom 40 = .ok (.iload_n 1, 1) := by decide +kernel
theorem dX12_makeRoom_41 : decode cX12_makeRoom 41 = .ok (.imul, 1) := by decide +kernel
theorem dX12_makeRoom_42 : decode cX12_makeRoom 42 = .ok (.bipush 7, 2) := by decide +kernel
theorem dX12_makeRoom_44 : decode cX12_makeRoom 44 = .ok (.iadd, 1) := by decide +kernel
theorem dX12_makeRoom_45 : decode cX12_makeRoom 45 = .ok (.laload, 1) := by decide +kernel
theorem dX12_makeRoom_46 : decode cX12_makeRoom 46 = .ok (.lcmp, 1) := by decide +kernel
theorem dX12_makeRoom_47 : decode cX12_makeRoom 47 = .ok (.ifCond .ge 5, 3) := by decide +kernel
theorem dX12_makeRoom_50 : decode cX12_makeRoom 50 = .ok (.iload_n 2, 1) := by decide +kernel
theorem dX12_makeRoom_51 : decode cX12_makeRoom 51 = .ok (.istore_n 1, 1) := by decide +kernel
theorem dX12_makeRoom_52 : decode cX12_makeRoom 52 = .ok (.iinc 2 1, 3) := by decide +kernel
theorem dX12_makeRoom_55 : decode cX12_makeRoom 55 = .ok (.goto (-41), 3) := by decide +kernel
theorem dX12_makeRoom_58 : decode cX12_makeRoom 58 = .ok (.aload_n 0, 1) := by decide +kernel
theorem dX12_makeRoom_59 : decode cX12_makeRoom 59 = .ok (.iload_n 1, 1) := by decide +kernel
theorem dX12_makeRoom_60 : decode cX12_makeRoom 60 = .ok (.invokevirtual 224, 3) := by decide +kernel
theorem dX12_makeRoom_63 : decode cX12_makeRoom 63 = .ok (.return_, 1) := by decide +kernel
set_option maxHeartbeats 4000000 in
set_option maxRecDepth 100000 in
theorem r_export (G : EnvG) (l : Launch) (Φ : Hm) (sz x : Nat) (rd : (Nat → Int32) → Prop) (tp : (Nat → Int32) → Prop) (tt : (Nat → Int64) → Prop) (sI : (Nat → Int32) → Prop) (sT : (Nat → Int32) → Prop) (ql : (Nat → Int32) → Prop) (fl : Nat) (pe : Nat) (le : Nat) (nx : Nat) (il : Nat) (qu : Nat) (kn : Int32) (ec : Int32) (nu : Int32) (va : Int64) (st : Nat) (ep : Int32) (ti : Int32) (ad : Int32) (ob : Int64) (ra : Int32) (rt : Nat) (ex : Int32) (sa : Int64) (us : Int64) (tk : Nat) (th : Int32) (me : Int32) (dr : Int32) (se : Int64) (sn : Int64) (c : Cf) (Fs : Nat → Fl) (P : Nat → Nat) (f : Nat) (hx : G.2.2.2 ≤ x) (hI : Im G x (rd, (NNq c), (CaQ fl Fs), tp, tt, sI, sT, (PtQ pe P), ql, fl, pe, le, nx, il, qu, kn, ec, nu, va, st, ep, ti, ad, ob, ra, rt, ex, sa, us, tk, th, me, dr, se, sn) Φ) (hf : f < fl) (hp : pe < 12) : Ct G l yX12_export wsX12_export ({ frames := 4, cells := 0, slots := 0, locals := 88 }) 0 0 [.ref x, .int (nI f)] Φ sz (fun v Φ1 sz1 => (v = none) ∧ sz1 = sz ∧ (∃ (u1 : UN), (u1.2.1 ≤ pe + 1) ∧ (unE c (Fs f).1 (us, pe, P) = u1) ∧ Im G x (rd, (NNq c), (CaQ (fl - 1) (shF Fs f)), tp, tt, sI, sT, (PtQ u1.2.1 u1.2.2), ql, fl - 1, u1.2.1, le, nx, il, qu, kn, ec, nu, va, st, ep, ti, ad, ob, ra, rt, ex + 1, sa, u1.1, tk, th, me, dr, se, sn) Φ1) ∧ Fr x (fun j9 => j9 = 0 ∨ j9 = 5 ∨ j9 = 6 ∨ j9 = 7) Φ Φ1) := by
  refine Ct.of (cc := cX12_export) (maxL := 4) (ret := none) (by decide) rfl (Nat.le_of_ble_eq_true rfl) ?_
  intro p9 e9 s9 m9 w9 t9 k9 B
  show Z p9 l e9 _ s9 m9 _ w9 t9 k9 _ G 4 0 [(0, .ref x), (1, .int (nI f))] [] Φ sz 0 0
  refine z_aload_n B dX12_export_0 rfl 0 rfl ?_
  obtain ⟨n_1, v_1, n_2, h_1, b_13, b_1, b_2, b_3, b_4, b_5, b_6, b_7, b_8, b_9, b_10, b_11, b_12⟩ := im0 hI
  replace b_1 : 1 ≤ rt := b_1
  replace b_2 : rt ≤ 1024 := b_2
  replace b_3 : fl ≤ 12 := b_3
  replace b_4 : pe ≤ 24 := b_4
  replace b_5 : le ≤ 700 := b_5
  replace b_6 : qu ≤ 12 := b_6
  replace b_7 : n_1 ≤ 8 := b_7
  replace b_8 : n_2 ≤ 24 := b_8
  replace b_9 : tk ≤ 24 := b_9
  replace b_10 : il ≤ 700 := b_10
  replace b_11 : nx ≤ 701 := b_11
  replace b_12 : st ≤ 701 := b_12
  have h_2 : Φ x = some (o_ 14 [.int th, .ref (x + 1), .ref (x + 2), .int ti, .int ra, .int (nI rt), .int ex, .int ad, .ref (x + 3), .ref (x + 4), .int me, .long se, .ref (x + 5), .int (nI fl), .int dr, .long ob, .long sa, .long sn, .long us, .ref (x + 6), .ref (x + 7), .int (nI pe), .ref (x + 8), .int (nI le), .ref (x + 9), .ref (x + 10), .int (nI qu), .ref (x + 11), .ref (x + 12), .ref (x + 13), .ref (x + 14), .ref (x + 15), .ref (x + 16), .int (nI n_1), .long v_1, .ref (x + 17), .ref (x + 18), .ref (x + 19), .ref (x + 20), .ref (x + 21), .ref (x + 22), .int (nI n_2), .ref (x + 23), .ref (x + 24), .int (nI tk), .ref (x + 25), .int (nI il), .int (nI nx), .int ec, .int ep, .int kn, .int (nI st), .int nu, .long va]) := h_1
  refine z_get (ref := "FlowExporterModel") (C := RX12) (T := TX12) (N := 54) (ci := 14) (v := .ref (x + 2)) B hu_X12_export_X12 rfl 2 (Nat.le_of_ble_eq_true rfl) hv_X12_export_17 rfl h_2 rfl dX12_export_1 ?_
  refine z_bipush (v := 51) B dX12_export_4 rfl ?_
  refine z_aload_n B dX12_export_6 rfl 0 rfl ?_
  refine z_get (ref := "FlowExporterModel") (C := RX12) (T := TX12) (N := 54) (ci := 14) (v := .ref (x + 5)) B hu_X12_export_X12 rfl 12 (Nat.le_of_ble_eq_true rfl) hv_X12_export_26 rfl h_2 rfl dX12_export_7 ?_
  refine z_bipush (v := 8) B dX12_export_10 rfl ?_
  refine z_iload_n B dX12_export_12 rfl 1 rfl ?_
  refine z_imul B dX12_export_13 ?_
  refine z_top (st1 := [.int (nI (8 * f)), .ref (x + 5), .int 51, .ref (x + 2)]) (congrArg (fun w9 : Int32 => ([.int w9, .ref (x + 5), .int 51, .ref (x + 2)] : List Value)) (nI_mul 8 f)) ?_
  refine z_iconst (v := 3) B dX12_export_14 rfl ?_
  refine z_iadd B dX12_export_15 ?_
  refine z_top (st1 := [.int (nI (8 * f + 3)), .ref (x + 5), .int 51, .ref (x + 2)]) (congrArg (fun w9 : Int32 => ([.int w9, .ref (x + 5), .int 51, .ref (x + 2)] : List Value)) (nI_add (8 * f) 3)) ?_
  obtain ⟨f_1, h_3, r_1, r_2⟩ := imk (k := 5) hI
  replace r_2 : (CaQ fl Fs) f_1 := r_2
  replace r_1 : CC f_1 := r_1
  have h_4 : Φ (x + 5) = some (al_ G 96 f_1) := h_3
  refine z_lald B h_4 (vp_in_nI (by omega) (by omega)) dX12_export_16 ?_
  refine z_top (st1 := [.long (Int64.ofNat ((Fs f).1 % 256)), .int 51, .ref (x + 2)]) (congrArg (fun w9 : Int64 => ([.long w9, .int 51, .ref (x + 2)] : List Value)) ((congrArg f_1 (nI_clamp (by omega))).trans ((CaQ.at r_2 (j := f) (by omega) 3 (by decide) rfl).trans (toL (by omega))))) ?_
  refine z_l2i (v := (Int64.ofNat ((Fs f).1 % 256)).toInt32) B dX12_export_17 rfl ?_
  refine z_top (st1 := [.int (nI ((Fs f).1 % 256)), .int 51, .ref (x + 2)]) (congrArg (fun w9 : Int32 => ([.int w9, .int 51, .ref (x + 2)] : List Value)) (ofL (by omega))) ?_
  refine z_iadd B dX12_export_18 ?_
  refine z_top (st1 := [.int (nI (51 + (Fs f).1 % 256)), .ref (x + 2)]) (congrArg (fun w9 : Int32 => ([.int w9, .ref (x + 2)] : List Value)) (nI_add 51 ((Fs f).1 % 256))) ?_
  obtain ⟨f_2, h_5, r_3⟩ := imk (k := 2) hI
  replace r_3 : (NNq c) f_2 := r_3
  have r_4 : NN f_2 := r_3.1
  have h_6 : Φ (x + 2) = some (ai_ G 307 f_2) := h_5
  refine z_iald B h_6 (vp_in_nI (by omega) (by omega)) dX12_export_19 ?_
  have b_14 := NNq.us r_3 (Fs f).1
  have b_15 := b_14.2
  refine z_top (st1 := [.int (nI (usN c (Fs f).1))]) (congrArg (fun w9 : Int32 => ([.int w9] : List Value)) ((congrArg f_2 (nI_clamp (by omega))).trans ((r_3.2 _ (by omega)).trans b_14.1))) ?_
  refine z_istore_n (lv' := [(2, .int (nI (usN c (Fs f).1))), (0, .ref x), (1, .int (nI f))]) B dX12_export_20 rfl (Nat.le_of_ble_eq_true rfl) rfl ?_
  refine z_aload_n B dX12_export_21 rfl 1 rfl ?_
  refine z_iload_n B dX12_export_22 rfl 0 rfl ?_
  refine z_callV (As := [.int (nI (usN c (Fs f).1))]) (rest := []) B (r_effectiveC G l Φ sz x rd (CaQ fl Fs) tp tt sI sT (PtQ pe P) ql fl pe le nx il qu kn ec nu va st ep ti ad ob ra rt ex sa us tk th me dr se sn c (usN c (Fs f).1) hx hI (show (usN c (Fs f).1) < 4 by omega)) (cwV 1 B.1.2.2.2.2 gX12_export_X12_effective rfl rfl rfl (by decide +kernel) ⟨Nat.le_of_ble_eq_true rfl, Nat.le_of_ble_eq_true rfl⟩) h_2 rfl rfl rfl rfl (Nat.le_of_ble_eq_true rfl) dX12_export_23 ⟨Nat.le_of_ble_eq_true rfl, Nat.le_of_ble_eq_true rfl⟩ (fun r_5 Φ1 sz1 st1 hp1 hs1 => ?_)
  obtain ⟨rfl, hq1, hI1, hF1⟩ := hp1
  subst sz1
  replace hs1 : st1 = [.int (tfF c (usN c (Fs f).1) &&& c 9)] := hs1
  subst st1
  replace hI1 : Im G x (rd, (NNq c), (CaQ fl Fs), tp, tt, sI, sT, (PtQ pe P), ql, fl, pe, le, nx, il, qu, kn, ec, nu, va, st, ep, ti, ad, ob, ra, rt, ex, sa, us, tk, th, me, dr, se, sn) Φ1 := hI1
  refine z_if_eq (tgt := 38) B dX12_export_26 rfl (fun c_1 => ?_) (fun c_1 => ?_)
  · refine z_aload_n B dX12_export_38 rfl 1 rfl ?_
    refine z_dup B dX12_export_39 rfl ?_
    have h_7 : Φ1 x = some (o_ 14 [.int th, .ref (x + 1), .ref (x + 2), .int ti, .int ra, .int (nI rt), .int ex, .int ad, .ref (x + 3), .ref (x + 4), .int me, .long se, .ref (x + 5), .int (nI fl), .int dr, .long ob, .long sa, .long sn, .long us, .ref (x + 6), .ref (x + 7), .int (nI pe), .ref (x + 8), .int (nI le), .ref (x + 9), .ref (x + 10), .int (nI qu), .ref (x + 11), .ref (x + 12), .ref (x + 13), .ref (x + 14), .ref (x + 15), .ref (x + 16), .int (nI n_1), .long v_1, .ref (x + 17), .ref (x + 18), .ref (x + 19), .ref (x + 20), .ref (x + 21), .ref (x + 22), .int (nI n_2), .ref (x + 23), .ref (x + 24), .int (nI tk), .ref (x + 25), .int (nI il), .int (nI nx), .int ec, .int ep, .int kn, .int (nI st), .int nu, .long va]) := ((hF1 x (fun j9 h8 h7 => (show False from h7).elim)).trans h_2)
    refine z_get (ref := "FlowExporterModel") (C := RX12) (T := TX12) (N := 54) (ci := 14) (v := .long us) B hu_X12_export_X12 rfl 18 (Nat.le_of_ble_eq_true rfl) hv_X12_export_127 rfl h_7 rfl dX12_export_40 ?_
    refine z_lconst (v := 1) B dX12_export_43 rfl ?_
    refine z_ladd B dX12_export_44 ?_
    refine z_put (ref := "FlowExporterModel") (C := RX12) (T := TX12) (N := 54) (ci := 14) (v := .long (us + 1)) B hu_X12_export_X12 tyX12 tyX12_ok nmX12 rfl 18 (Nat.le_of_ble_eq_true rfl) hv_X12_export_127 rfl (Or.inl rfl) h_7 hx rfl rfl (Nat.le_of_ble_eq_true rfl) dX12_export_45 (fun Φ2 hΦ1 => ?_)
    have h_8 : Φ2 x = some (o_ 14 [.int th, .ref (x + 1), .ref (x + 2), .int ti, .int ra, .int (nI rt), .int ex, .int ad, .ref (x + 3), .ref (x + 4), .int me, .long se, .ref (x + 5), .int (nI fl), .int dr, .long ob, .long sa, .long sn, .long (us + 1), .ref (x + 6), .ref (x + 7), .int (nI pe), .ref (x + 8), .int (nI le), .ref (x + 9), .ref (x + 10), .int (nI qu), .ref (x + 11), .ref (x + 12), .ref (x + 13), .ref (x + 14), .ref (x + 15), .ref (x + 16), .int (nI n_1), .long v_1, .ref (x + 17), .ref (x + 18), .ref (x + 19), .ref (x + 20), .ref (x + 21), .ref (x + 22), .int (nI n_2), .ref (x + 23), .ref (x + 24), .int (nI tk), .ref (x + 25), .int (nI il), .int (nI nx), .int ec, .int ep, .int kn, .int (nI st), .int nu, .long va]) := fset_at hΦ1
    have hI2 : Im G x (rd, (NNq c), (CaQ fl Fs), tp, tt, sI, sT, (PtQ pe P), ql, fl, pe, le, nx, il, qu, kn, ec, nu, va, st, ep, ti, ad, ob, ra, rt, ex, sa, us + 1, tk, th, me, dr, se, sn) Φ2 := Im.put0 hI1 hΦ1 ⟨n_1, v_1, n_2, rfl, b_13, b_1, b_2, b_3, b_4, b_5, b_6, b_7, b_8, b_9, b_10, b_11, b_12⟩
    refine z_aload_n B dX12_export_48 rfl 1 rfl ?_
    refine z_dup B dX12_export_49 rfl ?_
    refine z_get (ref := "FlowExporterModel") (C := RX12) (T := TX12) (N := 54) (ci := 14) (v := .int ex) B hu_X12_export_X12 rfl 6 (Nat.le_of_ble_eq_true rfl) hv_X12_export_114 rfl h_8 rfl dX12_export_50 ?_
    refine z_iconst (v := 1) B dX12_export_53 rfl ?_
    refine z_iadd B dX12_export_54 ?_
    refine z_put (ref := "FlowExporterModel") (C := RX12) (T := TX12) (N := 54) (ci := 14) (v := .int (ex + 1)) B hu_X12_export_X12 tyX12 tyX12_ok nmX12 rfl 6 (Nat.le_of_ble_eq_true rfl) hv_X12_export_114 rfl (Or.inl rfl) h_8 hx rfl rfl (Nat.le_of_ble_eq_true rfl) dX12_export_55 (fun Φ3 hΦ2 => ?_)
    have h_9 : Φ3 x = some (o_ 14 [.int th, .ref (x + 1), .ref (x + 2), .int ti, .int ra, .int (nI rt), .int (ex + 1), .int ad, .ref (x + 3), .ref (x + 4), .int me, .long se, .ref (x + 5), .int (nI fl), .int dr, .long ob, .long sa, .long sn, .long (us + 1), .ref (x + 6), .ref (x + 7), .int (nI pe), .ref (x + 8), .int (nI le), .ref (x + 9), .ref (x + 10), .int (nI qu), .ref (x + 11), .ref (x + 12), .ref (x + 13), .ref (x + 14), .ref (x + 15), .ref (x + 16), .int (nI n_1), .long v_1, .ref (x + 17), .ref (x + 18), .ref (x + 19), .ref (x + 20), .ref (x + 21), .ref (x + 22), .int (nI n_2), .ref (x + 23), .ref (x + 24), .int (nI tk), .ref (x + 25), .int (nI il), .int (nI nx), .int ec, .int ep, .int kn, .int (nI st), .int nu, .long va]) := fset_at hΦ2
    have hI3 : Im G x (rd, (NNq c), (CaQ fl Fs), tp, tt, sI, sT, (PtQ pe P), ql, fl, pe, le, nx, il, qu, kn, ec, nu, va, st, ep, ti, ad, ob, ra, rt, ex + 1, sa, us + 1, tk, th, me, dr, se, sn) Φ3 := Im.put0 hI2 hΦ2 ⟨n_1, v_1, n_2, rfl, b_13, b_1, b_2, b_3, b_4, b_5, b_6, b_7, b_8, b_9, b_10, b_11, b_12⟩
    refine z_aload_n B dX12_export_58 rfl 1 rfl ?_
    refine z_dup B dX12_export_59 rfl ?_
    refine z_get (ref := "FlowExporterModel") (C := RX12) (T := TX12) (N := 54) (ci := 14) (v := .int (nI fl)) B hu_X12_export_X12 rfl 13 (Nat.le_of_ble_eq_true rfl) hv_X12_export_133 rfl h_9 rfl dX12_export_60 ?_
    refine z_iconst (v := 1) B dX12_export_63 rfl ?_
    refine z_isub B dX12_export_64 ?_
    refine z_top (st1 := [.int (nI (fl - 1)), .ref x]) (congrArg (fun w9 : Int32 => ([.int w9, .ref x] : List Value)) (nI_sub (show 1 ≤ fl by omega))) ?_
    refine z_put (ref := "FlowExporterModel") (C := RX12) (T := TX12) (N := 54) (ci := 14) (v := .int (nI (fl - 1))) B hu_X12_export_X12 tyX12 tyX12_ok nmX12 rfl 13 (Nat.le_of_ble_eq_true rfl) hv_X12_export_133 rfl (Or.inl rfl) h_9 hx rfl rfl (Nat.le_of_ble_eq_true rfl) dX12_export_65 (fun Φ4 hΦ3 => ?_)
    have h_10 : Φ4 x = some (o_ 14 [.int th, .ref (x + 1), .ref (x + 2), .int ti, .int ra, .int (nI rt), .int (ex + 1), .int ad, .ref (x + 3), .ref (x + 4), .int me, .long se, .ref (x + 5), .int (nI (fl - 1)), .int dr, .long ob, .long sa, .long sn, .long (us + 1), .ref (x + 6), .ref (x + 7), .int (nI pe), .ref (x + 8), .int (nI le), .ref (x + 9), .ref (x + 10), .int (nI qu), .ref (x + 11), .ref (x + 12), .ref (x + 13), .ref (x + 14), .ref (x + 15), .ref (x + 16), .int (nI n_1), .long v_1, .ref (x + 17), .ref (x + 18), .ref (x + 19), .ref (x + 20), .ref (x + 21), .ref (x + 22), .int (nI n_2), .ref (x + 23), .ref (x + 24), .int (nI tk), .ref (x + 25), .int (nI il), .int (nI nx), .int ec, .int ep, .int kn, .int (nI st), .int nu, .long va]) := fset_at hΦ3
    have hI4 : Im G x (rd, (NNq c), (CaQ fl Fs), tp, tt, sI, sT, (PtQ pe P), ql, fl - 1, pe, le, nx, il, qu, kn, ec, nu, va, st, ep, ti, ad, ob, ra, rt, ex + 1, sa, us + 1, tk, th, me, dr, se, sn) Φ4 := Im.put0 hI3 hΦ3 ⟨n_1, v_1, n_2, rfl, b_13, b_1, b_2, (show (fl - 1) ≤ 12 by omega), b_4, b_5, b_6, b_7, b_8, b_9, b_10, b_11, b_12⟩
    have h_11 : Φ4 (x + 5) = some (al_ G 96 f_1) := ((fset_fr hΦ3 (ne_off (x := x) (i := 5) (j := 0) rfl)).trans ((fset_fr hΦ2 (ne_off (x := x) (i := 5) (j := 0) rfl)).trans ((fset_fr hΦ1 (ne_off (x := x) (i := 5) (j := 0) rfl)).trans ((hF1 (x + 5) (fun j9 h8 h7 => (show False from h7).elim)).trans h_4))))
    have hI5 : Im G x (rd, (NNq c), (fun _ => True), tp, tt, sI, sT, (PtQ pe P), ql, fl - 1, pe, le, nx, il, qu, kn, ec, nu, va, st, ep, ti, ad, ob, ra, rt, ex + 1, sa, us + 1, tk, th, me, dr, se, sn) Φ4 := Im.set5 hI4 h_11 r_1 (trivial)
    refine z_bipush (v := 8) B dX12_export_68 rfl ?_
    refine z_iload_n B dX12_export_70 rfl 2 rfl ?_
    refine z_imul B dX12_export_71 ?_
    refine z_top (st1 := [.int (nI (8 * f))]) (congrArg (fun w9 : Int32 => ([.int w9] : List Value)) (nI_mul 8 f)) ?_
    refine z_istore_n (lv' := [(3, .int (nI (8 * f))), (2, .int (nI (usN c (Fs f).1))), (0, .ref x), (1, .int (nI f))]) B dX12_export_72 rfl (Nat.le_of_ble_eq_true rfl) rfl ?_
    refine z_lv [0, 1, 2, 3] rfl ?_
    refine z_loop (α := Nat) (fun (a9 : Nat) Φi => Im G x (rd, (NNq c), (fun _ => True), tp, tt, sI, sT, (PtQ pe P), ql, fl - 1, pe, le, nx, il, qu, kn, ec, nu, va, st, ep, ti, ad, ob, ra, rt, ex + 1, sa, us + 1, tk, th, me, dr, se, sn) Φi ∧ Fr x (fun j9 => j9 = 5) Φ4 Φi ∧ (a9 ≤ 96) ∧ (8 * f ≤ a9) ∧ (∃ g9 : Nat → Int64, Φi (x + 5) = some (al_ G 96 g9) ∧ CC g9 ∧ ShQ f_1 (8 * f) a9 g9) ∧ True) (fun a9 => [(3, .int (nI a9)), (2, .int (nI (usN c (Fs f).1))), (0, .ref x), (1, .int (nI f))]) (fun a9 => 96 - a9) ?_ (8 * f) ⟨hI5, fun _ _ => rfl, (show (8 * f) ≤ 96 by omega), (show 8 * f ≤ (8 * f) by omega), ⟨f_1, h_11, r_1, ShQ.z⟩, trivial⟩
    rintro i_1 Φl1 ⟨hI6, hF2, b_16, b_17, b_18, -⟩ ih1
    replace hI6 : Im G x (rd, (NNq c), (fun _ => True), tp, tt, sI, sT, (PtQ pe P), ql, fl - 1, pe, le, nx, il, qu, kn, ec, nu, va, st, ep, ti, ad, ob, ra, rt, ex + 1, sa, us + 1, tk, th, me, dr, se, sn) Φl1 := hI6
    replace b_16 : i_1 ≤ 96 := b_16
    replace b_17 : 8 * f ≤ i_1 := b_17
    replace b_18 : ∃ g9 : Nat → Int64, Φl1 (x + 5) = some (al_ G 96 g9) ∧ CC g9 ∧ ShQ f_1 (8 * f) i_1 g9 := b_18
    show Z p9 l e9 _ s9 m9 _ w9 t9 k9 _ G 4 73 [(3, .int (nI i_1)), (2, .int (nI (usN c (Fs f).1))), (0, .ref x), (1, .int (nI f))] [] Φl1 _ _ _
    obtain ⟨f_3, h_12, r_6, hS1⟩ := b_18
    refine z_iload_n B dX12_export_73 rfl 0 rfl ?_
    refine z_bipush (v := 8) B dX12_export_74 rfl ?_
    refine z_aload_n B dX12_export_76 rfl 2 rfl ?_
    have h_13 : Φl1 x = some (o_ 14 [.int th, .ref (x + 1), .ref (x + 2), .int ti, .int ra, .int (nI rt), .int (ex + 1), .int ad, .ref (x + 3), .ref (x + 4), .int me, .long se, .ref (x + 5), .int (nI (fl - 1)), .int dr, .long ob, .long sa, .long sn, .long (us + 1), .ref (x + 6), .ref (x + 7), .int (nI pe), .ref (x + 8), .int (nI le), .ref (x + 9), .ref (x + 10), .int (nI qu), .ref (x + 11), .ref (x + 12), .ref (x + 13), .ref (x + 14), .ref (x + 15), .ref (x + 16), .int (nI n_1), .long v_1, .ref (x + 17), .ref (x + 18), .ref (x + 19), .ref (x + 20), .ref (x + 21), .ref (x + 22), .int (nI n_2), .ref (x + 23), .ref (x + 24), .int (nI tk), .ref (x + 25), .int (nI il), .int (nI nx), .int ec, .int ep, .int kn, .int (nI st), .int nu, .long va]) := ((hF2 x fq_1009).trans h_10)
    refine z_get (ref := "FlowExporterModel") (C := RX12) (T := TX12) (N := 54) (ci := 14) (v := .int (nI (fl - 1))) B hu_X12_export_X12 rfl 13 (Nat.le_of_ble_eq_true rfl) hv_X12_export_133 rfl h_13 rfl dX12_export_77 ?_
    refine z_imul B dX12_export_80 ?_
    refine z_top (st1 := [.int (nI (8 * (fl - 1))), .int (nI i_1)]) (congrArg (fun w9 : Int32 => ([.int w9, .int (nI i_1)] : List Value)) (nI_mul 8 (fl - 1))) ?_
    refine z_icmp_ge (tgt := 105) B dX12_export_81 rfl (fun c_2 => ?_) (fun c_2 => ?_)
    · have e_1 : 8 * (fl - 1) ≤ i_1 := (nI_leI (a := 8 * (fl - 1)) (b := i_1) (by omega) (by omega)).mp c_2
      have hI7 : Im G x (rd, (NNq c), (CaQ (fl - 1) (shF Fs f)), tp, tt, sI, sT, (PtQ pe P), ql, fl - 1, pe, le, nx, il, qu, kn, ec, nu, va, st, ep, ti, ad, ob, ra, rt, ex + 1, sa, us + 1, tk, th, me, dr, se, sn) Φl1 := Im.set5 hI6 h_12 r_6 (CaQ.sh r_2 (by omega) hS1 (by omega))
      exact z_ret_v B dX12_export_105 ⟨rfl, rfl, ⟨(us + 1, pe, P), (show pe ≤ pe + 1 by omega), (unE_y (show eff0 _ _ from c_1)), hI7⟩, (fun b9 h9 => ((hF2 b9 (fun j9 h8 h7 => h9 j9 h8 (fq_1010 j9 h7))).trans ((fset_fr hΦ3 (fun h8 => h9 (0) h8 (show 0 = 0 ∨ 0 = 5 ∨ 0 = 6 ∨ 0 = 7 by decide))).trans ((fset_fr hΦ2 (fun h8 => h9 (0) h8 (show 0 = 0 ∨ 0 = 5 ∨ 0 = 6 ∨ 0 = 7 by decide))).trans ((fset_fr hΦ1 (fun h8 => h9 (0) h8 (show 0 = 0 ∨ 0 = 5 ∨ 0 = 6 ∨ 0 = 7 by decide))).trans ((hF1 b9 (fun j9 h8 h7 => (show False from h7).elim)).trans rfl))))))⟩
    · have e_2 : ¬ (8 * (fl - 1) ≤ i_1) := fun h9 => c_2 ((nI_leI (a := 8 * (fl - 1)) (b := i_1) (by omega) (by omega)).mpr h9)
      refine z_aload_n B dX12_export_84 rfl 2 rfl ?_
      refine z_get (ref := "FlowExporterModel") (C := RX12) (T := TX12) (N := 54) (ci := 14) (v := .ref (x + 5)) B hu_X12_export_X12 rfl 12 (Nat.le_of_ble_eq_true rfl) hv_X12_export_26 rfl h_13 rfl dX12_export_85 ?_
      refine z_iload_n B dX12_export_88 rfl 0 rfl ?_
      refine z_aload_n B dX12_export_89 rfl 2 rfl ?_
      refine z_get (ref := "FlowExporterModel") (C := RX12) (T := TX12) (N := 54) (ci := 14) (v := .ref (x + 5)) B hu_X12_export_X12 rfl 12 (Nat.le_of_ble_eq_true rfl) hv_X12_export_26 rfl h_13 rfl dX12_export_90 ?_
      refine z_iload_n B dX12_export_93 rfl 0 rfl ?_
      refine z_bipush (v := 8) B dX12_export_94 rfl ?_
      refine z_iadd B dX12_export_96 ?_
      refine z_top (st1 := [.int (nI (i_1 + 8)), .ref (x + 5), .int (nI i_1), .ref (x + 5)]) (congrArg (fun w9 : Int32 => ([.int w9, .ref (x + 5), .int (nI i_1), .ref (x + 5)] : List Value)) (nI_add i_1 8)) ?_
      refine z_lald B h_12 (vp_in_nI (by omega) (by omega)) dX12_export_97 ?_
      refine z_last B h_12 (Nat.le_trans hx (Nat.le_add_right x 5)) (vp_in_nI (by omega) (by omega)) dX12_export_98 (fun Φ5 hΦ4 => ?_)
      have h_14 : Φ5 (x + 5) = some (al_ G 96 (vp_updL f_3 (nI i_1).toNatClampNeg (f_3 (nI (i_1 + 8)).toNatClampNeg))) := fset_at hΦ4
      have hI8 : Im G x (rd, (NNq c), (fun g9 => g9 = (vp_updL f_3 (nI i_1).toNatClampNeg (f_3 (nI (i_1 + 8)).toNatClampNeg))), tp, tt, sI, sT, (PtQ pe P), ql, fl - 1, pe, le, nx, il, qu, kn, ec, nu, va, st, ep, ti, ad, ob, ra, rt, ex + 1, sa, us + 1, tk, th, me, dr, se, sn) Φ5 := Im.put5 (cr1 := (fun g9 => g9 = (vp_updL f_3 (nI i_1).toNatClampNeg (f_3 (nI (i_1 + 8)).toNatClampNeg)))) hI6 hΦ4 (CC.sh (i := (nI i_1).toNatClampNeg) r_6 (by rw [nI_clamp (by omega), nI_clamp (by omega)]) (by rw [nI_clamp (by omega)]; omega)) rfl
      have r_7 : CC (vp_updL f_3 (nI i_1).toNatClampNeg (f_3 (nI (i_1 + 8)).toNatClampNeg)) := CC.sh (i := (nI i_1).toNatClampNeg) r_6 (by rw [nI_clamp (by omega), nI_clamp (by omega)]) (by rw [nI_clamp (by omega)]; omega)
      have hI9 : Im G x (rd, (NNq c), (fun _ => True), tp, tt, sI, sT, (PtQ pe P), ql, fl - 1, pe, le, nx, il, qu, kn, ec, nu, va, st, ep, ti, ad, ob, ra, rt, ex + 1, sa, us + 1, tk, th, me, dr, se, sn) Φ5 := Im.set5 hI8 h_14 r_7 (trivial)
      refine z_iinc (k := 0) (v := nI (i_1 + 1)) (lv' := [(3, .int (nI (i_1 + 1))), (2, .int (nI (usN c (Fs f).1))), (0, .ref x), (1, .int (nI f))]) B dX12_export_99 rfl (nI_add i_1 1) (Nat.le_of_ble_eq_true rfl) rfl ?_
      refine z_goto (tgt := 73) B dX12_export_102 rfl ?_
      refine z_lv [0, 1, 2, 3] rfl ?_
      exact ih1 (i_1 + 1) Φ5 (show 96 - (i_1 + 1) < 96 - i_1 by omega) ⟨hI9, (fun b9 h9 => ((fset_fr hΦ4 (fun h8 => h9 (5) h8 (show 5 = 5 by decide))).trans ((hF2 b9 h9).trans rfl))), (show (i_1 + 1) ≤ 96 by omega), (show 8 * f ≤ (i_1 + 1) by omega), ⟨_, h_14, r_7, ShQ.s hS1 (by omega) (nI_clamp (by omega)) (nI_clamp (by omega))⟩, trivial⟩
  · refine z_aload_n B dX12_export_29 rfl 1 rfl ?_
    refine z_iload_n B dX12_export_30 rfl 2 rfl ?_
    refine z_iload_n B dX12_export_31 rfl 0 rfl ?_
    have h_15 : Φ1 x = some (o_ 14 [.int th, .ref (x + 1), .ref (x + 2), .int ti, .int ra, .int (nI rt), .int ex, .int ad, .ref (x + 3), .ref (x + 4), .int me, .long se, .ref (x + 5), .int (nI fl), .int dr, .long ob, .long sa, .long sn, .long us, .ref (x + 6), .ref (x + 7), .int (nI pe), .ref (x + 8), .int (nI le), .ref (x + 9), .ref (x + 10), .int (nI qu), .ref (x + 11), .ref (x + 12), .ref (x + 13), .ref (x + 14), .ref (x + 15), .ref (x + 16), .int (nI n_1), .long v_1, .ref (x + 17), .ref (x + 18), .ref (x + 19), .ref (x + 20), .ref (x + 21), .ref (x + 22), .int (nI n_2), .ref (x + 23), .ref (x + 24), .int (nI tk), .ref (x + 25), .int (nI il), .int (nI nx), .int ec, .int ep, .int kn, .int (nI st), .int nu, .long va]) := ((hF1 x (fun j9 h8 h7 => (show False from h7).elim)).trans h_2)
    refine z_callV (As := [.int (nI f), .int (nI (usN c (Fs f).1))]) (rest := []) B (r_appendRecord G l Φ1 sz x rd (NNq c) (CaQ fl Fs) tp tt sI sT ql fl pe le nx il qu kn ec nu va st ep ti ad ob ra rt ex sa us tk th me dr se sn P f (usN c (Fs f).1) hx hI1 (show f < 12 by omega) (show (usN c (Fs f).1) < 4 by omega) (show pe < 12 by omega) (fun f9 h9 => h9.1)) (cwV 2 B.1.2.2.2.2 gX12_export_X12_appendRecord rfl rfl rfl (by decide +kernel) ⟨Nat.le_of_ble_eq_true rfl, Nat.le_of_ble_eq_true rfl⟩) h_15 rfl rfl rfl rfl (Nat.le_of_ble_eq_true rfl) dX12_export_32 ⟨Nat.le_of_ble_eq_true rfl, Nat.le_of_ble_eq_true rfl⟩ (fun r_8 Φ6 sz2 st2 hp2 hs2 => ?_)
    obtain ⟨rfl, hq2, hI10, hF3⟩ := hp2
    subst sz2
    replace hs2 : st2 = [] := hs2
    subst st2
    replace hI10 : Im G x (rd, (NNq c), (CaQ fl Fs), tp, tt, sI, sT, PtQ (pe + 1) (fun j => if j = pe then (usN c (Fs f).1) else P j), ql, fl, pe + 1, le, nx, il, qu, kn, ec, nu, va, st, ep, ti, ad, ob, ra, rt, ex, sa, us, tk, th, me, dr, se, sn) Φ6 := hI10
    refine z_goto (tgt := 48) B dX12_export_35 rfl ?_
    refine z_aload_n B dX12_export_48 rfl 1 rfl ?_
    refine z_dup B dX12_export_49 rfl ?_
    obtain ⟨n_3, v_2, n_4, h_16, b_31, b_19, b_20, b_21, b_22, b_23, b_24, b_25, b_26, b_27, b_28, b_29, b_30⟩ := im0 hI10
    replace b_19 : 1 ≤ rt := b_19
    replace b_20 : rt ≤ 1024 := b_20
    replace b_21 : fl ≤ 12 := b_21
    replace b_22 : pe + 1 ≤ 24 := b_22
    replace b_23 : le ≤ 700 := b_23
    replace b_24 : qu ≤ 12 := b_24
    replace b_25 : n_3 ≤ 8 := b_25
    replace b_26 : n_4 ≤ 24 := b_26
    replace b_27 : tk ≤ 24 := b_27
    replace b_28 : il ≤ 700 := b_28
    replace b_29 : nx ≤ 701 := b_29
    replace b_30 : st ≤ 701 := b_30
    have h_17 : Φ6 x = some (o_ 14 [.int th, .ref (x + 1), .ref (x + 2), .int ti, .int ra, .int (nI rt), .int ex, .int ad, .ref (x + 3), .ref (x + 4), .int me, .long se, .ref (x + 5), .int (nI fl), .int dr, .long ob, .long sa, .long sn, .long us, .ref (x + 6), .ref (x + 7), .int (nI (pe + 1)), .ref (x + 8), .int (nI le), .ref (x + 9), .ref (x + 10), .int (nI qu), .ref (x + 11), .ref (x + 12), .ref (x + 13), .ref (x + 14), .ref (x + 15), .ref (x + 16), .int (nI n_3), .long v_2, .ref (x + 17), .ref (x + 18), .ref (x + 19), .ref (x + 20), .ref (x + 21), .ref (x + 22), .int (nI n_4), .ref (x + 23), .ref (x + 24), .int (nI tk), .ref (x + 25), .int (nI il), .int (nI nx), .int ec, .int ep, .int kn, .int (nI st), .int nu, .long va]) := h_16
    refine z_get (ref := "FlowExporterModel") (C := RX12) (T := TX12) (N := 54) (ci := 14) (v := .int ex) B hu_X12_export_X12 rfl 6 (Nat.le_of_ble_eq_true rfl) hv_X12_export_114 rfl h_17 rfl dX12_export_50 ?_
    refine z_iconst (v := 1) B dX12_export_53 rfl ?_
    refine z_iadd B dX12_export_54 ?_
    refine z_put (ref := "FlowExporterModel") (C := RX12) (T := TX12) (N := 54) (ci := 14) (v := .int (ex + 1)) B hu_X12_export_X12 tyX12 tyX12_ok nmX12 rfl 6 (Nat.le_of_ble_eq_true rfl) hv_X12_export_114 rfl (Or.inl rfl) h_17 hx rfl rfl (Nat.le_of_ble_eq_true rfl) dX12_export_55 (fun Φ7 hΦ5 => ?_)
    have h_18 : Φ7 x = some (o_ 14 [.int th, .ref (x + 1), .ref (x + 2), .int ti, .int ra, .int (nI rt), .int (ex + 1), .int ad, .ref (x + 3), .ref (x + 4), .int me, .long se, .ref (x + 5), .int (nI fl), .int dr, .long ob, .long sa, .long sn, .long us, .ref (x + 6), .ref (x + 7), .int (nI (pe + 1)), .ref (x + 8), .int (nI le), .ref (x + 9), .ref (x + 10), .int (nI qu), .ref (x + 11), .ref (x + 12), .ref (x + 13), .ref (x + 14), .ref (x + 15), .ref (x + 16), .int (nI n_3), .long v_2, .ref (x + 17), .ref (x + 18), .ref (x + 19), .ref (x + 20), .ref (x + 21), .ref (x + 22), .int (nI n_4), .ref (x + 23), .ref (x + 24), .int (nI tk), .ref (x + 25), .int (nI il), .int (nI nx), .int ec, .int ep, .int kn, .int (nI st), .int nu, .long va]) := fset_at hΦ5
    have hI11 : Im G x (rd, (NNq c), (CaQ fl Fs), tp, tt, sI, sT, PtQ (pe + 1) (fun j => if j = pe then (usN c (Fs f).1) else P j), ql, fl, pe + 1, le, nx, il, qu, kn, ec, nu, va, st, ep, ti, ad, ob, ra, rt, ex + 1, sa, us, tk, th, me, dr, se, sn) Φ7 := Im.put0 hI10 hΦ5 ⟨n_3, v_2, n_4, rfl, b_31, b_19, b_20, b_21, b_22, b_23, b_24, b_25, b_26, b_27, b_28, b_29, b_30⟩
    refine z_aload_n B dX12_export_58 rfl 1 rfl ?_
    refine z_dup B dX12_export_59 rfl ?_
    refine z_get (ref := "FlowExporterModel") (C := RX12) (T := TX12) (N := 54) (ci := 14) (v := .int (nI fl)) B hu_X12_export_X12 rfl 13 (Nat.le_of_ble_eq_true rfl) hv_X12_export_133 rfl h_18 rfl dX12_export_60 ?_
    refine z_iconst (v := 1) B dX12_export_63 rfl ?_
    refine z_isub B dX12_export_64 ?_
    refine z_top (st1 := [.int (nI (fl - 1)), .ref x]) (congrArg (fun w9 : Int32 => ([.int w9, .ref x] : List Value)) (nI_sub (show 1 ≤ fl by omega))) ?_
    refine z_put (ref := "FlowExporterModel") (C := RX12) (T := TX12) (N := 54) (ci := 14) (v := .int (nI (fl - 1))) B hu_X12_export_X12 tyX12 tyX12_ok nmX12 rfl 13 (Nat.le_of_ble_eq_true rfl) hv_X12_export_133 rfl (Or.inl rfl) h_18 hx rfl rfl (Nat.le_of_ble_eq_true rfl) dX12_export_65 (fun Φ8 hΦ6 => ?_)
    have h_19 : Φ8 x = some (o_ 14 [.int th, .ref (x + 1), .ref (x + 2), .int ti, .int ra, .int (nI rt), .int (ex + 1), .int ad, .ref (x + 3), .ref (x + 4), .int me, .long se, .ref (x + 5), .int (nI (fl - 1)), .int dr, .long ob, .long sa, .long sn, .long us, .ref (x + 6), .ref (x + 7), .int (nI (pe + 1)), .ref (x + 8), .int (nI le), .ref (x + 9), .ref (x + 10), .int (nI qu), .ref (x + 11), .ref (x + 12), .ref (x + 13), .ref (x + 14), .ref (x + 15), .ref (x + 16), .int (nI n_3), .long v_2, .ref (x + 17), .ref (x + 18), .ref (x + 19), .ref (x + 20), .ref (x + 21), .ref (x + 22), .int (nI n_4), .ref (x + 23), .ref (x + 24), .int (nI tk), .ref (x + 25), .int (nI il), .int (nI nx), .int ec, .int ep, .int kn, .int (nI st), .int nu, .long va]) := fset_at hΦ6
    have hI12 : Im G x (rd, (NNq c), (CaQ fl Fs), tp, tt, sI, sT, PtQ (pe + 1) (fun j => if j = pe then (usN c (Fs f).1) else P j), ql, fl - 1, pe + 1, le, nx, il, qu, kn, ec, nu, va, st, ep, ti, ad, ob, ra, rt, ex + 1, sa, us, tk, th, me, dr, se, sn) Φ8 := Im.put0 hI11 hΦ6 ⟨n_3, v_2, n_4, rfl, b_31, b_19, b_20, (show (fl - 1) ≤ 12 by omega), b_22, b_23, b_24, b_25, b_26, b_27, b_28, b_29, b_30⟩
    have h_20 : Φ8 (x + 5) = some (al_ G 96 f_1) := ((fset_fr hΦ6 (ne_off (x := x) (i := 5) (j := 0) rfl)).trans ((fset_fr hΦ5 (ne_off (x := x) (i := 5) (j := 0) rfl)).trans ((hF3 (x + 5) fq_1011).trans ((hF1 (x + 5) (fun j9 h8 h7 => (show False from h7).elim)).trans h_4))))
    have hI13 : Im G x (rd, (NNq c), (fun _ => True), tp, tt, sI, sT, PtQ (pe + 1) (fun j => if j = pe then (usN c (Fs f).1) else P j), ql, fl - 1, pe + 1, le, nx, il, qu, kn, ec, nu, va, st, ep, ti, ad, ob, ra, rt, ex + 1, sa, us, tk, th, me, dr, se, sn) Φ8 := Im.set5 hI12 h_20 r_1 (trivial)
    refine z_bipush (v := 8) B dX12_export_68 rfl ?_
    refine z_iload_n B dX12_export_70 rfl 2 rfl ?_
    refine z_imul B dX12_export_71 ?_
    refine z_top (st1 := [.int (nI (8 * f))]) (congrArg (fun w9 : Int32 => ([.int w9] : List Value)) (nI_mul 8 f)) ?_
    refine z_istore_n (lv' := [(3, .int (nI (8 * f))), (2, .int (nI (usN c (Fs f).1))), (0, .ref x), (1, .int (nI f))]) B dX12_export_72 rfl (Nat.le_of_ble_eq_true rfl) rfl ?_
    refine z_lv [0, 1, 2, 3] rfl ?_
    refine z_loop (α := Nat) (fun (a9 : Nat) Φi => Im G x (rd, (NNq c), (fun _ => True), tp, tt, sI, sT, PtQ (pe + 1) (fun j => if j = pe then (usN c (Fs f).1) else P j), ql, fl - 1, pe + 1, le, nx, il, qu, kn, ec, nu, va, st, ep, ti, ad, ob, ra, rt, ex + 1, sa, us, tk, th, me, dr, se, sn) Φi ∧ Fr x (fun j9 => j9 = 5) Φ8 Φi ∧ (a9 ≤ 96) ∧ (8 * f ≤ a9) ∧ (∃ g9 : Nat → Int64, Φi (x + 5) = some (al_ G 96 g9) ∧ CC g9 ∧ ShQ f_1 (8 * f) a9 g9) ∧ True) (fun a9 => [(3, .int (nI a9)), (2, .int (nI (usN c (Fs f).1))), (0, .ref x), (1, .int (nI f))]) (fun a9 => 96 - a9) ?_ (8 * f) ⟨hI13, fun _ _ => rfl, (show (8 * f) ≤ 96 by omega), (show 8 * f ≤ (8 * f) by omega), ⟨f_1, h_20, r_1, ShQ.z⟩, trivial⟩
    rintro i_2 Φl2 ⟨hI14, hF4, b_32, b_33, b_34, -⟩ ih2
    replace hI14 : Im G x (rd, (NNq c), (fun _ => True), tp, tt, sI, sT, PtQ (pe + 1) (fun j => if j = pe then (usN c (Fs f).1) else P j), ql, fl - 1, pe + 1, le, nx, il, qu, kn, ec, nu, va, st, ep, ti, ad, ob, ra, rt, ex + 1, sa, us, tk, th, me, dr, se, sn) Φl2 := hI14
    replace b_32 : i_2 ≤ 96 := b_32
    replace b_33 : 8 * f ≤ i_2 := b_33
    replace b_34 : ∃ g9 : Nat → Int64, Φl2 (x + 5) = some (al_ G 96 g9) ∧ CC g9 ∧ ShQ f_1 (8 * f) i_2 g9 := b_34
    show Z p9 l e9 _ s9 m9 _ w9 t9 k9 _ G 4 73 [(3, .int (nI i_2)), (2, .int (nI (usN c (Fs f).1))), (0, .ref x), (1, .int (nI f))] [] Φl2 _ _ _
    obtain ⟨f_4, h_21, r_9, hS2⟩ := b_34
    refine z_iload_n B dX12_export_73 rfl 0 rfl ?_
    refine z_bipush (v := 8) B dX12_export_74 rfl ?_
    refine z_aload_n B dX12_export_76 rfl 2 rfl ?_
    have h_22 : Φl2 x = some (o_ 14 [.int th, .ref (x + 1), .ref (x + 2), .int ti, .int ra, .int (nI rt), .int (ex + 1), .int ad, .ref (x + 3), .ref (x + 4), .int me, .long se, .ref (x + 5), .int (nI (fl - 1)), .int dr, .long ob, .long sa, .long sn, .long us, .ref (x + 6), .ref (x + 7), .int (nI (pe + 1)), .ref (x + 8), .int (nI le), .ref (x + 9), .ref (x + 10), .int (nI qu), .ref (x + 11), .ref (x + 12), .ref (x + 13), .ref (x + 14), .ref (x + 15), .ref (x + 16), .int (nI n_3), .long v_2, .ref (x + 17), .ref (x + 18), .ref (x + 19), .ref (x + 20), .ref (x + 21), .ref (x + 22), .int (nI n_4), .ref (x + 23), .ref (x + 24), .int (nI tk), .ref (x + 25), .int (nI il), .int (nI nx), .int ec, .int ep, .int kn, .int (nI st), .int nu, .long va]) := ((hF4 x fq_1009).trans h_19)
    refine z_get (ref := "FlowExporterModel") (C := RX12) (T := TX12) (N := 54) (ci := 14) (v := .int (nI (fl - 1))) B hu_X12_export_X12 rfl 13 (Nat.le_of_ble_eq_true rfl) hv_X12_export_133 rfl h_22 rfl dX12_export_77 ?_
    refine z_imul B dX12_export_80 ?_
    refine z_top (st1 := [.int (nI (8 * (fl - 1))), .int (nI i_2)]) (congrArg (fun w9 : Int32 => ([.int w9, .int (nI i_2)] : List Value)) (nI_mul 8 (fl - 1))) ?_
    refine z_icmp_ge (tgt := 105) B dX12_export_81 rfl (fun c_3 => ?_) (fun c_3 => ?_)
    · have e_3 : 8 * (fl - 1) ≤ i_2 := (nI_leI (a := 8 * (fl - 1)) (b := i_2) (by omega) (by omega)).mp c_3
      have hI15 : Im G x (rd, (NNq c), (CaQ (fl - 1) (shF Fs f)), tp, tt, sI, sT, PtQ (pe + 1) (fun j => if j = pe then (usN c (Fs f).1) else P j), ql, fl - 1, pe + 1, le, nx, il, qu, kn, ec, nu, va, st, ep, ti, ad, ob, ra, rt, ex + 1, sa, us, tk, th, me, dr, se, sn) Φl2 := Im.set5 hI14 h_21 r_9 (CaQ.sh r_2 (by omega) hS2 (by omega))
      exact z_ret_v B dX12_export_105 ⟨rfl, rfl, ⟨(us, pe + 1, (fun j => if j = pe then (usN c (Fs f).1) else P j)), (show pe + 1 ≤ pe + 1 by omega), ((unE_n (show ¬ eff0 _ _ from c_1)).trans (uPu_y hp)), hI15⟩, (fun b9 h9 => ((hF4 b9 (fun j9 h8 h7 => h9 j9 h8 (fq_1010 j9 h7))).trans ((fset_fr hΦ6 (fun h8 => h9 (0) h8 (show 0 = 0 ∨ 0 = 5 ∨ 0 = 6 ∨ 0 = 7 by decide))).trans ((fset_fr hΦ5 (fun h8 => h9 (0) h8 (show 0 = 0 ∨ 0 = 5 ∨ 0 = 6 ∨ 0 = 7 by decide))).trans ((hF3 b9 (fun j9 h8 h7 => h9 j9 h8 (fq_1012 j9 h7))).trans ((hF1 b9 (fun j9 h8 h7 => (show False from h7).elim)).trans rfl))))))⟩
    · have e_4 : ¬ (8 * (fl - 1) ≤ i_2) := fun h9 => c_3 ((nI_leI (a := 8 * (fl - 1)) (b := i_2) (by omega) (by omega)).mpr h9)
      refine z_aload_n B dX12_export_84 rfl 2 rfl ?_
      refine z_get (ref := "FlowExporterModel") (C := RX12) (T := TX12) (N := 54) (ci := 14) (v := .ref (x + 5)) B hu_X12_export_X12 rfl 12 (Nat.le_of_ble_eq_true rfl) hv_X12_export_26 rfl h_22 rfl dX12_export_85 ?_
      refine z_iload_n B dX12_export_88 rfl 0 rfl ?_
      refine z_aload_n B dX12_export_89 rfl 2 rfl ?_
      refine z_get (ref := "FlowExporterModel") (C := RX12) (T := TX12) (N := 54) (ci := 14) (v := .ref (x + 5)) B hu_X12_export_X12 rfl 12 (Nat.le_of_ble_eq_true rfl) hv_X12_export_26 rfl h_22 rfl dX12_export_90 ?_
      refine z_iload_n B dX12_export_93 rfl 0 rfl ?_
      refine z_bipush (v := 8) B dX12_export_94 rfl ?_
      refine z_iadd B dX12_export_96 ?_
      refine z_top (st1 := [.int (nI (i_2 + 8)), .ref (x + 5), .int (nI i_2), .ref (x + 5)]) (congrArg (fun w9 : Int32 => ([.int w9, .ref (x + 5), .int (nI i_2), .ref (x + 5)] : List Value)) (nI_add i_2 8)) ?_
      refine z_lald B h_21 (vp_in_nI (by omega) (by omega)) dX12_export_97 ?_
      refine z_last B h_21 (Nat.le_trans hx (Nat.le_add_right x 5)) (vp_in_nI (by omega) (by omega)) dX12_export_98 (fun Φ9 hΦ7 => ?_)
      have h_23 : Φ9 (x + 5) = some (al_ G 96 (vp_updL f_4 (nI i_2).toNatClampNeg (f_4 (nI (i_2 + 8)).toNatClampNeg))) := fset_at hΦ7
      have hI16 : Im G x (rd, (NNq c), (fun g9 => g9 = (vp_updL f_4 (nI i_2).toNatClampNeg (f_4 (nI (i_2 + 8)).toNatClampNeg))), tp, tt, sI, sT, PtQ (pe + 1) (fun j => if j = pe then (usN c (Fs f).1) else P j), ql, fl - 1, pe + 1, le, nx, il, qu, kn, ec, nu, va, st, ep, ti, ad, ob, ra, rt, ex + 1, sa, us, tk, th, me, dr, se, sn) Φ9 := Im.put5 (cr1 := (fun g9 => g9 = (vp_updL f_4 (nI i_2).toNatClampNeg (f_4 (nI (i_2 + 8)).toNatClampNeg)))) hI14 hΦ7 (CC.sh (i := (nI i_2).toNatClampNeg) r_9 (by rw [nI_clamp (by omega), nI_clamp (by omega)]) (by rw [nI_clamp (by omega)]; omega)) rfl
      have r_10 : CC (vp_updL f_4 (nI i_2).toNatClampNeg (f_4 (nI (i_2 + 8)).toNatClampNeg)) := CC.sh (i := (nI i_2).toNatClampNeg) r_9 (by rw [nI_clamp (by omega), nI_clamp (by omega)]) (by rw [nI_clamp (by omega)]; omega)
      have hI17 : Im G x (rd, (NNq c), (fun _ => True), tp, tt, sI, sT, PtQ (pe + 1) (fun j => if j = pe then (usN c (Fs f).1) else P j), ql, fl - 1, pe + 1, le, nx, il, qu, kn, ec, nu, va, st, ep, ti, ad, ob, ra, rt, ex + 1, sa, us, tk, th, me, dr, se, sn) Φ9 := Im.set5 hI16 h_23 r_10 (trivial)
      refine z_iinc (k := 0) (v := nI (i_2 + 1)) (lv' := [(3, .int (nI (i_2 + 1))), (2, .int (nI (usN c (Fs f).1))), (0, .ref x), (1, .int (nI f))]) B dX12_export_99 rfl (nI_add i_2 1) (Nat.le_of_ble_eq_true rfl) rfl ?_
      refine z_goto (tgt := 73) B dX12_export_102 rfl ?_
      refine z_lv [0, 1, 2, 3] rfl ?_
      exact ih2 (i_2 + 1) Φ9 (show 96 - (i_2 + 1) < 96 - i_2 by omega) ⟨hI17, (fun b9 h9 => ((fset_fr hΦ7 (fun h8 => h9 (5) h8 (show 5 = 5 by decide))).trans ((hF4 b9 h9).trans rfl))), (show (i_2 + 1) ≤ 96 by omega), (show 8 * f ≤ (i_2 + 1) by omega), ⟨_, h_23, r_10, ShQ.s hS2 (by omega) (nI_clamp (by omega)) (nI_clamp (by omega))⟩, trivial⟩

theorem hu_X12_exportAll_X12 : ∀ w ∈ u_ws RX12 TX12 54, w ∈ wsX12_exportAll := fun _ h => List.mem_cons_of_mem _ (List.mem_append_left _ (List.mem_append_right _ (h)))

theorem hv_X12_exportAll_133 : Cond.fieldLink RX12 133 "FlowExporterModel" (TX12 13).2.1 (TX12 13).2.2.1 ∈ wsX12_exportAll := List.mem_cons_of_mem _ (List.mem_append_left _ (List.mem_append_left _ (List.mem_append_left _ (List.mem_of_getElem? (i := 0) rfl))))

set_option maxHeartbeats 4000000 in
set_option maxRecDepth 100000 in
theorem r_exportAll (G : EnvG) (l : Launch) (Φ : Hm) (sz x : Nat) (rd : (Nat → Int32) → Prop) (tp : (Nat → Int32) → Prop) (tt : (Nat → Int64) → Prop) (sI : (Nat → Int32) → Prop) (sT : (Nat → Int32) → Prop) (ql : (Nat → Int32) → Prop) (fl : Nat) (pe : Nat) (le : Nat) (nx : Nat) (il : Nat) (qu : Nat) (kn : Int32) (ec : Int32) (nu : Int32) (va : Int64) (st : Nat) (ep : Int32) (ti : Int32) (ad : Int32) (ob : Int64) (ra : Int32) (rt : Nat) (ex : Int32) (sa : Int64) (us : Int64) (tk : Nat) (th : Int32) (me : Int32) (dr : Int32) (se : Int64) (sn : Int64) (c : Cf) (Fs : Nat → Fl) (P : Nat → Nat) (hx : G.2.2.2 ≤ x) (hI : Im G x (rd, (NNq c), (CaQ fl Fs), tp, tt, sI, sT, (PtQ pe P), ql, fl, pe, le, nx, il, qu, kn, ec, nu, va, st, ep, ti, ad, ob, ra, rt, ex, sa, us, tk, th, me, dr, se, sn) Φ) (hp : pe + fl ≤ 12) : Ct G l yX12_exportAll wsX12_exportAll ({ frames := 5, cells := 0, slots := 0, locals := 111 }) 0 0 [.ref x] Φ sz (fun v Φ1 sz1 => (v = some (.int (nI fl))) ∧ sz1 = sz ∧ (∃ (u1 : UN) (F1 : Nat → Fl), (u1.2.1 ≤ pe + fl) ∧ (exI c (fl, Fs, us, pe, P) fl = (0, F1, u1)) ∧ Im G x (rd, (NNq c), (CaQ 0 F1), tp, tt, sI, sT, (PtQ u1.2.1 u1.2.2), ql, 0, u1.2.1, le, nx, il, qu, kn, ec, nu, va, st, ep, ti, ad, ob, ra, rt, ex + nI fl, sa, u1.1, tk, th, me, dr, se, sn) Φ1) ∧ Fr x (fun j9 => j9 = 0 ∨ j9 = 5 ∨ j9 = 6 ∨ j9 = 7) Φ Φ1) := by
  refine Ct.of (cc := cX12_exportAll) (maxL := 2) (ret := (some .int)) (by decide) rfl (Nat.le_of_ble_eq_true rfl) ?_
  intro p9 e9 s9 m9 w9 t9 k9 B
  show Z p9 l e9 _ s9 m9 _ w9 t9 k9 _ G 2 0 [(0, .ref x)] [] Φ sz 0 0
  refine z_aload_n B dX12_exportAll_0 rfl 0 rfl ?_
  obtain ⟨n_1, v_1, n_2, h_1, b_13, b_1, b_2, b_3, b_4, b_5, b_6, b_7, b_8, b_9, b_10, b_11, b_12⟩ := im0 hI
  replace b_1 : 1 ≤ rt := b_1
  replace b_2 : rt ≤ 1024 := b_2
  replace b_3 : fl ≤ 12 := b_3
  replace b_4 : pe ≤ 24 := b_4
  replace b_5 : le ≤ 700 := b_5
  replace b_6 : qu ≤ 12 := b_6
  replace b_7 : n_1 ≤ 8 := b_7
  replace b_8 : n_2 ≤ 24 := b_8
  replace b_9 : tk ≤ 24 := b_9
  replace b_10 : il ≤ 700 := b_10
  replace b_11 : nx ≤ 701 := b_11
  replace b_12 : st ≤ 701 := b_12
  have h_2 : Φ x = some (o_ 14 [.int th, .ref (x + 1), .ref (x + 2), .int ti, .int ra, .int (nI rt), .int ex, .int ad, .ref (x + 3), .ref (x + 4), .int me, .long se, .ref (x + 5), .int (nI fl), .int dr, .long ob, .long sa, .long sn, .long us, .ref (x + 6), .ref (x + 7), .int (nI pe), .ref (x + 8), .int (nI le), .ref (x + 9), .ref (x + 10), .int (nI qu), .ref (x + 11), .ref (x + 12), .ref (x + 13), .ref (x + 14), .ref (x + 15), .ref (x + 16), .int (nI n_1), .long v_1, .ref (x + 17), .ref (x + 18), .ref (x + 19), .ref (x + 20), .ref (x + 21), .ref (x + 22), .int (nI n_2), .ref (x + 23), .ref (x + 24), .int (nI tk), .ref (x + 25), .int (nI il), .int (nI nx), .int ec, .int ep, .int kn, .int (nI st), .int nu, .long va]) := h_1
  refine z_get (ref := "FlowExporterModel") (C := RX12) (T := TX12) (N := 54) (ci := 14) (v := .int (nI fl)) B hu_X12_exportAll_X12 rfl 13 (Nat.le_of_ble_eq_true rfl) hv_X12_exportAll_133 rfl h_2 rfl dX12_exportAll_1 ?_
  refine z_istore_n (lv' := [(1, .int (nI fl)), (0, .ref x)]) B dX12_exportAll_4 rfl (Nat.le_of_ble_eq_true rfl) rfl ?_
  refine z_lv [0, 1] rfl ?_
  refine z_loop (α := Nat × Nat × Int64 × Int32 × (Nat → Fl) × (Nat → Nat)) (fun (a9 : Nat × Nat × Int64 × Int32 × (Nat → Fl) × (Nat → Nat)) Φi => Im G x (rd, (NNq c), (CaQ a9.1 a9.2.2.2.2.1), tp, tt, sI, sT, (PtQ a9.2.1 a9.2.2.2.2.2), ql, a9.1, a9.2.1, le, nx, il, qu, kn, ec, nu, va, st, ep, ti, ad, ob, ra, rt, a9.2.2.2.1, sa, a9.2.2.1, tk, th, me, dr, se, sn) Φi ∧ Fr x (fun j9 => j9 = 0 ∨ j9 = 5 ∨ j9 = 6 ∨ j9 = 7) Φ Φi ∧ (a9.2.1 + a9.1 ≤ pe + fl) ∧ (a9.1 ≤ fl) ∧ (exI c (fl, Fs, us, pe, P) (fl - a9.1) = (a9.1, a9.2.2.2.2.1, a9.2.2.1, a9.2.1, a9.2.2.2.2.2)) ∧ (a9.2.2.2.1 = ex + nI (fl - a9.1)) ∧ True) (fun a9 => [(1, .int (nI fl)), (0, .ref x)]) (fun a9 => a9.1) ?_ (fl, pe, us, ex, Fs, P) ⟨(Im.weak5 hI (fun _ q9 => q9) (fun _ q9 => q9) (fun _ q9 => q9) (fun _ q9 => q9) (fun _ q9 => q9) (fun _ q9 => q9) (fun _ q9 => q9) (fun _ q9 => q9) (fun _ q9 => q9)), fun _ _ => rfl, (show pe + fl ≤ pe + fl by omega), (show fl ≤ fl by omega), (by rw [Nat.sub_self]; rfl), (by rw [Nat.sub_self]; exact nadd_0), trivial⟩
  rintro ⟨i_1, i_2, i_3, i_4, i_5, i_6⟩ Φl1 ⟨hI1, hF1, b_14, b_15, b_16, b_17, -⟩ ih1
  replace hI1 : Im G x (rd, (NNq c), (CaQ i_1 i_5), tp, tt, sI, sT, (PtQ i_2 i_6), ql, i_1, i_2, le, nx, il, qu, kn, ec, nu, va, st, ep, ti, ad, ob, ra, rt, i_4, sa, i_3, tk, th, me, dr, se, sn) Φl1 := hI1
  replace b_14 : i_2 + i_1 ≤ pe + fl := b_14
  replace b_15 : i_1 ≤ fl := b_15
  replace b_16 : exI c (fl, Fs, us, pe, P) (fl - i_1) = (i_1, i_5, i_3, i_2, i_6) := b_16
  replace b_17 : i_4 = ex + nI (fl - i_1) := b_17
  show Z p9 l e9 _ s9 m9 _ w9 t9 k9 _ G 2 5 [(1, .int (nI fl)), (0, .ref x)] [] Φl1 _ _ _
  refine z_aload_n B dX12_exportAll_5 rfl 1 rfl ?_
  obtain ⟨n_3, v_2, n_4, h_3, b_30, b_18, b_19, b_20, b_21, b_22, b_23, b_24, b_25, b_26, b_27, b_28, b_29⟩ := im0 hI1
  replace b_18 : 1 ≤ rt := b_18
  replace b_19 : rt ≤ 1024 := b_19
  replace b_20 : i_1 ≤ 12 := b_20
  replace b_21 : i_2 ≤ 24 := b_21
  replace b_22 : le ≤ 700 := b_22
  replace b_23 : qu ≤ 12 := b_23
  replace b_24 : n_3 ≤ 8 := b_24
  replace b_25 : n_4 ≤ 24 := b_25
  replace b_26 : tk ≤ 24 := b_26
  replace b_27 : il ≤ 700 := b_27
  replace b_28 : nx ≤ 701 := b_28
  replace b_29 : st ≤ 701 := b_29
  have h_4 : Φl1 x = some (o_ 14 [.int th, .ref (x + 1), .ref (x + 2), .int ti, .int ra, .int (nI rt), .int i_4, .int ad, .ref (x + 3), .ref (x + 4), .int me, .long se, .ref (x + 5), .int (nI i_1), .int dr, .long ob, .long sa, .long sn, .long i_3, .ref (x + 6), .ref (x + 7), .int (nI i_2), .ref (x + 8), .int (nI le), .ref (x + 9), .ref (x + 10), .int (nI qu), .ref (x + 11), .ref (x + 12), .ref (x + 13), .ref (x + 14), .ref (x + 15), .ref (x + 16), .int (nI n_3), .long v_2, .ref (x + 17), .ref (x + 18), .ref (x + 19), .ref (x + 20), .ref (x + 21), .ref (x + 22), .int (nI n_4), .ref (x + 23), .ref (x + 24), .int (nI tk), .ref (x + 25), .int (nI il), .int (nI nx), .int ec, .int ep, .int kn, .int (nI st), .int nu, .long va]) := h_3
  refine z_get (ref := "FlowExporterModel") (C := RX12) (T := TX12) (N := 54) (ci := 14) (v := .int (nI i_1)) B hu_X12_exportAll_X12 rfl 13 (Nat.le_of_ble_eq_true rfl) hv_X12_exportAll_133 rfl h_4 rfl dX12_exportAll_6 ?_
  refine z_if_le (tgt := 20) B dX12_exportAll_9 rfl (fun c_1 => ?_) (fun c_1 => ?_)
  · have e_1 : i_1 ≤ 0 := (nI_leI (a := i_1) (b := 0) (by omega) (by omega)).mp c_1
    have hi0 : i_1 = 0 := by omega
    subst hi0
    have hI2 : Im G x (rd, (NNq c), (CaQ 0 i_5), tp, tt, sI, sT, (PtQ i_2 i_6), ql, 0, i_2, le, nx, il, qu, kn, ec, nu, va, st, ep, ti, ad, ob, ra, rt, ex + nI fl, sa, i_3, tk, th, me, dr, se, sn) Φl1 := Eq.mp (congrArg (fun w9 : Int32 => Im G x (rd, (NNq c), (CaQ 0 i_5), tp, tt, sI, sT, (PtQ i_2 i_6), ql, 0, i_2, le, nx, il, qu, kn, ec, nu, va, st, ep, ti, ad, ob, ra, rt, w9, sa, i_3, tk, th, me, dr, se, sn) Φl1) (b_17)) hI1
    refine z_iload_n B dX12_exportAll_20 rfl 0 rfl ?_
    exact z_ret_i B dX12_exportAll_21 ⟨rfl, rfl, ⟨(i_3, i_2, i_6), i_5, (show i_2 ≤ pe + fl by omega), b_16, hI2⟩, (fun b9 h9 => ((hF1 b9 h9).trans rfl))⟩
  · have e_2 : ¬ (i_1 ≤ 0) := fun h9 => c_1 ((nI_leI (a := i_1) (b := 0) (by omega) (by omega)).mpr h9)
    refine z_aload_n B dX12_exportAll_12 rfl 1 rfl ?_
    refine z_iconst (v := 0) B dX12_exportAll_13 rfl ?_
    refine z_callV (As := [.int 0]) (rest := []) B (r_export G l Φl1 sz x rd tp tt sI sT ql i_1 i_2 le nx il qu kn ec nu va st ep ti ad ob ra rt i_4 sa i_3 tk th me dr se sn c i_5 i_6 0 hx hI1 (show 0 < i_1 by omega) (show i_2 < 12 by omega)) (cwV 1 B.1.2.2.2.2 gX12_exportAll_X12_export rfl rfl rfl (by decide +kernel) ⟨Nat.le_of_ble_eq_true rfl, Nat.le_of_ble_eq_true rfl⟩) h_4 rfl rfl rfl rfl (Nat.le_of_ble_eq_true rfl) dX12_exportAll_14 ⟨Nat.le_of_ble_eq_true rfl, Nat.le_of_ble_eq_true rfl⟩ (fun r_1 Φ1 sz1 st1 hp1 hs1 => ?_)
    obtain ⟨rfl, hq1, ⟨n_5, b_31, b_32, hI3⟩, hF2⟩ := hp1
    subst sz1
    replace hs1 : st1 = [] := hs1
    subst st1
    replace hI3 : Im G x (rd, (NNq c), CaQ (i_1 - 1) (shF i_5 0), tp, tt, sI, sT, PtQ n_5.2.1 n_5.2.2, ql, i_1 - 1, n_5.2.1, le, nx, il, qu, kn, ec, nu, va, st, ep, ti, ad, ob, ra, rt, i_4 + 1, sa, n_5.1, tk, th, me, dr, se, sn) Φ1 := hI3
    replace b_31 : n_5.2.1 ≤ i_2 + 1 := b_31
    replace b_32 : unE c (i_5 0).1 (i_3, i_2, i_6) = n_5 := b_32
    refine z_goto (tgt := 5) B dX12_exportAll_17 rfl ?_
    refine z_lv [0, 1] rfl ?_
    exact ih1 (i_1 - 1, n_5.2.1, n_5.1, i_4 + 1, (shF i_5 0), n_5.2.2) Φ1 (show (i_1 - 1) < i_1 by omega) ⟨(Im.weak5 hI3 (fun _ q9 => q9) (fun _ q9 => q9) (fun _ q9 => q9) (fun _ q9 => q9) (fun _ q9 => q9) (fun _ q9 => q9) (fun _ q9 => q9) (fun _ q9 => q9) (fun _ q9 => q9)), (fun b9 h9 => ((hF2 b9 h9).trans ((hF1 b9 h9).trans rfl))), (show (n_5.2.1) + (i_1 - 1) ≤ pe + fl by omega), (show (i_1 - 1) ≤ fl by omega), ((exI_s b_16 (by omega)).trans (congrArg (fun w9 : UN => (i_1 - 1, shF i_5 0, w9)) b_32)), (show (i_4 + 1) = ex + nI (fl - (i_1 - 1)) from (by rw [show fl - (i_1 - 1) = fl - i_1 + 1 by omega]; exact (congrArg (fun w9 : Int32 => w9 + 1) b_17).trans (nadd _ _))), trivial⟩

theorem hu_X12_makeRoom_X12 : ∀ w ∈ u_ws RX12 TX12 54, w ∈ wsX12_makeRoom := fun _ h => List.mem_cons_of_mem _ (List.mem_append_left _ (List.mem_append_right _ (h)))

theorem hv_X12_makeRoom_133 : Cond.fieldLink RX12 133 "FlowExporterModel" (TX12 13).2.1 (TX12 13).2.2.1 ∈ wsX12_makeRoom := List.mem_cons_of_mem _ (List.mem_append_left _ (List.mem_append_left _ (List.mem_append_left _ (List.mem_of_getElem? (i := 0) rfl))))

theorem hv_X12_makeRoom_26 : Cond.fieldLink RX12 26 "FlowExporterModel" (TX12 12).2.1 (TX12 12).2.2.1 ∈ wsX12_makeRoom := List.mem_cons_of_mem _ (List.mem_append_left _ (List.mem_append_left _ (List.mem_append_left _ (List.mem_of_getElem? (i := 1) rfl))))

set_option maxHeartbeats 4000000 in
set_option maxRecDepth 100000 in
theorem r_makeRoom (G : EnvG) (l : Launch) (Φ : Hm) (sz x : Nat) (rd : (Nat → Int32) → Prop) (tp : (Nat → Int32) → Prop) (tt : (Nat → Int64) → Prop) (sI : (Nat → Int32) → Prop) (sT : (Nat → Int32) → Prop) (ql : (Nat → Int32) → Prop) (fl : Nat) (pe : Nat) (le : Nat) (nx : Nat) (il : Nat) (qu : Nat) (kn : Int32) (ec : Int32) (nu : Int32) (va : Int64) (st : Nat) (ep : Int32) (ti : Int32) (ad : Int32) (ob : Int64) (ra : Int32) (rt : Nat) (ex : Int32) (sa : Int64) (us : Int64) (tk : Nat) (th : Int32) (me : Int32) (dr : Int32) (se : Int64) (sn : Int64) (c : Cf) (Fs : Nat → Fl) (P : Nat → Nat) (hx : G.2.2.2 ≤ x) (hI : Im G x (rd, (NNq c), (CaQ fl Fs), tp, tt, sI, sT, (PtQ pe P), ql, fl, pe, le, nx, il, qu, kn, ec, nu, va, st, ep, ti, ad, ob, ra, rt, ex, sa, us, tk, th, me, dr, se, sn) Φ) (hp : pe < 12) : Ct G l yX12_makeRoom wsX12_makeRoom ({ frames := 5, cells := 0, slots := 0, locals := 111 }) 0 0 [.ref x] Φ sz (fun v Φ1 sz1 => (v = none) ∧ sz1 = sz ∧ (∃ (u1 : UN) (fl1 : Nat) (ex1 : Int32) (F1 : Nat → Fl), (u1.2.1 ≤ pe + 1) ∧ ((fl < 12 ∧ fl1 = fl ∧ F1 = Fs ∧ u1 = (us, pe, P) ∧ ex1 = ex) ∨ (¬ fl < 12 ∧ fl1 = fl - 1 ∧ F1 = shF Fs (elN Fs fl) ∧ unE c (Fs (elN Fs fl)).1 (us, pe, P) = u1 ∧ ex1 = ex + 1)) ∧ Im G x (rd, (NNq c), (CaQ fl1 F1), tp, tt, sI, sT, (PtQ u1.2.1 u1.2.2), ql, fl1, u1.2.1, le, nx, il, qu, kn, ec, nu, va, st, ep, ti, ad, ob, ra, rt, ex1, sa, u1.1, tk, th, me, dr, se, sn) Φ1) ∧ Fr x (fun j9 => j9 = 0 ∨ j9 = 5 ∨ j9 = 6 ∨ j9 = 7) Φ Φ1) := by
  refine Ct.of (cc := cX12_makeRoom) (maxL := 3) (ret := none) (by decide) rfl (Nat.le_of_ble_eq_true rfl) ?_
  intro p9 e9 s9 m9 w9 t9 k9 B
  show Z p9 l e9 _ s9 m9 _ w9 t9 k9 _ G 3 0 [(0, .ref x)] [] Φ sz 0 0
  refine z_aload_n B dX12_makeRoom_0 rfl 0 rfl ?_
  obtain ⟨n_1, v_1, n_2, h_1, b_13, b_1, b_2, b_3, b_4, b_5, b_6, b_7, b_8, b_9, b_10, b_11, b_12⟩ := im0 hI
  replace b_1 : 1 ≤ rt := b_1
  replace b_2 : rt ≤ 1024 := b_2
  replace b_3 : fl ≤ 12 := b_3
  replace b_4 : pe ≤ 24 := b_4
  replace b_5 : le ≤ 700 := b_5
  replace b_6 : qu ≤ 12 := b_6
  replace b_7 : n_1 ≤ 8 := b_7
  replace b_8 : n_2 ≤ 24 := b_8
  replace b_9 : tk ≤ 24 := b_9
  replace b_10 : il ≤ 700 := b_10
  replace b_11 : nx ≤ 701 := b_11
  replace b_12 : st ≤ 701 := b_12
  have h_2 : Φ x = some (o_ 14 [.int th, .ref (x + 1), .ref (x + 2), .int ti, .int ra, .int (nI rt), .int ex, .int ad, .ref (x + 3), .ref (x + 4), .int me, .long se, .ref (x + 5), .int (nI fl), .int dr, .long ob, .long sa, .long sn, .long us, .ref (x + 6), .ref (x + 7), .int (nI pe), .ref (x + 8), .int (nI le), .ref (x + 9), .ref (x + 10), .int (nI qu), .ref (x + 11), .ref (x + 12), .ref (x + 13), .ref (x + 14), .ref (x + 15), .ref (x + 16), .int (nI n_1), .long v_1, .ref (x + 17), .ref (x + 18), .ref (x + 19), .ref (x + 20), .ref (x + 21), .ref (x + 22), .int (nI n_2), .ref (x + 23), .ref (x + 24), .int (nI tk), .ref (x + 25), .int (nI il), .int (nI nx), .int ec, .int ep, .int kn, .int (nI st), .int nu, .long va]) := h_1
  refine z_get (ref := "FlowExporterModel") (C := RX12) (T := TX12) (N := 54) (ci := 14) (v := .int (nI fl)) B hu_X12_makeRoom_X12 rfl 13 (Nat.le_of_ble_eq_true rfl) hv_X12_makeRoom_133 rfl h_2 rfl dX12_makeRoom_1 ?_
  refine z_bipush (v := 12) B dX12_makeRoom_4 rfl ?_
  refine z_icmp_ge (tgt := 10) B dX12_makeRoom_6 rfl (fun c_1 => ?_) (fun c_1 => ?_)
  · have e_1 : 12 ≤ fl := (nI_leI (a := 12) (b := fl) (by omega) (by omega)).mp c_1
    refine z_iconst (v := 0) B dX12_makeRoom_10 rfl ?_
    refine z_istore_n (lv' := [(1, .int 0), (0, .ref x)]) B dX12_makeRoom_11 rfl (Nat.le_of_ble_eq_true rfl) rfl ?_
    refine z_iconst (v := 1) B dX12_makeRoom_12 rfl ?_
    refine z_istore_n (lv' := [(2, .int 1), (1, .int 0), (0, .ref x)]) B dX12_makeRoom_13 rfl (Nat.le_of_ble_eq_true rfl) rfl ?_
    refine z_lv [0, 1, 2] rfl ?_
    refine z_loop (α := Nat × Nat) (fun (a9 : Nat × Nat) Φi => Im G x (rd, (NNq c), (CaQ fl Fs), tp, tt, sI, sT, (PtQ pe P), ql, fl, pe, le, nx, il, qu, kn, ec, nu, va, st, ep, ti, ad, ob, ra, rt, ex, sa, us, tk, th, me, dr, se, sn) Φi ∧ Fr x (fun j9 => False) Φ Φi ∧ (a9.1 ≤ 12) ∧ (a9.2 < a9.1) ∧ (a9.1 ≤ fl) ∧ (a9.2 = elN Fs a9.1) ∧ True) (fun a9 => [(2, .int (nI (a9.1))), (1, .int (nI (a9.2))), (0, .ref x)]) (fun a9 => 12 - a9.1) ?_ (1, 0) ⟨hI, fun _ _ => rfl, (show 1 ≤ 12 by omega), (show 0 < 1 by omega), (show 1 ≤ fl by omega), (elN_1 Fs).symm, trivial⟩
    rintro ⟨i_1, i_2⟩ Φl1 ⟨hI1, hF1, b_14, b_15, b_16, b_17, -⟩ ih1
    replace hI1 : Im G x (rd, (NNq c), (CaQ fl Fs), tp, tt, sI, sT, (PtQ pe P), ql, fl, pe, le, nx, il, qu, kn, ec, nu, va, st, ep, ti, ad, ob, ra, rt, ex, sa, us, tk, th, me, dr, se, sn) Φl1 := hI1
    replace b_14 : i_1 ≤ 12 := b_14
    replace b_15 : i_2 < i_1 := b_15
    replace b_16 : i_1 ≤ fl := b_16
    replace b_17 : i_2 = elN Fs i_1 := b_17
    show Z p9 l e9 _ s9 m9 _ w9 t9 k9 _ G 3 14 [(2, .int (nI i_1)), (1, .int (nI i_2)), (0, .ref x)] [] Φl1 _ _ _
    refine z_iload_n B dX12_makeRoom_14 rfl 0 rfl ?_
    refine z_aload_n B dX12_makeRoom_15 rfl 2 rfl ?_
    have h_3 : Φl1 x = some (o_ 14 [.int th, .ref (x + 1), .ref (x + 2), .int ti, .int ra, .int (nI rt), .int ex, .int ad, .ref (x + 3), .ref (x + 4), .int me, .long se, .ref (x + 5), .int (nI fl), .int dr, .long ob, .long sa, .long sn, .long us, .ref (x + 6), .ref (x + 7), .int (nI pe), .ref (x + 8), .int (nI le), .ref (x + 9), .ref (x + 10), .int (nI qu), .ref (x + 11), .ref (x + 12), .ref (x + 13), .ref (x + 14), .ref (x + 15), .ref (x + 16), .int (nI n_1), .long v_1, .ref (x + 17), .ref (x + 18), .ref (x + 19), .ref (x + 20), .ref (x + 21), .ref (x + 22), .int (nI n_2), .ref (x + 23), .ref (x + 24), .int (nI tk), .ref (x + 25), .int (nI il), .int (nI nx), .int ec, .int ep, .int kn, .int (nI st), .int nu, .long va]) := ((hF1 x (fun j9 h8 h7 => (show False from h7).elim)).trans h_2)
    refine z_get (ref := "FlowExporterModel") (C := RX12) (T := TX12) (N := 54) (ci := 14) (v := .int (nI fl)) B hu_X12_makeRoom_X12 rfl 13 (Nat.le_of_ble_eq_true rfl) hv_X12_makeRoom_133 rfl h_3 rfl dX12_makeRoom_16 ?_
    refine z_icmp_ge (tgt := 58) B dX12_makeRoom_19 rfl (fun c_2 => ?_) (fun c_2 => ?_)
    · have e_2 : fl ≤ i_1 := (nI_leI (a := fl) (b := i_1) (by omega) (by omega)).mp c_2
      have hi0 : i_1 = fl := by omega
      have ho9 : i_2 = elN Fs fl := b_17.trans (congrArg (elN Fs) hi0)
      subst ho9
      have := elN_lt Fs fl (by omega)
      refine z_aload_n B dX12_makeRoom_58 rfl 2 rfl ?_
      refine z_iload_n B dX12_makeRoom_59 rfl 1 rfl ?_
      refine z_callV (As := [.int (nI (elN Fs fl))]) (rest := []) B (r_export G l Φl1 sz x rd tp tt sI sT ql fl pe le nx il qu kn ec nu va st ep ti ad ob ra rt ex sa us tk th me dr se sn c Fs P (elN Fs fl) hx hI1 (show (elN Fs fl) < fl by omega) (show pe < 12 by omega)) (cwV 1 B.1.2.2.2.2 gX12_makeRoom_X12_export rfl rfl rfl (by decide +kernel) ⟨Nat.le_of_ble_eq_true rfl, Nat.le_of_ble_eq_true rfl⟩) h_3 rfl rfl rfl rfl (Nat.le_of_ble_eq_true rfl) dX12_makeRoom_60 ⟨Nat.le_of_ble_eq_true rfl, Nat.le_of_ble_eq_true rfl⟩ (fun r_1 Φ1 sz1 st1 hp1 hs1 => ?_)
      obtain ⟨rfl, hq1, ⟨n_3, b_18, b_19, hI2⟩, hF2⟩ := hp1
      subst sz1
      replace hs1 : st1 = [] := hs1
      subst st1
      replace hI2 : Im G x (rd, (NNq c), CaQ (fl - 1) (shF Fs (elN Fs fl)), tp, tt, sI, sT, PtQ n_3.2.1 n_3.2.2, ql, fl - 1, n_3.2.1, le, nx, il, qu, kn, ec, nu, va, st, ep, ti, ad, ob, ra, rt, ex + 1, sa, n_3.1, tk, th, me, dr, se, sn) Φ1 := hI2
      replace b_18 : n_3.2.1 ≤ pe + 1 := b_18
      replace b_19 : unE c (Fs (elN Fs fl)).1 (us, pe, P) = n_3 := b_19
      exact z_ret_v B dX12_makeRoom_63 ⟨rfl, rfl, ⟨n_3, fl - 1, ex + 1, (shF Fs (elN Fs fl)), (show n_3.2.1 ≤ pe + 1 by omega), (Or.inr ⟨by omega, rfl, rfl, b_19, rfl⟩), hI2⟩, (fun b9 h9 => ((hF2 b9 h9).trans ((hF1 b9 (fun j9 h8 h7 => (show False from h7).elim)).trans rfl)))⟩
    · have e_3 : ¬ (fl ≤ i_1) := fun h9 => c_2 ((nI_leI (a := fl) (b := i_1) (by omega) (by omega)).mpr h9)
      refine z_aload_n B dX12_makeRoom_22 rfl 2 rfl ?_
      refine z_get (ref := "FlowExporterModel") (C := RX12) (T := TX12) (N := 54) (ci := 14) (v := .ref (x + 5)) B hu_X12_makeRoom_X12 rfl 12 (Nat.le_of_ble_eq_true rfl) hv_X12_makeRoom_26 rfl h_3 rfl dX12_makeRoom_23 ?_
      refine z_bipush (v := 8) B dX12_makeRoom_26 rfl ?_
      refine z_iload_n B dX12_makeRoom_28 rfl 0 rfl ?_
      refine z_imul B dX12_makeRoom_29 ?_
      refine z_top (st1 := [.int (nI (8 * i_1)), .ref (x + 5)]) (congrArg (fun w9 : Int32 => ([.int w9, .ref (x + 5)] : List Value)) (nI_mul 8 i_1)) ?_
      refine z_bipush (v := 7) B dX12_makeRoom_30 rfl ?_
      refine z_iadd B dX12_makeRoom_32 ?_
      refine z_top (st1 := [.int (nI (8 * i_1 + 7)), .ref (x + 5)]) (congrArg (fun w9 : Int32 => ([.int w9, .ref (x + 5)] : List Value)) (nI_add (8 * i_1) 7)) ?_
      obtain ⟨f_1, h_4, r_2, r_3⟩ := imk (k := 5) hI1
      replace r_3 : (CaQ fl Fs) f_1 := r_3
      replace r_2 : CC f_1 := r_2
      have h_5 : Φl1 (x + 5) = some (al_ G 96 f_1) := h_4
      refine z_lald B h_5 (vp_in_nI (by omega) (by omega)) dX12_makeRoom_33 ?_
      have b_20 := (r_3 i_1 (by omega)).1
      have b_21 := b_20.2.2
      refine z_top (st1 := [.long ((nI (Fs i_1).2.2.2.2).toInt64)]) (congrArg (fun w9 : Int64 => ([.long w9] : List Value)) ((congrArg f_1 (nI_clamp (by omega))).trans (CaQ.at r_3 (j := i_1) (by omega) 7 (by decide) rfl))) ?_
      refine z_aload_n B dX12_makeRoom_34 rfl 2 rfl ?_
      refine z_get (ref := "FlowExporterModel") (C := RX12) (T := TX12) (N := 54) (ci := 14) (v := .ref (x + 5)) B hu_X12_makeRoom_X12 rfl 12 (Nat.le_of_ble_eq_true rfl) hv_X12_makeRoom_26 rfl h_3 rfl dX12_makeRoom_35 ?_
      refine z_bipush (v := 8) B dX12_makeRoom_38 rfl ?_
      refine z_iload_n B dX12_makeRoom_40 rfl 1 rfl ?_
      refine z_imul B dX12_makeRoom_41 ?_
      refine z_top (st1 := [.int (nI (8 * i_2)), .ref (x + 5), .long ((nI (Fs i_1).2.2.2.2).toInt64)]) (congrArg (fun w9 : Int32 => ([.int w9, .ref (x + 5), .long ((nI (Fs i_1).2.2.2.2).toInt64)] : List Value)) (nI_mul 8 i_2)) ?_
      refine z_bipush (v := 7) B dX12_makeRoom_42 rfl ?_
      refine z_iadd B dX12_makeRoom_44 ?_
      refine z_top (st1 := [.int (nI (8 * i_2 + 7)), .ref (x + 5), .long ((nI (Fs i_1).2.2.2.2).toInt64)]) (congrArg (fun w9 : Int32 => ([.int w9, .ref (x + 5), .long ((nI (Fs i_1).2.2.2.2).toInt64)] : List Value)) (nI_add (8 * i_2) 7)) ?_
      refine z_lald B h_5 (vp_in_nI (by omega) (by omega)) dX12_makeRoom_45 ?_
      have b_22 := (r_3 i_2 (by omega)).1
      have b_23 := b_22.2.2
      refine z_top (st1 := [.long ((nI (Fs i_2).2.2.2.2).toInt64), .long ((nI (Fs i_1).2.2.2.2).toInt64)]) (congrArg (fun w9 : Int64 => ([.long w9, .long ((nI (Fs i_1).2.2.2.2).toInt64)] : List Value)) ((congrArg f_1 (nI_clamp (by omega))).trans (CaQ.at r_3 (j := i_2) (by omega) 7 (by decide) rfl))) ?_
      refine z_lcmp B dX12_makeRoom_46 ?_
      refine z_if_ge (tgt := 52) B dX12_makeRoom_47 rfl (fun c_3 => ?_) (fun c_3 => ?_)
      · refine z_iinc (k := 0) (v := nI (i_1 + 1)) (lv' := [(2, .int (nI (i_1 + 1))), (1, .int (nI i_2)), (0, .ref x)]) B dX12_makeRoom_52 rfl (nI_add i_1 1) (Nat.le_of_ble_eq_true rfl) rfl ?_
        refine z_goto (tgt := 14) B dX12_makeRoom_55 rfl ?_
        refine z_lv [0, 1, 2] rfl ?_
        exact ih1 (i_1 + 1, i_2) Φl1 (show 12 - (i_1 + 1) < 12 - i_1 by omega) ⟨hI1, (fun b9 h9 => ((hF1 b9 (fun j9 h8 h7 => (show False from h7).elim)).trans rfl)), (show (i_1 + 1) ≤ 12 by omega), (show i_2 < (i_1 + 1) by omega), (show (i_1 + 1) ≤ fl by omega), (elN_n b_17 (fun h9 => (Int32.not_lt.mpr c_3) ((lg_cmp_lt _ _).mpr ((lt_L (by omega) (by omega)).mpr h9)))).symm, trivial⟩
      · refine z_iload_n B dX12_makeRoom_50 rfl 0 rfl ?_
        refine z_istore_n (lv' := [(1, .int (nI i_1)), (2, .int (nI i_1)), (0, .ref x)]) B dX12_makeRoom_51 rfl (Nat.le_of_ble_eq_true rfl) rfl ?_
        refine z_iinc (k := 1) (v := nI (i_1 + 1)) (lv' := [(2, .int (nI (i_1 + 1))), (1, .int (nI i_1)), (0, .ref x)]) B dX12_makeRoom_52 rfl (nI_add i_1 1) (Nat.le_of_ble_eq_true rfl) rfl ?_
        refine z_goto (tgt := 14) B dX12_makeRoom_55 rfl ?_
        refine z_lv [0, 1, 2] rfl ?_
        exact ih1 (i_1 + 1, i_1) Φl1 (show 12 - (i_1 + 1) < 12 - i_1 by omega) ⟨hI1, (fun b9 h9 => ((hF1 b9 (fun j9 h8 h7 => (show False from h7).elim)).trans rfl)), (show (i_1 + 1) ≤ 12 by omega), (show i_1 < (i_1 + 1) by omega), (show (i_1 + 1) ≤ fl by omega), (elN_y b_17 ((lt_L (by omega) (by omega)).mp ((lg_cmp_lt _ _).mp (Int32.not_le.mp c_3)))).symm, trivial⟩
  · have e_4 : ¬ (12 ≤ fl) := fun h9 => c_1 ((nI_leI (a := 12) (b := fl) (by omega) (by omega)).mpr h9)
    exact z_ret_v B dX12_makeRoom_9 ⟨rfl, rfl, ⟨(us, pe, P), fl, ex, Fs, (show pe ≤ pe + 1 by omega), (Or.inl ⟨by omega, rfl, rfl, rfl, rfl⟩), hI⟩, (fun b9 h9 => rfl)⟩

theorem hu_X12_changeRate_X12 : ∀ w ∈ u_ws RX12 TX12 54, w ∈ wsX12_changeRate := fun _ h => List.mem_cons_of_mem _ (List.mem_append_left _ (List.mem_append_right _ (h)))

theorem hv_X12_changeRate_107 : Cond.fieldLink RX12 107 "FlowExporterModel" (TX12 5).2.1 (TX12 5).2.2.1 ∈ wsX12_changeRate := List.mem_cons_of_mem _ (List.mem_append_left _ (List.mem_append_left _ (List.mem_append_left _ (List.mem_of_getElem? (i := 0) rfl))))

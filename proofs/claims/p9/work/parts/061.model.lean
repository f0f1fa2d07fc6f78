set_option maxRecDepth 20000 in
theorem ggX12_putRecords_X12_recordLengthOf : GoodIn wsX12_putRecords wsX12_recordLengthOf := goodIn_ca ((goodIn_ca (goodIn_r _ [10, 11, 12, 13, 9, 14, 4, 15, 16, 17, 18, 19, 20, 21, 22, 23, 24, 25, 26, 27, 28, 29] rfl (by decide +kernel)) (goodIn_sub (fun _ h => List.mem_cons_of_mem _ (List.mem_append_left _ (List.mem_append_right _ h))) gw_wsX120))) (goodIn_sub (fun _ h => List.mem_cons_of_mem _ (List.mem_append_right _ h)) (all_fg _))
set_option maxRecDepth 20000 in
theorem gX12_putRecords_X12_recordLengthOf : GoodIn wsX12_putRecords (wsV RX12 198 RX12 yX12_recordLengthOf wsX12_recordLengthOf) := goodIn_app (goodIn_m (mem_cA (List.mem_cons_of_mem _ (List.mem_append_left _ (List.mem_append_left _ (List.mem_append_left _ (List.mem_of_getElem? (i := 5) rfl))))) (mem_cA (List.mem_cons_of_mem _ (List.mem_append_left _ (List.mem_append_left _ (List.mem_append_left _ (List.mem_of_getElem? (i := 6) rfl))))) (mem_cA (List.mem_cons_of_mem _ (List.mem_append_left _ (List.mem_append_left _ (List.mem_append_left _ (List.mem_of_getElem? (i := 7) rfl))))) (mem_cA (List.mem_cons_of_mem _ (List.mem_append_left _ (List.mem_append_left _ (List.mem_append_left _ (List.mem_of_getElem? (i := 8) rfl))))) mem_cZ)))) (by decide +kernel)) ggX12_putRecords_X12_recordLengthOf
set_option maxRecDepth 20000 in
theorem ggX12_putRecords_X12_put : GoodIn wsX12_putRecords wsX12_put := goodIn_ca ((goodIn_ca (goodIn_r _ [33, 34, 3, 35] rfl (by decide +kernel)) (goodIn_sub (fun _ h => List.mem_cons_of_mem _ (List.mem_append_left _ (List.mem_append_right _ h))) gw_wsX120))) (goodIn_sub (fun _ h => List.mem_cons_of_mem _ (List.mem_append_right _ h)) (all_fg _))
set_option maxRecDepth 20000 in
theorem gX12_putRecords_X12_put : GoodIn wsX12_putRecords (wsV RX12 283 RX12 yX12_put wsX12_put) := goodIn_app (goodIn_m (mem_cA (List.mem_cons_of_mem _ (List.mem_append_left _ (List.mem_append_left _ (List.mem_append_right _ (List.mem_of_getElem? (i := 5) rfl))))) (mem_cA (List.mem_cons_of_mem _ (List.mem_append_left _ (List.mem_append_left _ (List.mem_append_right _ (List.mem_of_getElem? (i := 6) rfl))))) (mem_cA (List.mem_cons_of_mem _ (List.mem_append_left _ (List.mem_append_left _ (List.mem_append_right _ (List.mem_of_getElem? (i := 7) rfl))))) (mem_cA (List.mem_cons_of_mem _ (List.mem_append_left _ (List.mem_append_left _ (List.mem_append_left _ (List.mem_of_getElem? (i := 8) rfl))))) mem_cZ)))) (by decide +kernel)) ggX12_putRecords_X12_put
set_option maxRecDepth 20000 in
theorem ggX12_putRecords_X12_putAt : GoodIn wsX12_putRecords wsX12_putAt := goodIn_ca ((goodIn_ca (goodIn_r _ [39, 34] rfl (by decide +kernel)) (goodIn_sub (fun _ h => List.mem_cons_of_mem _ (List.mem_append_left _ (List.mem_append_right _ h))) gw_wsX120))) (goodIn_sub (fun _ h => List.mem_cons_of_mem _ (List.mem_append_right _ h)) (all_fg _))
set_option maxRecDepth 20000 in
theorem gX12_putRecords_X12_putAt : GoodIn wsX12_putRecords (wsV RX12 295 RX12 yX12_putAt wsX12_putAt) := goodIn_app (goodIn_m (mem_cA (List.mem_cons_of_mem _ (List.mem_append_left _ (List.mem_append_left _ (List.mem_append_right _ (List.mem_of_getElem? (i := 11) rfl))))) (mem_cA (List.mem_cons_of_mem _ (List.mem_append_left _ (List.mem_append_left _ (List.mem_append_right _ (List.mem_of_getElem? (i := 12) rfl))))) (mem_cA (List.mem_cons_of_mem _ (List.mem_append_left _ (List.mem_append_left _ (List.mem_append_right _ (List.mem_of_getElem? (i := 13) rfl))))) (mem_cA (List.mem_cons_of_mem _ (List.mem_append_left _ (List.mem_append_left _ (List.mem_append_left _ (List.mem_of_getElem? (i := 8) rfl))))) mem_cZ)))) (by decide +kernel)) ggX12_putRecords_X12_putAt
theorem dX12_putRecords_0 : decode cX12_putRecords 0 = .ok (.iconst (-1), 1) := by decide +kernel
theorem dX12_putRecords_1 : decode cX12_putRecords 1 = .ok (.istore_n 2, 1) := by decide +kernel
theorem dX12_putRecords_2 : decode cX12_putRecords 2 = .ok (.iload_n 1, 1) := by decide +kernel
theorem dX12_putRecords_3 : decode cX12_putRecords 3 = .ok (.istore_n 3, 1) := by decide +kernel
theorem dX12_putRecords_4 : decode cX12_putRecords 4 = .ok (.iconst 1, 1) := by decide +kernel
theorem dX12_putRecords_5 : decode cX12_putRecords 5 = .ok (.istore 4, 2) := by decide +kernel
theorem dX12_putRecords_7 : decode cX12_putRecords 7 = .ok (.iload 4, 2) := by decide +kernel
theorem dX12_putRecords_9 : decode cX12_putRecords 9 = .ok (.ifCond .eq 176, 3) := by decide +kernel
theorem dX12_putRecords_12 : decode cX12_putRecords 12 = .ok (.iload_n 3, 1) := by decide +kernel
theorem dX12_putRecords_13 : decode cX12_putRecords 13 = .ok (.aload_n 0, 1) := by decide +kernel
theorem dX12_putRecords_14 : decode cX12_putRecords 14 = .ok (.getfield 136, 3) := by decide +kernel
theorem dX12_putRecords_17 : decode cX12_putRecords 17 = .ok (.if_icmp .ge 168, 3) := by decide +kernel
theorem dX12_putRecords_20 : decode cX12_putRecords 20 = .ok (.aload_n 0, 1) := by decide +kernel
theorem dX12_putRecords_21 : decode cX12_putRecords 21 = .ok (.getfield 30, 3) := by decide +kernel
theorem dX12_putRecords_24 : decode cX12_putRecords 24 = .ok (.iload_n 3, 1) := by decide +kernel
theorem dX12_putRecords_25 : decode cX12_putRecords 25 = .ok (.iaload, 1) := by decide +kernel
theorem dX12_putRecords_26 : decode cX12_putRecords 26 = .ok (.istore 5, 2) := by decide +kernel
theorem dX12_putRecords_28 : decode cX12_putRecords 28 = .ok (.iload_n 2, 1) := by decide +kernel
theorem dX12_putRecords_29 : decode cX12_putRecords 29 = .ok (.iconst (-1), 1) := by decide +kernel
theorem dX12_putRecords_30 : decode cX12_putRecords 30 = .ok (.if_icmp .eq 16, 3) := by decide +kernel
theorem dX12_putRecords_33 : decode cX12_putRecords 33 = .ok (.iload 5, 2) := by decide +kernel
theorem dX12_putRecords_35 : decode cX12_putRecords 35 = .ok (.aload_n 0, 1) := by decide +kernel
theorem dX12_putRecords_36 : decode cX12_putRecords 36 = .ok (.getfield 30, 3) := by decide +kernel
theorem dX12_putRecords_39 : decode cX12_putRecords 39 = .ok (.iload_n 3, 1) := by decide +kernel
theorem dX12_putRecords_40 : decode cX12_putRecords 40 = .ok (.iconst 1, 1) := by decide +kernel
theorem dX12_putRecords_41 : decode cX12_putRecords 41 = .ok (.isub, 1) := by decide +kernel
theorem dX12_putRecords_42 : decode cX12_putRecords 42 = .ok (.iaload, 1) := by decide +kernel
theorem dX12_putRecords_43 : decode cX12_putRecords 43 = .ok (.if_icmp .eq 7, 3) := by decide +kernel
theorem dX12_putRecords_46 : decode cX12_putRecords 46 = .ok (.iconst 1, 1) := by decide +kernel
theorem dX12_putRecords_47 : decode cX12_putRecords 47 = .ok (.goto 4, 3) := by decide +kernel
theorem dX12_putRecords_50 : decode cX12_putRecords 50 = .ok (.iconst 0, 1) := by decide +kernel
theorem dX12_putRecords_51 : decode cX12_putRecords 51 = .ok (.istore 6, 2) := by decide +kernel
theorem dX12_putRecords_53 : decode cX12_putRecords 53 = .ok (.aload_n 0, 1) := by decide +kernel
theorem dX12_putRecords_54 : decode cX12_putRecords 54 = .ok (.iload 5, 2) := by decide +kernel
theorem dX12_putRecords_56 : decode cX12_putRecords 56 = .ok (.invokevirtual 198, 3) := by decide +kernel
theorem dX12_putRecords_59 : decode cX12_putRecords 59 = .ok (.istore 7, 2) := by decide +kernel
theorem dX12_putRecords_61 : decode cX12_putRecords 61 = .ok (.aload_n 0, 1) := by decide +kernel
theorem dX12_putRecords_62 : decode cX12_putRecords 62 = .ok (.getfield 280, 3) := by decide +kernel
theorem dX12_putRecords_65 : decode cX12_putRecords 65 = .ok (.iload 7, 2) := by decide +kernel
theorem dX12_putRecords_67 : decode cX12_putRecords 67 = .ok (.iadd, 1) := by decide +kernel
theorem dX12_putRecords_68 : decode cX12_putRecords 68 = .ok (.iload 6, 2) := by decide +kernel
theorem dX12_putRecords_70 : decode cX12_putRecords 70 = .ok (.ifCond .eq 7, 3) := by decide +kernel
theorem dX12_putRecords_73 : decode cX12_putRecords 73 = .ok (.iconst 4, 1) := by decide +kernel
theorem dX12_putRecords_74 : decode cX12_putRecords 74 = .ok (.goto 4, 3) := by decide +kernel
theorem dX12_putRecords_77 : decode cX12_putRecords 77 = .ok (.iconst 0, 1) := by decide +kernel
theorem dX12_putRecords_78 : decode cX12_putRecords 78 = .ok (.iadd, 1) := by decide +kernel
theorem dX12_putRecords_79 : decode cX12_putRecords 79 = .ok (.aload_n 0, 1) := by decide +kernel
theorem dX12_putRecords_80 : decode cX12_putRecords 80 = .ok (.getfield 17, 3) := by decide +kernel
theorem dX12_putRecords_83 : decode cX12_putRecords 83 = .ok (.bipush 7, 2) := by decide +kernel
theorem dX12_putRecords_85 : decode cX12_putRecords 85 = .ok (.iaload, 1) := by decide +kernel
theorem dX12_putRecords_86 : decode cX12_putRecords 86 = .ok (.if_icmp .gt 7, 3) := by decide +kernel
theorem dX12_putRecords_89 : decode cX12_putRecords 89 = .ok (.iconst 1, 1) := by decide +kernel
theorem dX12_putRecords_90 : decode cX12_putRecords 90 = .ok (.goto 4, 3) := by decide +kernel
theorem dX12_putRecords_93 : decode cX12_putRecords 93 = .ok (.iconst 0, 1) := by decide +kernel
theorem dX12_putRecords_94 : decode cX12_putRecords 94 = .ok (.istore 4, 2) := by decide +kernel
theorem dX12_putRecords_96 : decode cX12_putRecords 96 = .ok (.iload 4, 2) := by decide +kernel
theorem dX12_putRecords_98 : decode cX12_putRecords 98 = .ok (.ifCond .ne 6, 3) := by decide +kernel
theorem dX12_putRecords_101 : decode cX12_putRecords 101 = .ok (.goto (-94), 3) := by decide +kernel
theorem dX12_putRecords_104 : decode cX12_putRecords 104 = .ok (.iload 6, 2) := by decide +kernel
theorem dX12_putRecords_106 : decode cX12_putRecords 106 = .ok (.ifCond .eq 26, 3) := by decide +kernel
theorem dX12_putRecords_109 : decode cX12_putRecords 109 = .ok (.aload_n 0, 1) := by decide +kernel
theorem dX12_putRecords_110 : decode cX12_putRecords 110 = .ok (.getfield 280, 3) := by decide +kernel
theorem dX12_putRecords_113 : decode cX12_putRecords 113 = .ok (.istore_n 2, 1) := by decide +kernel
theorem dX12_putRecords_114 : decode cX12_putRecords 114 = .ok (.aload_n 0, 1) := by decide +kernel
theorem dX12_putRecords_115 : decode cX12_putRecords 115 = .ok (.sipush 256, 3) := by decide +kernel
theorem dX12_putRecords_118 : decode cX12_putRecords 118 = .ok (.iload 5, 2) := by decide +kernel
theorem dX12_putRecords_120 : decode cX12_putRecords 120 = .ok (.iadd, 1) := by decide +kernel
theorem dX12_putRecords_121 : decode cX12_putRecords 121 = .ok (.i2l, 1) := by decide +kernel
theorem dX12_putRecords_122 : decode cX12_putRecords 122 = .ok (.iconst 2, 1) := by decide +kernel
theorem dX12_putRecords_123 : decode cX12_putRecords 123 = .ok (.invokevirtual 283, 3) := by decide +kernel
theorem dX12_putRecords_126 : decode cX12_putRecords 126 = .ok (.aload_n 0, 1) := by decide +kernel
theorem dX12_putRecords_127 : decode cX12_putRecords 127 = .ok (.lconst 0, 1) := by decide +kernel
theorem dX12_putRecords_128 : decode cX12_putRecords 128 = .ok (.iconst 2, 1) := by decide +kernel
theorem dX12_putRecords_129 : decode cX12_putRecords 129 = .ok (.invokevirtual 283, 3) := by decide +kernel
theorem dX12_putRecords_132 : decode cX12_putRecords 132 = .ok (.iconst 0, 1) := by decide +kernel
theorem dX12_putRecords_133 : decode cX12_putRecords 133 = .ok (.istore 8, 2) := by decide +kernel
theorem dX12_putRecords_135 : decode cX12_putRecords 135 = .ok (.iload 8, 2) := by decide +kernel
theorem dX12_putRecords_137 : decode cX12_putRecords 137 = .ok (.iload 7, 2) := by decide +kernel
theorem dX12_putRecords_139 : decode cX12_putRecords 139 = .ok (.if_icmp .ge 27, 3) := by decide +kernel
theorem dX12_putRecords_142 : decode cX12_putRecords 142 = .ok (.aload_n 0, 1) := by decide +kernel
theorem dX12_putRecords_143 : decode cX12_putRecords 143 = .ok (.aload_n 0, 1) := by decide +kernel
theorem dX12_putRecords_144 : decode cX12_putRecords 144 = .ok (.getfield 33, 3) := by decide +kernel
theorem dX12_putRecords_147 : decode cX12_putRecords 147 = .ok (.bipush 30, 2) := by decide +kernel
theorem dX12_putRecords_149 : decode cX12_putRecords 149 = .ok (.iload_n 3, 1) := by decide +kernel
theorem dX12_putRecords_150 : decode cX12_putRecords 150 = .ok (.imul, 1) := by decide +kernel
theorem dX12_putRecords_151 : decode cX12_putRecords 151 = .ok (.iload 8, 2) := by decide +kernel
theorem dX12_putRecords_153 : decode cX12_putRecords 153 = .ok (.iadd, 1) := by decide +kernel
theorem dX12_putRecords_154 : decode cX12_putRecords 154 = .ok (.iaload, 1) := by decide +kernel
theorem dX12_putRecords_155 : decode cX12_putRecords 155 = .ok (.i2l, 1) := by decide +kernel
theorem dX12_putRecords_156 : decode cX12_putRecords 156 = .ok (.iconst 1, 1) := by decide +kernel
theorem dX12_putRecords_157 : decode cX12_putRecords 157 = .ok (.invokevirtual 283, 3) := by decide +kernel
theorem dX12_putRecords_160 : decode cX12_putRecords 160 = .ok (.iinc 8 1, 3) := by decide +kernel
theorem dX12_putRecords_163 : decode cX12_putRecords 163 = .ok (.goto (-28), 3) := by decide +kernel
theorem dX12_putRecords_166 : decode cX12_putRecords 166 = .ok (.aload_n 0, 1) := by decide +kernel
theorem dX12_putRecords_167 : decode cX12_putRecords 167 = .ok (.iload_n 2, 1) := by decide +kernel
theorem dX12_putRecords_168 : decode cX12_putRecords 168 = .ok (.iconst 2, 1) := by decide +kernel
theorem dX12_putRecords_169 : decode cX12_putRecords 169 = .ok (.iadd, 1) := by decide +kernel
theorem dX12_putRecords_170 : decode cX12_putRecords 170 = .ok (.aload_n 0, 1) := by decide +kernel
theorem dX12_putRecords_171 : decode cX12_putRecords 171 = .ok (.getfield 280, 3) := by decide +kernel
theorem dX12_putRecords_174 : decode cX12_putRecords 174 = .ok (.iload_n 2, 1) := by decide +kernel
theorem dX12_putRecords_175 : decode cX12_putRecords 175 = .ok (.isub, 1) := by decide +kernel
theorem dX12_putRecords_176 : decode cX12_putRecords 176 = .ok (.invokevirtual 295, 3) := by decide +kernel
theorem dX12_putRecords_179 : decode cX12_putRecords 179 = .ok (.iinc 3 1, 3) := by decide +kernel
theorem dX12_putRecords_182 : decode cX12_putRecords 182 = .ok (.goto (-175), 3) := by decide +kernel
theorem dX12_putRecords_185 : decode cX12_putRecords 185 = .ok (.iload_n 3, 1) := by decide +kernel
theorem dX12_putRecords_186 : decode cX12_putRecords 186 = .ok (.ireturn, 1) := by decide +kernel
set_option maxHeartbeats 4000000 in
set_option maxRecDepth 100000 in
theorem r_putRecords (G : EnvG) (l : Launch) (Φ : Hm) (sz x : Nat) (rd : (Nat → Int32) → Prop) (nw : (Nat → Int32) → Prop) (cr : (Nat → Int64) → Prop) (tp : (Nat → Int32) → Prop) (tt : (Nat → Int64) → Prop) (fl : Nat) (pe : Nat) (le : Nat) (nx : Nat) (il : Nat) (qu : Nat) (kn : Int32) (ec : Int32) (nu : Int32) (va : Int64) (st : Nat) (ep : Int32) (ti : Int32) (ad : Int32) (ob : Int64) (ra : Int32) (rt : Nat) (ex : Int32) (sa : Int64) (us : Int64) (tk : Nat) (th : Int32) (q : Nat) (hx : G.2.2.2 ≤ x) (hI : Im G x (rd, nw, cr, tp, tt, fl, pe, le, nx, il, qu, kn, ec, nu, va, st, ep, ti, ad, ob, ra, rt, ex, sa, us, tk, th) Φ) (hq : q < pe) (hl : le ≤ 180) (hnw : ∀ f9 : Nat → Int32, nw f9 → NN f9) : Ct G l yX12_putRecords wsX12_putRecords ({ frames := 4, cells := 0, slots := 0, locals := 89 }) 0 0 [.ref x, .int (nI q)] Φ sz (fun v Φ1 sz1 => (∃ n9 : Nat, v = some (.int (nI n9)) ∧ q < n9 ∧ n9 ≤ pe) ∧ sz1 = sz ∧ (∃ (le1 : Nat), (le1 ≤ 600) ∧ Im G x (rd, nw, cr, tp, tt, fl, pe, le1, nx, il, qu, kn, ec, nu, va, st, ep, ti, ad, ob, ra, rt, ex, sa, us, tk, th) Φ1) ∧ Fr x (fun j9 => j9 = 0 ∨ j9 = 8) Φ Φ1) := by
  refine Ct.of (cc := cX12_putRecords) (maxL := 9) (ret := (some .int)) (by decide) rfl (Nat.le_of_ble_eq_true rfl) ?_
  intro p9 e9 s9 m9 w9 t9 k9 B
  show Z p9 l e9 _ s9 m9 _ w9 t9 k9 _ G 9 0 [(0, .ref x), (1, .int (nI q))] [] Φ sz 0 0
  refine z_iconst (v := (-1)) B dX12_putRecords_0 rfl ?_
  refine z_istore_n (lv' := [(2, .int (-1)), (0, .ref x), (1, .int (nI q))]) B dX12_putRecords_1 rfl (Nat.le_of_ble_eq_true rfl) rfl ?_
  refine z_iload_n B dX12_putRecords_2 rfl 2 rfl ?_
  refine z_istore_n (lv' := [(3, .int (nI q)), (2, .int (-1)), (0, .ref x), (1, .int (nI q))]) B dX12_putRecords_3 rfl (Nat.le_of_ble_eq_true rfl) rfl ?_
  refine z_iconst (v := 1) B dX12_putRecords_4 rfl ?_
  refine z_istore (lv' := [(4, .int 1), (3, .int (nI q)), (2, .int (-1)), (0, .ref x), (1, .int (nI q))]) B dX12_putRecords_5 (Nat.le_of_ble_eq_true rfl) rfl ?_
  refine z_lv [0, 1, 2, 3, 4] rfl ?_
  refine z_loop (α := Int32 × Nat × Int32 × Nat) (fun (a9 : Int32 × Nat × Int32 × Nat) Φi => Im G x (rd, nw, cr, tp, tt, fl, pe, a9.2.2.2, nx, il, qu, kn, ec, nu, va, st, ep, ti, ad, ob, ra, rt, ex, sa, us, tk, th) Φi ∧ Fr x (fun j9 => j9 = 0 ∨ j9 = 8) Φ Φi ∧ (a9.2.1 ≤ pe) ∧ (q ≤ a9.2.1) ∧ (a9.2.2.2 ≤ 600) ∧ (a9.2.2.1 = (-1) ∨ ∃ s9 : Nat, a9.2.2.1 = nI s9 ∧ s9 + 4 ≤ a9.2.2.2) ∧ ((a9.1 = 1 ∧ a9.2.2.1 = (-1) ∧ a9.2.1 = q ∧ a9.2.2.2 ≤ 180) ∨ q < a9.2.1) ∧ True) (fun a9 => [(4, .int a9.1), (3, .int (nI (a9.2.1))), (2, .int a9.2.2.1), (0, .ref x), (1, .int (nI q))]) (fun a9 => (if a9.1 = 0 then 0 else 1) + 2 * (pe - a9.2.1)) ?_ (1, q, (-1), le) ⟨hI, fun _ _ => rfl, (show q ≤ pe by omega), (show q ≤ q by omega), (show le ≤ 600 by omega), (Or.inl rfl), (Or.inl ⟨rfl, rfl, rfl, (show le ≤ 180 by omega)⟩), trivial⟩
  rintro ⟨i_1, i_2, i_3, i_4⟩ Φl1 ⟨hI1, hF1, b_1, b_2, b_3, b_4, b_5, -⟩ ih1
  replace hI1 : Im G x (rd, nw, cr, tp, tt, fl, pe, i_4, nx, il, qu, kn, ec, nu, va, st, ep, ti, ad, ob, ra, rt, ex, sa, us, tk, th) Φl1 := hI1
  replace b_1 : i_2 ≤ pe := b_1
  replace b_2 : q ≤ i_2 := b_2
  replace b_3 : i_4 ≤ 600 := b_3
  replace b_4 : i_3 = (-1) ∨ ∃ s9 : Nat, i_3 = nI s9 ∧ s9 + 4 ≤ i_4 := b_4
  replace b_5 : (i_1 = 1 ∧ i_3 = (-1) ∧ i_2 = q ∧ i_4 ≤ 180) ∨ q < i_2 := b_5
  show Z p9 l e9 _ s9 m9 _ w9 t9 k9 _ G 9 7 [(4, .int i_1), (3, .int (nI i_2)), (2, .int i_3), (0, .ref x), (1, .int (nI q))] [] Φl1 _ _ _
  refine z_iload B dX12_putRecords_7 0 rfl ?_
  refine z_if_eq (tgt := 185) B dX12_putRecords_9 rfl (fun c_1 => ?_) (fun c_1 => ?_)
  · have b_6 : q < i_2 := by
      rcases b_5 with ⟨h1, -, h3, -⟩ | h
      · exact absurd (h1.symm.trans c_1) (by decide)
      · exact h
    refine z_iload_n B dX12_putRecords_185 rfl 1 rfl ?_
    exact z_ret_i B dX12_putRecords_186 ⟨⟨i_2, rfl, (show q < i_2 ∧ i_2 ≤ pe by omega)⟩, rfl, ⟨i_4, (show i_4 ≤ 600 by omega), hI1⟩, (fun b9 h9 => ((hF1 b9 h9).trans rfl))⟩
  · refine z_iload_n B dX12_putRecords_12 rfl 1 rfl ?_
    refine z_aload_n B dX12_putRecords_13 rfl 3 rfl ?_
    obtain ⟨v_1, v_2, v_3, v_4, n_1, v_5, n_2, h_1, b_19, b_7, b_8, b_9, b_10, b_11, b_12, b_13, b_14, b_15, b_16, b_17, b_18⟩ := im0 hI1
    replace b_7 : 1 ≤ rt := b_7
    replace b_8 : rt ≤ 1024 := b_8
    replace b_9 : fl ≤ 12 := b_9
    replace b_10 : pe ≤ 24 := b_10
    replace b_11 : i_4 ≤ 700 := b_11
    replace b_12 : qu ≤ 12 := b_12
    replace b_13 : n_1 ≤ 8 := b_13
    replace b_14 : n_2 ≤ 24 := b_14
    replace b_15 : tk ≤ 24 := b_15
    replace b_16 : il ≤ 700 := b_16
    replace b_17 : nx ≤ 701 := b_17
    replace b_18 : st ≤ 701 := b_18
    have h_2 : Φl1 x = some (o_ 14 [.int th, .ref (x + 1), .ref (x + 2), .int ti, .int ra, .int (nI rt), .int ex, .int ad, .ref (x + 3), .ref (x + 4), .int v_1, .long v_2, .ref (x + 5), .int (nI fl), .int v_3, .long ob, .long sa, .long v_4, .long us, .ref (x + 6), .ref (x + 7), .int (nI pe), .ref (x + 8), .int (nI i_4), .ref (x + 9), .ref (x + 10), .int (nI qu), .ref (x + 11), .ref (x + 12), .ref (x + 13), .ref (x + 14), .ref (x + 15), .ref (x + 16), .int (nI n_1), .long v_5, .ref (x + 17), .ref (x + 18), .ref (x + 19), .ref (x + 20), .ref (x + 21), .ref (x + 22), .int (nI n_2), .ref (x + 23), .ref (x + 24), .int (nI tk), .ref (x + 25), .int (nI il), .int (nI nx), .int ec, .int ep, .int kn, .int (nI st), .int nu, .long va]) := h_1
    refine z_get (ref := "FlowExporterModel") (C := RX12) (T := TX12) (N := 54) (ci := 14) (v := .int (nI pe)) B hu_X12_putRecords_X12 rfl 21 (Nat.le_of_ble_eq_true rfl) hv_X12_putRecords_136 rfl h_2 rfl dX12_putRecords_14 ?_
    refine z_icmp_ge (tgt := 185) B dX12_putRecords_17 rfl (fun c_2 => ?_) (fun c_2 => ?_)
    · have e_1 : pe ≤ i_2 := (nI_leI (a := pe) (b := i_2) (by omega) (by omega)).mp c_2
      have b_20 : q < i_2 := by
        rcases b_5 with ⟨h1, -, h3, -⟩ | h
        · omega
        · exact h
      refine z_iload_n B dX12_putRecords_185 rfl 1 rfl ?_
      exact z_ret_i B dX12_putRecords_186 ⟨⟨i_2, rfl, (show q < i_2 ∧ i_2 ≤ pe by omega)⟩, rfl, ⟨i_4, (show i_4 ≤ 600 by omega), hI1⟩, (fun b9 h9 => ((hF1 b9 h9).trans rfl))⟩
    · have e_2 : ¬ (pe ≤ i_2) := fun h9 => c_2 ((nI_leI (a := pe) (b := i_2) (by omega) (by omega)).mpr h9)
      refine z_aload_n B dX12_putRecords_20 rfl 3 rfl ?_
      refine z_get (ref := "FlowExporterModel") (C := RX12) (T := TX12) (N := 54) (ci := 14) (v := .ref (x + 6)) B hu_X12_putRecords_X12 rfl 19 (Nat.le_of_ble_eq_true rfl) hv_X12_putRecords_30 rfl h_2 rfl dX12_putRecords_21 ?_
      refine z_iload_n B dX12_putRecords_24 rfl 1 rfl ?_
      obtain ⟨f_1, h_3, r_1⟩ := imk (k := 6) hI1
      replace r_1 : Rw 3 f_1 := r_1
      have h_4 : Φl1 (x + 6) = some (ai_ G 24 f_1) := h_3
      refine z_iald B h_4 (vp_in_nI (by omega) (by omega)) dX12_putRecords_25 ?_
      obtain ⟨n_3, b_21, e_3⟩ := r_1 ((nI i_2).toNatClampNeg)
      refine z_top (st1 := [.int (nI n_3)]) (congrArg (fun w9 : Int32 => ([.int w9] : List Value)) (e_3)) ?_
      refine z_istore (lv' := [(5, .int (nI n_3)), (4, .int i_1), (3, .int (nI i_2)), (2, .int i_3), (0, .ref x), (1, .int (nI q))]) B dX12_putRecords_26 (Nat.le_of_ble_eq_true rfl) rfl ?_
      refine z_iload_n B dX12_putRecords_28 rfl 3 rfl ?_
      refine z_iconst (v := (-1)) B dX12_putRecords_29 rfl ?_
      refine z_icmp_eq (tgt := 46) B dX12_putRecords_30 rfl (fun c_3 => ?_) (fun c_3 => ?_)
      · refine z_iconst (v := 1) B dX12_putRecords_46 rfl ?_
        refine z_goto (tgt := 51) B dX12_putRecords_47 rfl ?_
        refine z_istore (lv' := [(6, .int 1), (5, .int (nI n_3)), (4, .int i_1), (3, .int (nI i_2)), (2, .int i_3), (0, .ref x), (1, .int (nI q))]) B dX12_putRecords_51 (Nat.le_of_ble_eq_true rfl) rfl ?_
        refine z_aload_n B dX12_putRecords_53 rfl 5 rfl ?_
        refine z_iload B dX12_putRecords_54 1 rfl ?_
        refine z_callV (As := [.int (nI n_3)]) (rest := []) B (r_recordLengthOf G l Φl1 sz x rd nw cr tp tt fl pe i_4 nx il qu kn ec nu va st ep ti ad ob ra rt ex sa us tk th n_3 hx hI1 (show n_3 < 4 by omega) hnw) (cwV 1 B.1.2.2.2.2 gX12_putRecords_X12_recordLengthOf rfl rfl rfl (by decide +kernel) ⟨Nat.le_of_ble_eq_true rfl, Nat.le_of_ble_eq_true rfl⟩) h_2 rfl rfl rfl rfl (Nat.le_of_ble_eq_true rfl) dX12_putRecords_56 ⟨Nat.le_of_ble_eq_true rfl, Nat.le_of_ble_eq_true rfl⟩ (fun r_2 Φ1 sz1 st1 hp1 hs1 => ?_)
        obtain ⟨⟨n_4, rfl, b_22⟩, hq1, hI2, hF2⟩ := hp1
        subst sz1
        replace hs1 : st1 = [.int (nI n_4)] := hs1
        subst st1
        replace b_22 : n_4 ≤ 29 := b_22
        replace hI2 : Im G x (rd, nw, cr, tp, tt, fl, pe, i_4, nx, il, qu, kn, ec, nu, va, st, ep, ti, ad, ob, ra, rt, ex, sa, us, tk, th) Φ1 := hI2
        refine z_istore (lv' := [(7, .int (nI n_4)), (6, .int 1), (5, .int (nI n_3)), (4, .int i_1), (3, .int (nI i_2)), (2, .int i_3), (0, .ref x), (1, .int (nI q))]) B dX12_putRecords_59 (Nat.le_of_ble_eq_true rfl) rfl ?_
        refine z_aload_n B dX12_putRecords_61 rfl 6 rfl ?_
        have h_5 : Φ1 x = some (o_ 14 [.int th, .ref (x + 1), .ref (x + 2), .int ti, .int ra, .int (nI rt), .int ex, .int ad, .ref (x + 3), .ref (x + 4), .int v_1, .long v_2, .ref (x + 5), .int (nI fl), .int v_3, .long ob, .long sa, .long v_4, .long us, .ref (x + 6), .ref (x + 7), .int (nI pe), .ref (x + 8), .int (nI i_4), .ref (x + 9), .ref (x + 10), .int (nI qu), .ref (x + 11), .ref (x + 12), .ref (x + 13), .ref (x + 14), .ref (x + 15), .ref (x + 16), .int (nI n_1), .long v_5, .ref (x + 17), .ref (x + 18), .ref (x + 19), .ref (x + 20), .ref (x + 21), .ref (x + 22), .int (nI n_2), .ref (x + 23), .ref (x + 24), .int (nI tk), .ref (x + 25), .int (nI il), .int (nI nx), .int ec, .int ep, .int kn, .int (nI st), .int nu, .long va]) := ((hF2 x (fun j9 h8 h7 => (show False from h7).elim)).trans h_2)
        refine z_get (ref := "FlowExporterModel") (C := RX12) (T := TX12) (N := 54) (ci := 14) (v := .int (nI i_4)) B hu_X12_putRecords_X12 rfl 23 (Nat.le_of_ble_eq_true rfl) hv_X12_putRecords_280 rfl h_5 rfl dX12_putRecords_62 ?_
        refine z_iload B dX12_putRecords_65 0 rfl ?_
        refine z_iadd B dX12_putRecords_67 ?_
        refine z_top (st1 := [.int (nI (i_4 + n_4))]) (congrArg (fun w9 : Int32 => ([.int w9] : List Value)) (nI_add i_4 n_4)) ?_
        refine z_iload B dX12_putRecords_68 1 rfl ?_
        refine z_if_eq (tgt := 77) B dX12_putRecords_70 rfl (fun h9 => absurd h9 (by decide)) (fun c_4 => ?_)
        refine z_iconst (v := 4) B dX12_putRecords_73 rfl ?_
        refine z_goto (tgt := 78) B dX12_putRecords_74 rfl ?_
        refine z_iadd B dX12_putRecords_78 ?_
        refine z_top (st1 := [.int (nI (i_4 + n_4 + 4))]) (congrArg (fun w9 : Int32 => ([.int w9] : List Value)) (nI_add (i_4 + n_4) 4)) ?_
        refine z_aload_n B dX12_putRecords_79 rfl 6 rfl ?_
        refine z_get (ref := "FlowExporterModel") (C := RX12) (T := TX12) (N := 54) (ci := 14) (v := .ref (x + 2)) B hu_X12_putRecords_X12 rfl 2 (Nat.le_of_ble_eq_true rfl) hv_X12_putRecords_17 rfl h_5 rfl dX12_putRecords_80 ?_
        refine z_bipush (v := 7) B dX12_putRecords_83 rfl ?_
        obtain ⟨f_2, h_6, r_3⟩ := imk (k := 2) hI2
        replace r_3 : nw f_2 := r_3
        have r_4 : NN f_2 := hnw f_2 r_3
        have h_7 : Φ1 (x + 2) = some (ai_ G 307 f_2) := h_6
        refine z_iald B h_7 (vin rfl) dX12_putRecords_85 ?_
        obtain ⟨n_5, b_23, b_24, e_4⟩ := r_4.2.2.2.1
        refine z_top (st1 := [.int (nI n_5), .int (nI (i_4 + n_4 + 4))]) (congrArg (fun w9 : Int32 => ([.int w9, .int (nI (i_4 + n_4 + 4))] : List Value)) (e_4)) ?_
        refine z_icmp_gt (tgt := 93) B dX12_putRecords_86 rfl (fun c_5 => ?_) (fun c_5 => ?_)
        · have e_5 : n_5 < i_4 + n_4 + 4 := (nI_ltI (a := n_5) (b := i_4 + n_4 + 4) (by omega) (by omega)).mp c_5
          refine z_iconst (v := 0) B dX12_putRecords_93 rfl ?_
          refine z_istore (lv' := [(4, .int 0), (7, .int (nI n_4)), (6, .int 1), (5, .int (nI n_3)), (3, .int (nI i_2)), (2, .int i_3), (0, .ref x), (1, .int (nI q))]) B dX12_putRecords_94 (Nat.le_of_ble_eq_true rfl) rfl ?_
          refine z_iload B dX12_putRecords_96 0 rfl ?_
          refine z_if_ne (tgt := 104) B dX12_putRecords_98 rfl (fun h9 => absurd (by decide) h9) (fun c_6 => ?_)
          refine z_goto (tgt := 7) B dX12_putRecords_101 rfl ?_
          refine z_lv [0, 4, 5, 6, 7] rfl ?_
          exact ih1 (0, i_2, i_3, i_4) Φ1 (by simp only [if_neg c_1]; show (if (0 : Int32) = 0 then 0 else 1) + _ < _; rw [if_pos rfl]; omega) ⟨hI2, (fun b9 h9 => ((hF2 b9 (fun j9 h8 h7 => (show False from h7).elim)).trans ((hF1 b9 h9).trans rfl))), (show i_2 ≤ pe by omega), (show q ≤ i_2 by omega), (show i_4 ≤ 600 by omega), (Or.inl c_3), (Or.inr (Or.elim b_5 (fun hh => by first | exact absurd hh.2.1 c_3 | (exfalso; obtain ⟨h1, h2, h3, h4⟩ := hh; omega)) id)), trivial⟩
        · have e_6 : ¬ (n_5 < i_4 + n_4 + 4) := fun h9 => c_5 ((nI_ltI (a := n_5) (b := i_4 + n_4 + 4) (by omega) (by omega)).mpr h9)
          refine z_iconst (v := 1) B dX12_putRecords_89 rfl ?_
          refine z_goto (tgt := 94) B dX12_putRecords_90 rfl ?_
          refine z_istore (lv' := [(4, .int 1), (7, .int (nI n_4)), (6, .int 1), (5, .int (nI n_3)), (3, .int (nI i_2)), (2, .int i_3), (0, .ref x), (1, .int (nI q))]) B dX12_putRecords_94 (Nat.le_of_ble_eq_true rfl) rfl ?_
          refine z_iload B dX12_putRecords_96 0 rfl ?_
          refine z_if_ne (tgt := 104) B dX12_putRecords_98 rfl (fun c_7 => ?_) (fun h9 => absurd h9 (by decide))
          refine z_iload B dX12_putRecords_104 2 rfl ?_
          refine z_if_eq (tgt := 132) B dX12_putRecords_106 rfl (fun h9 => absurd h9 (by decide)) (fun c_8 => ?_)
          refine z_aload_n B dX12_putRecords_109 rfl 6 rfl ?_
          refine z_get (ref := "FlowExporterModel") (C := RX12) (T := TX12) (N := 54) (ci := 14) (v := .int (nI i_4)) B hu_X12_putRecords_X12 rfl 23 (Nat.le_of_ble_eq_true rfl) hv_X12_putRecords_280 rfl h_5 rfl dX12_putRecords_110 ?_
          refine z_istore_n (lv' := [(2, .int (nI i_4)), (4, .int 1), (7, .int (nI n_4)), (6, .int 1), (5, .int (nI n_3)), (3, .int (nI i_2)), (0, .ref x), (1, .int (nI q))]) B dX12_putRecords_113 rfl (Nat.le_of_ble_eq_true rfl) rfl ?_
          refine z_aload_n B dX12_putRecords_114 rfl 6 rfl ?_
          refine z_sipush (v := 256) B dX12_putRecords_115 rfl ?_
          refine z_iload B dX12_putRecords_118 4 rfl ?_
          refine z_iadd B dX12_putRecords_120 ?_
          refine z_top (st1 := [.int (nI (256 + n_3)), .ref x]) (congrArg (fun w9 : Int32 => ([.int w9, .ref x] : List Value)) (nI_add 256 n_3)) ?_
          refine z_i2l (v := (nI (256 + n_3)).toInt64) B dX12_putRecords_121 rfl ?_
          refine z_iconst (v := 2) B dX12_putRecords_122 rfl ?_
          refine z_callV (As := [.long ((nI (256 + n_3)).toInt64), .int 2]) (rest := []) B (r_put G l Φ1 sz x rd nw cr tp tt fl pe i_4 nx il qu kn ec nu va st ep ti ad ob ra rt ex sa us tk th ((nI (256 + n_3)).toInt64) 2 hx hI2 (show 2 ≤ 8 by omega) (show i_4 + 2 ≤ 700 by omega) hnw) (cwV 2 B.1.2.2.2.2 gX12_putRecords_X12_put rfl rfl rfl (by decide +kernel) ⟨Nat.le_of_ble_eq_true rfl, Nat.le_of_ble_eq_true rfl⟩) h_5 rfl rfl rfl rfl (Nat.le_of_ble_eq_true rfl) dX12_putRecords_123 ⟨Nat.le_of_ble_eq_true rfl, Nat.le_of_ble_eq_true rfl⟩ (fun r_5 Φ2 sz2 st2 hp2 hs2 => ?_)
          obtain ⟨rfl, hq2, ⟨n_6, b_25, hI3⟩, hF3⟩ := hp2
          subst sz2
          replace hs2 : st2 = [] := hs2
          subst st2
          replace hI3 : Im G x (rd, nw, cr, tp, tt, fl, pe, n_6, nx, il, qu, kn, ec, nu, va, st, ep, ti, ad, ob, ra, rt, ex, sa, us, tk, th) Φ2 := hI3
          replace b_25 : n_6 = i_4 + 2 := b_25
          refine z_aload_n B dX12_putRecords_126 rfl 6 rfl ?_
          refine z_lconst (v := 0) B dX12_putRecords_127 rfl ?_
          refine z_iconst (v := 2) B dX12_putRecords_128 rfl ?_
          obtain ⟨v_6, v_7, v_8, v_9, n_7, v_10, n_8, h_8, b_38, b_26, b_27, b_28, b_29, b_30, b_31, b_32, b_33, b_34, b_35, b_36, b_37⟩ := im0 hI3
          replace b_26 : 1 ≤ rt := b_26
          replace b_27 : rt ≤ 1024 := b_27
          replace b_28 : fl ≤ 12 := b_28
          replace b_29 : pe ≤ 24 := b_29
          replace b_30 : n_6 ≤ 700 := b_30
          replace b_31 : qu ≤ 12 := b_31
          replace b_32 : n_7 ≤ 8 := b_32
          replace b_33 : n_8 ≤ 24 := b_33
          replace b_34 : tk ≤ 24 := b_34
          replace b_35 : il ≤ 700 := b_35
          replace b_36 : nx ≤ 701 := b_36
          replace b_37 : st ≤ 701 := b_37
          have h_9 : Φ2 x = some (o_ 14 [.int th, .ref (x + 1), .ref (x + 2), .int ti, .int ra, .int (nI rt), .int ex, .int ad, .ref (x + 3), .ref (x + 4), .int v_6, .long v_7, .ref (x + 5), .int (nI fl), .int v_8, .long ob, .long sa, .long v_9, .long us, .ref (x + 6), .ref (x + 7), .int (nI pe), .ref (x + 8), .int (nI n_6), .ref (x + 9), .ref (x + 10), .int (nI qu), .ref (x + 11), .ref (x + 12), .ref (x + 13), .ref (x + 14), .ref (x + 15), .ref (x + 16), .int (nI n_7), .long v_10, .ref (x + 17), .ref (x + 18), .ref (x + 19), .ref (x + 20), .ref (x + 21), .ref (x + 22), .int (nI n_8), .ref (x + 23), .ref (x + 24), .int (nI tk), .ref (x + 25), .int (nI il), .int (nI nx), .int ec, .int ep, .int kn, .int (nI st), .int nu, .long va]) := h_8
          refine z_callV (As := [.long 0, .int 2]) (rest := []) B (r_put G l Φ2 sz x rd nw cr tp tt fl pe n_6 nx il qu kn ec nu va st ep ti ad ob ra rt ex sa us tk th 0 2 hx hI3 (show 2 ≤ 8 by omega) (show n_6 + 2 ≤ 700 by omega) hnw) (cwV 2 B.1.2.2.2.2 gX12_putRecords_X12_put rfl rfl rfl (by decide +kernel) ⟨Nat.le_of_ble_eq_true rfl, Nat.le_of_ble_eq_true rfl⟩) h_9 rfl rfl rfl rfl (Nat.le_of_ble_eq_true rfl) dX12_putRecords_129 ⟨Nat.le_of_ble_eq_true rfl, Nat.le_of_ble_eq_true rfl⟩ (fun r_6 Φ3 sz3 st3 hp3 hs3 => ?_)
          obtain ⟨rfl, hq3, ⟨n_9, b_39, hI4⟩, hF4⟩ := hp3
          subst sz3
          replace hs3 : st3 = [] := hs3
          subst st3
          replace hI4 : Im G x (rd, nw, cr, tp, tt, fl, pe, n_9, nx, il, qu, kn, ec, nu, va, st, ep, ti, ad, ob, ra, rt, ex, sa, us, tk, th) Φ3 := hI4
          replace b_39 : n_9 = n_6 + 2 := b_39
          refine z_iconst (v := 0) B dX12_putRecords_132 rfl ?_
          refine z_istore (lv' := [(8, .int 0), (2, .int (nI i_4)), (4, .int 1), (7, .int (nI n_4)), (6, .int 1), (5, .int (nI n_3)), (3, .int (nI i_2)), (0, .ref x), (1, .int (nI q))]) B dX12_putRecords_133 (Nat.le_of_ble_eq_true rfl) rfl ?_
          refine z_lv [0, 1, 2, 3, 4, 5, 6, 7, 8] rfl ?_
          refine z_loop (α := Nat × Nat) (fun (a9 : Nat × Nat) Φi => Im G x (rd, nw, cr, tp, tt, fl, pe, a9.2, nx, il, qu, kn, ec, nu, va, st, ep, ti, ad, ob, ra, rt, ex, sa, us, tk, th) Φi ∧ Fr x (fun j9 => j9 = 0 ∨ j9 = 8) Φ3 Φi ∧ (a9.1 ≤ n_4) ∧ (a9.2 = n_9 + a9.1) ∧ True) (fun a9 => [(8, .int (nI (a9.1))), (2, .int (nI i_4)), (4, .int 1), (7, .int (nI n_4)), (6, .int 1), (5, .int (nI n_3)), (3, .int (nI i_2)), (0, .ref x), (1, .int (nI q))]) (fun a9 => n_4 - a9.1) ?_ (0, n_9) ⟨hI4, fun _ _ => rfl, (show 0 ≤ n_4 by omega), (show n_9 = n_9 + 0 by omega), trivial⟩
          rintro ⟨i_5, i_6⟩ Φl2 ⟨hI5, hF5, b_40, b_41, -⟩ ih2
          replace hI5 : Im G x (rd, nw, cr, tp, tt, fl, pe, i_6, nx, il, qu, kn, ec, nu, va, st, ep, ti, ad, ob, ra, rt, ex, sa, us, tk, th) Φl2 := hI5
          replace b_40 : i_5 ≤ n_4 := b_40
          replace b_41 : i_6 = n_9 + i_5 := b_41
          show Z p9 l e9 _ s9 m9 _ w9 t9 k9 _ G 9 135 [(8, .int (nI i_5)), (2, .int (nI i_4)), (4, .int 1), (7, .int (nI n_4)), (6, .int 1), (5, .int (nI n_3)), (3, .int (nI i_2)), (0, .ref x), (1, .int (nI q))] [] Φl2 _ _ _
          refine z_iload B dX12_putRecords_135 0 rfl ?_
          refine z_iload B dX12_putRecords_137 3 rfl ?_
          refine z_icmp_ge (tgt := 166) B dX12_putRecords_139 rfl (fun c_9 => ?_) (fun c_9 => ?_)
          · have e_7 : n_4 ≤ i_5 := (nI_leI (a := n_4) (b := i_5) (by omega) (by omega)).mp c_9
            refine z_aload_n B dX12_putRecords_166 rfl 7 rfl ?_
            refine z_iload_n B dX12_putRecords_167 rfl 1 rfl ?_
            refine z_iconst (v := 2) B dX12_putRecords_168 rfl ?_
            refine z_iadd B dX12_putRecords_169 ?_
            refine z_top (st1 := [.int (nI (i_4 + 2)), .ref x]) (congrArg (fun w9 : Int32 => ([.int w9, .ref x] : List Value)) (nI_add i_4 2)) ?_
            refine z_aload_n B dX12_putRecords_170 rfl 7 rfl ?_
            obtain ⟨v_11, v_12, v_13, v_14, n_10, v_15, n_11, h_10, b_54, b_42, b_43, b_44, b_45, b_46, b_47, b_48, b_49, b_50, b_51, b_52, b_53⟩ := im0 hI5
            replace b_42 : 1 ≤ rt := b_42
            replace b_43 : rt ≤ 1024 := b_43
            replace b_44 : fl ≤ 12 := b_44
            replace b_45 : pe ≤ 24 := b_45
            replace b_46 : i_6 ≤ 700 := b_46
            replace b_47 : qu ≤ 12 := b_47
            replace b_48 : n_10 ≤ 8 := b_48
            replace b_49 : n_11 ≤ 24 := b_49
            replace b_50 : tk ≤ 24 := b_50
            replace b_51 : il ≤ 700 := b_51
            replace b_52 : nx ≤ 701 := b_52
            replace b_53 : st ≤ 701 := b_53
            have h_11 : Φl2 x = some (o_ 14 [.int th, .ref (x + 1), .ref (x + 2), .int ti, .int ra, .int (nI rt), .int ex, .int ad, .ref (x + 3), .ref (x + 4), .int v_11, .long v_12, .ref (x + 5), .int (nI fl), .int v_13, .long ob, .long sa, .long v_14, .long us, .ref (x + 6), .ref (x + 7), .int (nI pe), .ref (x + 8), .int (nI i_6), .ref (x + 9), .ref (x + 10), .int (nI qu), .ref (x + 11), .ref (x + 12), .ref (x + 13), .ref (x + 14), .ref (x + 15), .ref (x + 16), .int (nI n_10), .long v_15, .ref (x + 17), .ref (x + 18), .ref (x + 19), .ref (x + 20), .ref (x + 21), .ref (x + 22), .int (nI n_11), .ref (x + 23), .ref (x + 24), .int (nI tk), .ref (x + 25), .int (nI il), .int (nI nx), .int ec, .int ep, .int kn, .int (nI st), .int nu, .long va]) := h_10
            refine z_get (ref := "FlowExporterModel") (C := RX12) (T := TX12) (N := 54) (ci := 14) (v := .int (nI i_6)) B hu_X12_putRecords_X12 rfl 23 (Nat.le_of_ble_eq_true rfl) hv_X12_putRecords_280 rfl h_11 rfl dX12_putRecords_171 ?_
            refine z_iload_n B dX12_putRecords_174 rfl 1 rfl ?_
            refine z_isub B dX12_putRecords_175 ?_
            refine z_top (st1 := [.int (nI (i_6 - i_4)), .int (nI (i_4 + 2)), .ref x]) (congrArg (fun w9 : Int32 => ([.int w9, .int (nI (i_4 + 2)), .ref x] : List Value)) (nI_sub (show i_4 ≤ i_6 by omega))) ?_
            refine z_callV (As := [.int (nI (i_4 + 2)), .int (nI (i_6 - i_4))]) (rest := []) B (r_putAt G l Φl2 sz x rd nw cr tp tt fl pe i_6 nx il qu kn ec nu va st ep ti ad ob ra rt ex sa us tk th (i_4 + 2) (i_6 - i_4) hx hI5 (show (i_4 + 2) + 1 < 700 by omega) (show (i_6 - i_4) ≤ 700 by omega) hnw) (cwV 2 B.1.2.2.2.2 gX12_putRecords_X12_putAt rfl rfl rfl (by decide +kernel) ⟨Nat.le_of_ble_eq_true rfl, Nat.le_of_ble_eq_true rfl⟩) h_11 rfl rfl rfl rfl (Nat.le_of_ble_eq_true rfl) dX12_putRecords_176 ⟨Nat.le_of_ble_eq_true rfl, Nat.le_of_ble_eq_true rfl⟩ (fun r_7 Φ4 sz4 st4 hp4 hs4 => ?_)
            obtain ⟨rfl, hq4, hI6, hF6⟩ := hp4
            subst sz4
            replace hs4 : st4 = [] := hs4
            subst st4
            replace hI6 : Im G x (rd, nw, cr, tp, tt, fl, pe, i_6, nx, il, qu, kn, ec, nu, va, st, ep, ti, ad, ob, ra, rt, ex, sa, us, tk, th) Φ4 := hI6
            refine z_iinc (k := 6) (v := nI (i_2 + 1)) (lv' := [(3, .int (nI (i_2 + 1))), (8, .int (nI i_5)), (2, .int (nI i_4)), (4, .int 1), (7, .int (nI n_4)), (6, .int 1), (5, .int (nI n_3)), (0, .ref x), (1, .int (nI q))]) B dX12_putRecords_179 rfl (nI_add i_2 1) (Nat.le_of_ble_eq_true rfl) rfl ?_
            refine z_goto (tgt := 7) B dX12_putRecords_182 rfl ?_
            refine z_lv [3, 0, 2, 7, 8] rfl ?_
            exact ih1 (1, i_2 + 1, nI i_4, i_6) Φ4 (by simp only [if_neg c_1]; show (if (1 : Int32) = 0 then 0 else 1) + _ < _; rw [if_neg (by decide)]; omega) ⟨hI6, (fun b9 h9 => ((hF6 b9 (fun j9 h8 h7 => h9 j9 h8 (fq_943 j9 h7))).trans ((hF5 b9 h9).trans ((hF4 b9 h9).trans ((hF3 b9 h9).trans ((hF2 b9 (fun j9 h8 h7 => (show False from h7).elim)).trans ((hF1 b9 h9).trans rfl))))))), (show (i_2 + 1) ≤ pe by omega), (show q ≤ (i_2 + 1) by omega), (show i_6 ≤ 600 by omega), (Or.inr ⟨i_4, rfl, (show i_4 + 4 ≤ i_6 by omega)⟩), (Or.inr (show q < i_2 + 1 by omega)), trivial⟩
          · have e_8 : ¬ (n_4 ≤ i_5) := fun h9 => c_9 ((nI_leI (a := n_4) (b := i_5) (by omega) (by omega)).mpr h9)
            refine z_aload_n B dX12_putRecords_142 rfl 7 rfl ?_
            refine z_aload_n B dX12_putRecords_143 rfl 7 rfl ?_
            obtain ⟨v_16, v_17, v_18, v_19, n_12, v_20, n_13, h_12, b_67, b_55, b_56, b_57, b_58, b_59, b_60, b_61, b_62, b_63, b_64, b_65, b_66⟩ := im0 hI5
            replace b_55 : 1 ≤ rt := b_55
            replace b_56 : rt ≤ 1024 := b_56
            replace b_57 : fl ≤ 12 := b_57
            replace b_58 : pe ≤ 24 := b_58
            replace b_59 : i_6 ≤ 700 := b_59
            replace b_60 : qu ≤ 12 := b_60
            replace b_61 : n_12 ≤ 8 := b_61
            replace b_62 : n_13 ≤ 24 := b_62
            replace b_63 : tk ≤ 24 := b_63
            replace b_64 : il ≤ 700 := b_64
            replace b_65 : nx ≤ 701 := b_65
            replace b_66 : st ≤ 701 := b_66
            have h_13 : Φl2 x = some (o_ 14 [.int th, .ref (x + 1), .ref (x + 2), .int ti, .int ra, .int (nI rt), .int ex, .int ad, .ref (x + 3), .ref (x + 4), .int v_16, .long v_17, .ref (x + 5), .int (nI fl), .int v_18, .long ob, .long sa, .long v_19, .long us, .ref (x + 6), .ref (x + 7), .int (nI pe), .ref (x + 8), .int (nI i_6), .ref (x + 9), .ref (x + 10), .int (nI qu), .ref (x + 11), .ref (x + 12), .ref (x + 13), .ref (x + 14), .ref (x + 15), .ref (x + 16), .int (nI n_12), .long v_20, .ref (x + 17), .ref (x + 18), .ref (x + 19), .ref (x + 20), .ref (x + 21), .ref (x + 22), .int (nI n_13), .ref (x + 23), .ref (x + 24), .int (nI tk), .ref (x + 25), .int (nI il), .int (nI nx), .int ec, .int ep, .int kn, .int (nI st), .int nu, .long va]) := h_12
            refine z_get (ref := "FlowExporterModel") (C := RX12) (T := TX12) (N := 54) (ci := 14) (v := .ref (x + 7)) B hu_X12_putRecords_X12 rfl 20 (Nat.le_of_ble_eq_true rfl) hv_X12_putRecords_33 rfl h_13 rfl dX12_putRecords_144 ?_
            refine z_bipush (v := 30) B dX12_putRecords_147 rfl ?_
            refine z_iload_n B dX12_putRecords_149 rfl 6 rfl ?_
            refine z_imul B dX12_putRecords_150 ?_
            refine z_top (st1 := [.int (nI (30 * i_2)), .ref (x + 7), .ref x]) (congrArg (fun w9 : Int32 => ([.int w9, .ref (x + 7), .ref x] : List Value)) (nI_mul 30 i_2)) ?_
            refine z_iload B dX12_putRecords_151 0 rfl ?_
            refine z_iadd B dX12_putRecords_153 ?_
            refine z_top (st1 := [.int (nI (30 * i_2 + i_5)), .ref (x + 7), .ref x]) (congrArg (fun w9 : Int32 => ([.int w9, .ref (x + 7), .ref x] : List Value)) (nI_add (30 * i_2) i_5)) ?_
            obtain ⟨f_3, h_14⟩ := imk (k := 7) hI5
            have h_15 : Φl2 (x + 7) = some (ai_ G 720 f_3) := h_14
            refine z_iald B h_15 (vp_in_nI (by omega) (by omega)) dX12_putRecords_154 ?_
            refine z_fi (fun v_21 => ?_)
            refine z_i2l (v := v_21.toInt64) B dX12_putRecords_155 rfl ?_
            refine z_iconst (v := 1) B dX12_putRecords_156 rfl ?_
            refine z_callV (As := [.long v_21.toInt64, .int 1]) (rest := []) B (r_put G l Φl2 sz x rd nw cr tp tt fl pe i_6 nx il qu kn ec nu va st ep ti ad ob ra rt ex sa us tk th v_21.toInt64 1 hx hI5 (show 1 ≤ 8 by omega) (show i_6 + 1 ≤ 700 by omega) hnw) (cwV 2 B.1.2.2.2.2 gX12_putRecords_X12_put rfl rfl rfl (by decide +kernel) ⟨Nat.le_of_ble_eq_true rfl, Nat.le_of_ble_eq_true rfl⟩) h_13 rfl rfl rfl rfl (Nat.le_of_ble_eq_true rfl) dX12_putRecords_157 ⟨Nat.le_of_ble_eq_true rfl, Nat.le_of_ble_eq_true rfl⟩ (fun r_9 Φ5 sz5 st5 hp5 hs5 => ?_)
            obtain ⟨rfl, hq5, ⟨n_14, b_68, hI7⟩, hF7⟩ := hp5
            subst sz5
            replace hs5 : st5 = [] := hs5
            subst st5
            replace hI7 : Im G x (rd, nw, cr, tp, tt, fl, pe, n_14, nx, il, qu, kn, ec, nu, va, st, ep, ti, ad, ob, ra, rt, ex, sa, us, tk, th) Φ5 := hI7
            replace b_68 : n_14 = i_6 + 1 := b_68
            refine z_iinc (k := 0) (v := nI (i_5 + 1)) (lv' := [(8, .int (nI (i_5 + 1))), (2, .int (nI i_4)), (4, .int 1), (7, .int (nI n_4)), (6, .int 1), (5, .int (nI n_3)), (3, .int (nI i_2)), (0, .ref x), (1, .int (nI q))]) B dX12_putRecords_160 rfl (nI_add i_5 1) (Nat.le_of_ble_eq_true rfl) rfl ?_
            refine z_goto (tgt := 135) B dX12_putRecords_163 rfl ?_
            refine z_lv [0, 1, 2, 3, 4, 5, 6, 7, 8] rfl ?_
            exact ih2 (i_5 + 1, n_14) Φ5 (show n_4 - (i_5 + 1) < n_4 - i_5 by omega) ⟨hI7, (fun b9 h9 => ((hF7 b9 h9).trans ((hF5 b9 h9).trans rfl))), (show (i_5 + 1) ≤ n_4 by omega), (show n_14 = n_9 + (i_5 + 1) by omega), trivial⟩
      · have b_70 : q < i_2 := by
          rcases b_5 with ⟨-, h2, -, -⟩ | h
          · exact absurd h2 c_3
          · exact h
        obtain ⟨n_15, rfl, b_69⟩ := Or.resolve_left b_4 c_3
        refine z_iload B dX12_putRecords_33 0 rfl ?_
        refine z_aload_n B dX12_putRecords_35 rfl 4 rfl ?_
        refine z_get (ref := "FlowExporterModel") (C := RX12) (T := TX12) (N := 54) (ci := 14) (v := .ref (x + 6)) B hu_X12_putRecords_X12 rfl 19 (Nat.le_of_ble_eq_true rfl) hv_X12_putRecords_30 rfl h_2 rfl dX12_putRecords_36 ?_
        refine z_iload_n B dX12_putRecords_39 rfl 2 rfl ?_
        refine z_iconst (v := 1) B dX12_putRecords_40 rfl ?_
        refine z_isub B dX12_putRecords_41 ?_
        refine z_top (st1 := [.int (nI (i_2 - 1)), .ref (x + 6), .int (nI n_3)]) (congrArg (fun w9 : Int32 => ([.int w9, .ref (x + 6), .int (nI n_3)] : List Value)) (nI_sub (show 1 ≤ i_2 by omega))) ?_
        refine z_iald B h_4 (vp_in_nI (by omega) (by omega)) dX12_putRecords_42 ?_
        obtain ⟨n_16, b_71, e_9⟩ := r_1 ((nI (i_2 - 1)).toNatClampNeg)
        refine z_top (st1 := [.int (nI n_16), .int (nI n_3)]) (congrArg (fun w9 : Int32 => ([.int w9, .int (nI n_3)] : List Value)) (e_9)) ?_
        refine z_icmp_eq (tgt := 50) B dX12_putRecords_43 rfl (fun c_10 => ?_) (fun c_10 => ?_)
        · have e_10 : n_3 = n_16 := (nI_eq (a := n_3) (b := n_16) (by omega) (by omega)).mp c_10
          refine z_iconst (v := 0) B dX12_putRecords_50 rfl ?_
          refine z_istore (lv' := [(6, .int 0), (5, .int (nI n_3)), (4, .int i_1), (3, .int (nI i_2)), (2, .int (nI n_15)), (0, .ref x), (1, .int (nI q))]) B dX12_putRecords_51 (Nat.le_of_ble_eq_true rfl) rfl ?_
          refine z_aload_n B dX12_putRecords_53 rfl 5 rfl ?_
          refine z_iload B dX12_putRecords_54 1 rfl ?_
          refine z_callV (As := [.int (nI n_3)]) (rest := []) B (r_recordLengthOf G l Φl1 sz x rd nw cr tp tt fl pe i_4 nx il qu kn ec nu va st ep ti ad ob ra rt ex sa us tk th n_3 hx hI1 (show n_3 < 4 by omega) hnw) (cwV 1 B.1.2.2.2.2 gX12_putRecords_X12_recordLengthOf rfl rfl rfl (by decide +kernel) ⟨Nat.le_of_ble_eq_true rfl, Nat.le_of_ble_eq_true rfl⟩) h_2 rfl rfl rfl rfl (Nat.le_of_ble_eq_true rfl) dX12_putRecords_56 ⟨Nat.le_of_ble_eq_true rfl, Nat.le_of_ble_eq_true rfl⟩ (fun r_10 Φ6 sz6 st6 hp6 hs6 => ?_)
          obtain ⟨⟨n_17, rfl, b_72⟩, hq6, hI8, hF8⟩ := hp6
          subst sz6
          replace hs6 : st6 = [.int (nI n_17)] := hs6
          subst st6
          replace b_72 : n_17 ≤ 29 := b_72
          replace hI8 : Im G x (rd, nw, cr, tp, tt, fl, pe, i_4, nx, il, qu, kn, ec, nu, va, st, ep, ti, ad, ob, ra, rt, ex, sa, us, tk, th) Φ6 := hI8
          refine z_istore (lv' := [(7, .int (nI n_17)), (6, .int 0), (5, .int (nI n_3)), (4, .int i_1), (3, .int (nI i_2)), (2, .int (nI n_15)), (0, .ref x), (1, .int (nI q))]) B dX12_putRecords_59 (Nat.le_of_ble_eq_true rfl) rfl ?_
          refine z_aload_n B dX12_putRecords_61 rfl 6 rfl ?_
          have h_16 : Φ6 x = some (o_ 14 [.int th, .ref (x + 1), .ref (x + 2), .int ti, .int ra, .int (nI rt), .int ex, .int ad, .ref (x + 3), .ref (x + 4), .int v_1, .long v_2, .ref (x + 5), .int (nI fl), .int v_3, .long ob, .long sa, .long v_4, .long us, .ref (x + 6), .ref (x + 7), .int (nI pe), .ref (x + 8), .int (nI i_4), .ref (x + 9), .ref (x + 10), .int (nI qu), .ref (x + 11), .ref (x + 12), .ref (x + 13), .ref (x + 14), .ref (x + 15), .ref (x + 16), .int (nI n_1), .long v_5, .ref (x + 17), .ref (x + 18), .ref (x + 19), .ref (x + 20), .ref (x + 21), .ref (x + 22), .int (nI n_2), .ref (x + 23), .ref (x + 24), .int (nI tk), .ref (x + 25), .int (nI il), .int (nI nx), .int ec, .int ep, .int kn, .int (nI st), .int nu, .long va]) := ((hF8 x (fun j9 h8 h7 => (show False from h7).elim)).trans h_2)
          refine z_get (ref := "FlowExporterModel") (C := RX12) (T := TX12) (N := 54) (ci := 14) (v := .int (nI i_4)) B hu_X12_putRecords_X12 rfl 23 (Nat.le_of_ble_eq_true rfl) hv_X12_putRecords_280 rfl h_16 rfl dX12_putRecords_62 ?_
          refine z_iload B dX12_putRecords_65 0 rfl ?_
          refine z_iadd B dX12_putRecords_67 ?_
          refine z_top (st1 := [.int (nI (i_4 + n_17))]) (congrArg (fun w9 : Int32 => ([.int w9] : List Value)) (nI_add i_4 n_17)) ?_
          refine z_iload B dX12_putRecords_68 1 rfl ?_
          refine z_if_eq (tgt := 77) B dX12_putRecords_70 rfl (fun c_11 => ?_) (fun h9 => absurd (by decide) h9)
          refine z_iconst (v := 0) B dX12_putRecords_77 rfl ?_
          refine z_iadd B dX12_putRecords_78 ?_
          refine z_top (st1 := [.int (nI (i_4 + n_17 + 0))]) (congrArg (fun w9 : Int32 => ([.int w9] : List Value)) (nI_add (i_4 + n_17) 0)) ?_
          refine z_aload_n B dX12_putRecords_79 rfl 6 rfl ?_
          refine z_get (ref := "FlowExporterModel") (C := RX12) (T := TX12) (N := 54) (ci := 14) (v := .ref (x + 2)) B hu_X12_putRecords_X12 rfl 2 (Nat.le_of_ble_eq_true rfl) hv_X12_putRecords_17 rfl h_16 rfl dX12_putRecords_80 ?_
          refine z_bipush (v := 7) B dX12_putRecords_83 rfl ?_
          obtain ⟨f_4, h_17, r_11⟩ := imk (k := 2) hI8
          replace r_11 : nw f_4 := r_11
          have r_12 : NN f_4 := hnw f_4 r_11
          have h_18 : Φ6 (x + 2) = some (ai_ G 307 f_4) := h_17
          refine z_iald B h_18 (vin rfl) dX12_putRecords_85 ?_
          obtain ⟨n_18, b_73, b_74, e_11⟩ := r_12.2.2.2.1
          refine z_top (st1 := [.int (nI n_18), .int (nI (i_4 + n_17 + 0))]) (congrArg (fun w9 : Int32 => ([.int w9, .int (nI (i_4 + n_17 + 0))] : List Value)) (e_11)) ?_
          refine z_icmp_gt (tgt := 93) B dX12_putRecords_86 rfl (fun c_12 => ?_) (fun c_12 => ?_)
          · have e_12 : n_18 < i_4 + n_17 + 0 := (nI_ltI (a := n_18) (b := i_4 + n_17 + 0) (by omega) (by omega)).mp c_12
            refine z_iconst (v := 0) B dX12_putRecords_93 rfl ?_
            refine z_istore (lv' := [(4, .int 0), (7, .int (nI n_17)), (6, .int 0), (5, .int (nI n_3)), (3, .int (nI i_2)), (2, .int (nI n_15)), (0, .ref x), (1, .int (nI q))]) B dX12_putRecords_94 (Nat.le_of_ble_eq_true rfl) rfl ?_
            refine z_iload B dX12_putRecords_96 0 rfl ?_
            refine z_if_ne (tgt := 104) B dX12_putRecords_98 rfl (fun h9 => absurd (by decide) h9) (fun c_13 => ?_)
            refine z_goto (tgt := 7) B dX12_putRecords_101 rfl ?_
            refine z_lv [0, 4, 5, 6, 7] rfl ?_
            exact ih1 (0, i_2, nI n_15, i_4) Φ6 (by simp only [if_neg c_1]; show (if (0 : Int32) = 0 then 0 else 1) + _ < _; rw [if_pos rfl]; omega) ⟨hI8, (fun b9 h9 => ((hF8 b9 (fun j9 h8 h7 => (show False from h7).elim)).trans ((hF1 b9 h9).trans rfl))), (show i_2 ≤ pe by omega), (show q ≤ i_2 by omega), (show i_4 ≤ 600 by omega), (Or.inr ⟨n_15, rfl, (show n_15 + 4 ≤ i_4 by omega)⟩), (Or.inr (Or.elim b_5 (fun hh => by first | exact absurd hh.2.1 c_3 | (exfalso; obtain ⟨h1, h2, h3, h4⟩ := hh; omega)) id)), trivial⟩
          · have e_13 : ¬ (n_18 < i_4 + n_17 + 0) := fun h9 => c_12 ((nI_ltI (a := n_18) (b := i_4 + n_17 + 0) (by omega) (by omega)).mpr h9)
            refine z_iconst (v := 1) B dX12_putRecords_89 rfl ?_
            refine z_goto (tgt := 94) B dX12_putRecords_90 rfl ?_
            refine z_istore (lv' := [(4, .int 1), (7, .int (nI n_17)), (6, .int 0), (5, .int (nI n_3)), (3, .int (nI i_2)), (2, .int (nI n_15)), (0, .ref x), (1, .int (nI q))]) B dX12_putRecords_94 (Nat.le_of_ble_eq_true rfl) rfl ?_
            refine z_iload B dX12_putRecords_96 0 rfl ?_
            refine z_if_ne (tgt := 104) B dX12_putRecords_98 rfl (fun c_14 => ?_) (fun h9 => absurd h9 (by decide))
            refine z_iload B dX12_putRecords_104 2 rfl ?_
            refine z_if_eq (tgt := 132) B dX12_putRecords_106 rfl (fun c_15 => ?_) (fun h9 => absurd (by decide) h9)
            refine z_iconst (v := 0) B dX12_putRecords_132 rfl ?_
            refine z_istore (lv' := [(8, .int 0), (4, .int 1), (7, .int (nI n_17)), (6, .int 0), (5, .int (nI n_3)), (3, .int (nI i_2)), (2, .int (nI n_15)), (0, .ref x), (1, .int (nI q))]) B dX12_putRecords_133 (Nat.le_of_ble_eq_true rfl) rfl ?_
            refine z_lv [0, 1, 2, 3, 4, 5, 6, 7, 8] rfl ?_
            refine z_loop (α := Nat × Nat) (fun (a9 : Nat × Nat) Φi => Im G x (rd, nw, cr, tp, tt, fl, pe, a9.2, nx, il, qu, kn, ec, nu, va, st, ep, ti, ad, ob, ra, rt, ex, sa, us, tk, th) Φi ∧ Fr x (fun j9 => j9 = 0 ∨ j9 = 8) Φ6 Φi ∧ (a9.1 ≤ n_17) ∧ (a9.2 = i_4 + a9.1) ∧ True) (fun a9 => [(8, .int (nI (a9.1))), (4, .int 1), (7, .int (nI n_17)), (6, .int 0), (5, .int (nI n_3)), (3, .int (nI i_2)), (2, .int (nI n_15)), (0, .ref x), (1, .int (nI q))]) (fun a9 => n_17 - a9.1) ?_ (0, i_4) ⟨hI8, fun _ _ => rfl, (show 0 ≤ n_17 by omega), (show i_4 = i_4 + 0 by omega), trivial⟩
            rintro ⟨i_7, i_8⟩ Φl3 ⟨hI9, hF9, b_75, b_76, -⟩ ih3
            replace hI9 : Im G x (rd, nw, cr, tp, tt, fl, pe, i_8, nx, il, qu, kn, ec, nu, va, st, ep, ti, ad, ob, ra, rt, ex, sa, us, tk, th) Φl3 := hI9
            replace b_75 : i_7 ≤ n_17 := b_75
            replace b_76 : i_8 = i_4 + i_7 := b_76
            show Z p9 l e9 _ s9 m9 _ w9 t9 k9 _ G 9 135 [(8, .int (nI i_7)), (4, .int 1), (7, .int (nI n_17)), (6, .int 0), (5, .int (nI n_3)), (3, .int (nI i_2)), (2, .int (nI n_15)), (0, .ref x), (1, .int (nI q))] [] Φl3 _ _ _
            refine z_iload B dX12_putRecords_135 0 rfl ?_
            refine z_iload B dX12_putRecords_137 2 rfl ?_
            refine z_icmp_ge (tgt := 166) B dX12_putRecords_139 rfl (fun c_16 => ?_) (fun c_16 => ?_)
            · have e_14 : n_17 ≤ i_7 := (nI_leI (a := n_17) (b := i_7) (by omega) (by omega)).mp c_16
              refine z_aload_n B dX12_putRecords_166 rfl 7 rfl ?_
              refine z_iload_n B dX12_putRecords_167 rfl 6 rfl ?_
              refine z_iconst (v := 2) B dX12_putRecords_168 rfl ?_
              refine z_iadd B dX12_putRecords_169 ?_
              refine z_top (st1 := [.int (nI (n_15 + 2)), .ref x]) (congrArg (fun w9 : Int32 => ([.int w9, .ref x] : List Value)) (nI_add n_15 2)) ?_
              refine z_aload_n B dX12_putRecords_170 rfl 7 rfl ?_
              obtain ⟨v_22, v_23, v_24, v_25, n_19, v_26, n_20, h_19, b_89, b_77, b_78, b_79, b_80, b_81, b_82, b_83, b_84, b_85, b_86, b_87, b_88⟩ := im0 hI9
              replace b_77 : 1 ≤ rt := b_77
              replace b_78 : rt ≤ 1024 := b_78
              replace b_79 : fl ≤ 12 := b_79
              replace b_80 : pe ≤ 24 := b_80
              replace b_81 : i_8 ≤ 700 := b_81
              replace b_82 : qu ≤ 12 := b_82
              replace b_83 : n_19 ≤ 8 := b_83
              replace b_84 : n_20 ≤ 24 := b_84
              replace b_85 : tk ≤ 24 := b_85
              replace b_86 : il ≤ 700 := b_86
              replace b_87 : nx ≤ 701 := b_87
              replace b_88 : st ≤ 701 := b_88
              have h_20 : Φl3 x = some (o_ 14 [.int th, .ref (x + 1), .ref (x + 2), .int ti, .int ra, .int (nI rt), .int ex, .int ad, .ref (x + 3), .ref (x + 4), .int v_22, .long v_23, .ref (x + 5), .int (nI fl), .int v_24, .long ob, .long sa, .long v_25, .long us, .ref (x + 6), .ref (x + 7), .int (nI pe), .ref (x + 8), .int (nI i_8), .ref (x + 9), .ref (x + 10), .int (nI qu), .ref (x + 11), .ref (x + 12), .ref (x + 13), .ref (x + 14), .ref (x + 15), .ref (x + 16), .int (nI n_19), .long v_26, .ref (x + 17), .ref (x + 18), .ref (x + 19), .ref (x + 20), .ref (x + 21), .ref (x + 22), .int (nI n_20), .ref (x + 23), .ref (x + 24), .int (nI tk), .ref (x + 25), .int (nI il), .int (nI nx), .int ec, .int ep, .int kn, .int (nI st), .int nu, .long va]) := h_19
              refine z_get (ref := "FlowExporterModel") (C := RX12) (T := TX12) (N := 54) (ci := 14) (v := .int (nI i_8)) B hu_X12_putRecords_X12 rfl 23 (Nat.le_of_ble_eq_true rfl) hv_X12_putRecords_280 rfl h_20 rfl dX12_putRecords_171 ?_
              refine z_iload_n B dX12_putRecords_174 rfl 6 rfl ?_
              refine z_isub B dX12_putRecords_175 ?_
              refine z_top (st1 := [.int (nI (i_8 - n_15)), .int (nI (n_15 + 2)), .ref x]) (congrArg (fun w9 : Int32 => ([.int w9, .int (nI (n_15 + 2)), .ref x] : List Value)) (nI_sub (show n_15 ≤ i_8 by omega))) ?_
              refine z_callV (As := [.int (nI (n_15 + 2)), .int (nI (i_8 - n_15))]) (rest := []) B (r_putAt G l Φl3 sz x rd nw cr tp tt fl pe i_8 nx il qu kn ec nu va st ep ti ad ob ra rt ex sa us tk th (n_15 + 2) (i_8 - n_15) hx hI9 (show (n_15 + 2) + 1 < 700 by omega) (show (i_8 - n_15) ≤ 700 by omega) hnw) (cwV 2 B.1.2.2.2.2 gX12_putRecords_X12_putAt rfl rfl rfl (by decide +kernel) ⟨Nat.le_of_ble_eq_true rfl, Nat.le_of_ble_eq_true rfl⟩) h_20 rfl rfl rfl rfl (Nat.le_of_ble_eq_true rfl) dX12_putRecords_176 ⟨Nat.le_of_ble_eq_true rfl, Nat.le_of_ble_eq_true rfl⟩ (fun r_13 Φ7 sz7 st7 hp7 hs7 => ?_)
              obtain ⟨rfl, hq7, hI10, hF10⟩ := hp7
              subst sz7
              replace hs7 : st7 = [] := hs7
              subst st7
              replace hI10 : Im G x (rd, nw, cr, tp, tt, fl, pe, i_8, nx, il, qu, kn, ec, nu, va, st, ep, ti, ad, ob, ra, rt, ex, sa, us, tk, th) Φ7 := hI10
              refine z_iinc (k := 5) (v := nI (i_2 + 1)) (lv' := [(3, .int (nI (i_2 + 1))), (8, .int (nI i_7)), (4, .int 1), (7, .int (nI n_17)), (6, .int 0), (5, .int (nI n_3)), (2, .int (nI n_15)), (0, .ref x), (1, .int (nI q))]) B dX12_putRecords_179 rfl (nI_add i_2 1) (Nat.le_of_ble_eq_true rfl) rfl ?_
              refine z_goto (tgt := 7) B dX12_putRecords_182 rfl ?_
              refine z_lv [2, 0, 6, 7, 8] rfl ?_
              exact ih1 (1, i_2 + 1, nI n_15, i_8) Φ7 (by simp only [if_neg c_1]; show (if (1 : Int32) = 0 then 0 else 1) + _ < _; rw [if_neg (by decide)]; omega) ⟨hI10, (fun b9 h9 => ((hF10 b9 (fun j9 h8 h7 => h9 j9 h8 (fq_943 j9 h7))).trans ((hF9 b9 h9).trans ((hF8 b9 (fun j9 h8 h7 => (show False from h7).elim)).trans ((hF1 b9 h9).trans rfl))))), (show (i_2 + 1) ≤ pe by omega), (show q ≤ (i_2 + 1) by omega), (show i_8 ≤ 600 by omega), (Or.inr ⟨n_15, rfl, (show n_15 + 4 ≤ i_8 by omega)⟩), (Or.inr (show q < i_2 + 1 by omega)), trivial⟩
            · have e_15 : ¬ (n_17 ≤ i_7) := fun h9 => c_16 ((nI_leI (a := n_17) (b := i_7) (by omega) (by omega)).mpr h9)
              refine z_aload_n B dX12_putRecords_142 rfl 7 rfl ?_
              refine z_aload_n B dX12_putRecords_143 rfl 7 rfl ?_
              obtain ⟨v_27, v_28, v_29, v_30, n_21, v_31, n_22, h_21, b_102, b_90, b_91, b_92, b_93, b_94, b_95, b_96, b_97, b_98, b_99, b_100, b_101⟩ := im0 hI9
              replace b_90 : 1 ≤ rt := b_90
              replace b_91 : rt ≤ 1024 := b_91
              replace b_92 : fl ≤ 12 := b_92
              replace b_93 : pe ≤ 24 := b_93
              replace b_94 : i_8 ≤ 700 := b_94
              replace b_95 : qu ≤ 12 := b_95
              replace b_96 : n_21 ≤ 8 := b_96
              replace b_97 : n_22 ≤ 24 := b_97
              replace b_98 : tk ≤ 24 := b_98
              replace b_99 : il ≤ 700 := b_99
              replace b_100 : nx ≤ 701 := b_100
              replace b_101 : st ≤ 701 := b_101
              have h_22 : Φl3 x = some (o_ 14 [.int th, .ref (x + 1), .ref (x + 2), .int ti, .int ra, .int (nI rt), .int ex, .int ad, .ref (x + 3), .ref (x + 4), .int v_27, .long v_28, .ref (x + 5), .int (nI fl), .int v_29, .long ob, .long sa, .long v_30, .long us, .ref (x + 6), .ref (x + 7), .int (nI pe), .ref (x + 8), .int (nI i_8), .ref (x + 9), .ref (x + 10), .int (nI qu), .ref (x + 11), .ref (x + 12), .ref (x + 13), .ref (x + 14), .ref (x + 15), .ref (x + 16), .int (nI n_21), .long v_31, .ref (x + 17), .ref (x + 18), .ref (x + 19), .ref (x + 20), .ref (x + 21), .ref (x + 22), .int (nI n_22), .ref (x + 23), .ref (x + 24), .int (nI tk), .ref (x + 25), .int (nI il), .int (nI nx), .int ec, .int ep, .int kn, .int (nI st), .int nu, .long va]) := h_21
              refine z_get (ref := "FlowExporterModel") (C := RX12) (T := TX12) (N := 54) (ci := 14) (v := .ref (x + 7)) B hu_X12_putRecords_X12 rfl 20 (Nat.le_of_ble_eq_true rfl) hv_X12_putRecords_33 rfl h_22 rfl dX12_putRecords_144 ?_
              refine z_bipush (v := 30) B dX12_putRecords_147 rfl ?_
              refine z_iload_n B dX12_putRecords_149 rfl 5 rfl ?_
              refine z_imul B dX12_putRecords_150 ?_
              refine z_top (st1 := [.int (nI (30 * i_2)), .ref (x + 7), .ref x]) (congrArg (fun w9 : Int32 => ([.int w9, .ref (x + 7), .ref x] : List Value)) (nI_mul 30 i_2)) ?_
              refine z_iload B dX12_putRecords_151 0 rfl ?_
              refine z_iadd B dX12_putRecords_153 ?_
              refine z_top (st1 := [.int (nI (30 * i_2 + i_7)), .ref (x + 7), .ref x]) (congrArg (fun w9 : Int32 => ([.int w9, .ref (x + 7), .ref x] : List Value)) (nI_add (30 * i_2) i_7)) ?_
              obtain ⟨f_5, h_23⟩ := imk (k := 7) hI9
              have h_24 : Φl3 (x + 7) = some (ai_ G 720 f_5) := h_23
              refine z_iald B h_24 (vp_in_nI (by omega) (by omega)) dX12_putRecords_154 ?_
              refine z_fi (fun v_32 => ?_)
              refine z_i2l (v := v_32.toInt64) B dX12_putRecords_155 rfl ?_
              refine z_iconst (v := 1) B dX12_putRecords_156 rfl ?_
              refine z_callV (As := [.long v_32.toInt64, .int 1]) (rest := []) B (r_put G l Φl3 sz x rd nw cr tp tt fl pe i_8 nx il qu kn ec nu va st ep ti ad ob ra rt ex sa us tk th v_32.toInt64 1 hx hI9 (show 1 ≤ 8 by omega) (show i_8 + 1 ≤ 700 by omega) hnw) (cwV 2 B.1.2.2.2.2 gX12_putRecords_X12_put rfl rfl rfl (by decide +kernel) ⟨Nat.le_of_ble_eq_true rfl, Nat.le_of_ble_eq_true rfl⟩) h_22 rfl rfl rfl rfl (Nat.le_of_ble_eq_true rfl) dX12_putRecords_157 ⟨Nat.le_of_ble_eq_true rfl, Nat.le_of_ble_eq_true rfl⟩ (fun r_15 Φ8 sz8 st8 hp8 hs8 => ?_)
              obtain ⟨rfl, hq8, ⟨n_23, b_103, hI11⟩, hF11⟩ := hp8
              subst sz8
              replace hs8 : st8 = [] := hs8
              subst st8
              replace hI11 : Im G x (rd, nw, cr, tp, tt, fl, pe, n_23, nx, il, qu, kn, ec, nu, va, st, ep, ti, ad, ob, ra, rt, ex, sa, us, tk, th) Φ8 := hI11
              replace b_103 : n_23 = i_8 + 1 := b_103
              refine z_iinc (k := 0) (v := nI (i_7 + 1)) (lv' := [(8, .int (nI (i_7 + 1))), (4, .int 1), (7, .int (nI n_17)), (6, .int 0), (5, .int (nI n_3)), (3, .int (nI i_2)), (2, .int (nI n_15)), (0, .ref x), (1, .int (nI q))]) B dX12_putRecords_160 rfl (nI_add i_7 1) (Nat.le_of_ble_eq_true rfl) rfl ?_
              refine z_goto (tgt := 135) B dX12_putRecords_163 rfl ?_
              refine z_lv [0, 1, 2, 3, 4, 5, 6, 7, 8] rfl ?_
              exact ih3 (i_7 + 1, n_23) Φ8 (show n_17 - (i_7 + 1) < n_17 - i_7 by omega) ⟨hI11, (fun b9 h9 => ((hF11 b9 h9).trans ((hF9 b9 h9).trans rfl))), (show (i_7 + 1) ≤ n_17 by omega), (show n_23 = i_4 + (i_7 + 1) by omega), trivial⟩
        · have e_16 : ¬ (n_3 = n_16) := fun h9 => c_10 ((nI_eq (a := n_3) (b := n_16) (by omega) (by omega)).mpr h9)
          refine z_iconst (v := 1) B dX12_putRecords_46 rfl ?_
          refine z_goto (tgt := 51) B dX12_putRecords_47 rfl ?_
          refine z_istore (lv' := [(6, .int 1), (5, .int (nI n_3)), (4, .int i_1), (3, .int (nI i_2)), (2, .int (nI n_15)), (0, .ref x), (1, .int (nI q))]) B dX12_putRecords_51 (Nat.le_of_ble_eq_true rfl) rfl ?_
          refine z_aload_n B dX12_putRecords_53 rfl 5 rfl ?_
          refine z_iload B dX12_putRecords_54 1 rfl ?_
          refine z_callV (As := [.int (nI n_3)]) (rest := []) B (r_recordLengthOf G l Φl1 sz x rd nw cr tp tt fl pe i_4 nx il qu kn ec nu va st ep ti ad ob ra rt ex sa us tk th n_3 hx hI1 (show n_3 < 4 by omega) hnw) (cwV 1 B.1.2.2.2.2 gX12_putRecords_X12_recordLengthOf rfl rfl rfl (by decide +kernel) ⟨Nat.le_of_ble_eq_true rfl, Nat.le_of_ble_eq_true rfl⟩) h_2 rfl rfl rfl rfl (Nat.le_of_ble_eq_true rfl) dX12_putRecords_56 ⟨Nat.le_of_ble_eq_true rfl, Nat.le_of_ble_eq_true rfl⟩ (fun r_16 Φ9 sz9 st9 hp9 hs9 => ?_)
          obtain ⟨⟨n_24, rfl, b_104⟩, hq9, hI12, hF12⟩ := hp9
          subst sz9
          replace hs9 : st9 = [.int (nI n_24)] := hs9
          subst st9
          replace b_104 : n_24 ≤ 29 := b_104
          replace hI12 : Im G x (rd, nw, cr, tp, tt, fl, pe, i_4, nx, il, qu, kn, ec, nu, va, st, ep, ti, ad, ob, ra, rt, ex, sa, us, tk, th) Φ9 := hI12
          refine z_istore (lv' := [(7, .int (nI n_24)), (6, .int 1), (5, .int (nI n_3)), (4, .int i_1), (3, .int (nI i_2)), (2, .int (nI n_15)), (0, .ref x), (1, .int (nI q))]) B dX12_putRecords_59 (Nat.le_of_ble_eq_true rfl) rfl ?_
          refine z_aload_n B dX12_putRecords_61 rfl 6 rfl ?_
          have h_25 : Φ9 x = some (o_ 14 [.int th, .ref (x + 1), .ref (x + 2), .int ti, .int ra, .int (nI rt), .int ex, .int ad, .ref (x + 3), .ref (x + 4), .int v_1, .long v_2, .ref (x + 5), .int (nI fl), .int v_3, .long ob, .long sa, .long v_4, .long us, .ref (x + 6), .ref (x + 7), .int (nI pe), .ref (x + 8), .int (nI i_4), .ref (x + 9), .ref (x + 10), .int (nI qu), .ref (x + 11), .ref (x + 12), .ref (x + 13), .ref (x + 14), .ref (x + 15), .ref (x + 16), .int (nI n_1), .long v_5, .ref (x + 17), .ref (x + 18), .ref (x + 19), .ref (x + 20), .ref (x + 21), .ref (x + 22), .int (nI n_2), .ref (x + 23), .ref (x + 24), .int (nI tk), .ref (x + 25), .int (nI il), .int (nI nx), .int ec, .int ep, .int kn, .int (nI st), .int nu, .long va]) := ((hF12 x (fun j9 h8 h7 => (show False from h7).elim)).trans h_2)
          refine z_get (ref := "FlowExporterModel") (C := RX12) (T := TX12) (N := 54) (ci := 14) (v := .int (nI i_4)) B hu_X12_putRecords_X12 rfl 23 (Nat.le_of_ble_eq_true rfl) hv_X12_putRecords_280 rfl h_25 rfl dX12_putRecords_62 ?_
          refine z_iload B dX12_putRecords_65 0 rfl ?_
          refine z_iadd B dX12_putRecords_67 ?_
          refine z_top (st1 := [.int (nI (i_4 + n_24))]) (congrArg (fun w9 : Int32 => ([.int w9] : List Value)) (nI_add i_4 n_24)) ?_
          refine z_iload B dX12_putRecords_68 1 rfl ?_
          refine z_if_eq (tgt := 77) B dX12_putRecords_70 rfl (fun h9 => absurd h9 (by decide)) (fun c_17 => ?_)
          refine z_iconst (v := 4) B dX12_putRecords_73 rfl ?_
          refine z_goto (tgt := 78) B dX12_putRecords_74 rfl ?_
          refine z_iadd B dX12_putRecords_78 ?_
          refine z_top (st1 := [.int (nI (i_4 + n_24 + 4))]) (congrArg (fun w9 : Int32 => ([.int w9] : List Value)) (nI_add (i_4 + n_24) 4)) ?_
          refine z_aload_n B dX12_putRecords_79 rfl 6 rfl ?_
          refine z_get (ref := "FlowExporterModel") (C := RX12) (T := TX12) (N := 54) (ci := 14) (v := .ref (x + 2)) B hu_X12_putRecords_X12 rfl 2 (Nat.le_of_ble_eq_true rfl) hv_X12_putRecords_17 rfl h_25 rfl dX12_putRecords_80 ?_
          refine z_bipush (v := 7) B dX12_putRecords_83 rfl ?_
          obtain ⟨f_6, h_26, r_17⟩ := imk (k := 2) hI12
          replace r_17 : nw f_6 := r_17
          have r_18 : NN f_6 := hnw f_6 r_17
          have h_27 : Φ9 (x + 2) = some (ai_ G 307 f_6) := h_26
          refine z_iald B h_27 (vin rfl) dX12_putRecords_85 ?_
          obtain ⟨n_25, b_105, b_106, e_17⟩ := r_18.2.2.2.1
          refine z_top (st1 := [.int (nI n_25), .int (nI (i_4 + n_24 + 4))]) (congrArg (fun w9 : Int32 => ([.int w9, .int (nI (i_4 + n_24 + 4))] : List Value)) (e_17)) ?_
          refine z_icmp_gt (tgt := 93) B dX12_putRecords_86 rfl (fun c_18 => ?_) (fun c_18 => ?_)
          · have e_18 : n_25 < i_4 + n_24 + 4 := (nI_ltI (a := n_25) (b := i_4 + n_24 + 4) (by omega) (by omega)).mp c_18
            refine z_iconst (v := 0) B dX12_putRecords_93 rfl ?_
            refine z_istore (lv' := [(4, .int 0), (7, .int (nI n_24)), (6, .int 1), (5, .int (nI n_3)), (3, .int (nI i_2)), (2, .int (nI n_15)), (0, .ref x), (1, .int (nI q))]) B dX12_putRecords_94 (Nat.le_of_ble_eq_true rfl) rfl ?_
            refine z_iload B dX12_putRecords_96 0 rfl ?_
            refine z_if_ne (tgt := 104) B dX12_putRecords_98 rfl (fun h9 => absurd (by decide) h9) (fun c_19 => ?_)
            refine z_goto (tgt := 7) B dX12_putRecords_101 rfl ?_
            refine z_lv [0, 4, 5, 6, 7] rfl ?_
            exact ih1 (0, i_2, nI n_15, i_4) Φ9 (by simp only [if_neg c_1]; show (if (0 : Int32) = 0 then 0 else 1) + _ < _; rw [if_pos rfl]; omega) ⟨hI12, (fun b9 h9 => ((hF12 b9 (fun j9 h8 h7 => (show False from h7).elim)).trans ((hF1 b9 h9).trans rfl))), (show i_2 ≤ pe by omega), (show q ≤ i_2 by omega), (show i_4 ≤ 600 by omega), (Or.inr ⟨n_15, rfl, (show n_15 + 4 ≤ i_4 by omega)⟩), (Or.inr (Or.elim b_5 (fun hh => by first | exact absurd hh.2.1 c_3 | (exfalso; obtain ⟨h1, h2, h3, h4⟩ := hh; omega)) id)), trivial⟩
          · have e_19 : ¬ (n_25 < i_4 + n_24 + 4) := fun h9 => c_18 ((nI_ltI (a := n_25) (b := i_4 + n_24 + 4) (by omega) (by omega)).mpr h9)
            refine z_iconst (v := 1) B dX12_putRecords_89 rfl ?_
            refine z_goto (tgt := 94) B dX12_putRecords_90 rfl ?_
            refine z_istore (lv' := [(4, .int 1), (7, .int (nI n_24)), (6, .int 1), (5, .int (nI n_3)), (3, .int (nI i_2)), (2, .int (nI n_15)), (0, .ref x), (1, .int (nI q))]) B dX12_putRecords_94 (Nat.le_of_ble_eq_true rfl) rfl ?_
            refine z_iload B dX12_putRecords_96 0 rfl ?_
            refine z_if_ne (tgt := 104) B dX12_putRecords_98 rfl (fun c_20 => ?_) (fun h9 => absurd h9 (by decide))
            refine z_iload B dX12_putRecords_104 2 rfl ?_
            refine z_if_eq (tgt := 132) B dX12_putRecords_106 rfl (fun h9 => absurd h9 (by decide)) (fun c_21 => ?_)
            refine z_aload_n B dX12_putRecords_109 rfl 6 rfl ?_
            refine z_get (ref := "FlowExporterModel") (C := RX12) (T := TX12) (N := 54) (ci := 14) (v := .int (nI i_4)) B hu_X12_putRecords_X12 rfl 23 (Nat.le_of_ble_eq_true rfl) hv_X12_putRecords_280 rfl h_25 rfl dX12_putRecords_110 ?_
            refine z_istore_n (lv' := [(2, .int (nI i_4)), (4, .int 1), (7, .int (nI n_24)), (6, .int 1), (5, .int (nI n_3)), (3, .int (nI i_2)), (0, .ref x), (1, .int (nI q))]) B dX12_putRecords_113 rfl (Nat.le_of_ble_eq_true rfl) rfl ?_
            refine z_aload_n B dX12_putRecords_114 rfl 6 rfl ?_
            refine z_sipush (v := 256) B dX12_putRecords_115 rfl ?_
            refine z_iload B dX12_putRecords_118 4 rfl ?_
            refine z_iadd B dX12_putRecords_120 ?_
            refine z_top (st1 := [.int (nI (256 + n_3)), .ref x]) (congrArg (fun w9 : Int32 => ([.int w9, .ref x] : List Value)) (nI_add 256 n_3)) ?_
            refine z_i2l (v := (nI (256 + n_3)).toInt64) B dX12_putRecords_121 rfl ?_
            refine z_iconst (v := 2) B dX12_putRecords_122 rfl ?_
            refine z_callV (As := [.long ((nI (256 + n_3)).toInt64), .int 2]) (rest := []) B (r_put G l Φ9 sz x rd nw cr tp tt fl pe i_4 nx il qu kn ec nu va st ep ti ad ob ra rt ex sa us tk th ((nI (256 + n_3)).toInt64) 2 hx hI12 (show 2 ≤ 8 by omega) (show i_4 + 2 ≤ 700 by omega) hnw) (cwV 2 B.1.2.2.2.2 gX12_putRecords_X12_put rfl rfl rfl (by decide +kernel) ⟨Nat.le_of_ble_eq_true rfl, Nat.le_of_ble_eq_true rfl⟩) h_25 rfl rfl rfl rfl (Nat.le_of_ble_eq_true rfl) dX12_putRecords_123 ⟨Nat.le_of_ble_eq_true rfl, Nat.le_of_ble_eq_true rfl⟩ (fun r_19 Φ10 sz10 st10 hp10 hs10 => ?_)
            obtain ⟨rfl, hq10, ⟨n_26, b_107, hI13⟩, hF13⟩ := hp10
            subst sz10
            replace hs10 : st10 = [] := hs10
            subst st10
            replace hI13 : Im G x (rd, nw, cr, tp, tt, fl, pe, n_26, nx, il, qu, kn, ec, nu, va, st, ep, ti, ad, ob, ra, rt, ex, sa, us, tk, th) Φ10 := hI13
            replace b_107 : n_26 = i_4 + 2 := b_107
            refine z_aload_n B dX12_putRecords_126 rfl 6 rfl ?_
            refine z_lconst (v := 0) B dX12_putRecords_127 rfl ?_
            refine z_iconst (v := 2) B dX12_putRecords_128 rfl ?_
            obtain ⟨v_33, v_34, v_35, v_36, n_27, v_37, n_28, h_28, b_120, b_108, b_109, b_110, b_111, b_112, b_113, b_114, b_115, b_116, b_117, b_118, b_119⟩ := im0 hI13
            replace b_108 : 1 ≤ rt := b_108
            replace b_109 : rt ≤ 1024 := b_109
            replace b_110 : fl ≤ 12 := b_110
            replace b_111 : pe ≤ 24 := b_111
            replace b_112 : n_26 ≤ 700 := b_112
            replace b_113 : qu ≤ 12 := b_113
            replace b_114 : n_27 ≤ 8 := b_114
            replace b_115 : n_28 ≤ 24 := b_115
            replace b_116 : tk ≤ 24 := b_116
            replace b_117 : il ≤ 700 := b_117
            replace b_118 : nx ≤ 701 := b_118
            replace b_119 : st ≤ 701 := b_119
            have h_29 : Φ10 x = some (o_ 14 [.int th, .ref (x + 1), .ref (x + 2), .int ti, .int ra, .int (nI rt), .int ex, .int ad, .ref (x + 3), .ref (x + 4), .int v_33, .long v_34, .ref (x + 5), .int (nI fl), .int v_35, .long ob, .long sa, .long v_36, .long us, .ref (x + 6), .ref (x + 7), .int (nI pe), .ref (x + 8), .int (nI n_26), .ref (x + 9), .ref (x + 10), .int (nI qu), .ref (x + 11), .ref (x + 12), .ref (x + 13), .ref (x + 14), .ref (x + 15), .ref (x + 16), .int (nI n_27), .long v_37, .ref (x + 17), .ref (x + 18), .ref (x + 19), .ref (x + 20), .ref (x + 21), .ref (x + 22), .int (nI n_28), .ref (x + 23), .ref (x + 24), .int (nI tk), .ref (x + 25), .int (nI il), .int (nI nx), .int ec, .int ep, .int kn, .int (nI st), .int nu, .long va]) := h_28
            refine z_callV (As := [.long 0, .int 2]) (rest := []) B (r_put G l Φ10 sz x rd nw cr tp tt fl pe n_26 nx il qu kn ec nu va st ep ti ad ob ra rt ex sa us tk th 0 2 hx hI13 (show 2 ≤ 8 by omega) (show n_26 + 2 ≤ 700 by omega) hnw) (cwV 2 B.1.2.2.2.2 gX12_putRecords_X12_put rfl rfl rfl (by decide +kernel) ⟨Nat.le_of_ble_eq_true rfl, Nat.le_of_ble_eq_true rfl⟩) h_29 rfl rfl rfl rfl (Nat.le_of_ble_eq_true rfl) dX12_putRecords_129 ⟨Nat.le_of_ble_eq_true rfl, Nat.le_of_ble_eq_true rfl⟩ (fun r_20 Φ11 sz11 st11 hp11 hs11 => ?_)
            obtain ⟨rfl, hq11, ⟨n_29, b_121, hI14⟩, hF14⟩ := hp11
            subst sz11
            replace hs11 : st11 = [] := hs11
            subst st11
            replace hI14 : Im G x (rd, nw, cr, tp, tt, fl, pe, n_29, nx, il, qu, kn, ec, nu, va, st, ep, ti, ad, ob, ra, rt, ex, sa, us, tk, th) Φ11 := hI14
            replace b_121 : n_29 = n_26 + 2 := b_121
            refine z_iconst (v := 0) B dX12_putRecords_132 rfl ?_
            refine z_istore (lv' := [(8, .int 0), (2, .int (nI i_4)), (4, .int 1), (7, .int (nI n_24)), (6, .int 1), (5, .int (nI n_3)), (3, .int (nI i_2)), (0, .ref x), (1, .int (nI q))]) B dX12_putRecords_133 (Nat.le_of_ble_eq_true rfl) rfl ?_
            refine z_lv [0, 1, 2, 3, 4, 5, 6, 7, 8] rfl ?_
            refine z_loop (α := Nat × Nat) (fun (a9 : Nat × Nat) Φi => Im G x (rd, nw, cr, tp, tt, fl, pe, a9.2, nx, il, qu, kn, ec, nu, va, st, ep, ti, ad, ob, ra, rt, ex, sa, us, tk, th) Φi ∧ Fr x (fun j9 => j9 = 0 ∨ j9 = 8) Φ11 Φi ∧ (a9.1 ≤ n_24) ∧ (a9.2 = n_29 + a9.1) ∧ True) (fun a9 => [(8, .int (nI (a9.1))), (2, .int (nI i_4)), (4, .int 1), (7, .int (nI n_24)), (6, .int 1), (5, .int (nI n_3)), (3, .int (nI i_2)), (0, .ref x), (1, .int (nI q))]) (fun a9 => n_24 - a9.1) ?_ (0, n_29) ⟨hI14, fun _ _ => rfl, (show 0 ≤ n_24 by omega), (show n_29 = n_29 + 0 by omega), trivial⟩
            rintro ⟨i_9, i_10⟩ Φl4 ⟨hI15, hF15, b_122, b_123, -⟩ ih4
            replace hI15 : Im G x (rd, nw, cr, tp, tt, fl, pe, i_10, nx, il, qu, kn, ec, nu, va, st, ep, ti, ad, ob, ra, rt, ex, sa, us, tk, th) Φl4 := hI15
            replace b_122 : i_9 ≤ n_24 := b_122
            replace b_123 : i_10 = n_29 + i_9 := b_123
            show Z p9 l e9 _ s9 m9 _ w9 t9 k9 _ G 9 135 [(8, .int (nI i_9)), (2, .int (nI i_4)), (4, .int 1), (7, .int (nI n_24)), (6, .int 1), (5, .int (nI n_3)), (3, .int (nI i_2)), (0, .ref x), (1, .int (nI q))] [] Φl4 _ _ _
            refine z_iload B dX12_putRecords_135 0 rfl ?_
            refine z_iload B dX12_putRecords_137 3 rfl ?_
            refine z_icmp_ge (tgt := 166) B dX12_putRecords_139 rfl (fun c_22 => ?_) (fun c_22 => ?_)
            · have e_20 : n_24 ≤ i_9 := (nI_leI (a := n_24) (b := i_9) (by omega) (by omega)).mp c_22
              refine z_aload_n B dX12_putRecords_166 rfl 7 rfl ?_
              refine z_iload_n B dX12_putRecords_167 rfl 1 rfl ?_
              refine z_iconst (v := 2) B dX12_putRecords_168 rfl ?_
              refine z_iadd B dX12_putRecords_169 ?_
              refine z_top (st1 := [.int (nI (i_4 + 2)), .ref x]) (congrArg (fun w9 : Int32 => ([.int w9, .ref x] : List Value)) (nI_add i_4 2)) ?_
              refine z_aload_n B dX12_putRecords_170 rfl 7 rfl ?_
              obtain ⟨v_38, v_39, v_40, v_41, n_30, v_42, n_31, h_30, b_136, b_124, b_125, b_126, b_127, b_128, b_129, b_130, b_131, b_132, b_133, b_134, b_135⟩ := im0 hI15
              replace b_124 : 1 ≤ rt := b_124
              replace b_125 : rt ≤ 1024 := b_125
              replace b_126 : fl ≤ 12 := b_126
              replace b_127 : pe ≤ 24 := b_127
              replace b_128 : i_10 ≤ 700 := b_128
              replace b_129 : qu ≤ 12 := b_129
              replace b_130 : n_30 ≤ 8 := b_130
              replace b_131 : n_31 ≤ 24 := b_131
              replace b_132 : tk ≤ 24 := b_132
              replace b_133 : il ≤ 700 := b_133
              replace b_134 : nx ≤ 701 := b_134
              replace b_135 : st ≤ 701 := b_135
              have h_31 : Φl4 x = some (o_ 14 [.int th, .ref (x + 1), .ref (x + 2), .int ti, .int ra, .int (nI rt), .int ex, .int ad, .ref (x + 3), .ref (x + 4), .int v_38, .long v_39, .ref (x + 5), .int (nI fl), .int v_40, .long ob, .long sa, .long v_41, .long us, .ref (x + 6), .ref (x + 7), .int (nI pe), .ref (x + 8), .int (nI i_10), .ref (x + 9), .ref (x + 10), .int (nI qu), .ref (x + 11), .ref (x + 12), .ref (x + 13), .ref (x + 14), .ref (x + 15), .ref (x + 16), .int (nI n_30), .long v_42, .ref (x + 17), .ref (x + 18), .ref (x + 19), .ref (x + 20), .ref (x + 21), .ref (x + 22), .int (nI n_31), .ref (x + 23), .ref (x + 24), .int (nI tk), .ref (x + 25), .int (nI il), .int (nI nx), .int ec, .int ep, .int kn, .int (nI st), .int nu, .long va]) := h_30
              refine z_get (ref := "FlowExporterModel") (C := RX12) (T := TX12) (N := 54) (ci := 14) (v := .int (nI i_10)) B hu_X12_putRecords_X12 rfl 23 (Nat.le_of_ble_eq_true rfl) hv_X12_putRecords_280 rfl h_31 rfl dX12_putRecords_171 ?_
              refine z_iload_n B dX12_putRecords_174 rfl 1 rfl ?_
              refine z_isub B dX12_putRecords_175 ?_
              refine z_top (st1 := [.int (nI (i_10 - i_4)), .int (nI (i_4 + 2)), .ref x]) (congrArg (fun w9 : Int32 => ([.int w9, .int (nI (i_4 + 2)), .ref x] : List Value)) (nI_sub (show i_4 ≤ i_10 by omega))) ?_
              refine z_callV (As := [.int (nI (i_4 + 2)), .int (nI (i_10 - i_4))]) (rest := []) B (r_putAt G l Φl4 sz x rd nw cr tp tt fl pe i_10 nx il qu kn ec nu va st ep ti ad ob ra rt ex sa us tk th (i_4 + 2) (i_10 - i_4) hx hI15 (show (i_4 + 2) + 1 < 700 by omega) (show (i_10 - i_4) ≤ 700 by omega) hnw) (cwV 2 B.1.2.2.2.2 gX12_putRecords_X12_putAt rfl rfl rfl (by decide +kernel) ⟨Nat.le_of_ble_eq_true rfl, Nat.le_of_ble_eq_true rfl⟩) h_31 rfl rfl rfl rfl (Nat.le_of_ble_eq_true rfl) dX12_putRecords_176 ⟨Nat.le_of_ble_eq_true rfl, Nat.le_of_ble_eq_true rfl⟩ (fun r_21 Φ12 sz12 st12 hp12 hs12 => ?_)
              obtain ⟨rfl, hq12, hI16, hF16⟩ := hp12
              subst sz12
              replace hs12 : st12 = [] := hs12
              subst st12
              replace hI16 : Im G x (rd, nw, cr, tp, tt, fl, pe, i_10, nx, il, qu, kn, ec, nu, va, st, ep, ti, ad, ob, ra, rt, ex, sa, us, tk, th) Φ12 := hI16
              refine z_iinc (k := 6) (v := nI (i_2 + 1)) (lv' := [(3, .int (nI (i_2 + 1))), (8, .int (nI i_9)), (2, .int (nI i_4)), (4, .int 1), (7, .int (nI n_24)), (6, .int 1), (5, .int (nI n_3)), (0, .ref x), (1, .int (nI q))]) B dX12_putRecords_179 rfl (nI_add i_2 1) (Nat.le_of_ble_eq_true rfl) rfl ?_
              refine z_goto (tgt := 7) B dX12_putRecords_182 rfl ?_
              refine z_lv [3, 0, 2, 7, 8] rfl ?_
              exact ih1 (1, i_2 + 1, nI i_4, i_10) Φ12 (by simp only [if_neg c_1]; show (if (1 : Int32) = 0 then 0 else 1) + _ < _; rw [if_neg (by decide)]; omega) ⟨hI16, (fun b9 h9 => ((hF16 b9 (fun j9 h8 h7 => h9 j9 h8 (fq_943 j9 h7))).trans ((hF15 b9 h9).trans ((hF14 b9 h9).trans ((hF13 b9 h9).trans ((hF12 b9 (fun j9 h8 h7 => (show False from h7).elim)).trans ((hF1 b9 h9).trans rfl))))))), (show (i_2 + 1) ≤ pe by omega), (show q ≤ (i_2 + 1) by omega), (show i_10 ≤ 600 by omega), (Or.inr ⟨i_4, rfl, (show i_4 + 4 ≤ i_10 by omega)⟩), (Or.inr (show q < i_2 + 1 by omega)), trivial⟩
            · have e_21 : ¬ (n_24 ≤ i_9) := fun h9 => c_22 ((nI_leI (a := n_24) (b := i_9) (by omega) (by omega)).mpr h9)
              refine z_aload_n B dX12_putRecords_142 rfl 7 rfl ?_
              refine z_aload_n B dX12_putRecords_143 rfl 7 rfl ?_
              obtain ⟨v_43, v_44, v_45, v_46, n_32, v_47, n_33, h_32, b_149, b_137, b_138, b_139, b_140, b_141, b_142, b_143, b_144, b_145, b_146, b_147, b_148⟩ := im0 hI15
              replace b_137 : 1 ≤ rt := b_137
              replace b_138 : rt ≤ 1024 := b_138
              replace b_139 : fl ≤ 12 := b_139
              replace b_140 : pe ≤ 24 := b_140
              replace b_141 : i_10 ≤ 700 := b_141
              replace b_142 : qu ≤ 12 := b_142
              replace b_143 : n_32 ≤ 8 := b_143
              replace b_144 : n_33 ≤ 24 := b_144
              replace b_145 : tk ≤ 24 := b_145
              replace b_146 : il ≤ 700 := b_146
              replace b_147 : nx ≤ 701 := b_147
              replace b_148 : st ≤ 701 := b_148
              have h_33 : Φl4 x = some (o_ 14 [.int th, .ref (x + 1), .ref (x + 2), .int ti, .int ra, .int (nI rt), .int ex, .int ad, .ref (x + 3), .ref (x + 4), .int v_43, .long v_44, .ref (x + 5), .int (nI fl), .int v_45, .long ob, .long sa, .long v_46, .long us, .ref (x + 6), .ref (x + 7), .int (nI pe), .ref (x + 8), .int (nI i_10), .ref (x + 9), .ref (x + 10), .int (nI qu), .ref (x + 11), .ref (x + 12), .ref (x + 13), .ref (x + 14), .ref (x + 15), .ref (x + 16), .int (nI n_32), .long v_47, .ref (x + 17), .ref (x + 18), .ref (x + 19), .ref (x + 20), .ref (x + 21), .ref (x + 22), .int (nI n_33), .ref (x + 23), .ref (x + 24), .int (nI tk), .ref (x + 25), .int (nI il), .int (nI nx), .int ec, .int ep, .int kn, .int (nI st), .int nu, .long va]) := h_32
              refine z_get (ref := "FlowExporterModel") (C := RX12) (T := TX12) (N := 54) (ci := 14) (v := .ref (x + 7)) B hu_X12_putRecords_X12 rfl 20 (Nat.le_of_ble_eq_true rfl) hv_X12_putRecords_33 rfl h_33 rfl dX12_putRecords_144 ?_
              refine z_bipush (v := 30) B dX12_putRecords_147 rfl ?_
              refine z_iload_n B dX12_putRecords_149 rfl 6 rfl ?_
              refine z_imul B dX12_putRecords_150 ?_
              refine z_top (st1 := [.int (nI (30 * i_2)), .ref (x + 7), .ref x]) (congrArg (fun w9 : Int32 => ([.int w9, .ref (x + 7), .ref x] : List Value)) (nI_mul 30 i_2)) ?_
              refine z_iload B dX12_putRecords_151 0 rfl ?_
              refine z_iadd B dX12_putRecords_153 ?_
              refine z_top (st1 := [.int (nI (30 * i_2 + i_9)), .ref (x + 7), .ref x]) (congrArg (fun w9 : Int32 => ([.int w9, .ref (x + 7), .ref x] : List Value)) (nI_add (30 * i_2) i_9)) ?_
              obtain ⟨f_7, h_34⟩ := imk (k := 7) hI15
              have h_35 : Φl4 (x + 7) = some (ai_ G 720 f_7) := h_34
              refine z_iald B h_35 (vp_in_nI (by omega) (by omega)) dX12_putRecords_154 ?_
              refine z_fi (fun v_48 => ?_)
              refine z_i2l (v := v_48.toInt64) B dX12_putRecords_155 rfl ?_
              refine z_iconst (v := 1) B dX12_putRecords_156 rfl ?_
              refine z_callV (As := [.long v_48.toInt64, .int 1]) (rest := []) B (r_put G l Φl4 sz x rd nw cr tp tt fl pe i_10 nx il qu kn ec nu va st ep ti ad ob ra rt ex sa us tk th v_48.toInt64 1 hx hI15 (show 1 ≤ 8 by omega) (show i_10 + 1 ≤ 700 by omega) hnw) (cwV 2 B.1.2.2.2.2 gX12_putRecords_X12_put rfl rfl rfl (by decide +kernel) ⟨Nat.le_of_ble_eq_true rfl, Nat.le_of_ble_eq_true rfl⟩) h_33 rfl rfl rfl rfl (Nat.le_of_ble_eq_true rfl) dX12_putRecords_157 ⟨Nat.le_of_ble_eq_true rfl, Nat.le_of_ble_eq_true rfl⟩ (fun r_23 Φ13 sz13 st13 hp13 hs13 => ?_)
              obtain ⟨rfl, hq13, ⟨n_34, b_150, hI17⟩, hF17⟩ := hp13
              subst sz13
              replace hs13 : st13 = [] := hs13
              subst st13
              replace hI17 : Im G x (rd, nw, cr, tp, tt, fl, pe, n_34, nx, il, qu, kn, ec, nu, va, st, ep, ti, ad, ob, ra, rt, ex, sa, us, tk, th) Φ13 := hI17
              replace b_150 : n_34 = i_10 + 1 := b_150
              refine z_iinc (k := 0) (v := nI (i_9 + 1)) (lv' := [(8, .int (nI (i_9 + 1))), (2, .int (nI i_4)), (4, .int 1), (7, .int (nI n_24)), (6, .int 1), (5, .int (nI n_3)), (3, .int (nI i_2)), (0, .ref x), (1, .int (nI q))]) B dX12_putRecords_160 rfl (nI_add i_9 1) (Nat.le_of_ble_eq_true rfl) rfl ?_
              refine z_goto (tgt := 135) B dX12_putRecords_163 rfl ?_
              refine z_lv [0, 1, 2, 3, 4, 5, 6, 7, 8] rfl ?_
              exact ih4 (i_9 + 1, n_34) Φ13 (show n_24 - (i_9 + 1) < n_24 - i_9 by omega) ⟨hI17, (fun b9 h9 => ((hF17 b9 h9).trans ((hF15 b9 h9).trans rfl))), (show (i_9 + 1) ≤ n_24 by omega), (show n_34 = n_29 + (i_9 + 1) by omega), trivial⟩

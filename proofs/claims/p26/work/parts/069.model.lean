set_option maxRecDepth 20000 in
theorem ggX12_putRecords_X12_recordLengthOf : GoodIn wsX12_putRecords wsX12_recordLengthOf := goodIn_ca ((goodIn_ca (goodIn_r _ [10, 11, 12, 13, 9, 14, 4, 15, 16, 17, 18, 19, 20, 21, 22, 23, 24, 25, 26, 27, 28, 29] rfl (by decide +kernel)) (goodIn_sub (fun _ h => List.mem_cons_of_mem _ (List.mem_append_left _ (List.mem_append_right _ h))) gw_wsX120))) (goodIn_sub (fun _ h => List.mem_cons_of_mem _ (List.mem_append_right _ h)) (all_fg _))
set_option maxRecDepth 20000 in
theorem gX12_putRecords_X12_recordLengthOf : GoodIn wsX12_putRecords (wsV RX12 198 RX12 yX12_recordLengthOf wsX12_recordLengthOf) := goodIn_app (goodIn_m (mem_cA (List.mem_cons_of_mem _ (List.mem_append_left _ (List.mem_append_left _ (List.mem_append_left _ (List.mem_of_getElem? (i := 5) rfl))))) (mem_cA (List.mem_cons_of_mem _ (List.mem_append_left _ (List.mem_append_left _ (List.mem_append_left _ (List.mem_of_getElem? (i := 6) rfl))))) (mem_cA (List.mem_cons_of_mem _ (List.mem_append_left _ (List.mem_append_left _ (List.mem_append_left _ (List.mem_of_getElem? (i := 7) rfl))))) (mem_cA (List.mem_cons_of_mem _ (List.mem_append_left _ (List.mem_append_left _ (List.mem_append_left _ (List.mem_of_getElem? (i := 8) rfl))))) mem_cZ)))) (by decide +kernel)) ggX12_putRecords_X12_recordLengthOf
set_option maxRecDepth 20000 in
theorem ggX12_putRecords_X12_put : GoodIn wsX12_putRecords wsX12_put := goodIn_ca ((goodIn_ca (goodIn_r _ [33, 34, 3, 35] rfl (by decide +kernel)) (goodIn_sub (fun _ h => List.mem_cons_of_mem _ (List.mem_append_left _ (List.mem_append_right _ h))) gw_wsX120))) (goodIn_sub (fun _ h => List.mem_cons_of_mem _ (List.mem_append_right _ h)) (all_fg _))
set_option maxRecDepth 20000 in
theorem gX12_putRecords_X12_put : GoodIn wsX12_putRecords (wsV RX12 283 RX12 yX12_put wsX12_put) := goodIn_app (goodIn_m (mem_cA (List.mem_cons_of_mem _ (List.mem_append_left _ (List.mem_append_left _ (List.mem_append_right _ (List.mem_of_getElem? (i := 5) rfl))))) (mem_cA (List.mem_cons_of_mem _ (List.mem_append_left _ (List.mem_append_left _ (List.mem_append_right _ (List.mem_of_getElem? (i := 6) rfl))))) (mem_cA (List.mem_cons_of_mem _ (List.mem_append_left _ (List.mem_append_left _ (List.mem_append_right _ (List.mem_of_getElem? (i := 7) rfl))))) (mem_cA (List.mem_cons_of_mem _ (List.mem_append_left _ (List.mem_append_left _ (List.mem_append_left _ (List.mem_of_getElem? (i := 8) rfl))))) mem_cZ)))) (by decide +kernel)) ggX12_putRecords_X12_put
set_option maxRecDepth 20000 in
theorem ggX12_putRecords_X12_putAt : GoodIn wsX12_putRecords wsX12_putAt := goodIn_ca ((goodIn_ca (goodIn_r _ [39, 34] rfl (by decide +kernel)) (goodIn_sub (fun _ h => List.mem_cons_of_mem _ (List.mem_append_left _ (List.mem_append_right _ h))) gw_wsX120))) (goodIn_sub (fun _ h => List.mem_cons_of_mem _ (List.mem_append_right _ h)) (all_fg _))
set_option maxRecDepth 20000 in
theorem gX12_putRecords_X12_putAt : GoodIn wsX12_putRecords (wsV RX12 295 RX12 yX12_putAt wsX12_putAt) := goodIn_app (goodIn_m (mem_cA (List.mem_cons_of_mem _ (List.mem_append_left _ (List.mem_append_left _ (List.mem_append_right _ (List.mem_of_getElem? (i := 11) rfl))))) (mem_cA (List.mem_cons_of_mem _ (List.mem_append_left _ (List.mem_append_left _ (List.mem_append_right _ (List.mem_of_getElem? (i := 12) rfl))))) (mem_cA (List.mem_cons_of_mem _ (List.mem_append_left _ (List.mem_append_left _ (List.mem_append_right _ (List.mem_of_getElem? (i := 13) rfl))))) (mem_cA (List.mem_cons_of_mem _ (List.mem_append_left _ (List.mem_append_left _ (List.mem_append_left _ (List.mem_of_getElem? (i := 8) rfl))))) mem_cZ)))) (by decide +kernel)) ggX12_putRecords_X12_putAt
theorem dX12_putRecords_0 : decode cX12_putRecords 0 = .ok (.iconst (-1), 1) := by decide +kernel
theorem dX12_putRecords_1 : decode cX12_putRecords 1 = .ok (.istore_n 2, 1) := by decide +kernel
theorem dX12_putRecords_2 : decode cX12_putRecords 2 = .ok (.iload_n 1, 1) := by decide +kernel
theorem dX12_putRecords_3 : decode cX12_putRecords 3 = .ok (.istore_n 3, 1) := by decide +kernel
theorem dX12_putRecords_4 : decode cX12_putRecords 4 = .ok (.iconst 1, 1) := by decide +kernel
theorem dX12_putRecords_5 : decode cX12_putRecords 5 = .ok (.istore 4, 2) := by decide +kernel
theorem dX12_putRecords_7 : decode cX12_putRecords 7 = .ok (.iload 4, 2) := by decide +kernel
theorem dX12_putRecords_9 : decode cX12_putRecords 9 = .ok (.ifCond .eq 176, 3) := by decide +kernel
theorem dX12_putRecords_12 : decode cX12_putRecords 12 = .ok (.iload_n 3, 1) := by decide +kernel
theorem dX12_putRecords_13 : decode cX12_putRecords 13 = .ok (.aload_n 0, 1) := by decide +kernel
theorem dX12_putRecords_14 : decode cX12_putRecords 14 = .ok (.getfield 136, 3) := by decide +kernel
theorem dX12_putRecords_17 : decode cX12_putRecords 17 = .ok (.if_icmp .ge 168, 3) := by decide +kernel
theorem dX12_putRecords_20 : decode cX12_putRecords 20 = .ok (.aload_n 0, 1) := by decide +kernel
theorem dX12_putRecords_21 : decode cX12_putRecords 21 = .ok (.getfield 30, 3) := by decide +kernel
theorem dX12_putRecords_24 : decode cX12_putRecords 24 = .ok (.iload_n 3, 1) := by decide +kernel
theorem dX12_putRecords_25 : decode cX12_putRecords 25 = .ok (.iaload, 1) := by decide +kernel
theorem dX12_putRecords_26 : decode cX12_putRecords 26 = .ok (.istore 5, 2) := by decide +kernel
theorem dX12_putRecords_28 : decode cX12_putRecords 28 = .ok (.iload_n 2, 1) := by decide +kernel
theorem dX12_putRecords_29 : decode cX12_putRecords 29 = .ok (.iconst (-1), 1) := by decide +kernel
theorem dX12_putRecords_30 : decode cX12_putRecords 30 = .ok (.if_icmp .eq 16, 3) := by decide +kernel
theorem dX12_putRecords_33 : decode cX12_putRecords 33 = .ok (.iload 5, 2) := by decide +kernel
theorem dX12_putRecords_35 : decode cX12_putRecords 35 = .ok (.aload_n 0, 1) := by decide +kernel
theorem dX12_putRecords_36 : decode cX12_putRecords 36 = .ok (.getfield 30, 3) := by decide +kernel
theorem dX12_putRecords_39 : decode cX12_putRecords 39 = .ok (.iload_n 3, 1) := by decide +kernel
theorem dX12_putRecords_40 : decode cX12_putRecords 40 = .ok (.iconst 1, 1) := by decide +kernel
theorem dX12_putRecords_41 : decode cX12_putRecords 41 = .ok (.isub, 1) := by decide +kernel
theorem dX12_putRecords_42 : decode cX12_putRecords 42 = .ok (.iaload, 1) := by decide +kernel
theorem dX12_putRecords_43 : decode cX12_putRecords 43 = .ok (.if_icmp .eq 7, 3) := by decide +kernel
theorem dX12_putRecords_46 : decode cX12_putRecords 46 = .ok (.iconst 1, 1) := by decide +kernel
theorem dX12_putRecords_47 : decode cX12_putRecords 47 = .ok (.goto 4, 3) := by decide +kernel
theorem dX12_putRecords_50 : decode cX12_putRecords 50 = .ok (.iconst 0, 1) := by decide +kernel
theorem dX12_putRecords_51 : decode cX12_putRecords 51 = .ok (.istore 6, 2) := by decide +kernel
theorem dX12_putRecords_53 : decode cX12_putRecords 53 = .ok (.aload_n 0, 1) := by decide +kernel
theorem dX12_putRecords_54 : decode cX12_putRecords 54 = .ok (.iload 5, 2) := by decide +kernel
theorem dX12_putRecords_56 : decode cX12_putRecords 56 = .ok (.invokevirtual 198, 3) := by decide +kernel
theorem dX12_putRecords_59 : decode cX12_putRecords 59 = .ok (.istore 7, 2) := by decide +kernel
theorem dX12_putRecords_61 : decode cX12_putRecords 61 = .ok (.aload_n 0, 1) := by decide +kernel
theorem dX12_putRecords_62 : decode cX12_putRecords 62 = .ok (.getfield 280, 3) := by decide +kernel
theorem dX12_putRecords_65 : decode cX12_putRecords 65 = .ok (.iload 7, 2) := by decide +kernel
theorem dX12_putRecords_67 : decode cX12_putRecords 67 = .ok (.iadd, 1) := by decide +kernel
theorem dX12_putRecords_68 : decode cX12_putRecords 68 = .ok (.iload 6, 2) := by decide +kernel
theorem dX12_putRecords_70 : decode cX12_putRecords 70 = .ok (.ifCond .eq 7, 3) := by decide +kernel
theorem dX12_putRecords_73 : decode cX12_putRecords 73 = .ok (.iconst 4, 1) := by decide +kernel
theorem dX12_putRecords_74 : decode cX12_putRecords 74 = .ok (.goto 4, 3) := by decide +kernel
theorem dX12_putRecords_77 : decode cX12_putRecords 77 = .ok (.iconst 0, 1) := by decide +kernel
theorem dX12_putRecords_78 : decode cX12_putRecords 78 = .ok (.iadd, 1) := by decide +kernel
theorem dX12_putRecords_79 : decode cX12_putRecords 79 = .ok (.aload_n 0, 1) := by decide +kernel
theorem dX12_putRecords_80 : decode cX12_putRecords 80 = .ok (.getfield 17, 3) := by decide +kernel
theorem dX12_putRecords_83 : decode cX12_putRecords 83 = .ok (.bipush 7, 2) := by decide +kernel
theorem dX12_putRecords_85 : decode cX12_putRecords 85 = .ok (.iaload, 1) := by decide +kernel
theorem dX12_putRecords_86 : decode cX12_putRecords 86 = .ok (.if_icmp .gt 7, 3) := by decide +kernel
theorem dX12_putRecords_89 : decode cX12_putRecords 89 = .ok (.iconst 1, 1) := by decide +kernel
theorem dX12_putRecords_90 : decode cX12_putRecords 90 = .ok (.goto 4, 3) := by decide +kernel
theorem dX12_putRecords_93 : decode cX12_putRecords 93 = .ok (.iconst 0, 1) := by decide +kernel
theorem dX12_putRecords_94 : decode cX12_putRecords 94 = .ok (.istore 4, 2) := by decide +kernel
theorem dX12_putRecords_96 : decode cX12_putRecords 96 = .ok (.iload 4, 2) := by decide +kernel
theorem dX12_putRecords_98 : decode cX12_putRecords 98 = .ok (.ifCond .ne 6, 3) := by decide +kernel
theorem dX12_putRecords_101 : decode cX12_putRecords 101 = .ok (.goto (-94), 3) := by decide +kernel
theorem dX12_putRecords_104 : decode cX12_putRecords 104 = .ok (.iload 6, 2) := by decide +kernel
theorem dX12_putRecords_106 : decode cX12_putRecords 106 = .ok (.ifCond .eq 26, 3) := by decide +kernel
theorem dX12_putRecords_109 : decode cX12_putRecords 109 = .ok (.aload_n 0, 1) := by decide +kernel
theorem dX12_putRecords_110 : decode cX12_putRecords 110 = .ok (.getfield 280, 3) := by decide +kernel
theorem dX12_putRecords_113 : decode cX12_putRecords 113 = .ok (.istore_n 2, 1) := by decide +kernel
theorem dX12_putRecords_114 : decode cX12_putRecords 114 = .ok (.aload_n 0, 1) := by decide +kernel
theorem dX12_putRecords_115 : decode cX12_putRecords 115 = .ok (.sipush 256, 3) := by decide +kernel
theorem dX12_putRecords_118 : decode cX12_putRecords 118 = .ok (.iload 5, 2) := by decide +kernel
theorem dX12_putRecords_120 : decode cX12_putRecords 120 = .ok (.iadd, 1) := by decide +kernel
theorem dX12_putRecords_121 : decode cX12_putRecords 121 = .ok (.i2l, 1) := by decide +kernel
theorem dX12_putRecords_122 : decode cX12_putRecords 122 = .ok (.iconst 2, 1) := by decide +kernel
theorem dX12_putRecords_123 : decode cX12_putRecords 123 = .ok (.invokevirtual 283, 3) := by decide +kernel
theorem dX12_putRecords_126 : decode cX12_putRecords 126 = .ok (.aload_n 0, 1) := by decide +kernel
theorem dX12_putRecords_127 : decode cX12_putRecords 127 = .ok (.lconst 0, 1) := by decide +kernel
theorem dX12_putRecords_128 : decode cX12_putRecords 128 = .ok (.iconst 2, 1) := by decide +kernel
theorem dX12_putRecords_129 : decode cX12_putRecords 129 = .ok (.invokevirtual 283, 3) := by decide +kernel
theorem dX12_putRecords_132 : decode cX12_putRecords 132 = .ok (.iconst 0, 1) := by decide +kernel
theorem dX12_putRecords_133 : decode cX12_putRecords 133 = .ok (.istore 8, 2) := by decide +kernel
theorem dX12_putRecords_135 : decode cX12_putRecords 135 = .ok (.iload 8, 2) := by decide +kernel
theorem dX12_putRecords_137 : decode cX12_putRecords 137 = .ok (.iload 7, 2) := by decide +kernel
theorem dX12_putRecords_139 : decode cX12_putRecords 139 = .ok (.if_icmp .ge 27, 3) := by decide +kernel
theorem dX12_putRecords_142 : decode cX12_putRecords 142 = .ok (.aload_n 0, 1) := by decide +kernel
theorem dX12_putRecords_143 : decode cX12_putRecords 143 = .ok (.aload_n 0, 1) := by decide +kernel
theorem dX12_putRecords_144 : decode cX12_putRecords 144 = .ok (.getfield 33, 3) := by decide +kernel
theorem dX12_putRecords_147 : decode cX12_putRecords 147 = .ok (.bipush 30, 2) := by decide +kernel
theorem dX12_putRecords_149 : decode cX12_putRecords 149 = .ok (.iload_n 3, 1) := by decide +kernel
theorem dX12_putRecords_150 : decode cX12_putRecords 150 = .ok (.imul, 1) := by decide +kernel
theorem dX12_putRecords_151 : decode cX12_putRecords 151 = .ok (.iload 8, 2) := by decide +kernel
theorem dX12_putRecords_153 : decode cX12_putRecords 153 = .ok (.iadd, 1) := by decide +kernel
theorem dX12_putRecords_154 : decode cX12_putRecords 154 = .ok (.iaload, 1) := by decide +kernel
theorem dX12_putRecords_155 : decode cX12_putRecords 155 = .ok (.i2l, 1) := by decide +kernel
theorem dX12_putRecords_156 : decode cX12_putRecords 156 = .ok (.iconst 1, 1) := by decide +kernel
theorem dX12_putRecords_157 : decode cX12_putRecords 157 = .ok (.invokevirtual 283, 3) := by decide +kernel
theorem dX12_putRecords_160 : decode cX12_putRecords 160 = .ok (.iinc 8 1, 3) := by decide +kernel
theorem dX12_putRecords_163 : decode cX12_putRecords 163 = .ok (.goto (-28), 3) := by decide +kernel
theorem dX12_putRecords_166 : decode cX12_putRecords 166 = .ok (.aload_n 0, 1) := by decide +kernel
theorem dX12_putRecords_167 : decode cX12_putRecords 167 = .ok (.iload_n 2, 1) := by decide +kernel
theorem dX12_putRecords_168 : decode cX12_putRecords 168 = .ok (.iconst 2, 1) := by decide +kernel
theorem dX12_putRecords_169 : decode cX12_putRecords 169 = .ok (.iadd, 1) := by decide +kernel
theorem dX12_putRecords_170 : decode cX12_putRecords 170 = .ok (.aload_n 0, 1) := by decide +kernel
theorem dX12_putRecords_171 : decode cX12_putRecords 171 = .ok (.getfield 280, 3) := by decide +kernel
theorem dX12_putRecords_174 : decode cX12_putRecords 174 = .ok (.iload_n 2, 1) := by decide +kernel
theorem dX12_putRecords_175 : decode cX12_putRecords 175 = .ok (.isub, 1) := by decide +kernel
theorem dX12_putRecords_176 : decode cX12_putRecords 176 = .ok (.invokevirtual 295, 3) := by decide +kernel
theorem dX12_putRecords_179 : decode cX12_putRecords 179 = .ok (.iinc 3 1, 3) := by decide +kernel
theorem dX12_putRecords_182 : decode cX12_putRecords 182 = .ok (.goto (-175), 3) := by decide +kernel
theorem dX12_putRecords_185 : decode cX12_putRecords 185 = .ok (.iload_n 3, 1) := by decide +kernel
theorem dX12_putRecords_186 : decode cX12_putRecords 186 = .ok (.ireturn, 1) := by decide +kernel
set_option maxHeartbeats 4000000 in
set_option maxRecDepth 100000 in
theorem r_putRecords (G : EnvG) (l : Launch) (Φ : Hm) (sz x : Nat) (rd : (Nat → Int32) → Prop) (cr : (Nat → Int64) → Prop) (tp : (Nat → Int32) → Prop) (tt : (Nat → Int64) → Prop) (sI : (Nat → Int32) → Prop) (sT : (Nat → Int32) → Prop) (ql : (Nat → Int32) → Prop) (fl : Nat) (pe : Nat) (le : Nat) (nx : Nat) (il : Nat) (qu : Nat) (kn : Int32) (ec : Int32) (nu : Int32) (va : Int64) (st : Nat) (ep : Int32) (ti : Int32) (ad : Int32) (ob : Int64) (ra : Int32) (rt : Nat) (ex : Int32) (sa : Int64) (us : Int64) (tk : Nat) (th : Int32) (me : Int32) (dr : Int32) (se : Int64) (sn : Int64) (c : Cf) (P : Nat → Nat) (q : Nat) (hx : G.2.2.2 ≤ x) (hI : Im G x (rd, (NNq c), cr, tp, tt, sI, sT, (PtQ pe P), ql, fl, pe, le, nx, il, qu, kn, ec, nu, va, st, ep, ti, ad, ob, ra, rt, ex, sa, us, tk, th, me, dr, se, sn) Φ) (hq : q < pe) (hl : le ≤ 180) (hcr : CfR c) : Ct G l yX12_putRecords wsX12_putRecords ({ frames := 4, cells := 0, slots := 0, locals := 89 }) 0 0 [.ref x, .int (nI q)] Φ sz (fun v Φ1 sz1 => (∃ r9 : Int32, v = some (.int r9)) ∧ sz1 = sz ∧ (∃ (le1 : Nat) (k1 : Nat), (le1 ≤ 600) ∧ (v = some (.int (nI k1))) ∧ (q < k1 ∧ k1 ≤ pe) ∧ (∃ t9 : Int32, (∀ z9 : SN × QN, rcF c ti P q (le, -1, 0, z9) (k1 - q) = (le1, t9, k1 - q, z9)) ∧ (k1 = pe ∨ (c 7).toInt < ((le1 + moN c (P k1) t9 : Nat) : Int))) ∧ Im G x (rd, (NNq c), cr, tp, tt, sI, sT, (PtQ pe P), ql, fl, pe, le1, nx, il, qu, kn, ec, nu, va, st, ep, ti, ad, ob, ra, rt, ex, sa, us, tk, th, me, dr, se, sn) Φ1) ∧ Fr x (fun j9 => j9 = 0 ∨ j9 = 8) Φ Φ1) := by
  refine Ct.of (cc := cX12_putRecords) (maxL := 9) (ret := (some .int)) (by decide) rfl (Nat.le_of_ble_eq_true rfl) ?_
  intro p9 e9 s9 m9 w9 t9 k9 B
  show Z p9 l e9 _ s9 m9 _ w9 t9 k9 _ G 9 0 [(0, .ref x), (1, .int (nI q))] [] Φ sz 0 0
  refine z_iconst (v := (-1)) B dX12_putRecords_0 rfl ?_
  refine z_istore_n (lv' := [(2, .int (-1)), (0, .ref x), (1, .int (nI q))]) B dX12_putRecords_1 rfl (Nat.le_of_ble_eq_true rfl) rfl ?_
  refine z_iload_n B dX12_putRecords_2 rfl 2 rfl ?_
  refine z_istore_n (lv' := [(3, .int (nI q)), (2, .int (-1)), (0, .ref x), (1, .int (nI q))]) B dX12_putRecords_3 rfl (Nat.le_of_ble_eq_true rfl) rfl ?_
  refine z_iconst (v := 1) B dX12_putRecords_4 rfl ?_
  refine z_istore (lv' := [(4, .int 1), (3, .int (nI q)), (2, .int (-1)), (0, .ref x), (1, .int (nI q))]) B dX12_putRecords_5 (Nat.le_of_ble_eq_true rfl) rfl ?_
  refine z_lv [0, 1, 2, 3, 4] rfl ?_
  refine z_loop (α := Int32 × Nat × Int32 × Nat × Int32) (fun (a9 : Int32 × Nat × Int32 × Nat × Int32) Φi => Im G x (rd, (NNq c), cr, tp, tt, sI, sT, (PtQ pe P), ql, fl, pe, a9.2.2.2.1, nx, il, qu, kn, ec, nu, va, st, ep, ti, ad, ob, ra, rt, ex, sa, us, tk, th, me, dr, se, sn) Φi ∧ Fr x (fun j9 => j9 = 0 ∨ j9 = 8) Φ Φi ∧ (a9.2.1 ≤ pe) ∧ (q ≤ a9.2.1) ∧ (a9.2.2.2.1 ≤ 600) ∧ (a9.2.2.1 = (-1) ∨ ∃ s9 : Nat, a9.2.2.1 = nI s9 ∧ s9 + 4 ≤ a9.2.2.2.1) ∧ ((a9.1 = 1 ∧ a9.2.2.1 = (-1) ∧ a9.2.1 = q ∧ a9.2.2.2.1 ≤ 180) ∨ q < a9.2.1) ∧ (∀ z9 : SN × QN, rcF c ti P q (le, -1, 0, z9) (a9.2.1 - q) = (a9.2.2.2.1, a9.2.2.2.2, a9.2.1 - q, z9)) ∧ ((a9.2.2.1 = (-1) ∧ a9.2.2.2.2 = -1) ∨ (¬ a9.2.2.1 = (-1) ∧ a9.2.2.2.2 = nI (P (a9.2.1 - 1)))) ∧ (a9.1 = 1 ∨ (a9.1 = 0 ∧ a9.2.1 < pe ∧ (c 7).toInt < ((a9.2.2.2.1 + moN c (P a9.2.1) a9.2.2.2.2 : Nat) : Int))) ∧ True) (fun a9 => [(4, .int a9.1), (3, .int (nI (a9.2.1))), (2, .int a9.2.2.1), (0, .ref x), (1, .int (nI q))]) (fun a9 => (if a9.1 = 0 then 0 else 1) + 2 * (pe - a9.2.1)) ?_ (1, q, (-1), le, (-1)) ⟨hI, fun _ _ => rfl, (show q ≤ pe by omega), (show q ≤ q by omega), (show le ≤ 600 by omega), (Or.inl rfl), (Or.inl ⟨rfl, rfl, rfl, (show le ≤ 180 by omega)⟩), (fun z9 => by rw [Nat.sub_self]; rfl), (Or.inl ⟨rfl, rfl⟩), (Or.inl rfl), trivial⟩
  rintro ⟨i_1, i_2, i_3, i_4, i_5⟩ Φl1 ⟨hI1, hF1, b_1, b_2, b_3, b_4, b_5, b_6, b_7, b_8, -⟩ ih1
  replace hI1 : Im G x (rd, (NNq c), cr, tp, tt, sI, sT, (PtQ pe P), ql, fl, pe, i_4, nx, il, qu, kn, ec, nu, va, st, ep, ti, ad, ob, ra, rt, ex, sa, us, tk, th, me, dr, se, sn) Φl1 := hI1
  replace b_1 : i_2 ≤ pe := b_1
  replace b_2 : q ≤ i_2 := b_2
  replace b_3 : i_4 ≤ 600 := b_3
  replace b_4 : i_3 = (-1) ∨ ∃ s9 : Nat, i_3 = nI s9 ∧ s9 + 4 ≤ i_4 := b_4
  replace b_5 : (i_1 = 1 ∧ i_3 = (-1) ∧ i_2 = q ∧ i_4 ≤ 180) ∨ q < i_2 := b_5
  replace b_6 : ∀ z9 : SN × QN, rcF c ti P q (le, -1, 0, z9) (i_2 - q) = (i_4, i_5, i_2 - q, z9) := b_6
  replace b_7 : (i_3 = (-1) ∧ i_5 = -1) ∨ (¬ i_3 = (-1) ∧ i_5 = nI (P (i_2 - 1))) := b_7
  replace b_8 : i_1 = 1 ∨ (i_1 = 0 ∧ i_2 < pe ∧ (c 7).toInt < ((i_4 + moN c (P i_2) i_5 : Nat) : Int)) := b_8
  show Z p9 l e9 _ s9 m9 _ w9 t9 k9 _ G 9 7 [(4, .int i_1), (3, .int (nI i_2)), (2, .int i_3), (0, .ref x), (1, .int (nI q))] [] Φl1 _ _ _
  refine z_iload B dX12_putRecords_7 0 rfl ?_
  refine z_if_eq (tgt := 185) B dX12_putRecords_9 rfl (fun c_1 => ?_) (fun c_1 => ?_)
  · have b_9 : q < i_2 := by
      rcases b_5 with ⟨h1, -, h3, -⟩ | h
      · exact absurd (h1.symm.trans c_1) (by decide)
      · exact h
    refine z_iload_n B dX12_putRecords_185 rfl 1 rfl ?_
    exact z_ret_i B dX12_putRecords_186 ⟨⟨_, rfl⟩, rfl, ⟨i_4, i_2, (show i_4 ≤ 600 by omega), rfl, (show q < i_2 ∧ i_2 ≤ pe by omega), ⟨i_5, b_6, Or.inr (Or.resolve_left b_8 (fun h9 => absurd (h9.symm.trans c_1) (by decide))).2.2⟩, hI1⟩, (fun b9 h9 => ((hF1 b9 h9).trans rfl))⟩
  · refine z_iload_n B dX12_putRecords_12 rfl 1 rfl ?_
    refine z_aload_n B dX12_putRecords_13 rfl 3 rfl ?_
    obtain ⟨n_1, v_1, n_2, h_1, b_22, b_10, b_11, b_12, b_13, b_14, b_15, b_16, b_17, b_18, b_19, b_20, b_21⟩ := im0 hI1
    replace b_10 : 1 ≤ rt := b_10
    replace b_11 : rt ≤ 1024 := b_11
    replace b_12 : fl ≤ 12 := b_12
    replace b_13 : pe ≤ 24 := b_13
    replace b_14 : i_4 ≤ 700 := b_14
    replace b_15 : qu ≤ 12 := b_15
    replace b_16 : n_1 ≤ 8 := b_16
    replace b_17 : n_2 ≤ 24 := b_17
    replace b_18 : tk ≤ 24 := b_18
    replace b_19 : il ≤ 700 := b_19
    replace b_20 : nx ≤ 701 := b_20
    replace b_21 : st ≤ 701 := b_21
    have h_2 : Φl1 x = some (o_ 14 [.int th, .ref (x + 1), .ref (x + 2), .int ti, .int ra, .int (nI rt), .int ex, .int ad, .ref (x + 3), .ref (x + 4), .int me, .long se, .ref (x + 5), .int (nI fl), .int dr, .long ob, .long sa, .long sn, .long us, .ref (x + 6), .ref (x + 7), .int (nI pe), .ref (x + 8), .int (nI i_4), .ref (x + 9), .ref (x + 10), .int (nI qu), .ref (x + 11), .ref (x + 12), .ref (x + 13), .ref (x + 14), .ref (x + 15), .ref (x + 16), .int (nI n_1), .long v_1, .ref (x + 17), .ref (x + 18), .ref (x + 19), .ref (x + 20), .ref (x + 21), .ref (x + 22), .int (nI n_2), .ref (x + 23), .ref (x + 24), .int (nI tk), .ref (x + 25), .int (nI il), .int (nI nx), .int ec, .int ep, .int kn, .int (nI st), .int nu, .long va]) := h_1
    refine z_get (ref := "FlowExporterModel") (C := RX12) (T := TX12) (N := 54) (ci := 14) (v := .int (nI pe)) B hu_X12_putRecords_X12 rfl 21 (Nat.le_of_ble_eq_true rfl) hv_X12_putRecords_136 rfl h_2 rfl dX12_putRecords_14 ?_
    refine z_icmp_ge (tgt := 185) B dX12_putRecords_17 rfl (fun c_2 => ?_) (fun c_2 => ?_)
    · have e_1 : pe ≤ i_2 := (nI_leI (a := pe) (b := i_2) (by omega) (by omega)).mp c_2
      have b_23 : q < i_2 := by
        rcases b_5 with ⟨h1, -, h3, -⟩ | h
        · omega
        · exact h
      refine z_iload_n B dX12_putRecords_185 rfl 1 rfl ?_
      exact z_ret_i B dX12_putRecords_186 ⟨⟨_, rfl⟩, rfl, ⟨i_4, i_2, (show i_4 ≤ 600 by omega), rfl, (show q < i_2 ∧ i_2 ≤ pe by omega), ⟨i_5, b_6, Or.inl (by omega)⟩, hI1⟩, (fun b9 h9 => ((hF1 b9 h9).trans rfl))⟩
    · have e_2 : ¬ (pe ≤ i_2) := fun h9 => c_2 ((nI_leI (a := pe) (b := i_2) (by omega) (by omega)).mpr h9)
      refine z_aload_n B dX12_putRecords_20 rfl 3 rfl ?_
      refine z_get (ref := "FlowExporterModel") (C := RX12) (T := TX12) (N := 54) (ci := 14) (v := .ref (x + 6)) B hu_X12_putRecords_X12 rfl 19 (Nat.le_of_ble_eq_true rfl) hv_X12_putRecords_30 rfl h_2 rfl dX12_putRecords_21 ?_
      refine z_iload_n B dX12_putRecords_24 rfl 1 rfl ?_
      obtain ⟨f_1, h_3, r_1, r_2⟩ := imk (k := 6) hI1
      replace r_2 : (PtQ pe P) f_1 := r_2
      replace r_1 : Rw 3 f_1 := r_1
      have h_4 : Φl1 (x + 6) = some (ai_ G 24 f_1) := h_3
      refine z_iald B h_4 (vp_in_nI (by omega) (by omega)) dX12_putRecords_25 ?_
      have b_24 : P i_2 < 4 := (r_2 i_2 (by omega)).2
      refine z_top (st1 := [.int (nI (P i_2))]) (congrArg (fun w9 : Int32 => ([.int w9] : List Value)) ((congrArg f_1 (nI_clamp (by omega))).trans (r_2 i_2 (by omega)).1)) ?_
      refine z_istore (lv' := [(5, .int (nI (P i_2))), (4, .int i_1), (3, .int (nI i_2)), (2, .int i_3), (0, .ref x), (1, .int (nI q))]) B dX12_putRecords_26 (Nat.le_of_ble_eq_true rfl) rfl ?_
      refine z_iload_n B dX12_putRecords_28 rfl 3 rfl ?_
      refine z_iconst (v := (-1)) B dX12_putRecords_29 rfl ?_
      refine z_icmp_eq (tgt := 46) B dX12_putRecords_30 rfl (fun c_3 => ?_) (fun c_3 => ?_)
      · refine z_iconst (v := 1) B dX12_putRecords_46 rfl ?_
        refine z_goto (tgt := 51) B dX12_putRecords_47 rfl ?_
        refine z_istore (lv' := [(6, .int 1), (5, .int (nI (P i_2))), (4, .int i_1), (3, .int (nI i_2)), (2, .int i_3), (0, .ref x), (1, .int (nI q))]) B dX12_putRecords_51 (Nat.le_of_ble_eq_true rfl) rfl ?_
        refine z_aload_n B dX12_putRecords_53 rfl 5 rfl ?_
        refine z_iload B dX12_putRecords_54 1 rfl ?_
        refine z_callV (As := [.int (nI (P i_2))]) (rest := []) B (r_recordLengthOfC G l Φl1 sz x rd cr tp tt sI sT (PtQ pe P) ql fl pe i_4 nx il qu kn ec nu va st ep ti ad ob ra rt ex sa us tk th me dr se sn c (P i_2) hx hI1 (show (P i_2) < 4 by omega)) (cwV 1 B.1.2.2.2.2 gX12_putRecords_X12_recordLengthOf rfl rfl rfl (by decide +kernel) ⟨Nat.le_of_ble_eq_true rfl, Nat.le_of_ble_eq_true rfl⟩) h_2 rfl rfl rfl rfl (Nat.le_of_ble_eq_true rfl) dX12_putRecords_56 ⟨Nat.le_of_ble_eq_true rfl, Nat.le_of_ble_eq_true rfl⟩ (fun r_3 Φ1 sz1 st1 hp1 hs1 => ?_)
        obtain ⟨rfl, hq1, hI2, hF2⟩ := hp1
        subst sz1
        replace hs1 : st1 = [.int (nI (lenR (tfF c (P i_2) &&& c 9) 9))] := hs1
        subst st1
        replace hI2 : Im G x (rd, (NNq c), cr, tp, tt, sI, sT, (PtQ pe P), ql, fl, pe, i_4, nx, il, qu, kn, ec, nu, va, st, ep, ti, ad, ob, ra, rt, ex, sa, us, tk, th, me, dr, se, sn) Φ1 := hI2
        refine z_istore (lv' := [(7, .int (nI (lenR (tfF c (P i_2) &&& c 9) 9))), (6, .int 1), (5, .int (nI (P i_2))), (4, .int i_1), (3, .int (nI i_2)), (2, .int i_3), (0, .ref x), (1, .int (nI q))]) B dX12_putRecords_59 (Nat.le_of_ble_eq_true rfl) rfl ?_
        refine z_aload_n B dX12_putRecords_61 rfl 6 rfl ?_
        have h_5 : Φ1 x = some (o_ 14 [.int th, .ref (x + 1), .ref (x + 2), .int ti, .int ra, .int (nI rt), .int ex, .int ad, .ref (x + 3), .ref (x + 4), .int me, .long se, .ref (x + 5), .int (nI fl), .int dr, .long ob, .long sa, .long sn, .long us, .ref (x + 6), .ref (x + 7), .int (nI pe), .ref (x + 8), .int (nI i_4), .ref (x + 9), .ref (x + 10), .int (nI qu), .ref (x + 11), .ref (x + 12), .ref (x + 13), .ref (x + 14), .ref (x + 15), .ref (x + 16), .int (nI n_1), .long v_1, .ref (x + 17), .ref (x + 18), .ref (x + 19), .ref (x + 20), .ref (x + 21), .ref (x + 22), .int (nI n_2), .ref (x + 23), .ref (x + 24), .int (nI tk), .ref (x + 25), .int (nI il), .int (nI nx), .int ec, .int ep, .int kn, .int (nI st), .int nu, .long va]) := ((hF2 x (fun j9 h8 h7 => (show False from h7).elim)).trans h_2)
        refine z_get (ref := "FlowExporterModel") (C := RX12) (T := TX12) (N := 54) (ci := 14) (v := .int (nI i_4)) B hu_X12_putRecords_X12 rfl 23 (Nat.le_of_ble_eq_true rfl) hv_X12_putRecords_280 rfl h_5 rfl dX12_putRecords_62 ?_
        refine z_iload B dX12_putRecords_65 0 rfl ?_
        refine z_iadd B dX12_putRecords_67 ?_
        refine z_top (st1 := [.int (nI (i_4 + lenR (tfF c (P i_2) &&& c 9) 9))]) (congrArg (fun w9 : Int32 => ([.int w9] : List Value)) (nI_add i_4 (lenR (tfF c (P i_2) &&& c 9) 9))) ?_
        refine z_iload B dX12_putRecords_68 1 rfl ?_
        refine z_if_eq (tgt := 77) B dX12_putRecords_70 rfl (fun h9 => absurd h9 (by decide)) (fun c_4 => ?_)
        refine z_iconst (v := 4) B dX12_putRecords_73 rfl ?_
        refine z_goto (tgt := 78) B dX12_putRecords_74 rfl ?_
        refine z_iadd B dX12_putRecords_78 ?_
        refine z_top (st1 := [.int (nI (i_4 + lenR (tfF c (P i_2) &&& c 9) 9 + 4))]) (congrArg (fun w9 : Int32 => ([.int w9] : List Value)) (nI_add (i_4 + lenR (tfF c (P i_2) &&& c 9) 9) 4)) ?_
        refine z_aload_n B dX12_putRecords_79 rfl 6 rfl ?_
        refine z_get (ref := "FlowExporterModel") (C := RX12) (T := TX12) (N := 54) (ci := 14) (v := .ref (x + 2)) B hu_X12_putRecords_X12 rfl 2 (Nat.le_of_ble_eq_true rfl) hv_X12_putRecords_17 rfl h_5 rfl dX12_putRecords_80 ?_
        refine z_bipush (v := 7) B dX12_putRecords_83 rfl ?_
        obtain ⟨f_2, h_6, r_4⟩ := imk (k := 2) hI2
        replace r_4 : (NNq c) f_2 := r_4
        have r_5 : NN f_2 := r_4.1
        have h_7 : Φ1 (x + 2) = some (ai_ G 307 f_2) := h_6
        refine z_iald B h_7 (vin rfl) dX12_putRecords_85 ?_
        obtain ⟨n_3, b_25, b_26, e_3⟩ := r_5.2.2.2.1
        have e_4 : c 7 = nI n_3 := (r_4.2 7 (by decide)).symm.trans e_3
        refine z_top (st1 := [.int (nI n_3), .int (nI (i_4 + lenR (tfF c (P i_2) &&& c 9) 9 + 4))]) (congrArg (fun w9 : Int32 => ([.int w9, .int (nI (i_4 + lenR (tfF c (P i_2) &&& c 9) 9 + 4))] : List Value)) (e_3)) ?_
        refine z_icmp_gt (tgt := 93) B dX12_putRecords_86 rfl (fun c_5 => ?_) (fun c_5 => ?_)
        · have e_5 : n_3 < i_4 + lenR (tfF c (P i_2) &&& c 9) 9 + 4 := (nI_ltI (a := n_3) (b := i_4 + lenR (tfF c (P i_2) &&& c 9) 9 + 4) (by omega) (by omega)).mp c_5
          have hW1 : i_5 = -1 := (Or.resolve_right b_7 (fun h9 => h9.1 c_3)).2
          have hm1 : moN c (P i_2) i_5 = lenR (tfF c (P i_2) &&& c 9) 9 + 4 := (moN_n (fun h9 => absurd (congrArg Int32.toInt (hW1.symm.trans h9)) (by rw [nI_toInt (by omega)]; have h8 : (-1 : Int32).toInt = -1 := (by decide); omega))).trans (congrArg (fun w9 : Nat => w9 + 4) (hcr (P i_2) b_24))
          refine z_iconst (v := 0) B dX12_putRecords_93 rfl ?_
          refine z_istore (lv' := [(4, .int 0), (7, .int (nI (lenR (tfF c (P i_2) &&& c 9) 9))), (6, .int 1), (5, .int (nI (P i_2))), (3, .int (nI i_2)), (2, .int i_3), (0, .ref x), (1, .int (nI q))]) B dX12_putRecords_94 (Nat.le_of_ble_eq_true rfl) rfl ?_
          refine z_iload B dX12_putRecords_96 0 rfl ?_
          refine z_if_ne (tgt := 104) B dX12_putRecords_98 rfl (fun h9 => absurd (by decide) h9) (fun c_6 => ?_)
          refine z_goto (tgt := 7) B dX12_putRecords_101 rfl ?_
          refine z_lv [0, 4, 5, 6, 7] rfl ?_
          exact ih1 (0, i_2, i_3, i_4, i_5) Φ1 (by simp only [if_neg c_1]; show (if (0 : Int32) = 0 then 0 else 1) + _ < _; rw [if_pos rfl]; omega) ⟨hI2, (fun b9 h9 => ((hF2 b9 (fun j9 h8 h7 => (show False from h7).elim)).trans ((hF1 b9 h9).trans rfl))), (show i_2 ≤ pe by omega), (show q ≤ i_2 by omega), (show i_4 ≤ 600 by omega), (Or.inl c_3), (Or.inr (Or.elim b_5 (fun hh => by first | exact absurd hh.2.1 c_3 | (exfalso; obtain ⟨h1, h2, h3, h4⟩ := hh; omega)) id)), b_6, b_7, (Or.inr ⟨rfl, by omega, (by rw [hm1, e_4, nI_toInt (by omega)]; omega)⟩), trivial⟩
        · have e_6 : ¬ (n_3 < i_4 + lenR (tfF c (P i_2) &&& c 9) 9 + 4) := fun h9 => c_5 ((nI_ltI (a := n_3) (b := i_4 + lenR (tfF c (P i_2) &&& c 9) 9 + 4) (by omega) (by omega)).mpr h9)
          have hW2 : i_5 = -1 := (Or.resolve_right b_7 (fun h9 => h9.1 c_3)).2
          have hm2 : moN c (P i_2) i_5 = lenR (tfF c (P i_2) &&& c 9) 9 + 4 := (moN_n (fun h9 => absurd (congrArg Int32.toInt (hW2.symm.trans h9)) (by rw [nI_toInt (by omega)]; have h8 : (-1 : Int32).toInt = -1 := (by decide); omega))).trans (congrArg (fun w9 : Nat => w9 + 4) (hcr (P i_2) b_24))
          refine z_iconst (v := 1) B dX12_putRecords_89 rfl ?_
          refine z_goto (tgt := 94) B dX12_putRecords_90 rfl ?_
          refine z_istore (lv' := [(4, .int 1), (7, .int (nI (lenR (tfF c (P i_2) &&& c 9) 9))), (6, .int 1), (5, .int (nI (P i_2))), (3, .int (nI i_2)), (2, .int i_3), (0, .ref x), (1, .int (nI q))]) B dX12_putRecords_94 (Nat.le_of_ble_eq_true rfl) rfl ?_
          refine z_iload B dX12_putRecords_96 0 rfl ?_
          refine z_if_ne (tgt := 104) B dX12_putRecords_98 rfl (fun c_7 => ?_) (fun h9 => absurd h9 (by decide))
          refine z_iload B dX12_putRecords_104 2 rfl ?_
          refine z_if_eq (tgt := 132) B dX12_putRecords_106 rfl (fun h9 => absurd h9 (by decide)) (fun c_8 => ?_)
          refine z_aload_n B dX12_putRecords_109 rfl 6 rfl ?_
          refine z_get (ref := "FlowExporterModel") (C := RX12) (T := TX12) (N := 54) (ci := 14) (v := .int (nI i_4)) B hu_X12_putRecords_X12 rfl 23 (Nat.le_of_ble_eq_true rfl) hv_X12_putRecords_280 rfl h_5 rfl dX12_putRecords_110 ?_
          refine z_istore_n (lv' := [(2, .int (nI i_4)), (4, .int 1), (7, .int (nI (lenR (tfF c (P i_2) &&& c 9) 9))), (6, .int 1), (5, .int (nI (P i_2))), (3, .int (nI i_2)), (0, .ref x), (1, .int (nI q))]) B dX12_putRecords_113 rfl (Nat.le_of_ble_eq_true rfl) rfl ?_
          refine z_aload_n B dX12_putRecords_114 rfl 6 rfl ?_
          refine z_sipush (v := 256) B dX12_putRecords_115 rfl ?_
          refine z_iload B dX12_putRecords_118 4 rfl ?_
          refine z_iadd B dX12_putRecords_120 ?_
          refine z_top (st1 := [.int (nI (256 + P i_2)), .ref x]) (congrArg (fun w9 : Int32 => ([.int w9, .ref x] : List Value)) (nI_add 256 (P i_2))) ?_
          refine z_i2l (v := (nI (256 + P i_2)).toInt64) B dX12_putRecords_121 rfl ?_
          refine z_iconst (v := 2) B dX12_putRecords_122 rfl ?_
          refine z_callV (As := [.long ((nI (256 + P i_2)).toInt64), .int 2]) (rest := []) B (r_put G l Φ1 sz x rd (NNq c) cr tp tt sI sT (PtQ pe P) ql fl pe i_4 nx il qu kn ec nu va st ep ti ad ob ra rt ex sa us tk th me dr se sn ((nI (256 + P i_2)).toInt64) 2 hx hI2 (show 2 ≤ 8 by omega) (show i_4 + 2 ≤ 700 by omega) (fun f9 h9 => h9.1)) (cwV 2 B.1.2.2.2.2 gX12_putRecords_X12_put rfl rfl rfl (by decide +kernel) ⟨Nat.le_of_ble_eq_true rfl, Nat.le_of_ble_eq_true rfl⟩) h_5 rfl rfl rfl rfl (Nat.le_of_ble_eq_true rfl) dX12_putRecords_123 ⟨Nat.le_of_ble_eq_true rfl, Nat.le_of_ble_eq_true rfl⟩ (fun r_6 Φ2 sz2 st2 hp2 hs2 => ?_)
          obtain ⟨rfl, hq2, ⟨n_4, b_27, hI3⟩, hF3⟩ := hp2
          subst sz2
          replace hs2 : st2 = [] := hs2
          subst st2
          replace hI3 : Im G x (rd, (NNq c), cr, tp, tt, sI, sT, (PtQ pe P), ql, fl, pe, n_4, nx, il, qu, kn, ec, nu, va, st, ep, ti, ad, ob, ra, rt, ex, sa, us, tk, th, me, dr, se, sn) Φ2 := hI3
          replace b_27 : n_4 = i_4 + 2 := b_27
          refine z_aload_n B dX12_putRecords_126 rfl 6 rfl ?_
          refine z_lconst (v := 0) B dX12_putRecords_127 rfl ?_
          refine z_iconst (v := 2) B dX12_putRecords_128 rfl ?_
          obtain ⟨n_5, v_2, n_6, h_8, b_40, b_28, b_29, b_30, b_31, b_32, b_33, b_34, b_35, b_36, b_37, b_38, b_39⟩ := im0 hI3
          replace b_28 : 1 ≤ rt := b_28
          replace b_29 : rt ≤ 1024 := b_29
          replace b_30 : fl ≤ 12 := b_30
          replace b_31 : pe ≤ 24 := b_31
          replace b_32 : n_4 ≤ 700 := b_32
          replace b_33 : qu ≤ 12 := b_33
          replace b_34 : n_5 ≤ 8 := b_34
          replace b_35 : n_6 ≤ 24 := b_35
          replace b_36 : tk ≤ 24 := b_36
          replace b_37 : il ≤ 700 := b_37
          replace b_38 : nx ≤ 701 := b_38
          replace b_39 : st ≤ 701 := b_39
          have h_9 : Φ2 x = some (o_ 14 [.int th, .ref (x + 1), .ref (x + 2), .int ti, .int ra, .int (nI rt), .int ex, .int ad, .ref (x + 3), .ref (x + 4), .int me, .long se, .ref (x + 5), .int (nI fl), .int dr, .long ob, .long sa, .long sn, .long us, .ref (x + 6), .ref (x + 7), .int (nI pe), .ref (x + 8), .int (nI n_4), .ref (x + 9), .ref (x + 10), .int (nI qu), .ref (x + 11), .ref (x + 12), .ref (x + 13), .ref (x + 14), .ref (x + 15), .ref (x + 16), .int (nI n_5), .long v_2, .ref (x + 17), .ref (x + 18), .ref (x + 19), .ref (x + 20), .ref (x + 21), .ref (x + 22), .int (nI n_6), .ref (x + 23), .ref (x + 24), .int (nI tk), .ref (x + 25), .int (nI il), .int (nI nx), .int ec, .int ep, .int kn, .int (nI st), .int nu, .long va]) := h_8
          refine z_callV (As := [.long 0, .int 2]) (rest := []) B (r_put G l Φ2 sz x rd (NNq c) cr tp tt sI sT (PtQ pe P) ql fl pe n_4 nx il qu kn ec nu va st ep ti ad ob ra rt ex sa us tk th me dr se sn 0 2 hx hI3 (show 2 ≤ 8 by omega) (show n_4 + 2 ≤ 700 by omega) (fun f9 h9 => h9.1)) (cwV 2 B.1.2.2.2.2 gX12_putRecords_X12_put rfl rfl rfl (by decide +kernel) ⟨Nat.le_of_ble_eq_true rfl, Nat.le_of_ble_eq_true rfl⟩) h_9 rfl rfl rfl rfl (Nat.le_of_ble_eq_true rfl) dX12_putRecords_129 ⟨Nat.le_of_ble_eq_true rfl, Nat.le_of_ble_eq_true rfl⟩ (fun r_7 Φ3 sz3 st3 hp3 hs3 => ?_)
          obtain ⟨rfl, hq3, ⟨n_7, b_41, hI4⟩, hF4⟩ := hp3
          subst sz3
          replace hs3 : st3 = [] := hs3
          subst st3
          replace hI4 : Im G x (rd, (NNq c), cr, tp, tt, sI, sT, (PtQ pe P), ql, fl, pe, n_7, nx, il, qu, kn, ec, nu, va, st, ep, ti, ad, ob, ra, rt, ex, sa, us, tk, th, me, dr, se, sn) Φ3 := hI4
          replace b_41 : n_7 = n_4 + 2 := b_41
          refine z_iconst (v := 0) B dX12_putRecords_132 rfl ?_
          refine z_istore (lv' := [(8, .int 0), (2, .int (nI i_4)), (4, .int 1), (7, .int (nI (lenR (tfF c (P i_2) &&& c 9) 9))), (6, .int 1), (5, .int (nI (P i_2))), (3, .int (nI i_2)), (0, .ref x), (1, .int (nI q))]) B dX12_putRecords_133 (Nat.le_of_ble_eq_true rfl) rfl ?_
          refine z_lv [0, 1, 2, 3, 4, 5, 6, 7, 8] rfl ?_
          refine z_loop (α := Nat × Nat) (fun (a9 : Nat × Nat) Φi => Im G x (rd, (NNq c), cr, tp, tt, sI, sT, (PtQ pe P), ql, fl, pe, a9.2, nx, il, qu, kn, ec, nu, va, st, ep, ti, ad, ob, ra, rt, ex, sa, us, tk, th, me, dr, se, sn) Φi ∧ Fr x (fun j9 => j9 = 0 ∨ j9 = 8) Φ3 Φi ∧ (a9.1 ≤ (lenR (tfF c (P i_2) &&& c 9) 9)) ∧ (a9.2 = n_7 + a9.1) ∧ True) (fun a9 => [(8, .int (nI (a9.1))), (2, .int (nI i_4)), (4, .int 1), (7, .int (nI (lenR (tfF c (P i_2) &&& c 9) 9))), (6, .int 1), (5, .int (nI (P i_2))), (3, .int (nI i_2)), (0, .ref x), (1, .int (nI q))]) (fun a9 => (lenR (tfF c (P i_2) &&& c 9) 9) - a9.1) ?_ (0, n_7) ⟨hI4, fun _ _ => rfl, (show 0 ≤ (lenR (tfF c (P i_2) &&& c 9) 9) by omega), (show n_7 = n_7 + 0 by omega), trivial⟩
          rintro ⟨i_6, i_7⟩ Φl2 ⟨hI5, hF5, b_42, b_43, -⟩ ih2
          replace hI5 : Im G x (rd, (NNq c), cr, tp, tt, sI, sT, (PtQ pe P), ql, fl, pe, i_7, nx, il, qu, kn, ec, nu, va, st, ep, ti, ad, ob, ra, rt, ex, sa, us, tk, th, me, dr, se, sn) Φl2 := hI5
          replace b_42 : i_6 ≤ (lenR (tfF c (P i_2) &&& c 9) 9) := b_42
          replace b_43 : i_7 = n_7 + i_6 := b_43
          show Z p9 l e9 _ s9 m9 _ w9 t9 k9 _ G 9 135 [(8, .int (nI i_6)), (2, .int (nI i_4)), (4, .int 1), (7, .int (nI (lenR (tfF c (P i_2) &&& c 9) 9))), (6, .int 1), (5, .int (nI (P i_2))), (3, .int (nI i_2)), (0, .ref x), (1, .int (nI q))] [] Φl2 _ _ _
          refine z_iload B dX12_putRecords_135 0 rfl ?_
          refine z_iload B dX12_putRecords_137 3 rfl ?_
          refine z_icmp_ge (tgt := 166) B dX12_putRecords_139 rfl (fun c_9 => ?_) (fun c_9 => ?_)
          · have e_7 : lenR (tfF c (P i_2) &&& c 9) 9 ≤ i_6 := (nI_leI (a := lenR (tfF c (P i_2) &&& c 9) 9) (b := i_6) (by omega) (by omega)).mp c_9
            refine z_aload_n B dX12_putRecords_166 rfl 7 rfl ?_
            refine z_iload_n B dX12_putRecords_167 rfl 1 rfl ?_
            refine z_iconst (v := 2) B dX12_putRecords_168 rfl ?_
            refine z_iadd B dX12_putRecords_169 ?_
            refine z_top (st1 := [.int (nI (i_4 + 2)), .ref x]) (congrArg (fun w9 : Int32 => ([.int w9, .ref x] : List Value)) (nI_add i_4 2)) ?_
            refine z_aload_n B dX12_putRecords_170 rfl 7 rfl ?_
            obtain ⟨n_8, v_3, n_9, h_10, b_56, b_44, b_45, b_46, b_47, b_48, b_49, b_50, b_51, b_52, b_53, b_54, b_55⟩ := im0 hI5
            replace b_44 : 1 ≤ rt := b_44
            replace b_45 : rt ≤ 1024 := b_45
            replace b_46 : fl ≤ 12 := b_46
            replace b_47 : pe ≤ 24 := b_47
            replace b_48 : i_7 ≤ 700 := b_48
            replace b_49 : qu ≤ 12 := b_49
            replace b_50 : n_8 ≤ 8 := b_50
            replace b_51 : n_9 ≤ 24 := b_51
            replace b_52 : tk ≤ 24 := b_52
            replace b_53 : il ≤ 700 := b_53
            replace b_54 : nx ≤ 701 := b_54
            replace b_55 : st ≤ 701 := b_55
            have h_11 : Φl2 x = some (o_ 14 [.int th, .ref (x + 1), .ref (x + 2), .int ti, .int ra, .int (nI rt), .int ex, .int ad, .ref (x + 3), .ref (x + 4), .int me, .long se, .ref (x + 5), .int (nI fl), .int dr, .long ob, .long sa, .long sn, .long us, .ref (x + 6), .ref (x + 7), .int (nI pe), .ref (x + 8), .int (nI i_7), .ref (x + 9), .ref (x + 10), .int (nI qu), .ref (x + 11), .ref (x + 12), .ref (x + 13), .ref (x + 14), .ref (x + 15), .ref (x + 16), .int (nI n_8), .long v_3, .ref (x + 17), .ref (x + 18), .ref (x + 19), .ref (x + 20), .ref (x + 21), .ref (x + 22), .int (nI n_9), .ref (x + 23), .ref (x + 24), .int (nI tk), .ref (x + 25), .int (nI il), .int (nI nx), .int ec, .int ep, .int kn, .int (nI st), .int nu, .long va]) := h_10
            refine z_get (ref := "FlowExporterModel") (C := RX12) (T := TX12) (N := 54) (ci := 14) (v := .int (nI i_7)) B hu_X12_putRecords_X12 rfl 23 (Nat.le_of_ble_eq_true rfl) hv_X12_putRecords_280 rfl h_11 rfl dX12_putRecords_171 ?_
            refine z_iload_n B dX12_putRecords_174 rfl 1 rfl ?_
            refine z_isub B dX12_putRecords_175 ?_
            refine z_top (st1 := [.int (nI (i_7 - i_4)), .int (nI (i_4 + 2)), .ref x]) (congrArg (fun w9 : Int32 => ([.int w9, .int (nI (i_4 + 2)), .ref x] : List Value)) (nI_sub (show i_4 ≤ i_7 by omega))) ?_
            refine z_callV (As := [.int (nI (i_4 + 2)), .int (nI (i_7 - i_4))]) (rest := []) B (r_putAt G l Φl2 sz x rd (NNq c) cr tp tt sI sT (PtQ pe P) ql fl pe i_7 nx il qu kn ec nu va st ep ti ad ob ra rt ex sa us tk th me dr se sn (i_4 + 2) (i_7 - i_4) hx hI5 (show (i_4 + 2) + 1 < 700 by omega) (show (i_7 - i_4) ≤ 700 by omega) (fun f9 h9 => h9.1)) (cwV 2 B.1.2.2.2.2 gX12_putRecords_X12_putAt rfl rfl rfl (by decide +kernel) ⟨Nat.le_of_ble_eq_true rfl, Nat.le_of_ble_eq_true rfl⟩) h_11 rfl rfl rfl rfl (Nat.le_of_ble_eq_true rfl) dX12_putRecords_176 ⟨Nat.le_of_ble_eq_true rfl, Nat.le_of_ble_eq_true rfl⟩ (fun r_8 Φ4 sz4 st4 hp4 hs4 => ?_)
            obtain ⟨rfl, hq4, hI6, hF6⟩ := hp4
            subst sz4
            replace hs4 : st4 = [] := hs4
            subst st4
            replace hI6 : Im G x (rd, (NNq c), cr, tp, tt, sI, sT, (PtQ pe P), ql, fl, pe, i_7, nx, il, qu, kn, ec, nu, va, st, ep, ti, ad, ob, ra, rt, ex, sa, us, tk, th, me, dr, se, sn) Φ4 := hI6
            refine z_iinc (k := 6) (v := nI (i_2 + 1)) (lv' := [(3, .int (nI (i_2 + 1))), (8, .int (nI i_6)), (2, .int (nI i_4)), (4, .int 1), (7, .int (nI (lenR (tfF c (P i_2) &&& c 9) 9))), (6, .int 1), (5, .int (nI (P i_2))), (0, .ref x), (1, .int (nI q))]) B dX12_putRecords_179 rfl (nI_add i_2 1) (Nat.le_of_ble_eq_true rfl) rfl ?_
            refine z_goto (tgt := 7) B dX12_putRecords_182 rfl ?_
            refine z_lv [3, 0, 2, 7, 8] rfl ?_
            exact ih1 (1, i_2 + 1, nI i_4, i_7, nI (P i_2)) Φ4 (by simp only [if_neg c_1]; show (if (1 : Int32) = 0 then 0 else 1) + _ < _; rw [if_neg (by decide)]; omega) ⟨hI6, (fun b9 h9 => ((hF6 b9 (fun j9 h8 h7 => h9 j9 h8 (fq_967 j9 h7))).trans ((hF5 b9 h9).trans ((hF4 b9 h9).trans ((hF3 b9 h9).trans ((hF2 b9 (fun j9 h8 h7 => (show False from h7).elim)).trans ((hF1 b9 h9).trans rfl))))))), (show (i_2 + 1) ≤ pe by omega), (show q ≤ (i_2 + 1) by omega), (show i_7 ≤ 600 by omega), (Or.inr ⟨i_4, rfl, (show i_4 + 4 ≤ i_7 by omega)⟩), (Or.inr (show q < i_2 + 1 by omega)), (fun z9 => rcF_s (b_6 z9) (show ¬ (c 7).toInt < ((i_4 + moN c (P i_2) i_5 : Nat) : Int) by rw [hm2, e_4, nI_toInt (by omega)]; omega) (by omega) (by omega) (by omega) (by omega)), (Or.inr ⟨(fun h9 => absurd (congrArg Int32.toInt h9) (by rw [nI_toInt (by omega)]; have h8 : (-1 : Int32).toInt = -1 := (by decide); omega)), congrArg (fun w9 : Nat => nI (P w9)) (show i_2 = i_2 + 1 - 1 by omega)⟩), (Or.inl rfl), trivial⟩
          · have e_8 : ¬ (lenR (tfF c (P i_2) &&& c 9) 9 ≤ i_6) := fun h9 => c_9 ((nI_leI (a := lenR (tfF c (P i_2) &&& c 9) 9) (b := i_6) (by omega) (by omega)).mpr h9)
            refine z_aload_n B dX12_putRecords_142 rfl 7 rfl ?_
            refine z_aload_n B dX12_putRecords_143 rfl 7 rfl ?_
            obtain ⟨n_10, v_4, n_11, h_12, b_69, b_57, b_58, b_59, b_60, b_61, b_62, b_63, b_64, b_65, b_66, b_67, b_68⟩ := im0 hI5
            replace b_57 : 1 ≤ rt := b_57
            replace b_58 : rt ≤ 1024 := b_58
            replace b_59 : fl ≤ 12 := b_59
            replace b_60 : pe ≤ 24 := b_60
            replace b_61 : i_7 ≤ 700 := b_61
            replace b_62 : qu ≤ 12 := b_62
            replace b_63 : n_10 ≤ 8 := b_63
            replace b_64 : n_11 ≤ 24 := b_64
            replace b_65 : tk ≤ 24 := b_65
            replace b_66 : il ≤ 700 := b_66
            replace b_67 : nx ≤ 701 := b_67
            replace b_68 : st ≤ 701 := b_68
            have h_13 : Φl2 x = some (o_ 14 [.int th, .ref (x + 1), .ref (x + 2), .int ti, .int ra, .int (nI rt), .int ex, .int ad, .ref (x + 3), .ref (x + 4), .int me, .long se, .ref (x + 5), .int (nI fl), .int dr, .long ob, .long sa, .long sn, .long us, .ref (x + 6), .ref (x + 7), .int (nI pe), .ref (x + 8), .int (nI i_7), .ref (x + 9), .ref (x + 10), .int (nI qu), .ref (x + 11), .ref (x + 12), .ref (x + 13), .ref (x + 14), .ref (x + 15), .ref (x + 16), .int (nI n_10), .long v_4, .ref (x + 17), .ref (x + 18), .ref (x + 19), .ref (x + 20), .ref (x + 21), .ref (x + 22), .int (nI n_11), .ref (x + 23), .ref (x + 24), .int (nI tk), .ref (x + 25), .int (nI il), .int (nI nx), .int ec, .int ep, .int kn, .int (nI st), .int nu, .long va]) := h_12
            refine z_get (ref := "FlowExporterModel") (C := RX12) (T := TX12) (N := 54) (ci := 14) (v := .ref (x + 7)) B hu_X12_putRecords_X12 rfl 20 (Nat.le_of_ble_eq_true rfl) hv_X12_putRecords_33 rfl h_13 rfl dX12_putRecords_144 ?_
            refine z_bipush (v := 30) B dX12_putRecords_147 rfl ?_
            refine z_iload_n B dX12_putRecords_149 rfl 6 rfl ?_
            refine z_imul B dX12_putRecords_150 ?_
            refine z_top (st1 := [.int (nI (30 * i_2)), .ref (x + 7), .ref x]) (congrArg (fun w9 : Int32 => ([.int w9, .ref (x + 7), .ref x] : List Value)) (nI_mul 30 i_2)) ?_
            refine z_iload B dX12_putRecords_151 0 rfl ?_
            refine z_iadd B dX12_putRecords_153 ?_
            refine z_top (st1 := [.int (nI (30 * i_2 + i_6)), .ref (x + 7), .ref x]) (congrArg (fun w9 : Int32 => ([.int w9, .ref (x + 7), .ref x] : List Value)) (nI_add (30 * i_2) i_6)) ?_
            obtain ⟨f_3, h_14⟩ := imk (k := 7) hI5
            have h_15 : Φl2 (x + 7) = some (ai_ G 720 f_3) := h_14
            refine z_iald B h_15 (vp_in_nI (by omega) (by omega)) dX12_putRecords_154 ?_
            refine z_fi (fun v_5 => ?_)
            refine z_i2l (v := v_5.toInt64) B dX12_putRecords_155 rfl ?_
            refine z_iconst (v := 1) B dX12_putRecords_156 rfl ?_
            refine z_callV (As := [.long v_5.toInt64, .int 1]) (rest := []) B (r_put G l Φl2 sz x rd (NNq c) cr tp tt sI sT (PtQ pe P) ql fl pe i_7 nx il qu kn ec nu va st ep ti ad ob ra rt ex sa us tk th me dr se sn v_5.toInt64 1 hx hI5 (show 1 ≤ 8 by omega) (show i_7 + 1 ≤ 700 by omega) (fun f9 h9 => h9.1)) (cwV 2 B.1.2.2.2.2 gX12_putRecords_X12_put rfl rfl rfl (by decide +kernel) ⟨Nat.le_of_ble_eq_true rfl, Nat.le_of_ble_eq_true rfl⟩) h_13 rfl rfl rfl rfl (Nat.le_of_ble_eq_true rfl) dX12_putRecords_157 ⟨Nat.le_of_ble_eq_true rfl, Nat.le_of_ble_eq_true rfl⟩ (fun r_10 Φ5 sz5 st5 hp5 hs5 => ?_)
            obtain ⟨rfl, hq5, ⟨n_12, b_70, hI7⟩, hF7⟩ := hp5
            subst sz5
            replace hs5 : st5 = [] := hs5
            subst st5
            replace hI7 : Im G x (rd, (NNq c), cr, tp, tt, sI, sT, (PtQ pe P), ql, fl, pe, n_12, nx, il, qu, kn, ec, nu, va, st, ep, ti, ad, ob, ra, rt, ex, sa, us, tk, th, me, dr, se, sn) Φ5 := hI7
            replace b_70 : n_12 = i_7 + 1 := b_70
            refine z_iinc (k := 0) (v := nI (i_6 + 1)) (lv' := [(8, .int (nI (i_6 + 1))), (2, .int (nI i_4)), (4, .int 1), (7, .int (nI (lenR (tfF c (P i_2) &&& c 9) 9))), (6, .int 1), (5, .int (nI (P i_2))), (3, .int (nI i_2)), (0, .ref x), (1, .int (nI q))]) B dX12_putRecords_160 rfl (nI_add i_6 1) (Nat.le_of_ble_eq_true rfl) rfl ?_
            refine z_goto (tgt := 135) B dX12_putRecords_163 rfl ?_
            refine z_lv [0, 1, 2, 3, 4, 5, 6, 7, 8] rfl ?_
            exact ih2 (i_6 + 1, n_12) Φ5 (show (lenR (tfF c (P i_2) &&& c 9) 9) - (i_6 + 1) < (lenR (tfF c (P i_2) &&& c 9) 9) - i_6 by omega) ⟨hI7, (fun b9 h9 => ((hF7 b9 h9).trans ((hF5 b9 h9).trans rfl))), (show (i_6 + 1) ≤ (lenR (tfF c (P i_2) &&& c 9) 9) by omega), (show n_12 = n_7 + (i_6 + 1) by omega), trivial⟩
      · have b_72 : q < i_2 := by
          rcases b_5 with ⟨-, h2, -, -⟩ | h
          · exact absurd h2 c_3
          · exact h
        obtain ⟨n_13, rfl, b_71⟩ := Or.resolve_left b_4 c_3
        refine z_iload B dX12_putRecords_33 0 rfl ?_
        refine z_aload_n B dX12_putRecords_35 rfl 4 rfl ?_
        refine z_get (ref := "FlowExporterModel") (C := RX12) (T := TX12) (N := 54) (ci := 14) (v := .ref (x + 6)) B hu_X12_putRecords_X12 rfl 19 (Nat.le_of_ble_eq_true rfl) hv_X12_putRecords_30 rfl h_2 rfl dX12_putRecords_36 ?_
        refine z_iload_n B dX12_putRecords_39 rfl 2 rfl ?_
        refine z_iconst (v := 1) B dX12_putRecords_40 rfl ?_
        refine z_isub B dX12_putRecords_41 ?_
        refine z_top (st1 := [.int (nI (i_2 - 1)), .ref (x + 6), .int (nI (P i_2))]) (congrArg (fun w9 : Int32 => ([.int w9, .ref (x + 6), .int (nI (P i_2))] : List Value)) (nI_sub (show 1 ≤ i_2 by omega))) ?_
        refine z_iald B h_4 (vp_in_nI (by omega) (by omega)) dX12_putRecords_42 ?_
        have b_73 : P (i_2 - 1) < 4 := (r_2 (i_2 - 1) (by omega)).2
        refine z_top (st1 := [.int (nI (P (i_2 - 1))), .int (nI (P i_2))]) (congrArg (fun w9 : Int32 => ([.int w9, .int (nI (P i_2))] : List Value)) ((congrArg f_1 (nI_clamp (by omega))).trans (r_2 (i_2 - 1) (by omega)).1)) ?_
        refine z_icmp_eq (tgt := 50) B dX12_putRecords_43 rfl (fun c_10 => ?_) (fun c_10 => ?_)
        · have e_9 : P i_2 = P (i_2 - 1) := (nI_eq (a := P i_2) (b := P (i_2 - 1)) (by omega) (by omega)).mp c_10
          refine z_iconst (v := 0) B dX12_putRecords_50 rfl ?_
          refine z_istore (lv' := [(6, .int 0), (5, .int (nI (P i_2))), (4, .int i_1), (3, .int (nI i_2)), (2, .int (nI n_13)), (0, .ref x), (1, .int (nI q))]) B dX12_putRecords_51 (Nat.le_of_ble_eq_true rfl) rfl ?_
          refine z_aload_n B dX12_putRecords_53 rfl 5 rfl ?_
          refine z_iload B dX12_putRecords_54 1 rfl ?_
          refine z_callV (As := [.int (nI (P i_2))]) (rest := []) B (r_recordLengthOfC G l Φl1 sz x rd cr tp tt sI sT (PtQ pe P) ql fl pe i_4 nx il qu kn ec nu va st ep ti ad ob ra rt ex sa us tk th me dr se sn c (P i_2) hx hI1 (show (P i_2) < 4 by omega)) (cwV 1 B.1.2.2.2.2 gX12_putRecords_X12_recordLengthOf rfl rfl rfl (by decide +kernel) ⟨Nat.le_of_ble_eq_true rfl, Nat.le_of_ble_eq_true rfl⟩) h_2 rfl rfl rfl rfl (Nat.le_of_ble_eq_true rfl) dX12_putRecords_56 ⟨Nat.le_of_ble_eq_true rfl, Nat.le_of_ble_eq_true rfl⟩ (fun r_11 Φ6 sz6 st6 hp6 hs6 => ?_)
          obtain ⟨rfl, hq6, hI8, hF8⟩ := hp6
          subst sz6
          replace hs6 : st6 = [.int (nI (lenR (tfF c (P i_2) &&& c 9) 9))] := hs6
          subst st6
          replace hI8 : Im G x (rd, (NNq c), cr, tp, tt, sI, sT, (PtQ pe P), ql, fl, pe, i_4, nx, il, qu, kn, ec, nu, va, st, ep, ti, ad, ob, ra, rt, ex, sa, us, tk, th, me, dr, se, sn) Φ6 := hI8
          refine z_istore (lv' := [(7, .int (nI (lenR (tfF c (P i_2) &&& c 9) 9))), (6, .int 0), (5, .int (nI (P i_2))), (4, .int i_1), (3, .int (nI i_2)), (2, .int (nI n_13)), (0, .ref x), (1, .int (nI q))]) B dX12_putRecords_59 (Nat.le_of_ble_eq_true rfl) rfl ?_
          refine z_aload_n B dX12_putRecords_61 rfl 6 rfl ?_
          have h_16 : Φ6 x = some (o_ 14 [.int th, .ref (x + 1), .ref (x + 2), .int ti, .int ra, .int (nI rt), .int ex, .int ad, .ref (x + 3), .ref (x + 4), .int me, .long se, .ref (x + 5), .int (nI fl), .int dr, .long ob, .long sa, .long sn, .long us, .ref (x + 6), .ref (x + 7), .int (nI pe), .ref (x + 8), .int (nI i_4), .ref (x + 9), .ref (x + 10), .int (nI qu), .ref (x + 11), .ref (x + 12), .ref (x + 13), .ref (x + 14), .ref (x + 15), .ref (x + 16), .int (nI n_1), .long v_1, .ref (x + 17), .ref (x + 18), .ref (x + 19), .ref (x + 20), .ref (x + 21), .ref (x + 22), .int (nI n_2), .ref (x + 23), .ref (x + 24), .int (nI tk), .ref (x + 25), .int (nI il), .int (nI nx), .int ec, .int ep, .int kn, .int (nI st), .int nu, .long va]) := ((hF8 x (fun j9 h8 h7 => (show False from h7).elim)).trans h_2)
          refine z_get (ref := "FlowExporterModel") (C := RX12) (T := TX12) (N := 54) (ci := 14) (v := .int (nI i_4)) B hu_X12_putRecords_X12 rfl 23 (Nat.le_of_ble_eq_true rfl) hv_X12_putRecords_280 rfl h_16 rfl dX12_putRecords_62 ?_
          refine z_iload B dX12_putRecords_65 0 rfl ?_
          refine z_iadd B dX12_putRecords_67 ?_
          refine z_top (st1 := [.int (nI (i_4 + lenR (tfF c (P i_2) &&& c 9) 9))]) (congrArg (fun w9 : Int32 => ([.int w9] : List Value)) (nI_add i_4 (lenR (tfF c (P i_2) &&& c 9) 9))) ?_
          refine z_iload B dX12_putRecords_68 1 rfl ?_
          refine z_if_eq (tgt := 77) B dX12_putRecords_70 rfl (fun c_11 => ?_) (fun h9 => absurd (by decide) h9)
          refine z_iconst (v := 0) B dX12_putRecords_77 rfl ?_
          refine z_iadd B dX12_putRecords_78 ?_
          refine z_top (st1 := [.int (nI (i_4 + lenR (tfF c (P i_2) &&& c 9) 9 + 0))]) (congrArg (fun w9 : Int32 => ([.int w9] : List Value)) (nI_add (i_4 + lenR (tfF c (P i_2) &&& c 9) 9) 0)) ?_
          refine z_aload_n B dX12_putRecords_79 rfl 6 rfl ?_
          refine z_get (ref := "FlowExporterModel") (C := RX12) (T := TX12) (N := 54) (ci := 14) (v := .ref (x + 2)) B hu_X12_putRecords_X12 rfl 2 (Nat.le_of_ble_eq_true rfl) hv_X12_putRecords_17 rfl h_16 rfl dX12_putRecords_80 ?_
          refine z_bipush (v := 7) B dX12_putRecords_83 rfl ?_
          obtain ⟨f_4, h_17, r_12⟩ := imk (k := 2) hI8
          replace r_12 : (NNq c) f_4 := r_12
          have r_13 : NN f_4 := r_12.1
          have h_18 : Φ6 (x + 2) = some (ai_ G 307 f_4) := h_17
          refine z_iald B h_18 (vin rfl) dX12_putRecords_85 ?_
          obtain ⟨n_14, b_74, b_75, e_10⟩ := r_13.2.2.2.1
          have e_11 : c 7 = nI n_14 := (r_12.2 7 (by decide)).symm.trans e_10
          refine z_top (st1 := [.int (nI n_14), .int (nI (i_4 + lenR (tfF c (P i_2) &&& c 9) 9 + 0))]) (congrArg (fun w9 : Int32 => ([.int w9, .int (nI (i_4 + lenR (tfF c (P i_2) &&& c 9) 9 + 0))] : List Value)) (e_10)) ?_
          refine z_icmp_gt (tgt := 93) B dX12_putRecords_86 rfl (fun c_12 => ?_) (fun c_12 => ?_)
          · have e_12 : n_14 < i_4 + lenR (tfF c (P i_2) &&& c 9) 9 + 0 := (nI_ltI (a := n_14) (b := i_4 + lenR (tfF c (P i_2) &&& c 9) 9 + 0) (by omega) (by omega)).mp c_12
            have hW3 : i_5 = nI (P (i_2 - 1)) := (Or.resolve_left b_7 (fun h9 => c_3 h9.1)).2
            have hm3 : moN c (P i_2) i_5 = lenR (tfF c (P i_2) &&& c 9) 9 := (moN_y (hW3.trans c_10.symm)).trans (congrArg (fun w9 : Nat => w9) (hcr (P i_2) b_24))
            refine z_iconst (v := 0) B dX12_putRecords_93 rfl ?_
            refine z_istore (lv' := [(4, .int 0), (7, .int (nI (lenR (tfF c (P i_2) &&& c 9) 9))), (6, .int 0), (5, .int (nI (P i_2))), (3, .int (nI i_2)), (2, .int (nI n_13)), (0, .ref x), (1, .int (nI q))]) B dX12_putRecords_94 (Nat.le_of_ble_eq_true rfl) rfl ?_
            refine z_iload B dX12_putRecords_96 0 rfl ?_
            refine z_if_ne (tgt := 104) B dX12_putRecords_98 rfl (fun h9 => absurd (by decide) h9) (fun c_13 => ?_)
            refine z_goto (tgt := 7) B dX12_putRecords_101 rfl ?_
            refine z_lv [0, 4, 5, 6, 7] rfl ?_
            exact ih1 (0, i_2, nI n_13, i_4, i_5) Φ6 (by simp only [if_neg c_1]; show (if (0 : Int32) = 0 then 0 else 1) + _ < _; rw [if_pos rfl]; omega) ⟨hI8, (fun b9 h9 => ((hF8 b9 (fun j9 h8 h7 => (show False from h7).elim)).trans ((hF1 b9 h9).trans rfl))), (show i_2 ≤ pe by omega), (show q ≤ i_2 by omega), (show i_4 ≤ 600 by omega), (Or.inr ⟨n_13, rfl, (show n_13 + 4 ≤ i_4 by omega)⟩), (Or.inr (Or.elim b_5 (fun hh => by first | exact absurd hh.2.1 c_3 | (exfalso; obtain ⟨h1, h2, h3, h4⟩ := hh; omega)) id)), b_6, b_7, (Or.inr ⟨rfl, by omega, (by rw [hm3, e_11, nI_toInt (by omega)]; omega)⟩), trivial⟩
          · have e_13 : ¬ (n_14 < i_4 + lenR (tfF c (P i_2) &&& c 9) 9 + 0) := fun h9 => c_12 ((nI_ltI (a := n_14) (b := i_4 + lenR (tfF c (P i_2) &&& c 9) 9 + 0) (by omega) (by omega)).mpr h9)
            have hW4 : i_5 = nI (P (i_2 - 1)) := (Or.resolve_left b_7 (fun h9 => c_3 h9.1)).2
            have hm4 : moN c (P i_2) i_5 = lenR (tfF c (P i_2) &&& c 9) 9 := (moN_y (hW4.trans c_10.symm)).trans (congrArg (fun w9 : Nat => w9) (hcr (P i_2) b_24))
            refine z_iconst (v := 1) B dX12_putRecords_89 rfl ?_
            refine z_goto (tgt := 94) B dX12_putRecords_90 rfl ?_
            refine z_istore (lv' := [(4, .int 1), (7, .int (nI (lenR (tfF c (P i_2) &&& c 9) 9))), (6, .int 0), (5, .int (nI (P i_2))), (3, .int (nI i_2)), (2, .int (nI n_13)), (0, .ref x), (1, .int (nI q))]) B dX12_putRecords_94 (Nat.le_of_ble_eq_true rfl) rfl ?_
            refine z_iload B dX12_putRecords_96 0 rfl ?_
            refine z_if_ne (tgt := 104) B dX12_putRecords_98 rfl (fun c_14 => ?_) (fun h9 => absurd h9 (by decide))
            refine z_iload B dX12_putRecords_104 2 rfl ?_
            refine z_if_eq (tgt := 132) B dX12_putRecords_106 rfl (fun c_15 => ?_) (fun h9 => absurd (by decide) h9)
            refine z_iconst (v := 0) B dX12_putRecords_132 rfl ?_
            refine z_istore (lv' := [(8, .int 0), (4, .int 1), (7, .int (nI (lenR (tfF c (P i_2) &&& c 9) 9))), (6, .int 0), (5, .int (nI (P i_2))), (3, .int (nI i_2)), (2, .int (nI n_13)), (0, .ref x), (1, .int (nI q))]) B dX12_putRecords_133 (Nat.le_of_ble_eq_true rfl) rfl ?_
            refine z_lv [0, 1, 2, 3, 4, 5, 6, 7, 8] rfl ?_
            refine z_loop (α := Nat × Nat) (fun (a9 : Nat × Nat) Φi => Im G x (rd, (NNq c), cr, tp, tt, sI, sT, (PtQ pe P), ql, fl, pe, a9.2, nx, il, qu, kn, ec, nu, va, st, ep, ti, ad, ob, ra, rt, ex, sa, us, tk, th, me, dr, se, sn) Φi ∧ Fr x (fun j9 => j9 = 0 ∨ j9 = 8) Φ6 Φi ∧ (a9.1 ≤ (lenR (tfF c (P i_2) &&& c 9) 9)) ∧ (a9.2 = i_4 + a9.1) ∧ True) (fun a9 => [(8, .int (nI (a9.1))), (4, .int 1), (7, .int (nI (lenR (tfF c (P i_2) &&& c 9) 9))), (6, .int 0), (5, .int (nI (P i_2))), (3, .int (nI i_2)), (2, .int (nI n_13)), (0, .ref x), (1, .int (nI q))]) (fun a9 => (lenR (tfF c (P i_2) &&& c 9) 9) - a9.1) ?_ (0, i_4) ⟨hI8, fun _ _ => rfl, (show 0 ≤ (lenR (tfF c (P i_2) &&& c 9) 9) by omega), (show i_4 = i_4 + 0 by omega), trivial⟩
            rintro ⟨i_8, i_9⟩ Φl3 ⟨hI9, hF9, b_76, b_77, -⟩ ih3
            replace hI9 : Im G x (rd, (NNq c), cr, tp, tt, sI, sT, (PtQ pe P), ql, fl, pe, i_9, nx, il, qu, kn, ec, nu, va, st, ep, ti, ad, ob, ra, rt, ex, sa, us, tk, th, me, dr, se, sn) Φl3 := hI9
            replace b_76 : i_8 ≤ (lenR (tfF c (P i_2) &&& c 9) 9) := b_76
            replace b_77 : i_9 = i_4 + i_8 := b_77
            show Z p9 l e9 _ s9 m9 _ w9 t9 k9 _ G 9 135 [(8, .int (nI i_8)), (4, .int 1), (7, .int (nI (lenR (tfF c (P i_2) &&& c 9) 9))), (6, .int 0), (5, .int (nI (P i_2))), (3, .int (nI i_2)), (2, .int (nI n_13)), (0, .ref x), (1, .int (nI q))] [] Φl3 _ _ _
            refine z_iload B dX12_putRecords_135 0 rfl ?_
            refine z_iload B dX12_putRecords_137 2 rfl ?_
            refine z_icmp_ge (tgt := 166) B dX12_putRecords_139 rfl (fun c_16 => ?_) (fun c_16 => ?_)
            · have e_14 : lenR (tfF c (P i_2) &&& c 9) 9 ≤ i_8 := (nI_leI (a := lenR (tfF c (P i_2) &&& c 9) 9) (b := i_8) (by omega) (by omega)).mp c_16
              refine z_aload_n B dX12_putRecords_166 rfl 7 rfl ?_
              refine z_iload_n B dX12_putRecords_167 rfl 6 rfl ?_
              refine z_iconst (v := 2) B dX12_putRecords_168 rfl ?_
              refine z_iadd B dX12_putRecords_169 ?_
              refine z_top (st1 := [.int (nI (n_13 + 2)), .ref x]) (congrArg (fun w9 : Int32 => ([.int w9, .ref x] : List Value)) (nI_add n_13 2)) ?_
              refine z_aload_n B dX12_putRecords_170 rfl 7 rfl ?_
              obtain ⟨n_15, v_6, n_16, h_19, b_90, b_78, b_79, b_80, b_81, b_82, b_83, b_84, b_85, b_86, b_87, b_88, b_89⟩ := im0 hI9
              replace b_78 : 1 ≤ rt := b_78
              replace b_79 : rt ≤ 1024 := b_79
              replace b_80 : fl ≤ 12 := b_80
              replace b_81 : pe ≤ 24 := b_81
              replace b_82 : i_9 ≤ 700 := b_82
              replace b_83 : qu ≤ 12 := b_83
              replace b_84 : n_15 ≤ 8 := b_84
              replace b_85 : n_16 ≤ 24 := b_85
              replace b_86 : tk ≤ 24 := b_86
              replace b_87 : il ≤ 700 := b_87
              replace b_88 : nx ≤ 701 := b_88
              replace b_89 : st ≤ 701 := b_89
              have h_20 : Φl3 x = some (o_ 14 [.int th, .ref (x + 1), .ref (x + 2), .int ti, .int ra, .int (nI rt), .int ex, .int ad, .ref (x + 3), .ref (x + 4), .int me, .long se, .ref (x + 5), .int (nI fl), .int dr, .long ob, .long sa, .long sn, .long us, .ref (x + 6), .ref (x + 7), .int (nI pe), .ref (x + 8), .int (nI i_9), .ref (x + 9), .ref (x + 10), .int (nI qu), .ref (x + 11), .ref (x + 12), .ref (x + 13), .ref (x + 14), .ref (x + 15), .ref (x + 16), .int (nI n_15), .long v_6, .ref (x + 17), .ref (x + 18), .ref (x + 19), .ref (x + 20), .ref (x + 21), .ref (x + 22), .int (nI n_16), .ref (x + 23), .ref (x + 24), .int (nI tk), .ref (x + 25), .int (nI il), .int (nI nx), .int ec, .int ep, .int kn, .int (nI st), .int nu, .long va]) := h_19
              refine z_get (ref := "FlowExporterModel") (C := RX12) (T := TX12) (N := 54) (ci := 14) (v := .int (nI i_9)) B hu_X12_putRecords_X12 rfl 23 (Nat.le_of_ble_eq_true rfl) hv_X12_putRecords_280 rfl h_20 rfl dX12_putRecords_171 ?_
              refine z_iload_n B dX12_putRecords_174 rfl 6 rfl ?_
              refine z_isub B dX12_putRecords_175 ?_
              refine z_top (st1 := [.int (nI (i_9 - n_13)), .int (nI (n_13 + 2)), .ref x]) (congrArg (fun w9 : Int32 => ([.int w9, .int (nI (n_13 + 2)), .ref x] : List Value)) (nI_sub (show n_13 ≤ i_9 by omega))) ?_
              refine z_callV (As := [.int (nI (n_13 + 2)), .int (nI (i_9 - n_13))]) (rest := []) B (r_putAt G l Φl3 sz x rd (NNq c) cr tp tt sI sT (PtQ pe P) ql fl pe i_9 nx il qu kn ec nu va st ep ti ad ob ra rt ex sa us tk th me dr se sn (n_13 + 2) (i_9 - n_13) hx hI9 (show (n_13 + 2) + 1 < 700 by omega) (show (i_9 - n_13) ≤ 700 by omega) (fun f9 h9 => h9.1)) (cwV 2 B.1.2.2.2.2 gX12_putRecords_X12_putAt rfl rfl rfl (by decide +kernel) ⟨Nat.le_of_ble_eq_true rfl, Nat.le_of_ble_eq_true rfl⟩) h_20 rfl rfl rfl rfl (Nat.le_of_ble_eq_true rfl) dX12_putRecords_176 ⟨Nat.le_of_ble_eq_true rfl, Nat.le_of_ble_eq_true rfl⟩ (fun r_14 Φ7 sz7 st7 hp7 hs7 => ?_)
              obtain ⟨rfl, hq7, hI10, hF10⟩ := hp7
              subst sz7
              replace hs7 : st7 = [] := hs7
              subst st7
              replace hI10 : Im G x (rd, (NNq c), cr, tp, tt, sI, sT, (PtQ pe P), ql, fl, pe, i_9, nx, il, qu, kn, ec, nu, va, st, ep, ti, ad, ob, ra, rt, ex, sa, us, tk, th, me, dr, se, sn) Φ7 := hI10
              refine z_iinc (k := 5) (v := nI (i_2 + 1)) (lv' := [(3, .int (nI (i_2 + 1))), (8, .int (nI i_8)), (4, .int 1), (7, .int (nI (lenR (tfF c (P i_2) &&& c 9) 9))), (6, .int 0), (5, .int (nI (P i_2))), (2, .int (nI n_13)), (0, .ref x), (1, .int (nI q))]) B dX12_putRecords_179 rfl (nI_add i_2 1) (Nat.le_of_ble_eq_true rfl) rfl ?_
              refine z_goto (tgt := 7) B dX12_putRecords_182 rfl ?_
              refine z_lv [2, 0, 6, 7, 8] rfl ?_
              exact ih1 (1, i_2 + 1, nI n_13, i_9, nI (P i_2)) Φ7 (by simp only [if_neg c_1]; show (if (1 : Int32) = 0 then 0 else 1) + _ < _; rw [if_neg (by decide)]; omega) ⟨hI10, (fun b9 h9 => ((hF10 b9 (fun j9 h8 h7 => h9 j9 h8 (fq_967 j9 h7))).trans ((hF9 b9 h9).trans ((hF8 b9 (fun j9 h8 h7 => (show False from h7).elim)).trans ((hF1 b9 h9).trans rfl))))), (show (i_2 + 1) ≤ pe by omega), (show q ≤ (i_2 + 1) by omega), (show i_9 ≤ 600 by omega), (Or.inr ⟨n_13, rfl, (show n_13 + 4 ≤ i_9 by omega)⟩), (Or.inr (show q < i_2 + 1 by omega)), (fun z9 => rcF_s (b_6 z9) (show ¬ (c 7).toInt < ((i_4 + moN c (P i_2) i_5 : Nat) : Int) by rw [hm4, e_11, nI_toInt (by omega)]; omega) (by omega) (by omega) (by omega) (by omega)), (Or.inr ⟨c_3, congrArg (fun w9 : Nat => nI (P w9)) (show i_2 = i_2 + 1 - 1 by omega)⟩), (Or.inl rfl), trivial⟩
            · have e_15 : ¬ (lenR (tfF c (P i_2) &&& c 9) 9 ≤ i_8) := fun h9 => c_16 ((nI_leI (a := lenR (tfF c (P i_2) &&& c 9) 9) (b := i_8) (by omega) (by omega)).mpr h9)
              refine z_aload_n B dX12_putRecords_142 rfl 7 rfl ?_
              refine z_aload_n B dX12_putRecords_143 rfl 7 rfl ?_
              obtain ⟨n_17, v_7, n_18, h_21, b_103, b_91, b_92, b_93, b_94, b_95, b_96, b_97, b_98, b_99, b_100, b_101, b_102⟩ := im0 hI9
              replace b_91 : 1 ≤ rt := b_91
              replace b_92 : rt ≤ 1024 := b_92
              replace b_93 : fl ≤ 12 := b_93
              replace b_94 : pe ≤ 24 := b_94
              replace b_95 : i_9 ≤ 700 := b_95
              replace b_96 : qu ≤ 12 := b_96
              replace b_97 : n_17 ≤ 8 := b_97
              replace b_98 : n_18 ≤ 24 := b_98
              replace b_99 : tk ≤ 24 := b_99
              replace b_100 : il ≤ 700 := b_100
              replace b_101 : nx ≤ 701 := b_101
              replace b_102 : st ≤ 701 := b_102
              have h_22 : Φl3 x = some (o_ 14 [.int th, .ref (x + 1), .ref (x + 2), .int ti, .int ra, .int (nI rt), .int ex, .int ad, .ref (x + 3), .ref (x + 4), .int me, .long se, .ref (x + 5), .int (nI fl), .int dr, .long ob, .long sa, .long sn, .long us, .ref (x + 6), .ref (x + 7), .int (nI pe), .ref (x + 8), .int (nI i_9), .ref (x + 9), .ref (x + 10), .int (nI qu), .ref (x + 11), .ref (x + 12), .ref (x + 13), .ref (x + 14), .ref (x + 15), .ref (x + 16), .int (nI n_17), .long v_7, .ref (x + 17), .ref (x + 18), .ref (x + 19), .ref (x + 20), .ref (x + 21), .ref (x + 22), .int (nI n_18), .ref (x + 23), .ref (x + 24), .int (nI tk), .ref (x + 25), .int (nI il), .int (nI nx), .int ec, .int ep, .int kn, .int (nI st), .int nu, .long va]) := h_21
              refine z_get (ref := "FlowExporterModel") (C := RX12) (T := TX12) (N := 54) (ci := 14) (v := .ref (x + 7)) B hu_X12_putRecords_X12 rfl 20 (Nat.le_of_ble_eq_true rfl) hv_X12_putRecords_33 rfl h_22 rfl dX12_putRecords_144 ?_
              refine z_bipush (v := 30) B dX12_putRecords_147 rfl ?_
              refine z_iload_n B dX12_putRecords_149 rfl 5 rfl ?_
              refine z_imul B dX12_putRecords_150 ?_
              refine z_top (st1 := [.int (nI (30 * i_2)), .ref (x + 7), .ref x]) (congrArg (fun w9 : Int32 => ([.int w9, .ref (x + 7), .ref x] : List Value)) (nI_mul 30 i_2)) ?_
              refine z_iload B dX12_putRecords_151 0 rfl ?_
              refine z_iadd B dX12_putRecords_153 ?_
              refine z_top (st1 := [.int (nI (30 * i_2 + i_8)), .ref (x + 7), .ref x]) (congrArg (fun w9 : Int32 => ([.int w9, .ref (x + 7), .ref x] : List Value)) (nI_add (30 * i_2) i_8)) ?_
              obtain ⟨f_5, h_23⟩ := imk (k := 7) hI9
              have h_24 : Φl3 (x + 7) = some (ai_ G 720 f_5) := h_23
              refine z_iald B h_24 (vp_in_nI (by omega) (by omega)) dX12_putRecords_154 ?_
              refine z_fi (fun v_8 => ?_)
              refine z_i2l (v := v_8.toInt64) B dX12_putRecords_155 rfl ?_
              refine z_iconst (v := 1) B dX12_putRecords_156 rfl ?_
              refine z_callV (As := [.long v_8.toInt64, .int 1]) (rest := []) B (r_put G l Φl3 sz x rd (NNq c) cr tp tt sI sT (PtQ pe P) ql fl pe i_9 nx il qu kn ec nu va st ep ti ad ob ra rt ex sa us tk th me dr se sn v_8.toInt64 1 hx hI9 (show 1 ≤ 8 by omega) (show i_9 + 1 ≤ 700 by omega) (fun f9 h9 => h9.1)) (cwV 2 B.1.2.2.2.2 gX12_putRecords_X12_put rfl rfl rfl (by decide +kernel) ⟨Nat.le_of_ble_eq_true rfl, Nat.le_of_ble_eq_true rfl⟩) h_22 rfl rfl rfl rfl (Nat.le_of_ble_eq_true rfl) dX12_putRecords_157 ⟨Nat.le_of_ble_eq_true rfl, Nat.le_of_ble_eq_true rfl⟩ (fun r_16 Φ8 sz8 st8 hp8 hs8 => ?_)
              obtain ⟨rfl, hq8, ⟨n_19, b_104, hI11⟩, hF11⟩ := hp8
              subst sz8
              replace hs8 : st8 = [] := hs8
              subst st8
              replace hI11 : Im G x (rd, (NNq c), cr, tp, tt, sI, sT, (PtQ pe P), ql, fl, pe, n_19, nx, il, qu, kn, ec, nu, va, st, ep, ti, ad, ob, ra, rt, ex, sa, us, tk, th, me, dr, se, sn) Φ8 := hI11
              replace b_104 : n_19 = i_9 + 1 := b_104
              refine z_iinc (k := 0) (v := nI (i_8 + 1)) (lv' := [(8, .int (nI (i_8 + 1))), (4, .int 1), (7, .int (nI (lenR (tfF c (P i_2) &&& c 9) 9))), (6, .int 0), (5, .int (nI (P i_2))), (3, .int (nI i_2)), (2, .int (nI n_13)), (0, .ref x), (1, .int (nI q))]) B dX12_putRecords_160 rfl (nI_add i_8 1) (Nat.le_of_ble_eq_true rfl) rfl ?_
              refine z_goto (tgt := 135) B dX12_putRecords_163 rfl ?_
              refine z_lv [0, 1, 2, 3, 4, 5, 6, 7, 8] rfl ?_
              exact ih3 (i_8 + 1, n_19) Φ8 (show (lenR (tfF c (P i_2) &&& c 9) 9) - (i_8 + 1) < (lenR (tfF c (P i_2) &&& c 9) 9) - i_8 by omega) ⟨hI11, (fun b9 h9 => ((hF11 b9 h9).trans ((hF9 b9 h9).trans rfl))), (show (i_8 + 1) ≤ (lenR (tfF c (P i_2) &&& c 9) 9) by omega), (show n_19 = i_4 + (i_8 + 1) by omega), trivial⟩
        · have e_16 : ¬ (P i_2 = P (i_2 - 1)) := fun h9 => c_10 ((nI_eq (a := P i_2) (b := P (i_2 - 1)) (by omega) (by omega)).mpr h9)
          refine z_iconst (v := 1) B dX12_putRecords_46 rfl ?_
          refine z_goto (tgt := 51) B dX12_putRecords_47 rfl ?_
          refine z_istore (lv' := [(6, .int 1), (5, .int (nI (P i_2))), (4, .int i_1), (3, .int (nI i_2)), (2, .int (nI n_13)), (0, .ref x), (1, .int (nI q))]) B dX12_putRecords_51 (Nat.le_of_ble_eq_true rfl) rfl ?_
          refine z_aload_n B dX12_putRecords_53 rfl 5 rfl ?_
          refine z_iload B dX12_putRecords_54 1 rfl ?_
          refine z_callV (As := [.int (nI (P i_2))]) (rest := []) B (r_recordLengthOfC G l Φl1 sz x rd cr tp tt sI sT (PtQ pe P) ql fl pe i_4 nx il qu kn ec nu va st ep ti ad ob ra rt ex sa us tk th me dr se sn c (P i_2) hx hI1 (show (P i_2) < 4 by omega)) (cwV 1 B.1.2.2.2.2 gX12_putRecords_X12_recordLengthOf rfl rfl rfl (by decide +kernel) ⟨Nat.le_of_ble_eq_true rfl, Nat.le_of_ble_eq_true rfl⟩) h_2 rfl rfl rfl rfl (Nat.le_of_ble_eq_true rfl) dX12_putRecords_56 ⟨Nat.le_of_ble_eq_true rfl, Nat.le_of_ble_eq_true rfl⟩ (fun r_17 Φ9 sz9 st9 hp9 hs9 => ?_)
          obtain ⟨rfl, hq9, hI12, hF12⟩ := hp9
          subst sz9
          replace hs9 : st9 = [.int (nI (lenR (tfF c (P i_2) &&& c 9) 9))] := hs9
          subst st9
          replace hI12 : Im G x (rd, (NNq c), cr, tp, tt, sI, sT, (PtQ pe P), ql, fl, pe, i_4, nx, il, qu, kn, ec, nu, va, st, ep, ti, ad, ob, ra, rt, ex, sa, us, tk, th, me, dr, se, sn) Φ9 := hI12
          refine z_istore (lv' := [(7, .int (nI (lenR (tfF c (P i_2) &&& c 9) 9))), (6, .int 1), (5, .int (nI (P i_2))), (4, .int i_1), (3, .int (nI i_2)), (2, .int (nI n_13)), (0, .ref x), (1, .int (nI q))]) B dX12_putRecords_59 (Nat.le_of_ble_eq_true rfl) rfl ?_
          refine z_aload_n B dX12_putRecords_61 rfl 6 rfl ?_
          have h_25 : Φ9 x = some (o_ 14 [.int th, .ref (x + 1), .ref (x + 2), .int ti, .int ra, .int (nI rt), .int ex, .int ad, .ref (x + 3), .ref (x + 4), .int me, .long se, .ref (x + 5), .int (nI fl), .int dr, .long ob, .long sa, .long sn, .long us, .ref (x + 6), .ref (x + 7), .int (nI pe), .ref (x + 8), .int (nI i_4), .ref (x + 9), .ref (x + 10), .int (nI qu), .ref (x + 11), .ref (x + 12), .ref (x + 13), .ref (x + 14), .ref (x + 15), .ref (x + 16), .int (nI n_1), .long v_1, .ref (x + 17), .ref (x + 18), .ref (x + 19), .ref (x + 20), .ref (x + 21), .ref (x + 22), .int (nI n_2), .ref (x + 23), .ref (x + 24), .int (nI tk), .ref (x + 25), .int (nI il), .int (nI nx), .int ec, .int ep, .int kn, .int (nI st), .int nu, .long va]) := ((hF12 x (fun j9 h8 h7 => (show False from h7).elim)).trans h_2)
          refine z_get (ref := "FlowExporterModel") (C := RX12) (T := TX12) (N := 54) (ci := 14) (v := .int (nI i_4)) B hu_X12_putRecords_X12 rfl 23 (Nat.le_of_ble_eq_true rfl) hv_X12_putRecords_280 rfl h_25 rfl dX12_putRecords_62 ?_
          refine z_iload B dX12_putRecords_65 0 rfl ?_
          refine z_iadd B dX12_putRecords_67 ?_
          refine z_top (st1 := [.int (nI (i_4 + lenR (tfF c (P i_2) &&& c 9) 9))]) (congrArg (fun w9 : Int32 => ([.int w9] : List Value)) (nI_add i_4 (lenR (tfF c (P i_2) &&& c 9) 9))) ?_
          refine z_iload B dX12_putRecords_68 1 rfl ?_
          refine z_if_eq (tgt := 77) B dX12_putRecords_70 rfl (fun h9 => absurd h9 (by decide)) (fun c_17 => ?_)
          refine z_iconst (v := 4) B dX12_putRecords_73 rfl ?_
          refine z_goto (tgt := 78) B dX12_putRecords_74 rfl ?_
          refine z_iadd B dX12_putRecords_78 ?_
          refine z_top (st1 := [.int (nI (i_4 + lenR (tfF c (P i_2) &&& c 9) 9 + 4))]) (congrArg (fun w9 : Int32 => ([.int w9] : List Value)) (nI_add (i_4 + lenR (tfF c (P i_2) &&& c 9) 9) 4)) ?_
          refine z_aload_n B dX12_putRecords_79 rfl 6 rfl ?_
          refine z_get (ref := "FlowExporterModel") (C := RX12) (T := TX12) (N := 54) (ci := 14) (v := .ref (x + 2)) B hu_X12_putRecords_X12 rfl 2 (Nat.le_of_ble_eq_true rfl) hv_X12_putRecords_17 rfl h_25 rfl dX12_putRecords_80 ?_
          refine z_bipush (v := 7) B dX12_putRecords_83 rfl ?_
          obtain ⟨f_6, h_26, r_18⟩ := imk (k := 2) hI12
          replace r_18 : (NNq c) f_6 := r_18
          have r_19 : NN f_6 := r_18.1
          have h_27 : Φ9 (x + 2) = some (ai_ G 307 f_6) := h_26
          refine z_iald B h_27 (vin rfl) dX12_putRecords_85 ?_
          obtain ⟨n_20, b_105, b_106, e_17⟩ := r_19.2.2.2.1
          have e_18 : c 7 = nI n_20 := (r_18.2 7 (by decide)).symm.trans e_17
          refine z_top (st1 := [.int (nI n_20), .int (nI (i_4 + lenR (tfF c (P i_2) &&& c 9) 9 + 4))]) (congrArg (fun w9 : Int32 => ([.int w9, .int (nI (i_4 + lenR (tfF c (P i_2) &&& c 9) 9 + 4))] : List Value)) (e_17)) ?_
          refine z_icmp_gt (tgt := 93) B dX12_putRecords_86 rfl (fun c_18 => ?_) (fun c_18 => ?_)
          · have e_19 : n_20 < i_4 + lenR (tfF c (P i_2) &&& c 9) 9 + 4 := (nI_ltI (a := n_20) (b := i_4 + lenR (tfF c (P i_2) &&& c 9) 9 + 4) (by omega) (by omega)).mp c_18
            have hW5 : i_5 = nI (P (i_2 - 1)) := (Or.resolve_left b_7 (fun h9 => c_3 h9.1)).2
            have hm5 : moN c (P i_2) i_5 = lenR (tfF c (P i_2) &&& c 9) 9 + 4 := (moN_n (fun h9 => c_10 (h9.symm.trans hW5))).trans (congrArg (fun w9 : Nat => w9 + 4) (hcr (P i_2) b_24))
            refine z_iconst (v := 0) B dX12_putRecords_93 rfl ?_
            refine z_istore (lv' := [(4, .int 0), (7, .int (nI (lenR (tfF c (P i_2) &&& c 9) 9))), (6, .int 1), (5, .int (nI (P i_2))), (3, .int (nI i_2)), (2, .int (nI n_13)), (0, .ref x), (1, .int (nI q))]) B dX12_putRecords_94 (Nat.le_of_ble_eq_true rfl) rfl ?_
            refine z_iload B dX12_putRecords_96 0 rfl ?_
            refine z_if_ne (tgt := 104) B dX12_putRecords_98 rfl (fun h9 => absurd (by decide) h9) (fun c_19 => ?_)
            refine z_goto (tgt := 7) B dX12_putRecords_101 rfl ?_
            refine z_lv [0, 4, 5, 6, 7] rfl ?_
            exact ih1 (0, i_2, nI n_13, i_4, i_5) Φ9 (by simp only [if_neg c_1]; show (if (0 : Int32) = 0 then 0 else 1) + _ < _; rw [if_pos rfl]; omega) ⟨hI12, (fun b9 h9 => ((hF12 b9 (fun j9 h8 h7 => (show False from h7).elim)).trans ((hF1 b9 h9).trans rfl))), (show i_2 ≤ pe by omega), (show q ≤ i_2 by omega), (show i_4 ≤ 600 by omega), (Or.inr ⟨n_13, rfl, (show n_13 + 4 ≤ i_4 by omega)⟩), (Or.inr (Or.elim b_5 (fun hh => by first | exact absurd hh.2.1 c_3 | (exfalso; obtain ⟨h1, h2, h3, h4⟩ := hh; omega)) id)), b_6, b_7, (Or.inr ⟨rfl, by omega, (by rw [hm5, e_18, nI_toInt (by omega)]; omega)⟩), trivial⟩
          · have e_20 : ¬ (n_20 < i_4 + lenR (tfF c (P i_2) &&& c 9) 9 + 4) := fun h9 => c_18 ((nI_ltI (a := n_20) (b := i_4 + lenR (tfF c (P i_2) &&& c 9) 9 + 4) (by omega) (by omega)).mpr h9)
            have hW6 : i_5 = nI (P (i_2 - 1)) := (Or.resolve_left b_7 (fun h9 => c_3 h9.1)).2
            have hm6 : moN c (P i_2) i_5 = lenR (tfF c (P i_2) &&& c 9) 9 + 4 := (moN_n (fun h9 => c_10 (h9.symm.trans hW6))).trans (congrArg (fun w9 : Nat => w9 + 4) (hcr (P i_2) b_24))
            refine z_iconst (v := 1) B dX12_putRecords_89 rfl ?_
            refine z_goto (tgt := 94) B dX12_putRecords_90 rfl ?_
            refine z_istore (lv' := [(4, .int 1), (7, .int (nI (lenR (tfF c (P i_2) &&& c 9) 9))), (6, .int 1), (5, .int (nI (P i_2))), (3, .int (nI i_2)), (2, .int (nI n_13)), (0, .ref x), (1, .int (nI q))]) B dX12_putRecords_94 (Nat.le_of_ble_eq_true rfl) rfl ?_
            refine z_iload B dX12_putRecords_96 0 rfl ?_
            refine z_if_ne (tgt := 104) B dX12_putRecords_98 rfl (fun c_20 => ?_) (fun h9 => absurd h9 (by decide))
            refine z_iload B dX12_putRecords_104 2 rfl ?_
            refine z_if_eq (tgt := 132) B dX12_putRecords_106 rfl (fun h9 => absurd h9 (by decide)) (fun c_21 => ?_)
            refine z_aload_n B dX12_putRecords_109 rfl 6 rfl ?_
            refine z_get (ref := "FlowExporterModel") (C := RX12) (T := TX12) (N := 54) (ci := 14) (v := .int (nI i_4)) B hu_X12_putRecords_X12 rfl 23 (Nat.le_of_ble_eq_true rfl) hv_X12_putRecords_280 rfl h_25 rfl dX12_putRecords_110 ?_
            refine z_istore_n (lv' := [(2, .int (nI i_4)), (4, .int 1), (7, .int (nI (lenR (tfF c (P i_2) &&& c 9) 9))), (6, .int 1), (5, .int (nI (P i_2))), (3, .int (nI i_2)), (0, .ref x), (1, .int (nI q))]) B dX12_putRecords_113 rfl (Nat.le_of_ble_eq_true rfl) rfl ?_
            refine z_aload_n B dX12_putRecords_114 rfl 6 rfl ?_
            refine z_sipush (v := 256) B dX12_putRecords_115 rfl ?_
            refine z_iload B dX12_putRecords_118 4 rfl ?_
            refine z_iadd B dX12_putRecords_120 ?_
            refine z_top (st1 := [.int (nI (256 + P i_2)), .ref x]) (congrArg (fun w9 : Int32 => ([.int w9, .ref x] : List Value)) (nI_add 256 (P i_2))) ?_
            refine z_i2l (v := (nI (256 + P i_2)).toInt64) B dX12_putRecords_121 rfl ?_
            refine z_iconst (v := 2) B dX12_putRecords_122 rfl ?_
            refine z_callV (As := [.long ((nI (256 + P i_2)).toInt64), .int 2]) (rest := []) B (r_put G l Φ9 sz x rd (NNq c) cr tp tt sI sT (PtQ pe P) ql fl pe i_4 nx il qu kn ec nu va st ep ti ad ob ra rt ex sa us tk th me dr se sn ((nI (256 + P i_2)).toInt64) 2 hx hI12 (show 2 ≤ 8 by omega) (show i_4 + 2 ≤ 700 by omega) (fun f9 h9 => h9.1)) (cwV 2 B.1.2.2.2.2 gX12_putRecords_X12_put rfl rfl rfl (by decide +kernel) ⟨Nat.le_of_ble_eq_true rfl, Nat.le_of_ble_eq_true rfl⟩) h_25 rfl rfl rfl rfl (Nat.le_of_ble_eq_true rfl) dX12_putRecords_123 ⟨Nat.le_of_ble_eq_true rfl, Nat.le_of_ble_eq_true rfl⟩ (fun r_20 Φ10 sz10 st10 hp10 hs10 => ?_)
            obtain ⟨rfl, hq10, ⟨n_21, b_107, hI13⟩, hF13⟩ := hp10
            subst sz10
            replace hs10 : st10 = [] := hs10
            subst st10
            replace hI13 : Im G x (rd, (NNq c), cr, tp, tt, sI, sT, (PtQ pe P), ql, fl, pe, n_21, nx, il, qu, kn, ec, nu, va, st, ep, ti, ad, ob, ra, rt, ex, sa, us, tk, th, me, dr, se, sn) Φ10 := hI13
            replace b_107 : n_21 = i_4 + 2 := b_107
            refine z_aload_n B dX12_putRecords_126 rfl 6 rfl ?_
            refine z_lconst (v := 0) B dX12_putRecords_127 rfl ?_
            refine z_iconst (v := 2) B dX12_putRecords_128 rfl ?_
            obtain ⟨n_22, v_9, n_23, h_28, b_120, b_108, b_109, b_110, b_111, b_112, b_113, b_114, b_115, b_116, b_117, b_118, b_119⟩ := im0 hI13
            replace b_108 : 1 ≤ rt := b_108
            replace b_109 : rt ≤ 1024 := b_109
            replace b_110 : fl ≤ 12 := b_110
            replace b_111 : pe ≤ 24 := b_111
            replace b_112 : n_21 ≤ 700 := b_112
            replace b_113 : qu ≤ 12 := b_113
            replace b_114 : n_22 ≤ 8 := b_114
            replace b_115 : n_23 ≤ 24 := b_115
            replace b_116 : tk ≤ 24 := b_116
            replace b_117 : il ≤ 700 := b_117
            replace b_118 : nx ≤ 701 := b_118
            replace b_119 : st ≤ 701 := b_119
            have h_29 : Φ10 x = some (o_ 14 [.int th, .ref (x + 1), .ref (x + 2), .int ti, .int ra, .int (nI rt), .int ex, .int ad, .ref (x + 3), .ref (x + 4), .int me, .long se, .ref (x + 5), .int (nI fl), .int dr, .long ob, .long sa, .long sn, .long us, .ref (x + 6), .ref (x + 7), .int (nI pe), .ref (x + 8), .int (nI n_21), .ref (x + 9), .ref (x + 10), .int (nI qu), .ref (x + 11), .ref (x + 12), .ref (x + 13), .ref (x + 14), .ref (x + 15), .ref (x + 16), .int (nI n_22), .long v_9, .ref (x + 17), .ref (x + 18), .ref (x + 19), .ref (x + 20), .ref (x + 21), .ref (x + 22), .int (nI n_23), .ref (x + 23), .ref (x + 24), .int (nI tk), .ref (x + 25), .int (nI il), .int (nI nx), .int ec, .int ep, .int kn, .int (nI st), .int nu, .long va]) := h_28
            refine z_callV (As := [.long 0, .int 2]) (rest := []) B (r_put G l Φ10 sz x rd (NNq c) cr tp tt sI sT (PtQ pe P) ql fl pe n_21 nx il qu kn ec nu va st ep ti ad ob ra rt ex sa us tk th me dr se sn 0 2 hx hI13 (show 2 ≤ 8 by omega) (show n_21 + 2 ≤ 700 by omega) (fun f9 h9 => h9.1)) (cwV 2 B.1.2.2.2.2 gX12_putRecords_X12_put rfl rfl rfl (by decide +kernel) ⟨Nat.le_of_ble_eq_true rfl, Nat.le_of_ble_eq_true rfl⟩) h_29 rfl rfl rfl rfl (Nat.le_of_ble_eq_true rfl) dX12_putRecords_129 ⟨Nat.le_of_ble_eq_true rfl, Nat.le_of_ble_eq_true rfl⟩ (fun r_21 Φ11 sz11 st11 hp11 hs11 => ?_)
            obtain ⟨rfl, hq11, ⟨n_24, b_121, hI14⟩, hF14⟩ := hp11
            subst sz11
            replace hs11 : st11 = [] := hs11
            subst st11
            replace hI14 : Im G x (rd, (NNq c), cr, tp, tt, sI, sT, (PtQ pe P), ql, fl, pe, n_24, nx, il, qu, kn, ec, nu, va, st, ep, ti, ad, ob, ra, rt, ex, sa, us, tk, th, me, dr, se, sn) Φ11 := hI14
            replace b_121 : n_24 = n_21 + 2 := b_121
            refine z_iconst (v := 0) B dX12_putRecords_132 rfl ?_
            refine z_istore (lv' := [(8, .int 0), (2, .int (nI i_4)), (4, .int 1), (7, .int (nI (lenR (tfF c (P i_2) &&& c 9) 9))), (6, .int 1), (5, .int (nI (P i_2))), (3, .int (nI i_2)), (0, .ref x), (1, .int (nI q))]) B dX12_putRecords_133 (Nat.le_of_ble_eq_true rfl) rfl ?_
            refine z_lv [0, 1, 2, 3, 4, 5, 6, 7, 8] rfl ?_
            refine z_loop (α := Nat × Nat) (fun (a9 : Nat × Nat) Φi => Im G x (rd, (NNq c), cr, tp, tt, sI, sT, (PtQ pe P), ql, fl, pe, a9.2, nx, il, qu, kn, ec, nu, va, st, ep, ti, ad, ob, ra, rt, ex, sa, us, tk, th, me, dr, se, sn) Φi ∧ Fr x (fun j9 => j9 = 0 ∨ j9 = 8) Φ11 Φi ∧ (a9.1 ≤ (lenR (tfF c (P i_2) &&& c 9) 9)) ∧ (a9.2 = n_24 + a9.1) ∧ True) (fun a9 => [(8, .int (nI (a9.1))), (2, .int (nI i_4)), (4, .int 1), (7, .int (nI (lenR (tfF c (P i_2) &&& c 9) 9))), (6, .int 1), (5, .int (nI (P i_2))), (3, .int (nI i_2)), (0, .ref x), (1, .int (nI q))]) (fun a9 => (lenR (tfF c (P i_2) &&& c 9) 9) - a9.1) ?_ (0, n_24) ⟨hI14, fun _ _ => rfl, (show 0 ≤ (lenR (tfF c (P i_2) &&& c 9) 9) by omega), (show n_24 = n_24 + 0 by omega), trivial⟩
            rintro ⟨i_10, i_11⟩ Φl4 ⟨hI15, hF15, b_122, b_123, -⟩ ih4
            replace hI15 : Im G x (rd, (NNq c), cr, tp, tt, sI, sT, (PtQ pe P), ql, fl, pe, i_11, nx, il, qu, kn, ec, nu, va, st, ep, ti, ad, ob, ra, rt, ex, sa, us, tk, th, me, dr, se, sn) Φl4 := hI15
            replace b_122 : i_10 ≤ (lenR (tfF c (P i_2) &&& c 9) 9) := b_122
            replace b_123 : i_11 = n_24 + i_10 := b_123
            show Z p9 l e9 _ s9 m9 _ w9 t9 k9 _ G 9 135 [(8, .int (nI i_10)), (2, .int (nI i_4)), (4, .int 1), (7, .int (nI (lenR (tfF c (P i_2) &&& c 9) 9))), (6, .int 1), (5, .int (nI (P i_2))), (3, .int (nI i_2)), (0, .ref x), (1, .int (nI q))] [] Φl4 _ _ _
            refine z_iload B dX12_putRecords_135 0 rfl ?_
            refine z_iload B dX12_putRecords_137 3 rfl ?_
            refine z_icmp_ge (tgt := 166) B dX12_putRecords_139 rfl (fun c_22 => ?_) (fun c_22 => ?_)
            · have e_21 : lenR (tfF c (P i_2) &&& c 9) 9 ≤ i_10 := (nI_leI (a := lenR (tfF c (P i_2) &&& c 9) 9) (b := i_10) (by omega) (by omega)).mp c_22
              refine z_aload_n B dX12_putRecords_166 rfl 7 rfl ?_
              refine z_iload_n B dX12_putRecords_167 rfl 1 rfl ?_
              refine z_iconst (v := 2) B dX12_putRecords_168 rfl ?_
              refine z_iadd B dX12_putRecords_169 ?_
              refine z_top (st1 := [.int (nI (i_4 + 2)), .ref x]) (congrArg (fun w9 : Int32 => ([.int w9, .ref x] : List Value)) (nI_add i_4 2)) ?_
              refine z_aload_n B dX12_putRecords_170 rfl 7 rfl ?_
              obtain ⟨n_25, v_10, n_26, h_30, b_136, b_124, b_125, b_126, b_127, b_128, b_129, b_130, b_131, b_132, b_133, b_134, b_135⟩ := im0 hI15
              replace b_124 : 1 ≤ rt := b_124
              replace b_125 : rt ≤ 1024 := b_125
              replace b_126 : fl ≤ 12 := b_126
              replace b_127 : pe ≤ 24 := b_127
              replace b_128 : i_11 ≤ 700 := b_128
              replace b_129 : qu ≤ 12 := b_129
              replace b_130 : n_25 ≤ 8 := b_130
              replace b_131 : n_26 ≤ 24 := b_131
              replace b_132 : tk ≤ 24 := b_132
              replace b_133 : il ≤ 700 := b_133
              replace b_134 : nx ≤ 701 := b_134
              replace b_135 : st ≤ 701 := b_135
              have h_31 : Φl4 x = some (o_ 14 [.int th, .ref (x + 1), .ref (x + 2), .int ti, .int ra, .int (nI rt), .int ex, .int ad, .ref (x + 3), .ref (x + 4), .int me, .long se, .ref (x + 5), .int (nI fl), .int dr, .long ob, .long sa, .long sn, .long us, .ref (x + 6), .ref (x + 7), .int (nI pe), .ref (x + 8), .int (nI i_11), .ref (x + 9), .ref (x + 10), .int (nI qu), .ref (x + 11), .ref (x + 12), .ref (x + 13), .ref (x + 14), .ref (x + 15), .ref (x + 16), .int (nI n_25), .long v_10, .ref (x + 17), .ref (x + 18), .ref (x + 19), .ref (x + 20), .ref (x + 21), .ref (x + 22), .int (nI n_26), .ref (x + 23), .ref (x + 24), .int (nI tk), .ref (x + 25), .int (nI il), .int (nI nx), .int ec, .int ep, .int kn, .int (nI st), .int nu, .long va]) := h_30
              refine z_get (ref := "FlowExporterModel") (C := RX12) (T := TX12) (N := 54) (ci := 14) (v := .int (nI i_11)) B hu_X12_putRecords_X12 rfl 23 (Nat.le_of_ble_eq_true rfl) hv_X12_putRecords_280 rfl h_31 rfl dX12_putRecords_171 ?_
              refine z_iload_n B dX12_putRecords_174 rfl 1 rfl ?_
              refine z_isub B dX12_putRecords_175 ?_
              refine z_top (st1 := [.int (nI (i_11 - i_4)), .int (nI (i_4 + 2)), .ref x]) (congrArg (fun w9 : Int32 => ([.int w9, .int (nI (i_4 + 2)), .ref x] : List Value)) (nI_sub (show i_4 ≤ i_11 by omega))) ?_
              refine z_callV (As := [.int (nI (i_4 + 2)), .int (nI (i_11 - i_4))]) (rest := []) B (r_putAt G l Φl4 sz x rd (NNq c) cr tp tt sI sT (PtQ pe P) ql fl pe i_11 nx il qu kn ec nu va st ep ti ad ob ra rt ex sa us tk th me dr se sn (i_4 + 2) (i_11 - i_4) hx hI15 (show (i_4 + 2) + 1 < 700 by omega) (show (i_11 - i_4) ≤ 700 by omega) (fun f9 h9 => h9.1)) (cwV 2 B.1.2.2.2.2 gX12_putRecords_X12_putAt rfl rfl rfl (by decide +kernel) ⟨Nat.le_of_ble_eq_true rfl, Nat.le_of_ble_eq_true rfl⟩) h_31 rfl rfl rfl rfl (Nat.le_of_ble_eq_true rfl) dX12_putRecords_176 ⟨Nat.le_of_ble_eq_true rfl, Nat.le_of_ble_eq_true rfl⟩ (fun r_22 Φ12 sz12 st12 hp12 hs12 => ?_)
              obtain ⟨rfl, hq12, hI16, hF16⟩ := hp12
              subst sz12
              replace hs12 : st12 = [] := hs12
              subst st12
              replace hI16 : Im G x (rd, (NNq c), cr, tp, tt, sI, sT, (PtQ pe P), ql, fl, pe, i_11, nx, il, qu, kn, ec, nu, va, st, ep, ti, ad, ob, ra, rt, ex, sa, us, tk, th, me, dr, se, sn) Φ12 := hI16
              refine z_iinc (k := 6) (v := nI (i_2 + 1)) (lv' := [(3, .int (nI (i_2 + 1))), (8, .int (nI i_10)), (2, .int (nI i_4)), (4, .int 1), (7, .int (nI (lenR (tfF c (P i_2) &&& c 9) 9))), (6, .int 1), (5, .int (nI (P i_2))), (0, .ref x), (1, .int (nI q))]) B dX12_putRecords_179 rfl (nI_add i_2 1) (Nat.le_of_ble_eq_true rfl) rfl ?_
              refine z_goto (tgt := 7) B dX12_putRecords_182 rfl ?_
              refine z_lv [3, 0, 2, 7, 8] rfl ?_
              exact ih1 (1, i_2 + 1, nI i_4, i_11, nI (P i_2)) Φ12 (by simp only [if_neg c_1]; show (if (1 : Int32) = 0 then 0 else 1) + _ < _; rw [if_neg (by decide)]; omega) ⟨hI16, (fun b9 h9 => ((hF16 b9 (fun j9 h8 h7 => h9 j9 h8 (fq_967 j9 h7))).trans ((hF15 b9 h9).trans ((hF14 b9 h9).trans ((hF13 b9 h9).trans ((hF12 b9 (fun j9 h8 h7 => (show False from h7).elim)).trans ((hF1 b9 h9).trans rfl))))))), (show (i_2 + 1) ≤ pe by omega), (show q ≤ (i_2 + 1) by omega), (show i_11 ≤ 600 by omega), (Or.inr ⟨i_4, rfl, (show i_4 + 4 ≤ i_11 by omega)⟩), (Or.inr (show q < i_2 + 1 by omega)), (fun z9 => rcF_s (b_6 z9) (show ¬ (c 7).toInt < ((i_4 + moN c (P i_2) i_5 : Nat) : Int) by rw [hm6, e_18, nI_toInt (by omega)]; omega) (by omega) (by omega) (by omega) (by omega)), (Or.inr ⟨(fun h9 => absurd (congrArg Int32.toInt h9) (by rw [nI_toInt (by omega)]; have h8 : (-1 : Int32).toInt = -1 := (by decide); omega)), congrArg (fun w9 : Nat => nI (P w9)) (show i_2 = i_2 + 1 - 1 by omega)⟩), (Or.inl rfl), trivial⟩
            · have e_22 : ¬ (lenR (tfF c (P i_2) &&& c 9) 9 ≤ i_10) := fun h9 => c_22 ((nI_leI (a := lenR (tfF c (P i_2) &&& c 9) 9) (b := i_10) (by omega) (by omega)).mpr h9)
              refine z_aload_n B dX12_putRecords_142 rfl 7 rfl ?_
              refine z_aload_n B dX12_putRecords_143 rfl 7 rfl ?_
              obtain ⟨n_27, v_11, n_28, h_32, b_149, b_137, b_138, b_139, b_140, b_141, b_142, b_143, b_144, b_145, b_146, b_147, b_148⟩ := im0 hI15
              replace b_137 : 1 ≤ rt := b_137
              replace b_138 : rt ≤ 1024 := b_138
              replace b_139 : fl ≤ 12 := b_139
              replace b_140 : pe ≤ 24 := b_140
              replace b_141 : i_11 ≤ 700 := b_141
              replace b_142 : qu ≤ 12 := b_142
              replace b_143 : n_27 ≤ 8 := b_143
              replace b_144 : n_28 ≤ 24 := b_144
              replace b_145 : tk ≤ 24 := b_145
              replace b_146 : il ≤ 700 := b_146
              replace b_147 : nx ≤ 701 := b_147
              replace b_148 : st ≤ 701 := b_148
              have h_33 : Φl4 x = some (o_ 14 [.int th, .ref (x + 1), .ref (x + 2), .int ti, .int ra, .int (nI rt), .int ex, .int ad, .ref (x + 3), .ref (x + 4), .int me, .long se, .ref (x + 5), .int (nI fl), .int dr, .long ob, .long sa, .long sn, .long us, .ref (x + 6), .ref (x + 7), .int (nI pe), .ref (x + 8), .int (nI i_11), .ref (x + 9), .ref (x + 10), .int (nI qu), .ref (x + 11), .ref (x + 12), .ref (x + 13), .ref (x + 14), .ref (x + 15), .ref (x + 16), .int (nI n_27), .long v_11, .ref (x + 17), .ref (x + 18), .ref (x + 19), .ref (x + 20), .ref (x + 21), .ref (x + 22), .int (nI n_28), .ref (x + 23), .ref (x + 24), .int (nI tk), .ref (x + 25), .int (nI il), .int (nI nx), .int ec, .int ep, .int kn, .int (nI st), .int nu, .long va]) := h_32
              refine z_get (ref := "FlowExporterModel") (C := RX12) (T := TX12) (N := 54) (ci := 14) (v := .ref (x + 7)) B hu_X12_putRecords_X12 rfl 20 (Nat.le_of_ble_eq_true rfl) hv_X12_putRecords_33 rfl h_33 rfl dX12_putRecords_144 ?_
              refine z_bipush (v := 30) B dX12_putRecords_147 rfl ?_
              refine z_iload_n B dX12_putRecords_149 rfl 6 rfl ?_
              refine z_imul B dX12_putRecords_150 ?_
              refine z_top (st1 := [.int (nI (30 * i_2)), .ref (x + 7), .ref x]) (congrArg (fun w9 : Int32 => ([.int w9, .ref (x + 7), .ref x] : List Value)) (nI_mul 30 i_2)) ?_
              refine z_iload B dX12_putRecords_151 0 rfl ?_
              refine z_iadd B dX12_putRecords_153 ?_
              refine z_top (st1 := [.int (nI (30 * i_2 + i_10)), .ref (x + 7), .ref x]) (congrArg (fun w9 : Int32 => ([.int w9, .ref (x + 7), .ref x] : List Value)) (nI_add (30 * i_2) i_10)) ?_
              obtain ⟨f_7, h_34⟩ := imk (k := 7) hI15
              have h_35 : Φl4 (x + 7) = some (ai_ G 720 f_7) := h_34
              refine z_iald B h_35 (vp_in_nI (by omega) (by omega)) dX12_putRecords_154 ?_
              refine z_fi (fun v_12 => ?_)
              refine z_i2l (v := v_12.toInt64) B dX12_putRecords_155 rfl ?_
              refine z_iconst (v := 1) B dX12_putRecords_156 rfl ?_
              refine z_callV (As := [.long v_12.toInt64, .int 1]) (rest := []) B (r_put G l Φl4 sz x rd (NNq c) cr tp tt sI sT (PtQ pe P) ql fl pe i_11 nx il qu kn ec nu va st ep ti ad ob ra rt ex sa us tk th me dr se sn v_12.toInt64 1 hx hI15 (show 1 ≤ 8 by omega) (show i_11 + 1 ≤ 700 by omega) (fun f9 h9 => h9.1)) (cwV 2 B.1.2.2.2.2 gX12_putRecords_X12_put rfl rfl rfl (by decide +kernel) ⟨Nat.le_of_ble_eq_true rfl, Nat.le_of_ble_eq_true rfl⟩) h_33 rfl rfl rfl rfl (Nat.le_of_ble_eq_true rfl) dX12_putRecords_157 ⟨Nat.le_of_ble_eq_true rfl, Nat.le_of_ble_eq_true rfl⟩ (fun r_24 Φ13 sz13 st13 hp13 hs13 => ?_)
              obtain ⟨rfl, hq13, ⟨n_29, b_150, hI17⟩, hF17⟩ := hp13
              subst sz13
              replace hs13 : st13 = [] := hs13
              subst st13
              replace hI17 : Im G x (rd, (NNq c), cr, tp, tt, sI, sT, (PtQ pe P), ql, fl, pe, n_29, nx, il, qu, kn, ec, nu, va, st, ep, ti, ad, ob, ra, rt, ex, sa, us, tk, th, me, dr, se, sn) Φ13 := hI17
              replace b_150 : n_29 = i_11 + 1 := b_150
              refine z_iinc (k := 0) (v := nI (i_10 + 1)) (lv' := [(8, .int (nI (i_10 + 1))), (2, .int (nI i_4)), (4, .int 1), (7, .int (nI (lenR (tfF c (P i_2) &&& c 9) 9))), (6, .int 1), (5, .int (nI (P i_2))), (3, .int (nI i_2)), (0, .ref x), (1, .int (nI q))]) B dX12_putRecords_160 rfl (nI_add i_10 1) (Nat.le_of_ble_eq_true rfl) rfl ?_
              refine z_goto (tgt := 135) B dX12_putRecords_163 rfl ?_
              refine z_lv [0, 1, 2, 3, 4, 5, 6, 7, 8] rfl ?_
              exact ih4 (i_10 + 1, n_29) Φ13 (show (lenR (tfF c (P i_2) &&& c 9) 9) - (i_10 + 1) < (lenR (tfF c (P i_2) &&& c 9) 9) - i_10 by omega) ⟨hI17, (fun b9 h9 => ((hF17 b9 h9).trans ((hF15 b9 h9).trans rfl))), (show (i_10 + 1) ≤ (lenR (tfF c (P i_2) &&& c 9) 9) by omega), (show n_29 = n_24 + (i_10 + 1) by omega), trivial⟩

set_option maxRecDepth 20000 in
theorem ggX6_nextToken_X5_byteAt : GoodIn wsX6_nextToken wsX5_byteAt := goodIn_ca ((goodIn_ca (goodIn_r _ [10, 11, 12] rfl (by decide +kernel)) (goodIn_sub (fun _ h => List.mem_cons_of_mem _ (List.mem_append_left _ (List.mem_append_right _ h))) gw_wsX50))) (goodIn_sub (fun _ h => List.mem_cons_of_mem _ (List.mem_append_right _ h)) (all_fg _))
set_option maxRecDepth 20000 in
theorem gX6_nextToken_X5_byteAt : GoodIn wsX6_nextToken (wsV RX6 118 RX5 yX5_byteAt wsX5_byteAt) := goodIn_app (goodIn_m (mem_cA (List.mem_cons_of_mem _ (List.mem_append_left _ (List.mem_append_left _ (List.mem_append_left _ (List.mem_of_getElem? (i := 5) rfl))))) (mem_cA (List.mem_cons_of_mem _ (List.mem_append_left _ (List.mem_append_left _ (List.mem_append_left _ (List.mem_of_getElem? (i := 6) rfl))))) (mem_cA (List.mem_cons_of_mem _ (List.mem_append_left _ (List.mem_append_left _ (List.mem_append_left _ (List.mem_of_getElem? (i := 7) rfl))))) (mem_cA (List.mem_cons_of_mem _ (List.mem_append_left _ (List.mem_append_left _ (List.mem_append_left _ (List.mem_of_getElem? (i := 8) rfl))))) mem_cZ)))) (by decide +kernel)) ggX6_nextToken_X5_byteAt
set_option maxRecDepth 20000 in
theorem ggX6_nextToken_X6_kindOf : GoodIn wsX6_nextToken wsX6_kindOf := (goodIn_r _ [16] rfl (by decide +kernel))
set_option maxRecDepth 20000 in
theorem gX6_nextToken_X6_kindOf : GoodIn wsX6_nextToken (va_wsS RX6 140 yX6_kindOf wsX6_kindOf) := goodIn_app (goodIn_m (mem_cA (List.mem_cons_of_mem _ (List.mem_append_left _ (List.mem_append_left _ (List.mem_append_left _ (List.mem_of_getElem? (i := 12) rfl))))) (mem_cA (List.mem_cons_of_mem _ (List.mem_append_left _ (List.mem_append_left _ (List.mem_append_left _ (List.mem_of_getElem? (i := 13) rfl))))) (mem_cA (List.mem_cons_of_mem _ (List.mem_append_left _ (List.mem_append_left _ (List.mem_append_left _ (List.mem_of_getElem? (i := 14) rfl))))) mem_cZ))) (by decide +kernel)) ggX6_nextToken_X6_kindOf
theorem dX6_nextToken_0 : decode cX6_nextToken 0 = .ok (.aload_n 0, 1) := by decide +kernel
theorem dX6_nextToken_1 : decode cX6_nextToken 1 = .ok (.getfield 25, 3) := by decide +kernel
theorem dX6_nextToken_4 : decode cX6_nextToken 4 = .ok (.aload_n 0, 1) := by decide +kernel
theorem dX6_nextToken_5 : decode cX6_nextToken 5 = .ok (.getfield 37, 3) := by decide +kernel
theorem dX6_nextToken_8 : decode cX6_nextToken 8 = .ok (.getfield 138, 3) := by decide +kernel
theorem dX6_nextToken_11 : decode cX6_nextToken 11 = .ok (.if_icmp .ge 34, 3) := by decide +kernel
theorem dX6_nextToken_14 : decode cX6_nextToken 14 = .ok (.aload_n 0, 1) := by decide +kernel
theorem dX6_nextToken_15 : decode cX6_nextToken 15 = .ok (.getfield 37, 3) := by decide +kernel
theorem dX6_nextToken_18 : decode cX6_nextToken 18 = .ok (.aload_n 0, 1) := by decide +kernel
theorem dX6_nextToken_19 : decode cX6_nextToken 19 = .ok (.getfield 25, 3) := by decide +kernel
theorem dX6_nextToken_22 : decode cX6_nextToken 22 = .ok (.invokevirtual 118, 3) := by decide +kernel
theorem dX6_nextToken_25 : decode cX6_nextToken 25 = .ok (.invokestatic 140, 3) := by decide +kernel
theorem dX6_nextToken_28 : decode cX6_nextToken 28 = .ok (.iconst 1, 1) := by decide +kernel
theorem dX6_nextToken_29 : decode cX6_nextToken 29 = .ok (.if_icmp .ne 16, 3) := by decide +kernel
theorem dX6_nextToken_32 : decode cX6_nextToken 32 = .ok (.aload_n 0, 1) := by decide +kernel
theorem dX6_nextToken_33 : decode cX6_nextToken 33 = .ok (.dup, 1) := by decide +kernel
theorem dX6_nextToken_34 : decode cX6_nextToken 34 = .ok (.getfield 25, 3) := by decide +kernel
theorem dX6_nextToken_37 : decode cX6_nextToken 37 = .ok (.iconst 1, 1) := by decide +kernel
theorem dX6_nextToken_38 : decode cX6_nextToken 38 = .ok (.iadd, 1) := by decide +kernel
theorem dX6_nextToken_39 : decode cX6_nextToken 39 = .ok (.putfield 25, 3) := by decide +kernel
theorem dX6_nextToken_42 : decode cX6_nextToken 42 = .ok (.goto (-42), 3) := by decide +kernel
theorem dX6_nextToken_45 : decode cX6_nextToken 45 = .ok (.aload_n 0, 1) := by decide +kernel
theorem dX6_nextToken_46 : decode cX6_nextToken 46 = .ok (.aload_n 0, 1) := by decide +kernel
theorem dX6_nextToken_47 : decode cX6_nextToken 47 = .ok (.getfield 25, 3) := by decide +kernel
theorem dX6_nextToken_50 : decode cX6_nextToken 50 = .ok (.putfield 31, 3) := by decide +kernel
theorem dX6_nextToken_53 : decode cX6_nextToken 53 = .ok (.aload_n 0, 1) := by decide +kernel
theorem dX6_nextToken_54 : decode cX6_nextToken 54 = .ok (.aload_n 0, 1) := by decide +kernel
theorem dX6_nextToken_55 : decode cX6_nextToken 55 = .ok (.getfield 37, 3) := by decide +kernel
theorem dX6_nextToken_58 : decode cX6_nextToken 58 = .ok (.aload_n 0, 1) := by decide +kernel
theorem dX6_nextToken_59 : decode cX6_nextToken 59 = .ok (.getfield 31, 3) := by decide +kernel
theorem dX6_nextToken_62 : decode cX6_nextToken 62 = .ok (.invokevirtual 118, 3) := by decide +kernel
theorem dX6_nextToken_65 : decode cX6_nextToken 65 = .ok (.invokestatic 140, 3) := by decide +kernel
theorem dX6_nextToken_68 : decode cX6_nextToken 68 = .ok (.putfield 28, 3) := by decide +kernel
theorem dX6_nextToken_71 : decode cX6_nextToken 71 = .ok (.aload_n 0, 1) := by decide +kernel
theorem dX6_nextToken_72 : decode cX6_nextToken 72 = .ok (.getfield 28, 3) := by decide +kernel
theorem dX6_nextToken_75 : decode cX6_nextToken 75 = .ok (.iconst 4, 1) := by decide +kernel
theorem dX6_nextToken_76 : decode cX6_nextToken 76 = .ok (.if_icmp .eq 11, 3) := by decide +kernel
theorem dX6_nextToken_79 : decode cX6_nextToken 79 = .ok (.aload_n 0, 1) := by decide +kernel
theorem dX6_nextToken_80 : decode cX6_nextToken 80 = .ok (.getfield 28, 3) := by decide +kernel
theorem dX6_nextToken_83 : decode cX6_nextToken 83 = .ok (.iconst 5, 1) := by decide +kernel
theorem dX6_nextToken_84 : decode cX6_nextToken 84 = .ok (.if_icmp .ne 14, 3) := by decide +kernel
theorem dX6_nextToken_87 : decode cX6_nextToken 87 = .ok (.aload_n 0, 1) := by decide +kernel
theorem dX6_nextToken_88 : decode cX6_nextToken 88 = .ok (.dup, 1) := by decide +kernel
theorem dX6_nextToken_89 : decode cX6_nextToken 89 = .ok (.getfield 25, 3) := by decide +kernel
theorem dX6_nextToken_92 : decode cX6_nextToken 92 = .ok (.iconst 1, 1) := by decide +kernel
theorem dX6_nextToken_93 : decode cX6_nextToken 93 = .ok (.iadd, 1) := by decide +kernel
theorem dX6_nextToken_94 : decode cX6_nextToken 94 = .ok (.putfield 25, 3) := by decide +kernel
theorem dX6_nextToken_97 : decode cX6_nextToken 97 = .ok (.return_, 1) := by decide +kernel
theorem dX6_nextToken_98 : decode cX6_nextToken 98 = .ok (.aload_n 0, 1) := by decide +kernel
theorem dX6_nextToken_99 : decode cX6_nextToken 99 = .ok (.getfield 25, 3) := by decide +kernel
theorem dX6_nextToken_102 : decode cX6_nextToken 102 = .ok (.aload_n 0, 1) := by decide +kernel
theorem dX6_nextToken_103 : decode cX6_nextToken 103 = .ok (.getfield 37, 3) := by decide +kernel
theorem dX6_nextToken_106 : decode cX6_nextToken 106 = .ok (.getfield 138, 3) := by decide +kernel
theorem dX6_nextToken_109 : decode cX6_nextToken 109 = .ok (.if_icmp .ge 37, 3) := by decide +kernel
theorem dX6_nextToken_112 : decode cX6_nextToken 112 = .ok (.aload_n 0, 1) := by decide +kernel
theorem dX6_nextToken_113 : decode cX6_nextToken 113 = .ok (.getfield 37, 3) := by decide +kernel
theorem dX6_nextToken_116 : decode cX6_nextToken 116 = .ok (.aload_n 0, 1) := by decide +kernel
theorem dX6_nextToken_117 : decode cX6_nextToken 117 = .ok (.getfield 25, 3) := by decide +kernel
theorem dX6_nextToken_120 : decode cX6_nextToken 120 = .ok (.invokevirtual 118, 3) := by decide +kernel
theorem dX6_nextToken_123 : decode cX6_nextToken 123 = .ok (.invokestatic 140, 3) := by decide +kernel
theorem dX6_nextToken_126 : decode cX6_nextToken 126 = .ok (.aload_n 0, 1) := by decide +kernel
theorem dX6_nextToken_127 : decode cX6_nextToken 127 = .ok (.getfield 28, 3) := by decide +kernel
theorem dX6_nextToken_130 : decode cX6_nextToken 130 = .ok (.if_icmp .ne 16, 3) := by decide +kernel
theorem dX6_nextToken_133 : decode cX6_nextToken 133 = .ok (.aload_n 0, 1) := by decide +kernel
theorem dX6_nextToken_134 : decode cX6_nextToken 134 = .ok (.dup, 1) := by decide +kernel
theorem dX6_nextToken_135 : decode cX6_nextToken 135 = .ok (.getfield 25, 3) := by decide +kernel
theorem dX6_nextToken_138 : decode cX6_nextToken 138 = .ok (.iconst 1, 1) := by decide +kernel
theorem dX6_nextToken_139 : decode cX6_nextToken 139 = .ok (.iadd, 1) := by decide +kernel
theorem dX6_nextToken_140 : decode cX6_nextToken 140 = .ok (.putfield 25, 3) := by decide +kernel
theorem dX6_nextToken_143 : decode cX6_nextToken 143 = .ok (.goto (-45), 3) := by decide +kernel
theorem dX6_nextToken_146 : decode cX6_nextToken 146 = .ok (.aload_n 0, 1) := by decide +kernel
theorem dX6_nextToken_147 : decode cX6_nextToken 147 = .ok (.getfield 28, 3) := by decide +kernel
theorem dX6_nextToken_150 : decode cX6_nextToken 150 = .ok (.iconst 3, 1) := by decide +kernel
theorem dX6_nextToken_151 : decode cX6_nextToken 151 = .ok (.if_icmp .ne 8, 3) := by decide +kernel
theorem dX6_nextToken_154 : decode cX6_nextToken 154 = .ok (.bipush 6, 2) := by decide +kernel
theorem dX6_nextToken_156 : decode cX6_nextToken 156 = .ok (.goto 5, 3) := by decide +kernel
theorem dX6_nextToken_159 : decode cX6_nextToken 159 = .ok (.bipush 12, 2) := by decide +kernel
theorem dX6_nextToken_161 : decode cX6_nextToken 161 = .ok (.istore_n 1, 1) := by decide +kernel
theorem dX6_nextToken_162 : decode cX6_nextToken 162 = .ok (.aload_n 0, 1) := by decide +kernel
theorem dX6_nextToken_163 : decode cX6_nextToken 163 = .ok (.getfield 25, 3) := by decide +kernel
theorem dX6_nextToken_166 : decode cX6_nextToken 166 = .ok (.aload_n 0, 1) := by decide +kernel
theorem dX6_nextToken_167 : decode cX6_nextToken 167 = .ok (.getfield 31, 3) := by decide +kernel
theorem dX6_nextToken_170 : decode cX6_nextToken 170 = .ok (.isub, 1) := by decide +kernel
theorem dX6_nextToken_171 : decode cX6_nextToken 171 = .ok (.iload_n 1, 1) := by decide +kernel
theorem dX6_nextToken_172 : decode cX6_nextToken 172 = .ok (.if_icmp .le 8, 3) := by decide +kernel
theorem dX6_nextToken_175 : decode cX6_nextToken 175 = .ok (.aload_n 0, 1) := by decide +kernel
theorem dX6_nextToken_176 : decode cX6_nextToken 176 = .ok (.iconst 5, 1) := by decide +kernel
theorem dX6_nextToken_177 : decode cX6_nextToken 177 = .ok (.putfield 28, 3) := by decide +kernel
theorem dX6_nextToken_180 : decode cX6_nextToken 180 = .ok (.return_, 1) := by decide +kernel
set_option maxHeartbeats 4000000 in
set_option maxRecDepth 100000 in
theorem s_X6_nextToken (G : EnvG) (l : Launch) (Φ : Hm) (sz x ca : Nat) (n : Nat) (f : Nat → Int32) (co : Int32) (po : Int32) (nx : Nat) (ki : Nat) (sa : Nat) (nu : Nat) (hx : G.2.2.2 ≤ x) (hI : In G x ca Φ) (hc0 : Φ (x + 1) = some (o_ 7 [.ref (x + 2), .int (nI n)])) (hc1 : Φ (x + 2) = some (ab_ G 700 f)) (hc2 : Φ (x + 24) = some (o_ 8 [.ref (x + 25), .int co, .int po, .ref (x + 1), .int (nI nx), .int (nI ki), .int (nI sa), .int (nI nu)])) (hn : n ≤ 700) (hnx : nx ≤ n) : Ct G l yX6_nextToken wsX6_nextToken ({ frames := 1, cells := 0, slots := 0, locals := 21 }) 0 0 [.ref (x + 24)] Φ sz (fun v Φ1 sz1 => (v = none ∧ ∃ k8 s8 e8 : Nat, Φ1 (x + 24) = some (o_ 8 [.ref (x + 25), .int co, .int po, .ref (x + 1), .int (nI e8), .int (nI k8), .int (nI s8), .int (nI nu)]) ∧ Tk (bA f n) nx k8 s8 e8) ∧ sz1 = sz ∧ In G x (ca) Φ1 ∧ Fr x (fun j9 => j9 = 24) Φ Φ1) := by
  refine Ct.of (cc := cX6_nextToken) (maxL := 2) (ret := none) (by decide) rfl (Nat.le_of_ble_eq_true rfl) ?_
  intro p9 e9 s9 m9 w9 t9 k9 B
  show Z p9 l e9 _ s9 m9 _ w9 t9 k9 _ G 2 0 [(0, .ref (x + 24))] [] Φ sz 0 0
  refine z_lv [0] rfl ?_
  refine z_loop (α := Nat) (fun (a9 : Nat) Φi => In G x (ca) Φi ∧ Fr x (fun j9 => j9 = 24) Φ Φi ∧ (nx ≤ a9 ∧ a9 ≤ n) ∧ (∀ i9, nx ≤ i9 → i9 < a9 → kO (bA f n i9) = 1) ∧ (Φi (x + 24) = some (o_ 8 [.ref (x + 25), .int co, .int po, .ref (x + 1), .int (nI a9), .int (nI ki), .int (nI sa), .int (nI nu)])) ∧ True) (fun a9 => [(0, .ref (x + 24))]) (fun a9 => n - a9) ?_ (nx) ⟨hI, fun _ _ => rfl, (show nx ≤ nx ∧ nx ≤ n by omega), (fun i9 h8 h7 => absurd h7 (by omega)), hc2, trivial⟩
  rintro i_1 Φl1 ⟨hI1, hF1, b_1, b_2, b_3, -⟩ ih1
  replace hI1 : In G x (ca) Φl1 := hI1
  replace b_1 : nx ≤ i_1 ∧ i_1 ≤ n := b_1
  replace b_2 : ∀ i9, nx ≤ i9 → i9 < i_1 → kO (bA f n i9) = 1 := b_2
  replace b_3 : Φl1 (x + 24) = some (o_ 8 [.ref (x + 25), .int co, .int po, .ref (x + 1), .int (nI i_1), .int (nI ki), .int (nI sa), .int (nI nu)]) := b_3
  show Z p9 l e9 _ s9 m9 _ w9 t9 k9 _ G 2 0 [(0, .ref (x + 24))] [] Φl1 _ _ _
  refine z_aload_n B dX6_nextToken_0 rfl 0 rfl ?_
  refine z_get (ref := "FlowExporter$Parser") (C := RX6) (T := TX6) (N := 8) (ci := 8) (v := .int (nI i_1)) B hu_X6_nextToken_X6 rfl 4 (Nat.le_of_ble_eq_true rfl) hv_X6_nextToken_25 rfl b_3 rfl dX6_nextToken_1 ?_
  refine z_aload_n B dX6_nextToken_4 rfl 0 rfl ?_
  refine z_get (ref := "FlowExporter$Parser") (C := RX6) (T := TX6) (N := 8) (ci := 8) (v := .ref (x + 1)) B hu_X6_nextToken_X6 rfl 3 (Nat.le_of_ble_eq_true rfl) hv_X6_nextToken_37 rfl b_3 rfl dX6_nextToken_5 ?_
  have h_1 : Φl1 (x + 1) = some (o_ 7 [.ref (x + 2), .int (nI n)]) := ((hF1 (x + 1) fq_545).trans hc0)
  refine z_get (ref := "FlowExporter$Message") (C := RX5) (T := TX5) (N := 2) (ci := 7) (v := .int (nI n)) B hu_X6_nextToken_X5 rfl 1 (Nat.le_of_ble_eq_true rfl) hv_X6_nextToken_138 rfl h_1 rfl dX6_nextToken_8 ?_
  refine z_icmp_ge (tgt := 45) B dX6_nextToken_11 rfl (fun c_1 => ?_) (fun c_1 => ?_)
  · have e_1 : n ≤ i_1 := (nI_leI (a := n) (b := i_1) (by omega) (by omega)).mp c_1
    have e_2 : ¬ kO (bA f n i_1) = 1 := by rw [kO_hi (f := f) (n := n) (i := i_1) (by omega)]; decide
    refine z_aload_n B dX6_nextToken_45 rfl 0 rfl ?_
    refine z_aload_n B dX6_nextToken_46 rfl 0 rfl ?_
    refine z_get (ref := "FlowExporter$Parser") (C := RX6) (T := TX6) (N := 8) (ci := 8) (v := .int (nI i_1)) B hu_X6_nextToken_X6 rfl 4 (Nat.le_of_ble_eq_true rfl) hv_X6_nextToken_25 rfl b_3 rfl dX6_nextToken_47 ?_
    refine z_put (ref := "FlowExporter$Parser") (C := RX6) (T := TX6) (N := 8) (ci := 8) (v := .int (nI i_1)) B hu_X6_nextToken_X6 tyX6 tyX6_ok nmX6 rfl 6 (Nat.le_of_ble_eq_true rfl) hv_X6_nextToken_31 rfl (Or.inl rfl) b_3 (Nat.le_trans hx (Nat.le_add_right x 24)) rfl rfl (Nat.le_of_ble_eq_true rfl) dX6_nextToken_50 (fun Φ1 hΦ1 => ?_)
    have h_2 : Φ1 (x + 24) = some (o_ 8 [.ref (x + 25), .int co, .int po, .ref (x + 1), .int (nI i_1), .int (nI ki), .int (nI i_1), .int (nI nu)]) := fset_at hΦ1
    have hI2 : In G x (ca) Φ1 := In.put (k := 24) hI1 hΦ1 (ok10 (k := 24) rfl ⟨co, po, nI i_1, nI ki, nI i_1, nI nu, rfl⟩)
    refine z_aload_n B dX6_nextToken_53 rfl 0 rfl ?_
    refine z_aload_n B dX6_nextToken_54 rfl 0 rfl ?_
    refine z_get (ref := "FlowExporter$Parser") (C := RX6) (T := TX6) (N := 8) (ci := 8) (v := .ref (x + 1)) B hu_X6_nextToken_X6 rfl 3 (Nat.le_of_ble_eq_true rfl) hv_X6_nextToken_37 rfl h_2 rfl dX6_nextToken_55 ?_
    refine z_aload_n B dX6_nextToken_58 rfl 0 rfl ?_
    refine z_get (ref := "FlowExporter$Parser") (C := RX6) (T := TX6) (N := 8) (ci := 8) (v := .int (nI i_1)) B hu_X6_nextToken_X6 rfl 6 (Nat.le_of_ble_eq_true rfl) hv_X6_nextToken_31 rfl h_2 rfl dX6_nextToken_59 ?_
    have h_3 : Φ1 (x + 1) = some (o_ 7 [.ref (x + 2), .int (nI n)]) := ((fset_fr hΦ1 (ne_off (x := x) (i := 1) (j := 24) rfl)).trans h_1)
    have h_4 : Φ1 (x + 2) = some (ab_ G 700 f) := ((fset_fr hΦ1 (ne_off (x := x) (i := 2) (j := 24) rfl)).trans ((hF1 (x + 2) fq_549).trans hc1))
    refine z_callV (As := [.int (nI i_1)]) (rest := [.ref (x + 24)]) B (s_X5_byteAt1 G l Φ1 sz x (ca) n f i_1 hx hI2 h_3 h_4 (show i_1 < 2 ^ 31 by omega) (show n ≤ 700 by omega)) (cwV 1 B.1.2.2.2.2 gX6_nextToken_X5_byteAt rfl rfl rfl (by decide +kernel) ⟨Nat.le_of_ble_eq_true rfl, Nat.le_of_ble_eq_true rfl⟩) h_3 rfl rfl rfl rfl (Nat.le_of_ble_eq_true rfl) dX6_nextToken_62 ⟨Nat.le_of_ble_eq_true rfl, Nat.le_of_ble_eq_true rfl⟩ (fun r_1 Φ2 sz1 st1 hp1 hs1 => ?_)
    obtain ⟨rfl, hq1, hI3, hF2⟩ := hp1
    subst sz1
    replace hs1 : st1 = [.int (bA f n i_1), .ref (x + 24)] := hs1
    subst st1
    replace hI3 : In G x (ca) Φ2 := hI3
    refine z_callS (As := [.int (bA f n i_1)]) (rest := [.ref (x + 24)]) B (s_X6_kindOf G l Φ2 sz x (ca) (bA f n i_1) hx hI3 ) (va_cwS 1 B.1.2.2.2.2 gX6_nextToken_X6_kindOf rfl rfl rfl (by decide +kernel) ⟨Nat.le_of_ble_eq_true rfl, Nat.le_of_ble_eq_true rfl⟩) rfl rfl (Nat.le_of_ble_eq_true rfl) dX6_nextToken_65 ⟨Nat.le_of_ble_eq_true rfl, Nat.le_of_ble_eq_true rfl⟩ (fun r_2 Φ3 sz2 st2 hp2 hs2 => ?_)
    obtain ⟨rfl, hq2, hI4, hF3⟩ := hp2
    subst sz2
    replace hs2 : st2 = [.int (nI (kO (bA f n i_1))), .ref (x + 24)] := hs2
    subst st2
    replace hI4 : In G x (ca) Φ3 := hI4
    have b_4 := kO_le (bA f n i_1)
    have h_5 : Φ3 (x + 24) = some (o_ 8 [.ref (x + 25), .int co, .int po, .ref (x + 1), .int (nI i_1), .int (nI ki), .int (nI i_1), .int (nI nu)]) := ((hF3 (x + 24) (fun j9 h8 h7 => (show False from h7).elim)).trans ((hF2 (x + 24) (fun j9 h8 h7 => (show False from h7).elim)).trans h_2))
    refine z_put (ref := "FlowExporter$Parser") (C := RX6) (T := TX6) (N := 8) (ci := 8) (v := .int (nI (kO (bA f n i_1)))) B hu_X6_nextToken_X6 tyX6 tyX6_ok nmX6 rfl 5 (Nat.le_of_ble_eq_true rfl) hv_X6_nextToken_28 rfl (Or.inl rfl) h_5 (Nat.le_trans hx (Nat.le_add_right x 24)) rfl rfl (Nat.le_of_ble_eq_true rfl) dX6_nextToken_68 (fun Φ4 hΦ2 => ?_)
    have h_6 : Φ4 (x + 24) = some (o_ 8 [.ref (x + 25), .int co, .int po, .ref (x + 1), .int (nI i_1), .int (nI (kO (bA f n i_1))), .int (nI i_1), .int (nI nu)]) := fset_at hΦ2
    have hI5 : In G x (ca) Φ4 := In.put (k := 24) hI4 hΦ2 (ok10 (k := 24) rfl ⟨co, po, nI i_1, nI (kO (bA f n i_1)), nI i_1, nI nu, rfl⟩)
    refine z_aload_n B dX6_nextToken_71 rfl 0 rfl ?_
    refine z_get (ref := "FlowExporter$Parser") (C := RX6) (T := TX6) (N := 8) (ci := 8) (v := .int (nI (kO (bA f n i_1)))) B hu_X6_nextToken_X6 rfl 5 (Nat.le_of_ble_eq_true rfl) hv_X6_nextToken_28 rfl h_6 rfl dX6_nextToken_72 ?_
    refine z_iconst (v := 4) B dX6_nextToken_75 rfl ?_
    refine z_icmp_eq (tgt := 87) B dX6_nextToken_76 rfl (fun c_2 => ?_) (fun c_2 => ?_)
    · have e_3 : kO (bA f n i_1) = 4 := (nI_eq (a := kO (bA f n i_1)) (b := 4) (by omega) (by omega)).mp c_2
      refine z_aload_n B dX6_nextToken_87 rfl 0 rfl ?_
      refine z_dup B dX6_nextToken_88 rfl ?_
      refine z_get (ref := "FlowExporter$Parser") (C := RX6) (T := TX6) (N := 8) (ci := 8) (v := .int (nI i_1)) B hu_X6_nextToken_X6 rfl 4 (Nat.le_of_ble_eq_true rfl) hv_X6_nextToken_25 rfl h_6 rfl dX6_nextToken_89 ?_
      refine z_iconst (v := 1) B dX6_nextToken_92 rfl ?_
      refine z_iadd B dX6_nextToken_93 ?_
      refine z_top (st1 := [.int (nI (i_1 + 1)), .ref (x + 24)]) (congrArg (fun w9 : Int32 => ([.int w9, .ref (x + 24)] : List Value)) (nI_add i_1 1)) ?_
      refine z_put (ref := "FlowExporter$Parser") (C := RX6) (T := TX6) (N := 8) (ci := 8) (v := .int (nI (i_1 + 1))) B hu_X6_nextToken_X6 tyX6 tyX6_ok nmX6 rfl 4 (Nat.le_of_ble_eq_true rfl) hv_X6_nextToken_25 rfl (Or.inl rfl) h_6 (Nat.le_trans hx (Nat.le_add_right x 24)) rfl rfl (Nat.le_of_ble_eq_true rfl) dX6_nextToken_94 (fun Φ5 hΦ3 => ?_)
      have h_7 : Φ5 (x + 24) = some (o_ 8 [.ref (x + 25), .int co, .int po, .ref (x + 1), .int (nI (i_1 + 1)), .int (nI (kO (bA f n i_1))), .int (nI i_1), .int (nI nu)]) := fset_at hΦ3
      have hI6 : In G x (ca) Φ5 := In.put (k := 24) hI5 hΦ3 (ok10 (k := 24) rfl ⟨co, po, nI (i_1 + 1), nI (kO (bA f n i_1)), nI i_1, nI nu, rfl⟩)
      exact z_ret_v B dX6_nextToken_97 ⟨⟨rfl, kO (bA f n i_1), i_1, i_1 + 1, h_7, Tk_one (by omega) b_2 (by omega)⟩, rfl, hI6, (fun b9 h9 => ((fset_fr hΦ3 (fun h8 => h9 (24) h8 (show 24 = 24 by decide))).trans ((fset_fr hΦ2 (fun h8 => h9 (24) h8 (show 24 = 24 by decide))).trans ((hF3 b9 (fun j9 h8 h7 => (show False from h7).elim)).trans ((hF2 b9 (fun j9 h8 h7 => (show False from h7).elim)).trans ((fset_fr hΦ1 (fun h8 => h9 (24) h8 (show 24 = 24 by decide))).trans ((hF1 b9 h9).trans rfl)))))))⟩
    · have e_4 : ¬ (kO (bA f n i_1) = 4) := fun h9 => c_2 ((nI_eq (a := kO (bA f n i_1)) (b := 4) (by omega) (by omega)).mpr h9)
      refine z_aload_n B dX6_nextToken_79 rfl 0 rfl ?_
      refine z_get (ref := "FlowExporter$Parser") (C := RX6) (T := TX6) (N := 8) (ci := 8) (v := .int (nI (kO (bA f n i_1)))) B hu_X6_nextToken_X6 rfl 5 (Nat.le_of_ble_eq_true rfl) hv_X6_nextToken_28 rfl h_6 rfl dX6_nextToken_80 ?_
      refine z_iconst (v := 5) B dX6_nextToken_83 rfl ?_
      refine z_icmp_ne (tgt := 98) B dX6_nextToken_84 rfl (fun c_3 => ?_) (fun c_3 => ?_)
      · have e_5 : ¬ (kO (bA f n i_1) = 5) := fun h9 => c_3 ((nI_eq (a := kO (bA f n i_1)) (b := 5) (by omega) (by omega)).mpr h9)
        refine z_lv [0] rfl ?_
        refine z_loop (α := Nat) (fun (a9 : Nat) Φi => In G x (ca) Φi ∧ Fr x (fun j9 => j9 = 24) Φ4 Φi ∧ (i_1 ≤ a9 ∧ a9 ≤ n) ∧ (∀ i9, i_1 ≤ i9 → i9 < a9 → kO (bA f n i9) = kO (bA f n i_1)) ∧ (Φi (x + 24) = some (o_ 8 [.ref (x + 25), .int co, .int po, .ref (x + 1), .int (nI a9), .int (nI (kO (bA f n i_1))), .int (nI i_1), .int (nI nu)])) ∧ True) (fun a9 => [(0, .ref (x + 24))]) (fun a9 => n - a9) ?_ (i_1) ⟨hI5, fun _ _ => rfl, (show i_1 ≤ i_1 ∧ i_1 ≤ n by omega), (fun i9 h8 h7 => absurd h7 (by omega)), h_6, trivial⟩
        rintro i_2 Φl2 ⟨hI7, hF4, b_5, b_6, b_7, -⟩ ih2
        replace hI7 : In G x (ca) Φl2 := hI7
        replace b_5 : i_1 ≤ i_2 ∧ i_2 ≤ n := b_5
        replace b_6 : ∀ i9, i_1 ≤ i9 → i9 < i_2 → kO (bA f n i9) = kO (bA f n i_1) := b_6
        replace b_7 : Φl2 (x + 24) = some (o_ 8 [.ref (x + 25), .int co, .int po, .ref (x + 1), .int (nI i_2), .int (nI (kO (bA f n i_1))), .int (nI i_1), .int (nI nu)]) := b_7
        show Z p9 l e9 _ s9 m9 _ w9 t9 k9 _ G 2 98 [(0, .ref (x + 24))] [] Φl2 _ _ _
        refine z_aload_n B dX6_nextToken_98 rfl 0 rfl ?_
        refine z_get (ref := "FlowExporter$Parser") (C := RX6) (T := TX6) (N := 8) (ci := 8) (v := .int (nI i_2)) B hu_X6_nextToken_X6 rfl 4 (Nat.le_of_ble_eq_true rfl) hv_X6_nextToken_25 rfl b_7 rfl dX6_nextToken_99 ?_
        refine z_aload_n B dX6_nextToken_102 rfl 0 rfl ?_
        refine z_get (ref := "FlowExporter$Parser") (C := RX6) (T := TX6) (N := 8) (ci := 8) (v := .ref (x + 1)) B hu_X6_nextToken_X6 rfl 3 (Nat.le_of_ble_eq_true rfl) hv_X6_nextToken_37 rfl b_7 rfl dX6_nextToken_103 ?_
        have h_8 : Φl2 (x + 1) = some (o_ 7 [.ref (x + 2), .int (nI n)]) := ((hF4 (x + 1) fq_545).trans ((fset_fr hΦ2 (ne_off (x := x) (i := 1) (j := 24) rfl)).trans ((hF3 (x + 1) (fun j9 h8 h7 => (show False from h7).elim)).trans ((hF2 (x + 1) (fun j9 h8 h7 => (show False from h7).elim)).trans h_3))))
        refine z_get (ref := "FlowExporter$Message") (C := RX5) (T := TX5) (N := 2) (ci := 7) (v := .int (nI n)) B hu_X6_nextToken_X5 rfl 1 (Nat.le_of_ble_eq_true rfl) hv_X6_nextToken_138 rfl h_8 rfl dX6_nextToken_106 ?_
        refine z_icmp_ge (tgt := 146) B dX6_nextToken_109 rfl (fun c_4 => ?_) (fun c_4 => ?_)
        · have e_6 : n ≤ i_2 := (nI_leI (a := n) (b := i_2) (by omega) (by omega)).mp c_4
          refine z_aload_n B dX6_nextToken_146 rfl 0 rfl ?_
          refine z_get (ref := "FlowExporter$Parser") (C := RX6) (T := TX6) (N := 8) (ci := 8) (v := .int (nI (kO (bA f n i_1)))) B hu_X6_nextToken_X6 rfl 5 (Nat.le_of_ble_eq_true rfl) hv_X6_nextToken_28 rfl b_7 rfl dX6_nextToken_147 ?_
          refine z_iconst (v := 3) B dX6_nextToken_150 rfl ?_
          refine z_icmp_ne (tgt := 159) B dX6_nextToken_151 rfl (fun c_5 => ?_) (fun c_5 => ?_)
          · have e_7 : ¬ (kO (bA f n i_1) = 3) := fun h9 => c_5 ((nI_eq (a := kO (bA f n i_1)) (b := 3) (by omega) (by omega)).mpr h9)
            refine z_bipush (v := 12) B dX6_nextToken_159 rfl ?_
            refine z_istore_n (lv' := [(1, .int 12), (0, .ref (x + 24))]) B dX6_nextToken_161 rfl (Nat.le_of_ble_eq_true rfl) rfl ?_
            refine z_aload_n B dX6_nextToken_162 rfl 1 rfl ?_
            refine z_get (ref := "FlowExporter$Parser") (C := RX6) (T := TX6) (N := 8) (ci := 8) (v := .int (nI i_2)) B hu_X6_nextToken_X6 rfl 4 (Nat.le_of_ble_eq_true rfl) hv_X6_nextToken_25 rfl b_7 rfl dX6_nextToken_163 ?_
            refine z_aload_n B dX6_nextToken_166 rfl 1 rfl ?_
            refine z_get (ref := "FlowExporter$Parser") (C := RX6) (T := TX6) (N := 8) (ci := 8) (v := .int (nI i_1)) B hu_X6_nextToken_X6 rfl 6 (Nat.le_of_ble_eq_true rfl) hv_X6_nextToken_31 rfl b_7 rfl dX6_nextToken_167 ?_
            refine z_isub B dX6_nextToken_170 ?_
            refine z_top (st1 := [.int (nI (i_2 - i_1))]) (congrArg (fun w9 : Int32 => ([.int w9] : List Value)) (nI_sub (show i_1 ≤ i_2 by omega))) ?_
            refine z_iload_n B dX6_nextToken_171 rfl 0 rfl ?_
            refine z_icmp_le (tgt := 180) B dX6_nextToken_172 rfl (fun c_6 => ?_) (fun c_6 => ?_)
            · have e_8 : i_2 - i_1 ≤ 12 := (nI_leI (a := i_2 - i_1) (b := 12) (by omega) (by omega)).mp c_6
              exact z_ret_v B dX6_nextToken_180 ⟨⟨rfl, kO (bA f n i_1), i_1, i_2, b_7, Tk_run (by omega) b_2 e_2 (by omega) (by omega) (by omega) b_6 (Or.inr (by omega)) (by omega) (by omega)⟩, rfl, hI7, (fun b9 h9 => ((hF4 b9 h9).trans ((fset_fr hΦ2 (fun h8 => h9 (24) h8 (show 24 = 24 by decide))).trans ((hF3 b9 (fun j9 h8 h7 => (show False from h7).elim)).trans ((hF2 b9 (fun j9 h8 h7 => (show False from h7).elim)).trans ((fset_fr hΦ1 (fun h8 => h9 (24) h8 (show 24 = 24 by decide))).trans ((hF1 b9 h9).trans rfl)))))))⟩
            · have e_9 : ¬ (i_2 - i_1 ≤ 12) := fun h9 => c_6 ((nI_leI (a := i_2 - i_1) (b := 12) (by omega) (by omega)).mpr h9)
              refine z_aload_n B dX6_nextToken_175 rfl 1 rfl ?_
              refine z_iconst (v := 5) B dX6_nextToken_176 rfl ?_
              refine z_put (ref := "FlowExporter$Parser") (C := RX6) (T := TX6) (N := 8) (ci := 8) (v := .int 5) B hu_X6_nextToken_X6 tyX6 tyX6_ok nmX6 rfl 5 (Nat.le_of_ble_eq_true rfl) hv_X6_nextToken_28 rfl (Or.inl rfl) b_7 (Nat.le_trans hx (Nat.le_add_right x 24)) rfl rfl (Nat.le_of_ble_eq_true rfl) dX6_nextToken_177 (fun Φ6 hΦ4 => ?_)
              have h_9 : Φ6 (x + 24) = some (o_ 8 [.ref (x + 25), .int co, .int po, .ref (x + 1), .int (nI i_2), .int 5, .int (nI i_1), .int (nI nu)]) := fset_at hΦ4
              have hI8 : In G x (ca) Φ6 := In.put (k := 24) hI7 hΦ4 (ok10 (k := 24) rfl ⟨co, po, nI i_2, 5, nI i_1, nI nu, rfl⟩)
              exact z_ret_v B dX6_nextToken_180 ⟨⟨rfl, 5, i_1, i_2, h_9, Tk_run (by omega) b_2 e_2 (by omega) (by omega) (by omega) b_6 (Or.inr (by omega)) (by omega) (by omega)⟩, rfl, hI8, (fun b9 h9 => ((fset_fr hΦ4 (fun h8 => h9 (24) h8 (show 24 = 24 by decide))).trans ((hF4 b9 h9).trans ((fset_fr hΦ2 (fun h8 => h9 (24) h8 (show 24 = 24 by decide))).trans ((hF3 b9 (fun j9 h8 h7 => (show False from h7).elim)).trans ((hF2 b9 (fun j9 h8 h7 => (show False from h7).elim)).trans ((fset_fr hΦ1 (fun h8 => h9 (24) h8 (show 24 = 24 by decide))).trans ((hF1 b9 h9).trans rfl))))))))⟩
          · have e_10 : kO (bA f n i_1) = 3 := (nI_eq (a := kO (bA f n i_1)) (b := 3) (by omega) (by omega)).mp c_5
            refine z_bipush (v := 6) B dX6_nextToken_154 rfl ?_
            refine z_goto (tgt := 161) B dX6_nextToken_156 rfl ?_
            refine z_istore_n (lv' := [(1, .int 6), (0, .ref (x + 24))]) B dX6_nextToken_161 rfl (Nat.le_of_ble_eq_true rfl) rfl ?_
            refine z_aload_n B dX6_nextToken_162 rfl 1 rfl ?_
            refine z_get (ref := "FlowExporter$Parser") (C := RX6) (T := TX6) (N := 8) (ci := 8) (v := .int (nI i_2)) B hu_X6_nextToken_X6 rfl 4 (Nat.le_of_ble_eq_true rfl) hv_X6_nextToken_25 rfl b_7 rfl dX6_nextToken_163 ?_
            refine z_aload_n B dX6_nextToken_166 rfl 1 rfl ?_
            refine z_get (ref := "FlowExporter$Parser") (C := RX6) (T := TX6) (N := 8) (ci := 8) (v := .int (nI i_1)) B hu_X6_nextToken_X6 rfl 6 (Nat.le_of_ble_eq_true rfl) hv_X6_nextToken_31 rfl b_7 rfl dX6_nextToken_167 ?_
            refine z_isub B dX6_nextToken_170 ?_
            refine z_top (st1 := [.int (nI (i_2 - i_1))]) (congrArg (fun w9 : Int32 => ([.int w9] : List Value)) (nI_sub (show i_1 ≤ i_2 by omega))) ?_
            refine z_iload_n B dX6_nextToken_171 rfl 0 rfl ?_
            refine z_icmp_le (tgt := 180) B dX6_nextToken_172 rfl (fun c_7 => ?_) (fun c_7 => ?_)
            · have e_11 : i_2 - i_1 ≤ 6 := (nI_leI (a := i_2 - i_1) (b := 6) (by omega) (by omega)).mp c_7
              exact z_ret_v B dX6_nextToken_180 ⟨⟨rfl, kO (bA f n i_1), i_1, i_2, b_7, Tk_run (by omega) b_2 e_2 (by omega) (by omega) (by omega) b_6 (Or.inr (by omega)) (by omega) (by omega)⟩, rfl, hI7, (fun b9 h9 => ((hF4 b9 h9).trans ((fset_fr hΦ2 (fun h8 => h9 (24) h8 (show 24 = 24 by decide))).trans ((hF3 b9 (fun j9 h8 h7 => (show False from h7).elim)).trans ((hF2 b9 (fun j9 h8 h7 => (show False from h7).elim)).trans ((fset_fr hΦ1 (fun h8 => h9 (24) h8 (show 24 = 24 by decide))).trans ((hF1 b9 h9).trans rfl)))))))⟩
            · have e_12 : ¬ (i_2 - i_1 ≤ 6) := fun h9 => c_7 ((nI_leI (a := i_2 - i_1) (b := 6) (by omega) (by omega)).mpr h9)
              refine z_aload_n B dX6_nextToken_175 rfl 1 rfl ?_
              refine z_iconst (v := 5) B dX6_nextToken_176 rfl ?_
              refine z_put (ref := "FlowExporter$Parser") (C := RX6) (T := TX6) (N := 8) (ci := 8) (v := .int 5) B hu_X6_nextToken_X6 tyX6 tyX6_ok nmX6 rfl 5 (Nat.le_of_ble_eq_true rfl) hv_X6_nextToken_28 rfl (Or.inl rfl) b_7 (Nat.le_trans hx (Nat.le_add_right x 24)) rfl rfl (Nat.le_of_ble_eq_true rfl) dX6_nextToken_177 (fun Φ7 hΦ5 => ?_)
              have h_10 : Φ7 (x + 24) = some (o_ 8 [.ref (x + 25), .int co, .int po, .ref (x + 1), .int (nI i_2), .int 5, .int (nI i_1), .int (nI nu)]) := fset_at hΦ5
              have hI9 : In G x (ca) Φ7 := In.put (k := 24) hI7 hΦ5 (ok10 (k := 24) rfl ⟨co, po, nI i_2, 5, nI i_1, nI nu, rfl⟩)
              exact z_ret_v B dX6_nextToken_180 ⟨⟨rfl, 5, i_1, i_2, h_10, Tk_run (by omega) b_2 e_2 (by omega) (by omega) (by omega) b_6 (Or.inr (by omega)) (by omega) (by omega)⟩, rfl, hI9, (fun b9 h9 => ((fset_fr hΦ5 (fun h8 => h9 (24) h8 (show 24 = 24 by decide))).trans ((hF4 b9 h9).trans ((fset_fr hΦ2 (fun h8 => h9 (24) h8 (show 24 = 24 by decide))).trans ((hF3 b9 (fun j9 h8 h7 => (show False from h7).elim)).trans ((hF2 b9 (fun j9 h8 h7 => (show False from h7).elim)).trans ((fset_fr hΦ1 (fun h8 => h9 (24) h8 (show 24 = 24 by decide))).trans ((hF1 b9 h9).trans rfl))))))))⟩
        · have e_13 : ¬ (n ≤ i_2) := fun h9 => c_4 ((nI_leI (a := n) (b := i_2) (by omega) (by omega)).mpr h9)
          refine z_aload_n B dX6_nextToken_112 rfl 0 rfl ?_
          refine z_get (ref := "FlowExporter$Parser") (C := RX6) (T := TX6) (N := 8) (ci := 8) (v := .ref (x + 1)) B hu_X6_nextToken_X6 rfl 3 (Nat.le_of_ble_eq_true rfl) hv_X6_nextToken_37 rfl b_7 rfl dX6_nextToken_113 ?_
          refine z_aload_n B dX6_nextToken_116 rfl 0 rfl ?_
          refine z_get (ref := "FlowExporter$Parser") (C := RX6) (T := TX6) (N := 8) (ci := 8) (v := .int (nI i_2)) B hu_X6_nextToken_X6 rfl 4 (Nat.le_of_ble_eq_true rfl) hv_X6_nextToken_25 rfl b_7 rfl dX6_nextToken_117 ?_
          have h_11 : Φl2 (x + 2) = some (ab_ G 700 f) := ((hF4 (x + 2) fq_549).trans ((fset_fr hΦ2 (ne_off (x := x) (i := 2) (j := 24) rfl)).trans ((hF3 (x + 2) (fun j9 h8 h7 => (show False from h7).elim)).trans ((hF2 (x + 2) (fun j9 h8 h7 => (show False from h7).elim)).trans h_4))))
          refine z_callV (As := [.int (nI i_2)]) (rest := []) B (s_X5_byteAt1 G l Φl2 sz x (ca) n f i_2 hx hI7 h_8 h_11 (show i_2 < 2 ^ 31 by omega) (show n ≤ 700 by omega)) (cwV 1 B.1.2.2.2.2 gX6_nextToken_X5_byteAt rfl rfl rfl (by decide +kernel) ⟨Nat.le_of_ble_eq_true rfl, Nat.le_of_ble_eq_true rfl⟩) h_8 rfl rfl rfl rfl (Nat.le_of_ble_eq_true rfl) dX6_nextToken_120 ⟨Nat.le_of_ble_eq_true rfl, Nat.le_of_ble_eq_true rfl⟩ (fun r_3 Φ8 sz3 st3 hp3 hs3 => ?_)
          obtain ⟨rfl, hq3, hI10, hF5⟩ := hp3
          subst sz3
          replace hs3 : st3 = [.int (bA f n i_2)] := hs3
          subst st3
          replace hI10 : In G x (ca) Φ8 := hI10
          refine z_callS (As := [.int (bA f n i_2)]) (rest := []) B (s_X6_kindOf G l Φ8 sz x (ca) (bA f n i_2) hx hI10 ) (va_cwS 1 B.1.2.2.2.2 gX6_nextToken_X6_kindOf rfl rfl rfl (by decide +kernel) ⟨Nat.le_of_ble_eq_true rfl, Nat.le_of_ble_eq_true rfl⟩) rfl rfl (Nat.le_of_ble_eq_true rfl) dX6_nextToken_123 ⟨Nat.le_of_ble_eq_true rfl, Nat.le_of_ble_eq_true rfl⟩ (fun r_4 Φ9 sz4 st4 hp4 hs4 => ?_)
          obtain ⟨rfl, hq4, hI11, hF6⟩ := hp4
          subst sz4
          replace hs4 : st4 = [.int (nI (kO (bA f n i_2)))] := hs4
          subst st4
          replace hI11 : In G x (ca) Φ9 := hI11
          have b_8 := kO_le (bA f n i_2)
          refine z_aload_n B dX6_nextToken_126 rfl 0 rfl ?_
          have h_12 : Φ9 (x + 24) = some (o_ 8 [.ref (x + 25), .int co, .int po, .ref (x + 1), .int (nI i_2), .int (nI (kO (bA f n i_1))), .int (nI i_1), .int (nI nu)]) := ((hF6 (x + 24) (fun j9 h8 h7 => (show False from h7).elim)).trans ((hF5 (x + 24) (fun j9 h8 h7 => (show False from h7).elim)).trans b_7))
          refine z_get (ref := "FlowExporter$Parser") (C := RX6) (T := TX6) (N := 8) (ci := 8) (v := .int (nI (kO (bA f n i_1)))) B hu_X6_nextToken_X6 rfl 5 (Nat.le_of_ble_eq_true rfl) hv_X6_nextToken_28 rfl h_12 rfl dX6_nextToken_127 ?_
          refine z_icmp_ne (tgt := 146) B dX6_nextToken_130 rfl (fun c_8 => ?_) (fun c_8 => ?_)
          · have e_14 : ¬ (kO (bA f n i_2) = kO (bA f n i_1)) := fun h9 => c_8 ((nI_eq (a := kO (bA f n i_2)) (b := kO (bA f n i_1)) (by omega) (by omega)).mpr h9)
            refine z_aload_n B dX6_nextToken_146 rfl 0 rfl ?_
            refine z_get (ref := "FlowExporter$Parser") (C := RX6) (T := TX6) (N := 8) (ci := 8) (v := .int (nI (kO (bA f n i_1)))) B hu_X6_nextToken_X6 rfl 5 (Nat.le_of_ble_eq_true rfl) hv_X6_nextToken_28 rfl h_12 rfl dX6_nextToken_147 ?_
            refine z_iconst (v := 3) B dX6_nextToken_150 rfl ?_
            refine z_icmp_ne (tgt := 159) B dX6_nextToken_151 rfl (fun c_9 => ?_) (fun c_9 => ?_)
            · have e_15 : ¬ (kO (bA f n i_1) = 3) := fun h9 => c_9 ((nI_eq (a := kO (bA f n i_1)) (b := 3) (by omega) (by omega)).mpr h9)
              refine z_bipush (v := 12) B dX6_nextToken_159 rfl ?_
              refine z_istore_n (lv' := [(1, .int 12), (0, .ref (x + 24))]) B dX6_nextToken_161 rfl (Nat.le_of_ble_eq_true rfl) rfl ?_
              refine z_aload_n B dX6_nextToken_162 rfl 1 rfl ?_
              refine z_get (ref := "FlowExporter$Parser") (C := RX6) (T := TX6) (N := 8) (ci := 8) (v := .int (nI i_2)) B hu_X6_nextToken_X6 rfl 4 (Nat.le_of_ble_eq_true rfl) hv_X6_nextToken_25 rfl h_12 rfl dX6_nextToken_163 ?_
              refine z_aload_n B dX6_nextToken_166 rfl 1 rfl ?_
              refine z_get (ref := "FlowExporter$Parser") (C := RX6) (T := TX6) (N := 8) (ci := 8) (v := .int (nI i_1)) B hu_X6_nextToken_X6 rfl 6 (Nat.le_of_ble_eq_true rfl) hv_X6_nextToken_31 rfl h_12 rfl dX6_nextToken_167 ?_
              refine z_isub B dX6_nextToken_170 ?_
              refine z_top (st1 := [.int (nI (i_2 - i_1))]) (congrArg (fun w9 : Int32 => ([.int w9] : List Value)) (nI_sub (show i_1 ≤ i_2 by omega))) ?_
              refine z_iload_n B dX6_nextToken_171 rfl 0 rfl ?_
              refine z_icmp_le (tgt := 180) B dX6_nextToken_172 rfl (fun c_10 => ?_) (fun c_10 => ?_)
              · have e_16 : i_2 - i_1 ≤ 12 := (nI_leI (a := i_2 - i_1) (b := 12) (by omega) (by omega)).mp c_10
                exact z_ret_v B dX6_nextToken_180 ⟨⟨rfl, kO (bA f n i_1), i_1, i_2, h_12, Tk_run (by omega) b_2 e_2 (by omega) (by omega) (by omega) b_6 (Or.inl (by omega)) (by omega) (by omega)⟩, rfl, hI11, (fun b9 h9 => ((hF6 b9 (fun j9 h8 h7 => (show False from h7).elim)).trans ((hF5 b9 (fun j9 h8 h7 => (show False from h7).elim)).trans ((hF4 b9 h9).trans ((fset_fr hΦ2 (fun h8 => h9 (24) h8 (show 24 = 24 by decide))).trans ((hF3 b9 (fun j9 h8 h7 => (show False from h7).elim)).trans ((hF2 b9 (fun j9 h8 h7 => (show False from h7).elim)).trans ((fset_fr hΦ1 (fun h8 => h9 (24) h8 (show 24 = 24 by decide))).trans ((hF1 b9 h9).trans rfl)))))))))⟩
              · have e_17 : ¬ (i_2 - i_1 ≤ 12) := fun h9 => c_10 ((nI_leI (a := i_2 - i_1) (b := 12) (by omega) (by omega)).mpr h9)
                refine z_aload_n B dX6_nextToken_175 rfl 1 rfl ?_
                refine z_iconst (v := 5) B dX6_nextToken_176 rfl ?_
                refine z_put (ref := "FlowExporter$Parser") (C := RX6) (T := TX6) (N := 8) (ci := 8) (v := .int 5) B hu_X6_nextToken_X6 tyX6 tyX6_ok nmX6 rfl 5 (Nat.le_of_ble_eq_true rfl) hv_X6_nextToken_28 rfl (Or.inl rfl) h_12 (Nat.le_trans hx (Nat.le_add_right x 24)) rfl rfl (Nat.le_of_ble_eq_true rfl) dX6_nextToken_177 (fun Φ10 hΦ6 => ?_)
                have h_13 : Φ10 (x + 24) = some (o_ 8 [.ref (x + 25), .int co, .int po, .ref (x + 1), .int (nI i_2), .int 5, .int (nI i_1), .int (nI nu)]) := fset_at hΦ6
                have hI12 : In G x (ca) Φ10 := In.put (k := 24) hI11 hΦ6 (ok10 (k := 24) rfl ⟨co, po, nI i_2, 5, nI i_1, nI nu, rfl⟩)
                exact z_ret_v B dX6_nextToken_180 ⟨⟨rfl, 5, i_1, i_2, h_13, Tk_run (by omega) b_2 e_2 (by omega) (by omega) (by omega) b_6 (Or.inl (by omega)) (by omega) (by omega)⟩, rfl, hI12, (fun b9 h9 => ((fset_fr hΦ6 (fun h8 => h9 (24) h8 (show 24 = 24 by decide))).trans ((hF6 b9 (fun j9 h8 h7 => (show False from h7).elim)).trans ((hF5 b9 (fun j9 h8 h7 => (show False from h7).elim)).trans ((hF4 b9 h9).trans ((fset_fr hΦ2 (fun h8 => h9 (24) h8 (show 24 = 24 by decide))).trans ((hF3 b9 (fun j9 h8 h7 => (show False from h7).elim)).trans ((hF2 b9 (fun j9 h8 h7 => (show False from h7).elim)).trans ((fset_fr hΦ1 (fun h8 => h9 (24) h8 (show 24 = 24 by decide))).trans ((hF1 b9 h9).trans rfl))))))))))⟩
            · have e_18 : kO (bA f n i_1) = 3 := (nI_eq (a := kO (bA f n i_1)) (b := 3) (by omega) (by omega)).mp c_9
              refine z_bipush (v := 6) B dX6_nextToken_154 rfl ?_
              refine z_goto (tgt := 161) B dX6_nextToken_156 rfl ?_
              refine z_istore_n (lv' := [(1, .int 6), (0, .ref (x + 24))]) B dX6_nextToken_161 rfl (Nat.le_of_ble_eq_true rfl) rfl ?_
              refine z_aload_n B dX6_nextToken_162 rfl 1 rfl ?_
              refine z_get (ref := "FlowExporter$Parser") (C := RX6) (T := TX6) (N := 8) (ci := 8) (v := .int (nI i_2)) B hu_X6_nextToken_X6 rfl 4 (Nat.le_of_ble_eq_true rfl) hv_X6_nextToken_25 rfl h_12 rfl dX6_nextToken_163 ?_
              refine z_aload_n B dX6_nextToken_166 rfl 1 rfl ?_
              refine z_get (ref := "FlowExporter$Parser") (C := RX6) (T := TX6) (N := 8) (ci := 8) (v := .int (nI i_1)) B hu_X6_nextToken_X6 rfl 6 (Nat.le_of_ble_eq_true rfl) hv_X6_nextToken_31 rfl h_12 rfl dX6_nextToken_167 ?_
              refine z_isub B dX6_nextToken_170 ?_
              refine z_top (st1 := [.int (nI (i_2 - i_1))]) (congrArg (fun w9 : Int32 => ([.int w9] : List Value)) (nI_sub (show i_1 ≤ i_2 by omega))) ?_
              refine z_iload_n B dX6_nextToken_171 rfl 0 rfl ?_
              refine z_icmp_le (tgt := 180) B dX6_nextToken_172 rfl (fun c_11 => ?_) (fun c_11 => ?_)
              · have e_19 : i_2 - i_1 ≤ 6 := (nI_leI (a := i_2 - i_1) (b := 6) (by omega) (by omega)).mp c_11
                exact z_ret_v B dX6_nextToken_180 ⟨⟨rfl, kO (bA f n i_1), i_1, i_2, h_12, Tk_run (by omega) b_2 e_2 (by omega) (by omega) (by omega) b_6 (Or.inl (by omega)) (by omega) (by omega)⟩, rfl, hI11, (fun b9 h9 => ((hF6 b9 (fun j9 h8 h7 => (show False from h7).elim)).trans ((hF5 b9 (fun j9 h8 h7 => (show False from h7).elim)).trans ((hF4 b9 h9).trans ((fset_fr hΦ2 (fun h8 => h9 (24) h8 (show 24 = 24 by decide))).trans ((hF3 b9 (fun j9 h8 h7 => (show False from h7).elim)).trans ((hF2 b9 (fun j9 h8 h7 => (show False from h7).elim)).trans ((fset_fr hΦ1 (fun h8 => h9 (24) h8 (show 24 = 24 by decide))).trans ((hF1 b9 h9).trans rfl)))))))))⟩
              · have e_20 : ¬ (i_2 - i_1 ≤ 6) := fun h9 => c_11 ((nI_leI (a := i_2 - i_1) (b := 6) (by omega) (by omega)).mpr h9)
                refine z_aload_n B dX6_nextToken_175 rfl 1 rfl ?_
                refine z_iconst (v := 5) B dX6_nextToken_176 rfl ?_
                refine z_put (ref := "FlowExporter$Parser") (C := RX6) (T := TX6) (N := 8) (ci := 8) (v := .int 5) B hu_X6_nextToken_X6 tyX6 tyX6_ok nmX6 rfl 5 (Nat.le_of_ble_eq_true rfl) hv_X6_nextToken_28 rfl (Or.inl rfl) h_12 (Nat.le_trans hx (Nat.le_add_right x 24)) rfl rfl (Nat.le_of_ble_eq_true rfl) dX6_nextToken_177 (fun Φ11 hΦ7 => ?_)
                have h_14 : Φ11 (x + 24) = some (o_ 8 [.ref (x + 25), .int co, .int po, .ref (x + 1), .int (nI i_2), .int 5, .int (nI i_1), .int (nI nu)]) := fset_at hΦ7
                have hI13 : In G x (ca) Φ11 := In.put (k := 24) hI11 hΦ7 (ok10 (k := 24) rfl ⟨co, po, nI i_2, 5, nI i_1, nI nu, rfl⟩)
                exact z_ret_v B dX6_nextToken_180 ⟨⟨rfl, 5, i_1, i_2, h_14, Tk_run (by omega) b_2 e_2 (by omega) (by omega) (by omega) b_6 (Or.inl (by omega)) (by omega) (by omega)⟩, rfl, hI13, (fun b9 h9 => ((fset_fr hΦ7 (fun h8 => h9 (24) h8 (show 24 = 24 by decide))).trans ((hF6 b9 (fun j9 h8 h7 => (show False from h7).elim)).trans ((hF5 b9 (fun j9 h8 h7 => (show False from h7).elim)).trans ((hF4 b9 h9).trans ((fset_fr hΦ2 (fun h8 => h9 (24) h8 (show 24 = 24 by decide))).trans ((hF3 b9 (fun j9 h8 h7 => (show False from h7).elim)).trans ((hF2 b9 (fun j9 h8 h7 => (show False from h7).elim)).trans ((fset_fr hΦ1 (fun h8 => h9 (24) h8 (show 24 = 24 by decide))).trans ((hF1 b9 h9).trans rfl))))))))))⟩
          · have e_21 : kO (bA f n i_2) = kO (bA f n i_1) := (nI_eq (a := kO (bA f n i_2)) (b := kO (bA f n i_1)) (by omega) (by omega)).mp c_8
            refine z_aload_n B dX6_nextToken_133 rfl 0 rfl ?_
            refine z_dup B dX6_nextToken_134 rfl ?_
            refine z_get (ref := "FlowExporter$Parser") (C := RX6) (T := TX6) (N := 8) (ci := 8) (v := .int (nI i_2)) B hu_X6_nextToken_X6 rfl 4 (Nat.le_of_ble_eq_true rfl) hv_X6_nextToken_25 rfl h_12 rfl dX6_nextToken_135 ?_
            refine z_iconst (v := 1) B dX6_nextToken_138 rfl ?_
            refine z_iadd B dX6_nextToken_139 ?_
            refine z_top (st1 := [.int (nI (i_2 + 1)), .ref (x + 24)]) (congrArg (fun w9 : Int32 => ([.int w9, .ref (x + 24)] : List Value)) (nI_add i_2 1)) ?_
            refine z_put (ref := "FlowExporter$Parser") (C := RX6) (T := TX6) (N := 8) (ci := 8) (v := .int (nI (i_2 + 1))) B hu_X6_nextToken_X6 tyX6 tyX6_ok nmX6 rfl 4 (Nat.le_of_ble_eq_true rfl) hv_X6_nextToken_25 rfl (Or.inl rfl) h_12 (Nat.le_trans hx (Nat.le_add_right x 24)) rfl rfl (Nat.le_of_ble_eq_true rfl) dX6_nextToken_140 (fun Φ12 hΦ8 => ?_)
            have h_15 : Φ12 (x + 24) = some (o_ 8 [.ref (x + 25), .int co, .int po, .ref (x + 1), .int (nI (i_2 + 1)), .int (nI (kO (bA f n i_1))), .int (nI i_1), .int (nI nu)]) := fset_at hΦ8
            have hI14 : In G x (ca) Φ12 := In.put (k := 24) hI11 hΦ8 (ok10 (k := 24) rfl ⟨co, po, nI (i_2 + 1), nI (kO (bA f n i_1)), nI i_1, nI nu, rfl⟩)
            refine z_goto (tgt := 98) B dX6_nextToken_143 rfl ?_
            refine z_lv [0] rfl ?_
            exact ih2 (i_2 + 1) Φ12 (show n - (i_2 + 1) < n - i_2 by omega) ⟨hI14, (fun b9 h9 => ((fset_fr hΦ8 (fun h8 => h9 (24) h8 (show 24 = 24 by decide))).trans ((hF6 b9 (fun j9 h8 h7 => (show False from h7).elim)).trans ((hF5 b9 (fun j9 h8 h7 => (show False from h7).elim)).trans ((hF4 b9 h9).trans rfl))))), (show i_1 ≤ (i_2 + 1) ∧ (i_2 + 1) ≤ n by omega), (al_b b_6 (by omega)), h_15, trivial⟩
      · have e_22 : kO (bA f n i_1) = 5 := (nI_eq (a := kO (bA f n i_1)) (b := 5) (by omega) (by omega)).mp c_3
        refine z_aload_n B dX6_nextToken_87 rfl 0 rfl ?_
        refine z_dup B dX6_nextToken_88 rfl ?_
        refine z_get (ref := "FlowExporter$Parser") (C := RX6) (T := TX6) (N := 8) (ci := 8) (v := .int (nI i_1)) B hu_X6_nextToken_X6 rfl 4 (Nat.le_of_ble_eq_true rfl) hv_X6_nextToken_25 rfl h_6 rfl dX6_nextToken_89 ?_
        refine z_iconst (v := 1) B dX6_nextToken_92 rfl ?_
        refine z_iadd B dX6_nextToken_93 ?_
        refine z_top (st1 := [.int (nI (i_1 + 1)), .ref (x + 24)]) (congrArg (fun w9 : Int32 => ([.int w9, .ref (x + 24)] : List Value)) (nI_add i_1 1)) ?_
        refine z_put (ref := "FlowExporter$Parser") (C := RX6) (T := TX6) (N := 8) (ci := 8) (v := .int (nI (i_1 + 1))) B hu_X6_nextToken_X6 tyX6 tyX6_ok nmX6 rfl 4 (Nat.le_of_ble_eq_true rfl) hv_X6_nextToken_25 rfl (Or.inl rfl) h_6 (Nat.le_trans hx (Nat.le_add_right x 24)) rfl rfl (Nat.le_of_ble_eq_true rfl) dX6_nextToken_94 (fun Φ13 hΦ9 => ?_)
        have h_16 : Φ13 (x + 24) = some (o_ 8 [.ref (x + 25), .int co, .int po, .ref (x + 1), .int (nI (i_1 + 1)), .int (nI (kO (bA f n i_1))), .int (nI i_1), .int (nI nu)]) := fset_at hΦ9
        have hI15 : In G x (ca) Φ13 := In.put (k := 24) hI5 hΦ9 (ok10 (k := 24) rfl ⟨co, po, nI (i_1 + 1), nI (kO (bA f n i_1)), nI i_1, nI nu, rfl⟩)
        exact z_ret_v B dX6_nextToken_97 ⟨⟨rfl, kO (bA f n i_1), i_1, i_1 + 1, h_16, Tk_one (by omega) b_2 (by omega)⟩, rfl, hI15, (fun b9 h9 => ((fset_fr hΦ9 (fun h8 => h9 (24) h8 (show 24 = 24 by decide))).trans ((fset_fr hΦ2 (fun h8 => h9 (24) h8 (show 24 = 24 by decide))).trans ((hF3 b9 (fun j9 h8 h7 => (show False from h7).elim)).trans ((hF2 b9 (fun j9 h8 h7 => (show False from h7).elim)).trans ((fset_fr hΦ1 (fun h8 => h9 (24) h8 (show 24 = 24 by decide))).trans ((hF1 b9 h9).trans rfl)))))))⟩
  · have e_23 : ¬ (n ≤ i_1) := fun h9 => c_1 ((nI_leI (a := n) (b := i_1) (by omega) (by omega)).mpr h9)
    refine z_aload_n B dX6_nextToken_14 rfl 0 rfl ?_
    refine z_get (ref := "FlowExporter$Parser") (C := RX6) (T := TX6) (N := 8) (ci := 8) (v := .ref (x + 1)) B hu_X6_nextToken_X6 rfl 3 (Nat.le_of_ble_eq_true rfl) hv_X6_nextToken_37 rfl b_3 rfl dX6_nextToken_15 ?_
    refine z_aload_n B dX6_nextToken_18 rfl 0 rfl ?_
    refine z_get (ref := "FlowExporter$Parser") (C := RX6) (T := TX6) (N := 8) (ci := 8) (v := .int (nI i_1)) B hu_X6_nextToken_X6 rfl 4 (Nat.le_of_ble_eq_true rfl) hv_X6_nextToken_25 rfl b_3 rfl dX6_nextToken_19 ?_
    have h_17 : Φl1 (x + 2) = some (ab_ G 700 f) := ((hF1 (x + 2) fq_549).trans hc1)
    refine z_callV (As := [.int (nI i_1)]) (rest := []) B (s_X5_byteAt1 G l Φl1 sz x (ca) n f i_1 hx hI1 h_1 h_17 (show i_1 < 2 ^ 31 by omega) (show n ≤ 700 by omega)) (cwV 1 B.1.2.2.2.2 gX6_nextToken_X5_byteAt rfl rfl rfl (by decide +kernel) ⟨Nat.le_of_ble_eq_true rfl, Nat.le_of_ble_eq_true rfl⟩) h_1 rfl rfl rfl rfl (Nat.le_of_ble_eq_true rfl) dX6_nextToken_22 ⟨Nat.le_of_ble_eq_true rfl, Nat.le_of_ble_eq_true rfl⟩ (fun r_5 Φ14 sz5 st5 hp5 hs5 => ?_)
    obtain ⟨rfl, hq5, hI16, hF7⟩ := hp5
    subst sz5
    replace hs5 : st5 = [.int (bA f n i_1)] := hs5
    subst st5
    replace hI16 : In G x (ca) Φ14 := hI16
    refine z_callS (As := [.int (bA f n i_1)]) (rest := []) B (s_X6_kindOf G l Φ14 sz x (ca) (bA f n i_1) hx hI16 ) (va_cwS 1 B.1.2.2.2.2 gX6_nextToken_X6_kindOf rfl rfl rfl (by decide +kernel) ⟨Nat.le_of_ble_eq_true rfl, Nat.le_of_ble_eq_true rfl⟩) rfl rfl (Nat.le_of_ble_eq_true rfl) dX6_nextToken_25 ⟨Nat.le_of_ble_eq_true rfl, Nat.le_of_ble_eq_true rfl⟩ (fun r_6 Φ15 sz6 st6 hp6 hs6 => ?_)
    obtain ⟨rfl, hq6, hI17, hF8⟩ := hp6
    subst sz6
    replace hs6 : st6 = [.int (nI (kO (bA f n i_1)))] := hs6
    subst st6
    replace hI17 : In G x (ca) Φ15 := hI17
    have b_9 := kO_le (bA f n i_1)
    refine z_iconst (v := 1) B dX6_nextToken_28 rfl ?_
    refine z_icmp_ne (tgt := 45) B dX6_nextToken_29 rfl (fun c_12 => ?_) (fun c_12 => ?_)
    · have e_24 : ¬ (kO (bA f n i_1) = 1) := fun h9 => c_12 ((nI_eq (a := kO (bA f n i_1)) (b := 1) (by omega) (by omega)).mpr h9)
      have h_18 : Φ15 (x + 24) = some (o_ 8 [.ref (x + 25), .int co, .int po, .ref (x + 1), .int (nI i_1), .int (nI ki), .int (nI sa), .int (nI nu)]) := ((hF8 (x + 24) (fun j9 h8 h7 => (show False from h7).elim)).trans ((hF7 (x + 24) (fun j9 h8 h7 => (show False from h7).elim)).trans b_3))
      have e_25 : ¬ kO (bA f n i_1) = 1 := by omega
      refine z_aload_n B dX6_nextToken_45 rfl 0 rfl ?_
      refine z_aload_n B dX6_nextToken_46 rfl 0 rfl ?_
      refine z_get (ref := "FlowExporter$Parser") (C := RX6) (T := TX6) (N := 8) (ci := 8) (v := .int (nI i_1)) B hu_X6_nextToken_X6 rfl 4 (Nat.le_of_ble_eq_true rfl) hv_X6_nextToken_25 rfl h_18 rfl dX6_nextToken_47 ?_
      refine z_put (ref := "FlowExporter$Parser") (C := RX6) (T := TX6) (N := 8) (ci := 8) (v := .int (nI i_1)) B hu_X6_nextToken_X6 tyX6 tyX6_ok nmX6 rfl 6 (Nat.le_of_ble_eq_true rfl) hv_X6_nextToken_31 rfl (Or.inl rfl) h_18 (Nat.le_trans hx (Nat.le_add_right x 24)) rfl rfl (Nat.le_of_ble_eq_true rfl) dX6_nextToken_50 (fun Φ16 hΦ10 => ?_)
      have h_19 : Φ16 (x + 24) = some (o_ 8 [.ref (x + 25), .int co, .int po, .ref (x + 1), .int (nI i_1), .int (nI ki), .int (nI i_1), .int (nI nu)]) := fset_at hΦ10
      have hI18 : In G x (ca) Φ16 := In.put (k := 24) hI17 hΦ10 (ok10 (k := 24) rfl ⟨co, po, nI i_1, nI ki, nI i_1, nI nu, rfl⟩)
      refine z_aload_n B dX6_nextToken_53 rfl 0 rfl ?_
      refine z_aload_n B dX6_nextToken_54 rfl 0 rfl ?_
      refine z_get (ref := "FlowExporter$Parser") (C := RX6) (T := TX6) (N := 8) (ci := 8) (v := .ref (x + 1)) B hu_X6_nextToken_X6 rfl 3 (Nat.le_of_ble_eq_true rfl) hv_X6_nextToken_37 rfl h_19 rfl dX6_nextToken_55 ?_
      refine z_aload_n B dX6_nextToken_58 rfl 0 rfl ?_
      refine z_get (ref := "FlowExporter$Parser") (C := RX6) (T := TX6) (N := 8) (ci := 8) (v := .int (nI i_1)) B hu_X6_nextToken_X6 rfl 6 (Nat.le_of_ble_eq_true rfl) hv_X6_nextToken_31 rfl h_19 rfl dX6_nextToken_59 ?_
      have h_20 : Φ16 (x + 1) = some (o_ 7 [.ref (x + 2), .int (nI n)]) := ((fset_fr hΦ10 (ne_off (x := x) (i := 1) (j := 24) rfl)).trans ((hF8 (x + 1) (fun j9 h8 h7 => (show False from h7).elim)).trans ((hF7 (x + 1) (fun j9 h8 h7 => (show False from h7).elim)).trans h_1)))
      have h_21 : Φ16 (x + 2) = some (ab_ G 700 f) := ((fset_fr hΦ10 (ne_off (x := x) (i := 2) (j := 24) rfl)).trans ((hF8 (x + 2) (fun j9 h8 h7 => (show False from h7).elim)).trans ((hF7 (x + 2) (fun j9 h8 h7 => (show False from h7).elim)).trans h_17)))
      refine z_callV (As := [.int (nI i_1)]) (rest := [.ref (x + 24)]) B (s_X5_byteAt1 G l Φ16 sz x (ca) n f i_1 hx hI18 h_20 h_21 (show i_1 < 2 ^ 31 by omega) (show n ≤ 700 by omega)) (cwV 1 B.1.2.2.2.2 gX6_nextToken_X5_byteAt rfl rfl rfl (by decide +kernel) ⟨Nat.le_of_ble_eq_true rfl, Nat.le_of_ble_eq_true rfl⟩) h_20 rfl rfl rfl rfl (Nat.le_of_ble_eq_true rfl) dX6_nextToken_62 ⟨Nat.le_of_ble_eq_true rfl, Nat.le_of_ble_eq_true rfl⟩ (fun r_7 Φ17 sz7 st7 hp7 hs7 => ?_)
      obtain ⟨rfl, hq7, hI19, hF9⟩ := hp7
      subst sz7
      replace hs7 : st7 = [.int (bA f n i_1), .ref (x + 24)] := hs7
      subst st7
      replace hI19 : In G x (ca) Φ17 := hI19
      refine z_callS (As := [.int (bA f n i_1)]) (rest := [.ref (x + 24)]) B (s_X6_kindOf G l Φ17 sz x (ca) (bA f n i_1) hx hI19 ) (va_cwS 1 B.1.2.2.2.2 gX6_nextToken_X6_kindOf rfl rfl rfl (by decide +kernel) ⟨Nat.le_of_ble_eq_true rfl, Nat.le_of_ble_eq_true rfl⟩) rfl rfl (Nat.le_of_ble_eq_true rfl) dX6_nextToken_65 ⟨Nat.le_of_ble_eq_true rfl, Nat.le_of_ble_eq_true rfl⟩ (fun r_8 Φ18 sz8 st8 hp8 hs8 => ?_)
      obtain ⟨rfl, hq8, hI20, hF10⟩ := hp8
      subst sz8
      replace hs8 : st8 = [.int (nI (kO (bA f n i_1))), .ref (x + 24)] := hs8
      subst st8
      replace hI20 : In G x (ca) Φ18 := hI20
      have b_10 := kO_le (bA f n i_1)
      have h_22 : Φ18 (x + 24) = some (o_ 8 [.ref (x + 25), .int co, .int po, .ref (x + 1), .int (nI i_1), .int (nI ki), .int (nI i_1), .int (nI nu)]) := ((hF10 (x + 24) (fun j9 h8 h7 => (show False from h7).elim)).trans ((hF9 (x + 24) (fun j9 h8 h7 => (show False from h7).elim)).trans h_19))
      refine z_put (ref := "FlowExporter$Parser") (C := RX6) (T := TX6) (N := 8) (ci := 8) (v := .int (nI (kO (bA f n i_1)))) B hu_X6_nextToken_X6 tyX6 tyX6_ok nmX6 rfl 5 (Nat.le_of_ble_eq_true rfl) hv_X6_nextToken_28 rfl (Or.inl rfl) h_22 (Nat.le_trans hx (Nat.le_add_right x 24)) rfl rfl (Nat.le_of_ble_eq_true rfl) dX6_nextToken_68 (fun Φ19 hΦ11 => ?_)
      have h_23 : Φ19 (x + 24) = some (o_ 8 [.ref (x + 25), .int co, .int po, .ref (x + 1), .int (nI i_1), .int (nI (kO (bA f n i_1))), .int (nI i_1), .int (nI nu)]) := fset_at hΦ11
      have hI21 : In G x (ca) Φ19 := In.put (k := 24) hI20 hΦ11 (ok10 (k := 24) rfl ⟨co, po, nI i_1, nI (kO (bA f n i_1)), nI i_1, nI nu, rfl⟩)
      refine z_aload_n B dX6_nextToken_71 rfl 0 rfl ?_
      refine z_get (ref := "FlowExporter$Parser") (C := RX6) (T := TX6) (N := 8) (ci := 8) (v := .int (nI (kO (bA f n i_1)))) B hu_X6_nextToken_X6 rfl 5 (Nat.le_of_ble_eq_true rfl) hv_X6_nextToken_28 rfl h_23 rfl dX6_nextToken_72 ?_
      refine z_iconst (v := 4) B dX6_nextToken_75 rfl ?_
      refine z_icmp_eq (tgt := 87) B dX6_nextToken_76 rfl (fun c_13 => ?_) (fun c_13 => ?_)
      · have e_26 : kO (bA f n i_1) = 4 := (nI_eq (a := kO (bA f n i_1)) (b := 4) (by omega) (by omega)).mp c_13
        refine z_aload_n B dX6_nextToken_87 rfl 0 rfl ?_
        refine z_dup B dX6_nextToken_88 rfl ?_
        refine z_get (ref := "FlowExporter$Parser") (C := RX6) (T := TX6) (N := 8) (ci := 8) (v := .int (nI i_1)) B hu_X6_nextToken_X6 rfl 4 (Nat.le_of_ble_eq_true rfl) hv_X6_nextToken_25 rfl h_23 rfl dX6_nextToken_89 ?_
        refine z_iconst (v := 1) B dX6_nextToken_92 rfl ?_
        refine z_iadd B dX6_nextToken_93 ?_
        refine z_top (st1 := [.int (nI (i_1 + 1)), .ref (x + 24)]) (congrArg (fun w9 : Int32 => ([.int w9, .ref (x + 24)] : List Value)) (nI_add i_1 1)) ?_
        refine z_put (ref := "FlowExporter$Parser") (C := RX6) (T := TX6) (N := 8) (ci := 8) (v := .int (nI (i_1 + 1))) B hu_X6_nextToken_X6 tyX6 tyX6_ok nmX6 rfl 4 (Nat.le_of_ble_eq_true rfl) hv_X6_nextToken_25 rfl (Or.inl rfl) h_23 (Nat.le_trans hx (Nat.le_add_right x 24)) rfl rfl (Nat.le_of_ble_eq_true rfl) dX6_nextToken_94 (fun Φ20 hΦ12 => ?_)
        have h_24 : Φ20 (x + 24) = some (o_ 8 [.ref (x + 25), .int co, .int po, .ref (x + 1), .int (nI (i_1 + 1)), .int (nI (kO (bA f n i_1))), .int (nI i_1), .int (nI nu)]) := fset_at hΦ12
        have hI22 : In G x (ca) Φ20 := In.put (k := 24) hI21 hΦ12 (ok10 (k := 24) rfl ⟨co, po, nI (i_1 + 1), nI (kO (bA f n i_1)), nI i_1, nI nu, rfl⟩)
        exact z_ret_v B dX6_nextToken_97 ⟨⟨rfl, kO (bA f n i_1), i_1, i_1 + 1, h_24, Tk_one (by omega) b_2 (by omega)⟩, rfl, hI22, (fun b9 h9 => ((fset_fr hΦ12 (fun h8 => h9 (24) h8 (show 24 = 24 by decide))).trans ((fset_fr hΦ11 (fun h8 => h9 (24) h8 (show 24 = 24 by decide))).trans ((hF10 b9 (fun j9 h8 h7 => (show False from h7).elim)).trans ((hF9 b9 (fun j9 h8 h7 => (show False from h7).elim)).trans ((fset_fr hΦ10 (fun h8 => h9 (24) h8 (show 24 = 24 by decide))).trans ((hF8 b9 (fun j9 h8 h7 => (show False from h7).elim)).trans ((hF7 b9 (fun j9 h8 h7 => (show False from h7).elim)).trans ((hF1 b9 h9).trans rfl)))))))))⟩
      · have e_27 : ¬ (kO (bA f n i_1) = 4) := fun h9 => c_13 ((nI_eq (a := kO (bA f n i_1)) (b := 4) (by omega) (by omega)).mpr h9)
        refine z_aload_n B dX6_nextToken_79 rfl 0 rfl ?_
        refine z_get (ref := "FlowExporter$Parser") (C := RX6) (T := TX6) (N := 8) (ci := 8) (v := .int (nI (kO (bA f n i_1)))) B hu_X6_nextToken_X6 rfl 5 (Nat.le_of_ble_eq_true rfl) hv_X6_nextToken_28 rfl h_23 rfl dX6_nextToken_80 ?_
        refine z_iconst (v := 5) B dX6_nextToken_83 rfl ?_
        refine z_icmp_ne (tgt := 98) B dX6_nextToken_84 rfl (fun c_14 => ?_) (fun c_14 => ?_)
        · have e_28 : ¬ (kO (bA f n i_1) = 5) := fun h9 => c_14 ((nI_eq (a := kO (bA f n i_1)) (b := 5) (by omega) (by omega)).mpr h9)
          refine z_lv [0] rfl ?_
          refine z_loop (α := Nat) (fun (a9 : Nat) Φi => In G x (ca) Φi ∧ Fr x (fun j9 => j9 = 24) Φ19 Φi ∧ (i_1 ≤ a9 ∧ a9 ≤ n) ∧ (∀ i9, i_1 ≤ i9 → i9 < a9 → kO (bA f n i9) = kO (bA f n i_1)) ∧ (Φi (x + 24) = some (o_ 8 [.ref (x + 25), .int co, .int po, .ref (x + 1), .int (nI a9), .int (nI (kO (bA f n i_1))), .int (nI i_1), .int (nI nu)])) ∧ True) (fun a9 => [(0, .ref (x + 24))]) (fun a9 => n - a9) ?_ (i_1) ⟨hI21, fun _ _ => rfl, (show i_1 ≤ i_1 ∧ i_1 ≤ n by omega), (fun i9 h8 h7 => absurd h7 (by omega)), h_23, trivial⟩
          rintro i_3 Φl3 ⟨hI23, hF11, b_11, b_12, b_13, -⟩ ih3
          replace hI23 : In G x (ca) Φl3 := hI23
          replace b_11 : i_1 ≤ i_3 ∧ i_3 ≤ n := b_11
          replace b_12 : ∀ i9, i_1 ≤ i9 → i9 < i_3 → kO (bA f n i9) = kO (bA f n i_1) := b_12
          replace b_13 : Φl3 (x + 24) = some (o_ 8 [.ref (x + 25), .int co, .int po, .ref (x + 1), .int (nI i_3), .int (nI (kO (bA f n i_1))), .int (nI i_1), .int (nI nu)]) := b_13
          show Z p9 l e9 _ s9 m9 _ w9 t9 k9 _ G 2 98 [(0, .ref (x + 24))] [] Φl3 _ _ _
          refine z_aload_n B dX6_nextToken_98 rfl 0 rfl ?_
          refine z_get (ref := "FlowExporter$Parser") (C := RX6) (T := TX6) (N := 8) (ci := 8) (v := .int (nI i_3)) B hu_X6_nextToken_X6 rfl 4 (Nat.le_of_ble_eq_true rfl) hv_X6_nextToken_25 rfl b_13 rfl dX6_nextToken_99 ?_
          refine z_aload_n B dX6_nextToken_102 rfl 0 rfl ?_
          refine z_get (ref := "FlowExporter$Parser") (C := RX6) (T := TX6) (N := 8) (ci := 8) (v := .ref (x + 1)) B hu_X6_nextToken_X6 rfl 3 (Nat.le_of_ble_eq_true rfl) hv_X6_nextToken_37 rfl b_13 rfl dX6_nextToken_103 ?_
          have h_25 : Φl3 (x + 1) = some (o_ 7 [.ref (x + 2), .int (nI n)]) := ((hF11 (x + 1) fq_545).trans ((fset_fr hΦ11 (ne_off (x := x) (i := 1) (j := 24) rfl)).trans ((hF10 (x + 1) (fun j9 h8 h7 => (show False from h7).elim)).trans ((hF9 (x + 1) (fun j9 h8 h7 => (show False from h7).elim)).trans h_20))))
          refine z_get (ref := "FlowExporter$Message") (C := RX5) (T := TX5) (N := 2) (ci := 7) (v := .int (nI n)) B hu_X6_nextToken_X5 rfl 1 (Nat.le_of_ble_eq_true rfl) hv_X6_nextToken_138 rfl h_25 rfl dX6_nextToken_106 ?_
          refine z_icmp_ge (tgt := 146) B dX6_nextToken_109 rfl (fun c_15 => ?_) (fun c_15 => ?_)
          · have e_29 : n ≤ i_3 := (nI_leI (a := n) (b := i_3) (by omega) (by omega)).mp c_15
            refine z_aload_n B dX6_nextToken_146 rfl 0 rfl ?_
            refine z_get (ref := "FlowExporter$Parser") (C := RX6) (T := TX6) (N := 8) (ci := 8) (v := .int (nI (kO (bA f n i_1)))) B hu_X6_nextToken_X6 rfl 5 (Nat.le_of_ble_eq_true rfl) hv_X6_nextToken_28 rfl b_13 rfl dX6_nextToken_147 ?_
            refine z_iconst (v := 3) B dX6_nextToken_150 rfl ?_
            refine z_icmp_ne (tgt := 159) B dX6_nextToken_151 rfl (fun c_16 => ?_) (fun c_16 => ?_)
            · have e_30 : ¬ (kO (bA f n i_1) = 3) := fun h9 => c_16 ((nI_eq (a := kO (bA f n i_1)) (b := 3) (by omega) (by omega)).mpr h9)
              refine z_bipush (v := 12) B dX6_nextToken_159 rfl ?_
              refine z_istore_n (lv' := [(1, .int 12), (0, .ref (x + 24))]) B dX6_nextToken_161 rfl (Nat.le_of_ble_eq_true rfl) rfl ?_
              refine z_aload_n B dX6_nextToken_162 rfl 1 rfl ?_
              refine z_get (ref := "FlowExporter$Parser") (C := RX6) (T := TX6) (N := 8) (ci := 8) (v := .int (nI i_3)) B hu_X6_nextToken_X6 rfl 4 (Nat.le_of_ble_eq_true rfl) hv_X6_nextToken_25 rfl b_13 rfl dX6_nextToken_163 ?_
              refine z_aload_n B dX6_nextToken_166 rfl 1 rfl ?_
              refine z_get (ref := "FlowExporter$Parser") (C := RX6) (T := TX6) (N := 8) (ci := 8) (v := .int (nI i_1)) B hu_X6_nextToken_X6 rfl 6 (Nat.le_of_ble_eq_true rfl) hv_X6_nextToken_31 rfl b_13 rfl dX6_nextToken_167 ?_
              refine z_isub B dX6_nextToken_170 ?_
              refine z_top (st1 := [.int (nI (i_3 - i_1))]) (congrArg (fun w9 : Int32 => ([.int w9] : List Value)) (nI_sub (show i_1 ≤ i_3 by omega))) ?_
              refine z_iload_n B dX6_nextToken_171 rfl 0 rfl ?_
              refine z_icmp_le (tgt := 180) B dX6_nextToken_172 rfl (fun c_17 => ?_) (fun c_17 => ?_)
              · have e_31 : i_3 - i_1 ≤ 12 := (nI_leI (a := i_3 - i_1) (b := 12) (by omega) (by omega)).mp c_17
                exact z_ret_v B dX6_nextToken_180 ⟨⟨rfl, kO (bA f n i_1), i_1, i_3, b_13, Tk_run (by omega) b_2 e_25 (by omega) (by omega) (by omega) b_12 (Or.inr (by omega)) (by omega) (by omega)⟩, rfl, hI23, (fun b9 h9 => ((hF11 b9 h9).trans ((fset_fr hΦ11 (fun h8 => h9 (24) h8 (show 24 = 24 by decide))).trans ((hF10 b9 (fun j9 h8 h7 => (show False from h7).elim)).trans ((hF9 b9 (fun j9 h8 h7 => (show False from h7).elim)).trans ((fset_fr hΦ10 (fun h8 => h9 (24) h8 (show 24 = 24 by decide))).trans ((hF8 b9 (fun j9 h8 h7 => (show False from h7).elim)).trans ((hF7 b9 (fun j9 h8 h7 => (show False from h7).elim)).trans ((hF1 b9 h9).trans rfl)))))))))⟩
              · have e_32 : ¬ (i_3 - i_1 ≤ 12) := fun h9 => c_17 ((nI_leI (a := i_3 - i_1) (b := 12) (by omega) (by omega)).mpr h9)
                refine z_aload_n B dX6_nextToken_175 rfl 1 rfl ?_
                refine z_iconst (v := 5) B dX6_nextToken_176 rfl ?_
                refine z_put (ref := "FlowExporter$Parser") (C := RX6) (T := TX6) (N := 8) (ci := 8) (v := .int 5) B hu_X6_nextToken_X6 tyX6 tyX6_ok nmX6 rfl 5 (Nat.le_of_ble_eq_true rfl) hv_X6_nextToken_28 rfl (Or.inl rfl) b_13 (Nat.le_trans hx (Nat.le_add_right x 24)) rfl rfl (Nat.le_of_ble_eq_true rfl) dX6_nextToken_177 (fun Φ21 hΦ13 => ?_)
                have h_26 : Φ21 (x + 24) = some (o_ 8 [.ref (x + 25), .int co, .int po, .ref (x + 1), .int (nI i_3), .int 5, .int (nI i_1), .int (nI nu)]) := fset_at hΦ13
                have hI24 : In G x (ca) Φ21 := In.put (k := 24) hI23 hΦ13 (ok10 (k := 24) rfl ⟨co, po, nI i_3, 5, nI i_1, nI nu, rfl⟩)
                exact z_ret_v B dX6_nextToken_180 ⟨⟨rfl, 5, i_1, i_3, h_26, Tk_run (by omega) b_2 e_25 (by omega) (by omega) (by omega) b_12 (Or.inr (by omega)) (by omega) (by omega)⟩, rfl, hI24, (fun b9 h9 => ((fset_fr hΦ13 (fun h8 => h9 (24) h8 (show 24 = 24 by decide))).trans ((hF11 b9 h9).trans ((fset_fr hΦ11 (fun h8 => h9 (24) h8 (show 24 = 24 by decide))).trans ((hF10 b9 (fun j9 h8 h7 => (show False from h7).elim)).trans ((hF9 b9 (fun j9 h8 h7 => (show False from h7).elim)).trans ((fset_fr hΦ10 (fun h8 => h9 (24) h8 (show 24 = 24 by decide))).trans ((hF8 b9 (fun j9 h8 h7 => (show False from h7).elim)).trans ((hF7 b9 (fun j9 h8 h7 => (show False from h7).elim)).trans ((hF1 b9 h9).trans rfl))))))))))⟩
            · have e_33 : kO (bA f n i_1) = 3 := (nI_eq (a := kO (bA f n i_1)) (b := 3) (by omega) (by omega)).mp c_16
              refine z_bipush (v := 6) B dX6_nextToken_154 rfl ?_
              refine z_goto (tgt := 161) B dX6_nextToken_156 rfl ?_
              refine z_istore_n (lv' := [(1, .int 6), (0, .ref (x + 24))]) B dX6_nextToken_161 rfl (Nat.le_of_ble_eq_true rfl) rfl ?_
              refine z_aload_n B dX6_nextToken_162 rfl 1 rfl ?_
              refine z_get (ref := "FlowExporter$Parser") (C := RX6) (T := TX6) (N := 8) (ci := 8) (v := .int (nI i_3)) B hu_X6_nextToken_X6 rfl 4 (Nat.le_of_ble_eq_true rfl) hv_X6_nextToken_25 rfl b_13 rfl dX6_nextToken_163 ?_
              refine z_aload_n B dX6_nextToken_166 rfl 1 rfl ?_
              refine z_get (ref := "FlowExporter$Parser") (C := RX6) (T := TX6) (N := 8) (ci := 8) (v := .int (nI i_1)) B hu_X6_nextToken_X6 rfl 6 (Nat.le_of_ble_eq_true rfl) hv_X6_nextToken_31 rfl b_13 rfl dX6_nextToken_167 ?_
              refine z_isub B dX6_nextToken_170 ?_
              refine z_top (st1 := [.int (nI (i_3 - i_1))]) (congrArg (fun w9 : Int32 => ([.int w9] : List Value)) (nI_sub (show i_1 ≤ i_3 by omega))) ?_
              refine z_iload_n B dX6_nextToken_171 rfl 0 rfl ?_
              refine z_icmp_le (tgt := 180) B dX6_nextToken_172 rfl (fun c_18 => ?_) (fun c_18 => ?_)
              · have e_34 : i_3 - i_1 ≤ 6 := (nI_leI (a := i_3 - i_1) (b := 6) (by omega) (by omega)).mp c_18
                exact z_ret_v B dX6_nextToken_180 ⟨⟨rfl, kO (bA f n i_1), i_1, i_3, b_13, Tk_run (by omega) b_2 e_25 (by omega) (by omega) (by omega) b_12 (Or.inr (by omega)) (by omega) (by omega)⟩, rfl, hI23, (fun b9 h9 => ((hF11 b9 h9).trans ((fset_fr hΦ11 (fun h8 => h9 (24) h8 (show 24 = 24 by decide))).trans ((hF10 b9 (fun j9 h8 h7 => (show False from h7).elim)).trans ((hF9 b9 (fun j9 h8 h7 => (show False from h7).elim)).trans ((fset_fr hΦ10 (fun h8 => h9 (24) h8 (show 24 = 24 by decide))).trans ((hF8 b9 (fun j9 h8 h7 => (show False from h7).elim)).trans ((hF7 b9 (fun j9 h8 h7 => (show False from h7).elim)).trans ((hF1 b9 h9).trans rfl)))))))))⟩
              · have e_35 : ¬ (i_3 - i_1 ≤ 6) := fun h9 => c_18 ((nI_leI (a := i_3 - i_1) (b := 6) (by omega) (by omega)).mpr h9)
                refine z_aload_n B dX6_nextToken_175 rfl 1 rfl ?_
                refine z_iconst (v := 5) B dX6_nextToken_176 rfl ?_
                refine z_put (ref := "FlowExporter$Parser") (C := RX6) (T := TX6) (N := 8) (ci := 8) (v := .int 5) B hu_X6_nextToken_X6 tyX6 tyX6_ok nmX6 rfl 5 (Nat.le_of_ble_eq_true rfl) hv_X6_nextToken_28 rfl (Or.inl rfl) b_13 (Nat.le_trans hx (Nat.le_add_right x 24)) rfl rfl (Nat.le_of_ble_eq_true rfl) dX6_nextToken_177 (fun Φ22 hΦ14 => ?_)
                have h_27 : Φ22 (x + 24) = some (o_ 8 [.ref (x + 25), .int co, .int po, .ref (x + 1), .int (nI i_3), .int 5, .int (nI i_1), .int (nI nu)]) := fset_at hΦ14
                have hI25 : In G x (ca) Φ22 := In.put (k := 24) hI23 hΦ14 (ok10 (k := 24) rfl ⟨co, po, nI i_3, 5, nI i_1, nI nu, rfl⟩)
                exact z_ret_v B dX6_nextToken_180 ⟨⟨rfl, 5, i_1, i_3, h_27, Tk_run (by omega) b_2 e_25 (by omega) (by omega) (by omega) b_12 (Or.inr (by omega)) (by omega) (by omega)⟩, rfl, hI25, (fun b9 h9 => ((fset_fr hΦ14 (fun h8 => h9 (24) h8 (show 24 = 24 by decide))).trans ((hF11 b9 h9).trans ((fset_fr hΦ11 (fun h8 => h9 (24) h8 (show 24 = 24 by decide))).trans ((hF10 b9 (fun j9 h8 h7 => (show False from h7).elim)).trans ((hF9 b9 (fun j9 h8 h7 => (show False from h7).elim)).trans ((fset_fr hΦ10 (fun h8 => h9 (24) h8 (show 24 = 24 by decide))).trans ((hF8 b9 (fun j9 h8 h7 => (show False from h7).elim)).trans ((hF7 b9 (fun j9 h8 h7 => (show False from h7).elim)).trans ((hF1 b9 h9).trans rfl))))))))))⟩
          · have e_36 : ¬ (n ≤ i_3) := fun h9 => c_15 ((nI_leI (a := n) (b := i_3) (by omega) (by omega)).mpr h9)
            refine z_aload_n B dX6_nextToken_112 rfl 0 rfl ?_
            refine z_get (ref := "FlowExporter$Parser") (C := RX6) (T := TX6) (N := 8) (ci := 8) (v := .ref (x + 1)) B hu_X6_nextToken_X6 rfl 3 (Nat.le_of_ble_eq_true rfl) hv_X6_nextToken_37 rfl b_13 rfl dX6_nextToken_113 ?_
            refine z_aload_n B dX6_nextToken_116 rfl 0 rfl ?_
            refine z_get (ref := "FlowExporter$Parser") (C := RX6) (T := TX6) (N := 8) (ci := 8) (v := .int (nI i_3)) B hu_X6_nextToken_X6 rfl 4 (Nat.le_of_ble_eq_true rfl) hv_X6_nextToken_25 rfl b_13 rfl dX6_nextToken_117 ?_
            have h_28 : Φl3 (x + 2) = some (ab_ G 700 f) := ((hF11 (x + 2) fq_549).trans ((fset_fr hΦ11 (ne_off (x := x) (i := 2) (j := 24) rfl)).trans ((hF10 (x + 2) (fun j9 h8 h7 => (show False from h7).elim)).trans ((hF9 (x + 2) (fun j9 h8 h7 => (show False from h7).elim)).trans h_21))))
            refine z_callV (As := [.int (nI i_3)]) (rest := []) B (s_X5_byteAt1 G l Φl3 sz x (ca) n f i_3 hx hI23 h_25 h_28 (show i_3 < 2 ^ 31 by omega) (show n ≤ 700 by omega)) (cwV 1 B.1.2.2.2.2 gX6_nextToken_X5_byteAt rfl rfl rfl (by decide +kernel) ⟨Nat.le_of_ble_eq_true rfl, Nat.le_of_ble_eq_true rfl⟩) h_25 rfl rfl rfl rfl (Nat.le_of_ble_eq_true rfl) dX6_nextToken_120 ⟨Nat.le_of_ble_eq_true rfl, Nat.le_of_ble_eq_true rfl⟩ (fun r_9 Φ23 sz9 st9 hp9 hs9 => ?_)
            obtain ⟨rfl, hq9, hI26, hF12⟩ := hp9
            subst sz9
            replace hs9 : st9 = [.int (bA f n i_3)] := hs9
            subst st9
            replace hI26 : In G x (ca) Φ23 := hI26
            refine z_callS (As := [.int (bA f n i_3)]) (rest := []) B (s_X6_kindOf G l Φ23 sz x (ca) (bA f n i_3) hx hI26 ) (va_cwS 1 B.1.2.2.2.2 gX6_nextToken_X6_kindOf rfl rfl rfl (by decide +kernel) ⟨Nat.le_of_ble_eq_true rfl, Nat.le_of_ble_eq_true rfl⟩) rfl rfl (Nat.le_of_ble_eq_true rfl) dX6_nextToken_123 ⟨Nat.le_of_ble_eq_true rfl, Nat.le_of_ble_eq_true rfl⟩ (fun r_10 Φ24 sz10 st10 hp10 hs10 => ?_)
            obtain ⟨rfl, hq10, hI27, hF13⟩ := hp10
            subst sz10
            replace hs10 : st10 = [.int (nI (kO (bA f n i_3)))] := hs10
            subst st10
            replace hI27 : In G x (ca) Φ24 := hI27
            have b_14 := kO_le (bA f n i_3)
            refine z_aload_n B dX6_nextToken_126 rfl 0 rfl ?_
            have h_29 : Φ24 (x + 24) = some (o_ 8 [.ref (x + 25), .int co, .int po, .ref (x + 1), .int (nI i_3), .int (nI (kO (bA f n i_1))), .int (nI i_1), .int (nI nu)]) := ((hF13 (x + 24) (fun j9 h8 h7 => (show False from h7).elim)).trans ((hF12 (x + 24) (fun j9 h8 h7 => (show False from h7).elim)).trans b_13))
            refine z_get (ref := "FlowExporter$Parser") (C := RX6) (T := TX6) (N := 8) (ci := 8) (v := .int (nI (kO (bA f n i_1)))) B hu_X6_nextToken_X6 rfl 5 (Nat.le_of_ble_eq_true rfl) hv_X6_nextToken_28 rfl h_29 rfl dX6_nextToken_127 ?_
            refine z_icmp_ne (tgt := 146) B dX6_nextToken_130 rfl (fun c_19 => ?_) (fun c_19 => ?_)
            · have e_37 : ¬ (kO (bA f n i_3) = kO (bA f n i_1)) := fun h9 => c_19 ((nI_eq (a := kO (bA f n i_3)) (b := kO (bA f n i_1)) (by omega) (by omega)).mpr h9)
              refine z_aload_n B dX6_nextToken_146 rfl 0 rfl ?_
              refine z_get (ref := "FlowExporter$Parser") (C := RX6) (T := TX6) (N := 8) (ci := 8) (v := .int (nI (kO (bA f n i_1)))) B hu_X6_nextToken_X6 rfl 5 (Nat.le_of_ble_eq_true rfl) hv_X6_nextToken_28 rfl h_29 rfl dX6_nextToken_147 ?_
              refine z_iconst (v := 3) B dX6_nextToken_150 rfl ?_
              refine z_icmp_ne (tgt := 159) B dX6_nextToken_151 rfl (fun c_20 => ?_) (fun c_20 => ?_)
              · have e_38 : ¬ (kO (bA f n i_1) = 3) := fun h9 => c_20 ((nI_eq (a := kO (bA f n i_1)) (b := 3) (by omega) (by omega)).mpr h9)
                refine z_bipush (v := 12) B dX6_nextToken_159 rfl ?_
                refine z_istore_n (lv' := [(1, .int 12), (0, .ref (x + 24))]) B dX6_nextToken_161 rfl (Nat.le_of_ble_eq_true rfl) rfl ?_
                refine z_aload_n B dX6_nextToken_162 rfl 1 rfl ?_
                refine z_get (ref := "FlowExporter$Parser") (C := RX6) (T := TX6) (N := 8) (ci := 8) (v := .int (nI i_3)) B hu_X6_nextToken_X6 rfl 4 (Nat.le_of_ble_eq_true rfl) hv_X6_nextToken_25 rfl h_29 rfl dX6_nextToken_163 ?_
                refine z_aload_n B dX6_nextToken_166 rfl 1 rfl ?_
                refine z_get (ref := "FlowExporter$Parser") (C := RX6) (T := TX6) (N := 8) (ci := 8) (v := .int (nI i_1)) B hu_X6_nextToken_X6 rfl 6 (Nat.le_of_ble_eq_true rfl) hv_X6_nextToken_31 rfl h_29 rfl dX6_nextToken_167 ?_
                refine z_isub B dX6_nextToken_170 ?_
                refine z_top (st1 := [.int (nI (i_3 - i_1))]) (congrArg (fun w9 : Int32 => ([.int w9] : List Value)) (nI_sub (show i_1 ≤ i_3 by omega))) ?_
                refine z_iload_n B dX6_nextToken_171 rfl 0 rfl ?_
                refine z_icmp_le (tgt := 180) B dX6_nextToken_172 rfl (fun c_21 => ?_) (fun c_21 => ?_)
                · have e_39 : i_3 - i_1 ≤ 12 := (nI_leI (a := i_3 - i_1) (b := 12) (by omega) (by omega)).mp c_21
                  exact z_ret_v B dX6_nextToken_180 ⟨⟨rfl, kO (bA f n i_1), i_1, i_3, h_29, Tk_run (by omega) b_2 e_25 (by omega) (by omega) (by omega) b_12 (Or.inl (by omega)) (by omega) (by omega)⟩, rfl, hI27, (fun b9 h9 => ((hF13 b9 (fun j9 h8 h7 => (show False from h7).elim)).trans ((hF12 b9 (fun j9 h8 h7 => (show False from h7).elim)).trans ((hF11 b9 h9).trans ((fset_fr hΦ11 (fun h8 => h9 (24) h8 (show 24 = 24 by decide))).trans ((hF10 b9 (fun j9 h8 h7 => (show False from h7).elim)).trans ((hF9 b9 (fun j9 h8 h7 => (show False from h7).elim)).trans ((fset_fr hΦ10 (fun h8 => h9 (24) h8 (show 24 = 24 by decide))).trans ((hF8 b9 (fun j9 h8 h7 => (show False from h7).elim)).trans ((hF7 b9 (fun j9 h8 h7 => (show False from h7).elim)).trans ((hF1 b9 h9).trans rfl)))))))))))⟩
                · have e_40 : ¬ (i_3 - i_1 ≤ 12) := fun h9 => c_21 ((nI_leI (a := i_3 - i_1) (b := 12) (by omega) (by omega)).mpr h9)
                  refine z_aload_n B dX6_nextToken_175 rfl 1 rfl ?_
                  refine z_iconst (v := 5) B dX6_nextToken_176 rfl ?_
                  refine z_put (ref := "FlowExporter$Parser") (C := RX6) (T := TX6) (N := 8) (ci := 8) (v := .int 5) B hu_X6_nextToken_X6 tyX6 tyX6_ok nmX6 rfl 5 (Nat.le_of_ble_eq_true rfl) hv_X6_nextToken_28 rfl (Or.inl rfl) h_29 (Nat.le_trans hx (Nat.le_add_right x 24)) rfl rfl (Nat.le_of_ble_eq_true rfl) dX6_nextToken_177 (fun Φ25 hΦ15 => ?_)
                  have h_30 : Φ25 (x + 24) = some (o_ 8 [.ref (x + 25), .int co, .int po, .ref (x + 1), .int (nI i_3), .int 5, .int (nI i_1), .int (nI nu)]) := fset_at hΦ15
                  have hI28 : In G x (ca) Φ25 := In.put (k := 24) hI27 hΦ15 (ok10 (k := 24) rfl ⟨co, po, nI i_3, 5, nI i_1, nI nu, rfl⟩)
                  exact z_ret_v B dX6_nextToken_180 ⟨⟨rfl, 5, i_1, i_3, h_30, Tk_run (by omega) b_2 e_25 (by omega) (by omega) (by omega) b_12 (Or.inl (by omega)) (by omega) (by omega)⟩, rfl, hI28, (fun b9 h9 => ((fset_fr hΦ15 (fun h8 => h9 (24) h8 (show 24 = 24 by decide))).trans ((hF13 b9 (fun j9 h8 h7 => (show False from h7).elim)).trans ((hF12 b9 (fun j9 h8 h7 => (show False from h7).elim)).trans ((hF11 b9 h9).trans ((fset_fr hΦ11 (fun h8 => h9 (24) h8 (show 24 = 24 by decide))).trans ((hF10 b9 (fun j9 h8 h7 => (show False from h7).elim)).trans ((hF9 b9 (fun j9 h8 h7 => (show False from h7).elim)).trans ((fset_fr hΦ10 (fun h8 => h9 (24) h8 (show 24 = 24 by decide))).trans ((hF8 b9 (fun j9 h8 h7 => (show False from h7).elim)).trans ((hF7 b9 (fun j9 h8 h7 => (show False from h7).elim)).trans ((hF1 b9 h9).trans rfl))))))))))))⟩
              · have e_41 : kO (bA f n i_1) = 3 := (nI_eq (a := kO (bA f n i_1)) (b := 3) (by omega) (by omega)).mp c_20
                refine z_bipush (v := 6) B dX6_nextToken_154 rfl ?_
                refine z_goto (tgt := 161) B dX6_nextToken_156 rfl ?_
                refine z_istore_n (lv' := [(1, .int 6), (0, .ref (x + 24))]) B dX6_nextToken_161 rfl (Nat.le_of_ble_eq_true rfl) rfl ?_
                refine z_aload_n B dX6_nextToken_162 rfl 1 rfl ?_
                refine z_get (ref := "FlowExporter$Parser") (C := RX6) (T := TX6) (N := 8) (ci := 8) (v := .int (nI i_3)) B hu_X6_nextToken_X6 rfl 4 (Nat.le_of_ble_eq_true rfl) hv_X6_nextToken_25 rfl h_29 rfl dX6_nextToken_163 ?_
                refine z_aload_n B dX6_nextToken_166 rfl 1 rfl ?_
                refine z_get (ref := "FlowExporter$Parser") (C := RX6) (T := TX6) (N := 8) (ci := 8) (v := .int (nI i_1)) B hu_X6_nextToken_X6 rfl 6 (Nat.le_of_ble_eq_true rfl) hv_X6_nextToken_31 rfl h_29 rfl dX6_nextToken_167 ?_
                refine z_isub B dX6_nextToken_170 ?_
                refine z_top (st1 := [.int (nI (i_3 - i_1))]) (congrArg (fun w9 : Int32 => ([.int w9] : List Value)) (nI_sub (show i_1 ≤ i_3 by omega))) ?_
                refine z_iload_n B dX6_nextToken_171 rfl 0 rfl ?_
                refine z_icmp_le (tgt := 180) B dX6_nextToken_172 rfl (fun c_22 => ?_) (fun c_22 => ?_)
                · have e_42 : i_3 - i_1 ≤ 6 := (nI_leI (a := i_3 - i_1) (b := 6) (by omega) (by omega)).mp c_22
                  exact z_ret_v B dX6_nextToken_180 ⟨⟨rfl, kO (bA f n i_1), i_1, i_3, h_29, Tk_run (by omega) b_2 e_25 (by omega) (by omega) (by omega) b_12 (Or.inl (by omega)) (by omega) (by omega)⟩, rfl, hI27, (fun b9 h9 => ((hF13 b9 (fun j9 h8 h7 => (show False from h7).elim)).trans ((hF12 b9 (fun j9 h8 h7 => (show False from h7).elim)).trans ((hF11 b9 h9).trans ((fset_fr hΦ11 (fun h8 => h9 (24) h8 (show 24 = 24 by decide))).trans ((hF10 b9 (fun j9 h8 h7 => (show False from h7).elim)).trans ((hF9 b9 (fun j9 h8 h7 => (show False from h7).elim)).trans ((fset_fr hΦ10 (fun h8 => h9 (24) h8 (show 24 = 24 by decide))).trans ((hF8 b9 (fun j9 h8 h7 => (show False from h7).elim)).trans ((hF7 b9 (fun j9 h8 h7 => (show False from h7).elim)).trans ((hF1 b9 h9).trans rfl)))))))))))⟩
                · have e_43 : ¬ (i_3 - i_1 ≤ 6) := fun h9 => c_22 ((nI_leI (a := i_3 - i_1) (b := 6) (by omega) (by omega)).mpr h9)
                  refine z_aload_n B dX6_nextToken_175 rfl 1 rfl ?_
                  refine z_iconst (v := 5) B dX6_nextToken_176 rfl ?_
                  refine z_put (ref := "FlowExporter$Parser") (C := RX6) (T := TX6) (N := 8) (ci := 8) (v := .int 5) B hu_X6_nextToken_X6 tyX6 tyX6_ok nmX6 rfl 5 (Nat.le_of_ble_eq_true rfl) hv_X6_nextToken_28 rfl (Or.inl rfl) h_29 (Nat.le_trans hx (Nat.le_add_right x 24)) rfl rfl (Nat.le_of_ble_eq_true rfl) dX6_nextToken_177 (fun Φ26 hΦ16 => ?_)
                  have h_31 : Φ26 (x + 24) = some (o_ 8 [.ref (x + 25), .int co, .int po, .ref (x + 1), .int (nI i_3), .int 5, .int (nI i_1), .int (nI nu)]) := fset_at hΦ16
                  have hI29 : In G x (ca) Φ26 := In.put (k := 24) hI27 hΦ16 (ok10 (k := 24) rfl ⟨co, po, nI i_3, 5, nI i_1, nI nu, rfl⟩)
                  exact z_ret_v B dX6_nextToken_180 ⟨⟨rfl, 5, i_1, i_3, h_31, Tk_run (by omega) b_2 e_25 (by omega) (by omega) (by omega) b_12 (Or.inl (by omega)) (by omega) (by omega)⟩, rfl, hI29, (fun b9 h9 => ((fset_fr hΦ16 (fun h8 => h9 (24) h8 (show 24 = 24 by decide))).trans ((hF13 b9 (fun j9 h8 h7 => (show False from h7).elim)).trans ((hF12 b9 (fun j9 h8 h7 => (show False from h7).elim)).trans ((hF11 b9 h9).trans ((fset_fr hΦ11 (fun h8 => h9 (24) h8 (show 24 = 24 by decide))).trans ((hF10 b9 (fun j9 h8 h7 => (show False from h7).elim)).trans ((hF9 b9 (fun j9 h8 h7 => (show False from h7).elim)).trans ((fset_fr hΦ10 (fun h8 => h9 (24) h8 (show 24 = 24 by decide))).trans ((hF8 b9 (fun j9 h8 h7 => (show False from h7).elim)).trans ((hF7 b9 (fun j9 h8 h7 => (show False from h7).elim)).trans ((hF1 b9 h9).trans rfl))))))))))))⟩
            · have e_44 : kO (bA f n i_3) = kO (bA f n i_1) := (nI_eq (a := kO (bA f n i_3)) (b := kO (bA f n i_1)) (by omega) (by omega)).mp c_19
              refine z_aload_n B dX6_nextToken_133 rfl 0 rfl ?_
              refine z_dup B dX6_nextToken_134 rfl ?_
              refine z_get (ref := "FlowExporter$Parser") (C := RX6) (T := TX6) (N := 8) (ci := 8) (v := .int (nI i_3)) B hu_X6_nextToken_X6 rfl 4 (Nat.le_of_ble_eq_true rfl) hv_X6_nextToken_25 rfl h_29 rfl dX6_nextToken_135 ?_
              refine z_iconst (v := 1) B dX6_nextToken_138 rfl ?_
              refine z_iadd B dX6_nextToken_139 ?_
              refine z_top (st1 := [.int (nI (i_3 + 1)), .ref (x + 24)]) (congrArg (fun w9 : Int32 => ([.int w9, .ref (x + 24)] : List Value)) (nI_add i_3 1)) ?_
              refine z_put (ref := "FlowExporter$Parser") (C := RX6) (T := TX6) (N := 8) (ci := 8) (v := .int (nI (i_3 + 1))) B hu_X6_nextToken_X6 tyX6 tyX6_ok nmX6 rfl 4 (Nat.le_of_ble_eq_true rfl) hv_X6_nextToken_25 rfl (Or.inl rfl) h_29 (Nat.le_trans hx (Nat.le_add_right x 24)) rfl rfl (Nat.le_of_ble_eq_true rfl) dX6_nextToken_140 (fun Φ27 hΦ17 => ?_)
              have h_32 : Φ27 (x + 24) = some (o_ 8 [.ref (x + 25), .int co, .int po, .ref (x + 1), .int (nI (i_3 + 1)), .int (nI (kO (bA f n i_1))), .int (nI i_1), .int (nI nu)]) := fset_at hΦ17
              have hI30 : In G x (ca) Φ27 := In.put (k := 24) hI27 hΦ17 (ok10 (k := 24) rfl ⟨co, po, nI (i_3 + 1), nI (kO (bA f n i_1)), nI i_1, nI nu, rfl⟩)
              refine z_goto (tgt := 98) B dX6_nextToken_143 rfl ?_
              refine z_lv [0] rfl ?_
              exact ih3 (i_3 + 1) Φ27 (show n - (i_3 + 1) < n - i_3 by omega) ⟨hI30, (fun b9 h9 => ((fset_fr hΦ17 (fun h8 => h9 (24) h8 (show 24 = 24 by decide))).trans ((hF13 b9 (fun j9 h8 h7 => (show False from h7).elim)).trans ((hF12 b9 (fun j9 h8 h7 => (show False from h7).elim)).trans ((hF11 b9 h9).trans rfl))))), (show i_1 ≤ (i_3 + 1) ∧ (i_3 + 1) ≤ n by omega), (al_b b_12 (by omega)), h_32, trivial⟩
        · have e_45 : kO (bA f n i_1) = 5 := (nI_eq (a := kO (bA f n i_1)) (b := 5) (by omega) (by omega)).mp c_14
          refine z_aload_n B dX6_nextToken_87 rfl 0 rfl ?_
          refine z_dup B dX6_nextToken_88 rfl ?_
          refine z_get (ref := "FlowExporter$Parser") (C := RX6) (T := TX6) (N := 8) (ci := 8) (v := .int (nI i_1)) B hu_X6_nextToken_X6 rfl 4 (Nat.le_of_ble_eq_true rfl) hv_X6_nextToken_25 rfl h_23 rfl dX6_nextToken_89 ?_
          refine z_iconst (v := 1) B dX6_nextToken_92 rfl ?_
          refine z_iadd B dX6_nextToken_93 ?_
          refine z_top (st1 := [.int (nI (i_1 + 1)), .ref (x + 24)]) (congrArg (fun w9 : Int32 => ([.int w9, .ref (x + 24)] : List Value)) (nI_add i_1 1)) ?_
          refine z_put (ref := "FlowExporter$Parser") (C := RX6) (T := TX6) (N := 8) (ci := 8) (v := .int (nI (i_1 + 1))) B hu_X6_nextToken_X6 tyX6 tyX6_ok nmX6 rfl 4 (Nat.le_of_ble_eq_true rfl) hv_X6_nextToken_25 rfl (Or.inl rfl) h_23 (Nat.le_trans hx (Nat.le_add_right x 24)) rfl rfl (Nat.le_of_ble_eq_true rfl) dX6_nextToken_94 (fun Φ28 hΦ18 => ?_)
          have h_33 : Φ28 (x + 24) = some (o_ 8 [.ref (x + 25), .int co, .int po, .ref (x + 1), .int (nI (i_1 + 1)), .int (nI (kO (bA f n i_1))), .int (nI i_1), .int (nI nu)]) := fset_at hΦ18
          have hI31 : In G x (ca) Φ28 := In.put (k := 24) hI21 hΦ18 (ok10 (k := 24) rfl ⟨co, po, nI (i_1 + 1), nI (kO (bA f n i_1)), nI i_1, nI nu, rfl⟩)
          exact z_ret_v B dX6_nextToken_97 ⟨⟨rfl, kO (bA f n i_1), i_1, i_1 + 1, h_33, Tk_one (by omega) b_2 (by omega)⟩, rfl, hI31, (fun b9 h9 => ((fset_fr hΦ18 (fun h8 => h9 (24) h8 (show 24 = 24 by decide))).trans ((fset_fr hΦ11 (fun h8 => h9 (24) h8 (show 24 = 24 by decide))).trans ((hF10 b9 (fun j9 h8 h7 => (show False from h7).elim)).trans ((hF9 b9 (fun j9 h8 h7 => (show False from h7).elim)).trans ((fset_fr hΦ10 (fun h8 => h9 (24) h8 (show 24 = 24 by decide))).trans ((hF8 b9 (fun j9 h8 h7 => (show False from h7).elim)).trans ((hF7 b9 (fun j9 h8 h7 => (show False from h7).elim)).trans ((hF1 b9 h9).trans rfl)))))))))⟩
    · have e_46 : kO (bA f n i_1) = 1 := (nI_eq (a := kO (bA f n i_1)) (b := 1) (by omega) (by omega)).mp c_12
      refine z_aload_n B dX6_nextToken_32 rfl 0 rfl ?_
      refine z_dup B dX6_nextToken_33 rfl ?_
      have h_34 : Φ15 (x + 24) = some (o_ 8 [.ref (x + 25), .int co, .int po, .ref (x + 1), .int (nI i_1), .int (nI ki), .int (nI sa), .int (nI nu)]) := ((hF8 (x + 24) (fun j9 h8 h7 => (show False from h7).elim)).trans ((hF7 (x + 24) (fun j9 h8 h7 => (show False from h7).elim)).trans b_3))
      refine z_get (ref := "FlowExporter$Parser") (C := RX6) (T := TX6) (N := 8) (ci := 8) (v := .int (nI i_1)) B hu_X6_nextToken_X6 rfl 4 (Nat.le_of_ble_eq_true rfl) hv_X6_nextToken_25 rfl h_34 rfl dX6_nextToken_34 ?_
      refine z_iconst (v := 1) B dX6_nextToken_37 rfl ?_
      refine z_iadd B dX6_nextToken_38 ?_
      refine z_top (st1 := [.int (nI (i_1 + 1)), .ref (x + 24)]) (congrArg (fun w9 : Int32 => ([.int w9, .ref (x + 24)] : List Value)) (nI_add i_1 1)) ?_
      refine z_put (ref := "FlowExporter$Parser") (C := RX6) (T := TX6) (N := 8) (ci := 8) (v := .int (nI (i_1 + 1))) B hu_X6_nextToken_X6 tyX6 tyX6_ok nmX6 rfl 4 (Nat.le_of_ble_eq_true rfl) hv_X6_nextToken_25 rfl (Or.inl rfl) h_34 (Nat.le_trans hx (Nat.le_add_right x 24)) rfl rfl (Nat.le_of_ble_eq_true rfl) dX6_nextToken_39 (fun Φ29 hΦ19 => ?_)
      have h_35 : Φ29 (x + 24) = some (o_ 8 [.ref (x + 25), .int co, .int po, .ref (x + 1), .int (nI (i_1 + 1)), .int (nI ki), .int (nI sa), .int (nI nu)]) := fset_at hΦ19
      have hI32 : In G x (ca) Φ29 := In.put (k := 24) hI17 hΦ19 (ok10 (k := 24) rfl ⟨co, po, nI (i_1 + 1), nI ki, nI sa, nI nu, rfl⟩)
      refine z_goto (tgt := 0) B dX6_nextToken_42 rfl ?_
      refine z_lv [0] rfl ?_
      exact ih1 (i_1 + 1) Φ29 (show n - (i_1 + 1) < n - i_1 by omega) ⟨hI32, (fun b9 h9 => ((fset_fr hΦ19 (fun h8 => h9 (24) h8 (show 24 = 24 by decide))).trans ((hF8 b9 (fun j9 h8 h7 => (show False from h7).elim)).trans ((hF7 b9 (fun j9 h8 h7 => (show False from h7).elim)).trans ((hF1 b9 h9).trans rfl))))), (show nx ≤ (i_1 + 1) ∧ (i_1 + 1) ≤ n by omega), (no_b b_2 (by omega)), h_35, trivial⟩

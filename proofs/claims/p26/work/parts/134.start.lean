/-- two addresses named by their places -/
theorem vk_S2 {aK aV aK2 aV2 : Nat → Nat} {A : Nat → Prop} {U : State} {H : Heap} (h : vk_S 2 lenS bytS aK aV A U H) (h0 : aK2 0 = aK 0 := by rfl) (h1 : aK2 1 = aK 1 := by rfl) (h2 : aV2 0 = aV 0 := by rfl) (h3 : aV2 1 = aV 1 := by rfl) : vk_S 2 lenS bytS aK2 aV2 A U H := by
  have e : ∀ i, i < 2 → aK2 i = aK i ∧ aV2 i = aV i := fun i hi => by
    rcases (show i = 0 ∨ i = 1 by omega) with rfl | rfl
    · exact ⟨h0, h2⟩
    · exact ⟨h1, h3⟩
  refine ⟨fun i hi => ?_, fun i j hi hj hij => h.2 i j hi hj (by rw [← (e i hi).1, ← (e j hj).1]; exact hij)⟩
  rw [(e i hi).1, (e i hi).2]
  exact h.1 i hi
/-- a static row out of the start's words -/
theorem x_row {args : Array Value} {s : State} {t : Term} {n : Int32} {N : Nat} (f : Nat → Int32) (hn : n.toInt = N) (harr : (Cond.arrayOf t .int).before args s = true) (hlen : (Cond.eq (.length t) (.int n)).before args s = true) (hel : ∀ j : Nat, j < N → (Cond.eq (.elem t (.int (Int32.ofNat j))) (.int (f j))).before args s = true) : ∃ a : Nat, t.eval args s none [] s = some (.ref a) ∧ va_X a N f s s.heap ∧ a < s.heap.size := by
  have h1 : (Term.length t).eval args s none [] s = some (.int n) := Cond.eq_int (b := .int n) hlen rfl
  obtain ⟨a, cell, ht, hc, hsz⟩ := Term.length_spec h1
  obtain ⟨hcell, hkn, -, -⟩ := State.arrayAt?_spec hc
  have hlt : cell.slots.size < 2 ^ 31 := by
    simp only [Term.eval, ht, hc, Option.bind_eq_bind, Option.bind_some] at h1
    by_cases hlt : cell.slots.size < 2147483648
    · exact hlt
    · simp [hlt] at h1
  have hszN : cell.slots.size = N := by
    have h2 : n = cell.slots.size.toInt32 := by injection hsz
    have h3 : (Int32.ofNat cell.slots.size).toInt = cell.slots.size := Int32.toInt_ofNat_of_lt hlt
    have h4 : n.toInt = (Int32.ofNat cell.slots.size).toInt := by rw [h2]
    omega
  refine ⟨a, ht, ⟨cell, hcell, (Cond.arrayOf_spec harr ht hcell).1, hkn, hszN, fun j hj => ?_⟩, (Array.getElem?_eq_some_iff.mp hcell).1⟩
  have h5 : (Term.elem t (.int (Int32.ofNat j))).eval args s none [] s = some (.int (f j)) := Cond.eq_int (b := .int (f j)) (hel j hj) rfl
  have hj2 : j < 2 ^ 31 := by omega
  have h6 : (Int32.ofNat j).toInt = j := Int32.toInt_ofNat_of_lt hj2
  have h7 : ¬ Int32.ofNat j < 0 := by rw [Int32.lt_iff_toInt_lt, h6]; simp
  have h8 : (Int32.ofNat j).toNatClampNeg = j := by show (Int32.ofNat j).toInt.toNat = j; omega
  simp only [Term.eval, ht, hc, Option.bind_eq_bind, Option.bind_some, h7, if_false, h8] at h5
  exact h5
theorem aT_obj {args : Array Value} {s : State} {C : String} (h : (Cond.arrayOver (.object C)).before args s = true) : ∃ c : ClassId, ArrOfT s c (.object C) ∧ va_RA s c (.object C) := by
  obtain ⟨comp, c, k, h1, -, h3, h4, h5⟩ := Cond.arrayOver_spec h
  exact ⟨c, fun n z => ⟨(fun k h => by cases h), k, h3, comp, h4⟩, ⟨k, comp, h3, h4, h1, h5⟩⟩
theorem aT_arr {args : Array Value} {s : State} {t : FieldType} (h : (Cond.arrayOver (.array t)).before args s = true) : ∃ c : ClassId, ArrOfT s c (.array t) ∧ va_RA s c (.array t) := by
  obtain ⟨comp, c, k, h1, h3, h4, h5⟩ := Cond.arrayOver_specA h
  exact ⟨c, fun n z => ⟨(fun k h => by cases h), k, h3, comp, h4⟩, h5⟩
theorem aT_int {args : Array Value} {s : State} (h : (Cond.arrayClass .int).before args s = true) : ∃ c : ClassId, ArrOfT s c .int ∧ va_RA s c .int := by
  obtain ⟨c, k, comp, h1, h2, h3⟩ := Cond.arrayClass_spec h
  exact ⟨c, fun n z => ⟨(fun k h => by cases h), k, h2, comp, h3⟩, h1⟩
theorem aT_long {args : Array Value} {s : State} (h : (Cond.arrayClass .long).before args s = true) : ∃ c : ClassId, ArrOfT s c .long ∧ va_RA s c .long := by
  obtain ⟨c, k, comp, h1, h2, h3⟩ := Cond.arrayClass_spec h
  exact ⟨c, fun n z => ⟨(fun k h => by cases h), k, h2, comp, h3⟩, h1⟩
theorem aT_byte {args : Array Value} {s : State} (h : (Cond.arrayClass .byte).before args s = true) : ∃ c : ClassId, ArrOfT s c .byte ∧ va_RA s c .byte := by
  obtain ⟨c, k, comp, h1, h2, h3⟩ := Cond.arrayClass_spec h
  exact ⟨c, fun n z => ⟨(fun k h => by cases h), k, h2, comp, h3⟩, h1⟩
theorem aT_double {args : Array Value} {s : State} (h : (Cond.arrayClass .double).before args s = true) : ∃ c : ClassId, ArrOfT s c .double ∧ va_RA s c .double := by
  obtain ⟨c, k, comp, h1, h2, h3⟩ := Cond.arrayClass_spec h
  exact ⟨c, fun n z => ⟨(fun k h => by cases h), k, h2, comp, h3⟩, h1⟩
theorem k0_J0 : Cond.instantiable RJ0 4 ∈ lw_tbl := lt_tb_in 5 _ (List.mem_of_getElem? (show (lt_tb 5)[205]? = some (Cond.instantiable RJ0 4) from rfl))
theorem k1_J0 : ∀ w ∈ u_ws RJ0 TJ0 2, w ∈ lw_tbl := wsL_in_wsJ00
theorem k0_Jx00060 : Cond.instantiable RJx00060 6 ∈ lw_tbl := lt_tb_in 5 _ (List.mem_of_getElem? (show (lt_tb 5)[179]? = some (Cond.instantiable RJx00060 6) from rfl))
theorem k1_Jx00060 : ∀ w ∈ u_ws RJx00060 TJx00060 6, w ∈ lw_tbl := by decide +kernel
theorem k0_X0 : Cond.instantiable RX0 12 ∈ lw_tbl := lt_tb_in 2 _ (List.mem_of_getElem? (show (lt_tb 2)[111]? = some (Cond.instantiable RX0 12) from rfl))
theorem k1_X0 : ∀ w ∈ u_ws RX0 TX0 12, w ∈ lw_tbl := wsL_in_wsX00
theorem k0_X1 : Cond.instantiable RX1 6 ∈ lw_tbl := lt_tb_in 1 _ (List.mem_of_getElem? (show (lt_tb 1)[63]? = some (Cond.instantiable RX1 6) from rfl))
theorem k1_X1 : ∀ w ∈ u_ws RX1 TX1 6, w ∈ lw_tbl := wsL_in_wsX10
theorem k0_X2 : Cond.instantiable RX2 13 ∈ lw_tbl := lt_tb_in 1 _ (List.mem_of_getElem? (show (lt_tb 1)[218]? = some (Cond.instantiable RX2 13) from rfl))
theorem k1_X2 : ∀ w ∈ u_ws RX2 TX2 13, w ∈ lw_tbl := wsL_in_wsX20
theorem k0_X3 : Cond.instantiable RX3 5 ∈ lw_tbl := lt_tb_in 1 _ (List.mem_of_getElem? (show (lt_tb 1)[232]? = some (Cond.instantiable RX3 5) from rfl))
theorem k1_X3 : ∀ w ∈ u_ws RX3 TX3 5, w ∈ lw_tbl := wsL_in_wsX30
theorem k0_X4 : Cond.instantiable RX4 2 ∈ lw_tbl := lt_tb_in 1 _ (List.mem_of_getElem? (show (lt_tb 1)[224]? = some (Cond.instantiable RX4 2) from rfl))
theorem k1_X4 : ∀ w ∈ u_ws RX4 TX4 2, w ∈ lw_tbl := wsL_in_wsX40
theorem k0_X5 : Cond.instantiable RX5 2 ∈ lw_tbl := lt_tb_in 1 _ (List.mem_of_getElem? (show (lt_tb 1)[41]? = some (Cond.instantiable RX5 2) from rfl))
theorem k1_X5 : ∀ w ∈ u_ws RX5 TX5 2, w ∈ lw_tbl := wsL_in_wsX50
theorem k0_X6 : Cond.instantiable RX6 8 ∈ lw_tbl := lt_tb_in 1 _ (List.mem_of_getElem? (show (lt_tb 1)[120]? = some (Cond.instantiable RX6 8) from rfl))
theorem k1_X6 : ∀ w ∈ u_ws RX6 TX6 8, w ∈ lw_tbl := wsL_in_wsX60
theorem k0_X7 : Cond.instantiable RX7 3 ∈ lw_tbl := lt_tb_in 1 _ (List.mem_of_getElem? (show (lt_tb 1)[156]? = some (Cond.instantiable RX7 3) from rfl))
theorem k1_X7 : ∀ w ∈ u_ws RX7 TX7 3, w ∈ lw_tbl := wsL_in_wsX70
theorem k0_X8 : Cond.instantiable RX8 10 ∈ lw_tbl := lt_tb_in 1 _ (List.mem_of_getElem? (show (lt_tb 1)[177]? = some (Cond.instantiable RX8 10) from rfl))
theorem k1_X8 : ∀ w ∈ u_ws RX8 TX8 10, w ∈ lw_tbl := wsL_in_wsX80
theorem k0_X9 : Cond.instantiable RX9 5 ∈ lw_tbl := lt_tb_in 2 _ (List.mem_of_getElem? (show (lt_tb 2)[79]? = some (Cond.instantiable RX9 5) from rfl))
theorem k1_X9 : ∀ w ∈ u_ws RX9 TX9 5, w ∈ lw_tbl := wsL_in_wsX90
theorem k0_X10 : Cond.instantiable RX10 4 ∈ lw_tbl := lt_tb_in 1 _ (List.mem_of_getElem? (show (lt_tb 1)[70]? = some (Cond.instantiable RX10 4) from rfl))
theorem k1_X10 : ∀ w ∈ u_ws RX10 TX10 4, w ∈ lw_tbl := wsL_in_wsX100
theorem k0_X11 : Cond.instantiable RX11 8 ∈ lw_tbl := lt_tb_in 1 _ (List.mem_of_getElem? (show (lt_tb 1)[33]? = some (Cond.instantiable RX11 8) from rfl))
theorem k1_X11 : ∀ w ∈ u_ws RX11 TX11 8, w ∈ lw_tbl := wsL_in_wsX110
theorem k0_X12 : Cond.instantiable RX12 54 ∈ lw_tbl := lt_tb_in 7 _ (List.mem_of_getElem? (show (lt_tb 7)[36]? = some (Cond.instantiable RX12 54) from rfl))
theorem k1_X12 : ∀ w ∈ u_ws RX12 TX12 54, w ∈ lw_tbl := wsL_in_wsX120
/-- what the start's words give: classes, rows, nests -/
theorem g_start {s : State} {b : Nat} (hts : ∀ w ∈ lw_tbl, w.before #[Value.ref b] s = true) (hgv : (Jvm.Cond.and given_1 narrow_1).before #[Value.ref b] s = true) : ∃ G : EnvG, G.2.2.2 = s.heap.size ∧ K0 G s ∧ S0 G s s.heap := by
  have hs := flat_of_before _ hgv
  have hk0 := aT_int (hts (.arrayClass .int) (by decide +kernel))
  have hk : ∀ k : Nat, ∃ (c : ClassId) (i : Nat → Nat), ∀ q : vw_C, vwCl[k]? = some q → u_Kn s q.1 q.2.1 q.2.2 c i := by
    intro k
    match k with
    | 0 =>
      obtain ⟨c, i, h⟩ := u_known (C := RJ0) (T := TJ0) (N := 2) (n := 4) hts k1_J0 (hts _ k0_J0)
      exact ⟨c, i, fun q hq => by cases hq; exact h⟩
    | 1 =>
      obtain ⟨c, i, h⟩ := u_known (C := RJx00060) (T := TJx00060) (N := 6) (n := 6) hts k1_Jx00060 (hts _ k0_Jx00060)
      exact ⟨c, i, fun q hq => by cases hq; exact h⟩
    | 2 =>
      obtain ⟨c, i, h⟩ := u_known (C := RX0) (T := TX0) (N := 12) (n := 12) hts k1_X0 (hts _ k0_X0)
      exact ⟨c, i, fun q hq => by cases hq; exact h⟩
    | 3 =>
      obtain ⟨c, i, h⟩ := u_known (C := RX1) (T := TX1) (N := 6) (n := 6) hts k1_X1 (hts _ k0_X1)
      exact ⟨c, i, fun q hq => by cases hq; exact h⟩
    | 4 =>
      obtain ⟨c, i, h⟩ := u_known (C := RX2) (T := TX2) (N := 13) (n := 13) hts k1_X2 (hts _ k0_X2)
      exact ⟨c, i, fun q hq => by cases hq; exact h⟩
    | 5 =>
      obtain ⟨c, i, h⟩ := u_known (C := RX3) (T := TX3) (N := 5) (n := 5) hts k1_X3 (hts _ k0_X3)
      exact ⟨c, i, fun q hq => by cases hq; exact h⟩
    | 6 =>
      obtain ⟨c, i, h⟩ := u_known (C := RX4) (T := TX4) (N := 2) (n := 2) hts k1_X4 (hts _ k0_X4)
      exact ⟨c, i, fun q hq => by cases hq; exact h⟩
    | 7 =>
      obtain ⟨c, i, h⟩ := u_known (C := RX5) (T := TX5) (N := 2) (n := 2) hts k1_X5 (hts _ k0_X5)
      exact ⟨c, i, fun q hq => by cases hq; exact h⟩
    | 8 =>
      obtain ⟨c, i, h⟩ := u_known (C := RX6) (T := TX6) (N := 8) (n := 8) hts k1_X6 (hts _ k0_X6)
      exact ⟨c, i, fun q hq => by cases hq; exact h⟩
    | 9 =>
      obtain ⟨c, i, h⟩ := u_known (C := RX7) (T := TX7) (N := 3) (n := 3) hts k1_X7 (hts _ k0_X7)
      exact ⟨c, i, fun q hq => by cases hq; exact h⟩
    | 10 =>
      obtain ⟨c, i, h⟩ := u_known (C := RX8) (T := TX8) (N := 10) (n := 10) hts k1_X8 (hts _ k0_X8)
      exact ⟨c, i, fun q hq => by cases hq; exact h⟩
    | 11 =>
      obtain ⟨c, i, h⟩ := u_known (C := RX9) (T := TX9) (N := 5) (n := 5) hts k1_X9 (hts _ k0_X9)
      exact ⟨c, i, fun q hq => by cases hq; exact h⟩
    | 12 =>
      obtain ⟨c, i, h⟩ := u_known (C := RX10) (T := TX10) (N := 4) (n := 4) hts k1_X10 (hts _ k0_X10)
      exact ⟨c, i, fun q hq => by cases hq; exact h⟩
    | 13 =>
      obtain ⟨c, i, h⟩ := u_known (C := RX11) (T := TX11) (N := 8) (n := 8) hts k1_X11 (hts _ k0_X11)
      exact ⟨c, i, fun q hq => by cases hq; exact h⟩
    | 14 =>
      obtain ⟨c, i, h⟩ := u_known (C := RX12) (T := TX12) (N := 54) (n := 54) hts k1_X12 (hts _ k0_X12)
      exact ⟨c, i, fun q hq => by cases hq; exact h⟩
    | k + 15 => exact ⟨hk0.choose, fun _ => 0, fun q hq => by simp [vwCl] at hq⟩
  obtain ⟨q0, a0, r0⟩ := aT_int (hts (.arrayClass .int) (by decide +kernel))
  obtain ⟨q1, a1, r1⟩ := aT_long (hts (.arrayClass .long) (by decide +kernel))
  obtain ⟨q2, a2, r2⟩ := aT_byte (hts (.arrayClass .byte) (by decide +kernel))
  obtain ⟨q3, a3, r3⟩ := aT_double (hts (.arrayClass .double) (by decide +kernel))
  obtain ⟨q4, a4, r4⟩ := aT_obj (hts (.arrayOver (.object RX10)) (by decide +kernel))
  obtain ⟨q5, a5, r5⟩ := aT_obj (hts (.arrayOver (.object RX3)) (by decide +kernel))
  obtain ⟨q6, a6, r6⟩ := aT_obj (hts (.arrayOver (.object RX5)) (by decide +kernel))
  obtain ⟨q7, a7, r7⟩ := aT_arr (hts (.arrayOver (.array .long)) (by decide +kernel))
  obtain ⟨q8, a8, r8⟩ := aT_arr (hts (.arrayOver (.array .double)) (by decide +kernel))
  obtain ⟨t0, e0, x0, l0⟩ := x_row (t := .static RX11 "FIELD_BYTES" "[I") (n := 9) (N := 9) fbT (by decide) (hs _ (by decide +kernel)) (hs _ (by decide +kernel)) (fun j hj => by
    rcases (show j = 0 ∨ j = 1 ∨ j = 2 ∨ j = 3 ∨ j = 4 ∨ j = 5 ∨ j = 6 ∨ j = 7 ∨ j = 8 by omega) with rfl | rfl | rfl | rfl | rfl | rfl | rfl | rfl | rfl <;> exact hs _ (by decide +kernel))
  obtain ⟨t1, e1, x1, l1⟩ := x_row (t := .static RX11 "USUAL" "[I") (n := 9) (N := 9) usT (by decide) (hs _ (by decide +kernel)) (hs _ (by decide +kernel)) (fun j hj => by
    rcases (show j = 0 ∨ j = 1 ∨ j = 2 ∨ j = 3 ∨ j = 4 ∨ j = 5 ∨ j = 6 ∨ j = 7 ∨ j = 8 by omega) with rfl | rfl | rfl | rfl | rfl | rfl | rfl | rfl | rfl <;> exact hs _ (by decide +kernel))
  obtain ⟨t2, e2, x2, l2⟩ := x_row (t := .static RX11 "LEAST" "[I") (n := 9) (N := 9) leT (by decide) (hs _ (by decide +kernel)) (hs _ (by decide +kernel)) (fun j hj => by
    rcases (show j = 0 ∨ j = 1 ∨ j = 2 ∨ j = 3 ∨ j = 4 ∨ j = 5 ∨ j = 6 ∨ j = 7 ∨ j = 8 by omega) with rfl | rfl | rfl | rfl | rfl | rfl | rfl | rfl | rfl <;> exact hs _ (by decide +kernel))
  obtain ⟨t3, e3, x3, l3⟩ := x_row (t := .static RX11 "MOST" "[I") (n := 9) (N := 9) moT (by decide) (hs _ (by decide +kernel)) (hs _ (by decide +kernel)) (fun j hj => by
    rcases (show j = 0 ∨ j = 1 ∨ j = 2 ∨ j = 3 ∨ j = 4 ∨ j = 5 ∨ j = 6 ∨ j = 7 ∨ j = 8 by omega) with rfl | rfl | rfl | rfl | rfl | rfl | rfl | rfl | rfl <;> exact hs _ (by decide +kernel))
  obtain ⟨t4, e4, x4, l4⟩ := x_row (t := .static RX3 "PART_SHIFTS" "[I") (n := 4) (N := 4) shT (by decide) (hs _ (by decide +kernel)) (hs _ (by decide +kernel)) (fun j hj => by
    rcases (show j = 0 ∨ j = 1 ∨ j = 2 ∨ j = 3 by omega) with rfl | rfl | rfl | rfl <;> exact hs _ (by decide +kernel))
  obtain ⟨t5, e5, x5, l5⟩ := x_row (t := .static RX3 "PART_MASKS" "[I") (n := 4) (N := 4) maT (by decide) (hs _ (by decide +kernel)) (hs _ (by decide +kernel)) (fun j hj => by
    rcases (show j = 0 ∨ j = 1 ∨ j = 2 ∨ j = 3 by omega) with rfl | rfl | rfl | rfl <;> exact hs _ (by decide +kernel))
  obtain ⟨aK, aV, sS, sE⟩ := vk_Sof (args := #[Value.ref b]) (s := s) (N := 2) (tm := fun i => match i with | 0 => .string RX6 57 | _ => .string RX6 101) (len := lenS) (byt := bytS) (A := fun q => s.heap.size ≤ q)
    (fun i hi => by rcases (show i = 0 ∨ i = 1 by omega) with rfl | rfl <;> decide)
    (fun i hi => by rcases (show i = 0 ∨ i = 1 by omega) with rfl | rfl <;> exact hs _ (by decide +kernel))
    (fun i hi => by rcases (show i = 0 ∨ i = 1 by omega) with rfl | rfl <;> exact hs _ (by decide +kernel))
    (fun i hi => by rcases (show i = 0 ∨ i = 1 by omega) with rfl | rfl <;> exact hs _ (by decide +kernel))
    (fun i hi => by rcases (show i = 0 ∨ i = 1 by omega) with rfl | rfl <;> exact hs _ (by decide +kernel))
    (fun i hi => by
      rcases (show i = 0 ∨ i = 1 by omega) with rfl | rfl
      · intro j hj
        replace hj : j < 82 := hj
        refine hs _ ?_
        revert hj
        revert j
        decide +kernel
      · intro j hj
        replace hj : j < 62 := hj
        refine hs _ ?_
        revert hj
        revert j
        decide +kernel)
    (fun i j hi hj hij => by
      rcases (show (i = 0 ∧ j = 1) ∨ (i = 1 ∧ j = 0) by omega) with ⟨rfl, rfl⟩ | ⟨rfl, rfl⟩
      · first | exact Or.inl (hs _ (by decide +kernel)) | exact Or.inr (hs _ (by decide +kernel))
      · first | exact Or.inl (hs _ (by decide +kernel)) | exact Or.inr (hs _ (by decide +kernel)))
    (fun a h => Nat.not_le.mpr h)
  have hA : ∀ a : Nat, a < s.heap.size → ¬ s.heap.size ≤ a := fun a h => Nat.not_le.mpr h
  refine ⟨((fun k => (hk k).choose, fun k => (hk k).choose_spec.choose), (fun t => match t with | 0 => q0 | 1 => q1 | 2 => q2 | 3 => q3 | 4 => q4 | 5 => q5 | 6 => q6 | 7 => q7 | _ => q8), (fun t => match t with | 0 => t0 | 1 => t1 | 2 => t2 | 3 => t3 | 4 => t4 | 5 => t5 | 6 => aK 0 | 7 => aK 1 | 8 => aV 0 | _ => aV 1), s.heap.size), rfl, ⟨⟨fun k q hq => (hk k).choose_spec.choose_spec q hq, fun k q hq => ?_⟩, ⟨va_AO.of (hts _ (by decide +kernel)), va_AO.of (hts _ (by decide +kernel)), va_AO.of (hts _ (by decide +kernel))⟩, ?_, ?_, hts (.arrayOver (.array .long)) (by decide +kernel), hts (.arrayOver (.array .double)) (by decide +kernel), ?_, ?_, ?_, ?_⟩, ?_⟩
  · match k, hq with
    | 0, hq => cases hq; exact ⟨a0, r0⟩
    | 1, hq => cases hq; exact ⟨a1, r1⟩
    | 2, hq => cases hq; exact ⟨a2, r2⟩
    | 3, hq => cases hq; exact ⟨a3, r3⟩
    | 4, hq => cases hq; exact ⟨a4, r4⟩
    | 5, hq => cases hq; exact ⟨a5, r5⟩
    | 6, hq => cases hq; exact ⟨a6, r6⟩
    | 7, hq => cases hq; exact ⟨a7, r7⟩
    | 8, hq => cases hq; exact ⟨a8, r8⟩
    | k + 9, hq => simp [tyl] at hq
  · have h : ∀ q ∈ nestM, Cond.methodLinkNest q.1 q.2.1 q.2.2 RX11 ∈ lw_tbl := by decide +kernel
    exact fun q hq => va_Nw.of rfl (hts _ (h q hq))
  · have h : ∀ q ∈ nestF, Cond.fieldLinkNest q.1 q.2.1 RX11 q.2.2 "[I" RX11 ∈ lw_tbl := by decide +kernel
    exact fun q hq => va_Nw.of rfl (hts _ (h q hq))
  · have h : ∀ q ∈ xCast, Cond.castable q.1 q.2 ∈ lw_tbl := by decide +kernel
    exact fun q hq => va_Nw.of rfl (hts _ (h q hq))
  · have h : ∀ q ∈ xDecl, Cond.declares q ∈ lw_tbl := by decide +kernel
    exact fun q hq => va_Nw.of rfl (hts _ (h q hq))
  · intro q hq
    simp only [xNot, List.mem_cons, List.not_mem_nil, or_false] at hq
    rcases hq with rfl | rfl
    · exact va_Nc.of (hs _ (by decide +kernel))
    · exact va_Nc.of (hs _ (by decide +kernel))
  · exact ⟨vk_R.of (hts (.stringRef RX6 57 tx0) (by decide +kernel)) (sE 0 (by decide)), vk_R.of (hts (.stringRef RX6 101 tx1) (by decide +kernel)) (sE 1 (by decide))⟩
  · refine ⟨⟨va_Zof (hts _ (by decide +kernel)) (hts _ (by decide +kernel)) e0 hA, va_Zof (hts _ (by decide +kernel)) (hts _ (by decide +kernel)) e1 hA, va_Zof (hts _ (by decide +kernel)) (hts _ (by decide +kernel)) e2 hA, va_Zof (hts _ (by decide +kernel)) (hts _ (by decide +kernel)) e3 hA, va_Zof (hts _ (by decide +kernel)) (hts _ (by decide +kernel)) e4 hA, va_Zof (hts _ (by decide +kernel)) (hts _ (by decide +kernel)) e5 hA⟩, vx_Zqof (hts _ (by decide +kernel)) (hts _ (by decide +kernel)) (hs _ (by decide +kernel)) hA, ⟨vx_Zqof (hts _ (by decide +kernel)) (hts _ (by decide +kernel)) (hs _ (by decide +kernel)) hA, vk_S2 sS, va_Zof (hts _ (by decide +kernel)) (hts _ (by decide +kernel)) (Cond.eq_int (b := .int 1) (hs (Cond.eq (.static RJ0 "COMPACT_STRINGS" "Z") (.int 1)) (by decide +kernel)) rfl) hA, va_Zqof (hts _ (by decide +kernel)) (hts _ (by decide +kernel)) (hs _ (by decide +kernel)) hA⟩, ⟨x0, x1, x2, x3, x4, x5⟩, ?_⟩
    intro k hk9
    rcases (show k = 0 ∨ k = 1 ∨ k = 2 ∨ k = 3 ∨ k = 4 ∨ k = 5 by omega) with rfl | rfl | rfl | rfl | rfl | rfl
    · exact l0
    · exact l1
    · exact l2
    · exact l3
    · exact l4
    · exact l5

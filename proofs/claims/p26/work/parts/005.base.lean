noncomputable abbrev vwCl : List vw_C := [(RJ0, TJ0, 2), (RJx00060, TJx00060, 6), (RX0, TX0, 12), (RX1, TX1, 6), (RX2, TX2, 13), (RX3, TX3, 5), (RX4, TX4, 2), (RX5, TX5, 2), (RX6, TX6, 8), (RX7, TX7, 3), (RX8, TX8, 10), (RX9, TX9, 5), (RX10, TX10, 4), (RX11, TX11, 8), (RX12, TX12, 54)]
/-! the heap as a map from addresses to cells; one judgement Z for a frame over such a heap; contracts Ct over it -/
abbrev Hm : Type := Nat → Option va_E
abbrev EnvG : Type := va_G × (Nat → ClassId) × (Nat → Nat) × Nat
noncomputable def fset (Φ : Hm) (a : Nat) (e : va_E) : Hm := fun x => if x = a then some e else Φ x
theorem fset_eq {Φ : Hm} {a : Nat} {e : va_E} : fset Φ a e a = some e := by simp [fset]
theorem fset_ne {Φ : Hm} {a b : Nat} {e : va_E} (h : b ≠ a) : fset Φ a e b = Φ b := by simp [fset, h]
theorem fset_at {Φ Φ1 : Hm} {a : Nat} {e : va_E} (h : Φ1 = fset Φ a e) : Φ1 a = some e := by rw [h]; exact fset_eq
theorem fset_to {Φ Φ1 : Hm} {a b : Nat} {e : va_E} {x : Option va_E} (h : Φ1 = fset Φ a e) (hb : b ≠ a) (hx : Φ b = x) : Φ1 b = x := by rw [h, fset_ne hb]; exact hx
theorem fset_fr {Φ Φ1 : Hm} {a b : Nat} {e : va_E} (h : Φ1 = fset Φ a e) (hb : b ≠ a) : Φ1 b = Φ b := by rw [h, fset_ne hb]
theorem ne_off {x i j : Nat} (h : Nat.beq i j = false) : x + i ≠ x + j := by
  intro q
  have h2 : i = j := by omega
  rw [h2] at h
  simp at h
theorem lt_off {x i j : Nat} (h : Nat.blt i j = true) : x + i < x + j := by have := Nat.le_of_ble_eq_true h; omega
theorem nar_z {v : Int32} (h : v = 0 ∨ v = 1) : narrow .boolean (.int v) = .int v := by rcases h with h | h <;> subst h <;> decide
theorem fit_z {v : Int32} (h : v = 0 ∨ v = 1) : fits .boolean (.int v) = true := by rcases h with h | h <;> subst h <;> decide
theorem vin {i : Int32} {n : Nat} (h : (!(decide (i < 0)) && Nat.blt i.toNatClampNeg n) = true) : vp_in i n := by
  simp only [Bool.and_eq_true, Bool.not_eq_true', decide_eq_false_iff_not] at h
  intro q
  have h2 := Nat.le_of_ble_eq_true h.2
  rcases q with q | q
  · exact h.1 q
  · omega
theorem hm_ne {Φ : Hm} {a b : Nat} {x y : va_E} (ha : Φ a = some x) (hb : Φ b = some y) (hxy : x ≠ y) : a ≠ b := fun h => hxy (by subst h; exact Option.some.inj (ha.symm.trans hb))
/-- cells: an object, rows of ints, bytes, longs, doubles, references -/
abbrev o_ (ci : Nat) (fs : List Value) : va_E := .inr (ci, fs)
abbrev ai_ (G : EnvG) (n : Nat) (f : Nat → Int32) : va_E := .inl (G.2.1 0, n, .inl f)
abbrev al_ (G : EnvG) (n : Nat) (f : Nat → Int64) : va_E := .inl (G.2.1 1, n, .inr (.inl f))
abbrev ab_ (G : EnvG) (n : Nat) (f : Nat → Int32) : va_E := .inl (G.2.1 2, n, .inl f)
abbrev ad_ (G : EnvG) (n : Nat) (f : Nat → UInt64) : va_E := .inl (G.2.1 3, n, .inr (.inr (.inr (.inl f))))
abbrev aq_ (G : EnvG) (t : Nat) (n : Nat) (f : Nat → Option Nat) : va_E := .inl (G.2.1 t, n, .inr (.inr (.inr (.inr f))))
noncomputable def tyl (d : Nat → ClassId) : List (ClassId × FieldType) := [(d 0, .int), (d 1, .long), (d 2, .byte), (d 3, .double), (d 4, .object RX10), (d 5, .object RX3), (d 6, .object RX5), (d 7, .array .long), (d 8, .array .double)]
noncomputable def HP (D : va_G) (Φ : Hm) (sz : Nat) (H : Heap) : Prop := H.size = sz ∧ ∀ (a : Nat) (e : va_E), Φ a = some e → va_at D vwCl (a, e) H
theorem HP.lt {D : va_G} {Φ : Hm} {sz : Nat} {H : Heap} (h : HP D Φ sz H) {a : Nat} {e : va_E} (ha : Φ a = some e) : a < sz := by rw [← h.1]; exact (h.2 a e ha).lt
theorem HP.put {D : va_G} {Φ : Hm} {sz : Nat} {H H1 : Heap} {a : Nat} {e : va_E} (h : HP D Φ sz H) (he : va_at D vwCl (a, e) H1) (z : H1.size = H.size) (oq : ∀ q : Nat, q ≠ a → H1[q]? = H[q]?) : HP D (fset Φ a e) sz H1 := by
  refine ⟨z.trans h.1, fun b eb hb => ?_⟩
  by_cases hba : b = a
  · subst hba
    rw [fset_eq] at hb
    cases hb
    exact he
  · rw [fset_ne hba] at hb
    exact (h.2 b eb hb).kept (oq b hba)
theorem HP.new {D : va_G} {Φ : Hm} {sz : Nat} {H H1 : Heap} {e : va_E} (h : HP D Φ sz H) (he : va_at D vwCl (sz, e) H1) (z : H1.size = sz + 1) (o : ∀ q : Nat, q < sz → H1[q]? = H[q]?) : HP D (fset Φ sz e) (sz + 1) H1 := by
  refine ⟨z, fun b eb hb => ?_⟩
  by_cases hba : b = sz
  · subst hba
    rw [fset_eq] at hb
    cases hb
    exact he
  · rw [fset_ne hba] at hb
    exact (h.2 b eb hb).kept (o b (h.lt hb))
theorem vr_outer (c : ClassId) (N h0 : Nat) : ∀ i : Nat, Jvm.Free.Multi.outerC c N h0 i = arrV c N (fun j => va_rf (if j < i then some (h0 + 1 + j) else none))
  | 0 => by
    show ({ cls := c, slots := Array.replicate N .null, vm := .none } : Cell) = _
    rw [arrV_new]
    refine congrArg (arrV c N) (funext fun j => ?_)
    simp [va_rf]
  | i + 1 => by
    show (Jvm.Free.Multi.outerC c N h0 i).setSlot i (.ref (h0 + 1 + i)) = _
    rw [vr_outer c N h0 i, arrV_store]
    refine congrArg (arrV c N) (funext fun j => ?_)
    by_cases e : j = i
    · subst e
      simp [updV, va_rf]
    · by_cases h : j < i
      · simp [updV, e, h, Nat.lt_succ_of_lt h]
      · simp [updV, e, h, show ¬ j < i + 1 by omega]
/-- links between nest mates -/
noncomputable def nestM : List (String × Nat × MethodName) := [(RX11, 61, yX9_init), (RX0, 134, yX11_lengthOf), (RX0, 21, yX10_init), (RX1, 34, yX10_init), (RX4, 27, yX3_init), (RX8, 103, yX11_lengthOf)]
noncomputable def nestF : List (String × Nat × String) := [(RX0, 155, "FIELD_BYTES"), (RX1, 35, "USUAL"), (RX6, 82, "LEAST"), (RX6, 86, "MOST"), (RX10, 25, "FIELD_BYTES")]
/-- the classes that are thrown: what a throw and a catch ask of the tables -/
noncomputable def xIA : String := "java/lang/IllegalArgumentException"
noncomputable def xIS : String := "java/lang/IllegalStateException"
noncomputable def xIO : String := "java/lang/IndexOutOfBoundsException"
noncomputable def xAE : String := "java/lang/ArithmeticException"
noncomputable def xCast : List (String × String) := [(xIA, xIA), (xIS, xIS), (xIO, xIO), (xAE, xAE)]
noncomputable def xDecl : List MethodName := [⟨"java/lang/RuntimeException", "<init>", "()V"⟩, ⟨"java/lang/Exception", "<init>", "()V"⟩, ⟨"java/lang/Throwable", "<init>", "()V"⟩]
noncomputable def xNot : List (String × String) := [(xIS, xIA), (xIA, xIO)]
noncomputable def AOA (ty : FieldType) (U : State) : Prop := (Cond.arrayOver (.array ty)).before #[] U = true
theorem AOA.moved {ty : FieldType} {u U : State} (hvm : u.vm.Alike U.vm) (h : AOA ty u) : AOA ty U := Jvm.Stand.arrayOver_alikeB hvm h
/-- the class's String constants: their texts, lengths, bytes -/
noncomputable def tx0 : String := "sampling budget active inactive refresh - lifetime length assume template use drop"
noncomputable def tx1 : String := "source destination port protocol packets bytes first last rate"
noncomputable def lenS : List Nat := [82, 62]
noncomputable def bytS : List (List Int32) := [[115, 97, 109, 112, 108, 105, 110, 103, 32, 98, 117, 100, 103, 101, 116, 32, 97, 99, 116, 105, 118, 101, 32, 105, 110, 97, 99, 116, 105, 118, 101, 32, 114, 101, 102, 114, 101, 115, 104, 32, 45, 32, 108, 105, 102, 101, 116, 105, 109, 101, 32, 108, 101, 110, 103, 116, 104, 32, 97, 115, 115, 117, 109, 101, 32, 116, 101, 109, 112, 108, 97, 116, 101, 32, 117, 115, 101, 32, 100, 114, 111, 112], [115, 111, 117, 114, 99, 101, 32, 100, 101, 115, 116, 105, 110, 97, 116, 105, 111, 110, 32, 112, 111, 114, 116, 32, 112, 114, 111, 116, 111, 99, 111, 108, 32, 112, 97, 99, 107, 101, 116, 115, 32, 98, 121, 116, 101, 115, 32, 102, 105, 114, 115, 116, 32, 108, 97, 115, 116, 32, 114, 97, 116, 101]]
noncomputable def KS (G : EnvG) (U : State) : Prop := vk_R RX6 57 tx0 (G.2.2.1 6) U ∧ vk_R RX6 101 tx1 (G.2.2.1 7) U
noncomputable def SS (G : EnvG) (U : State) (H : Heap) : Prop := vk_S 2 lenS bytS (fun i => G.2.2.1 (6 + i)) (fun i => G.2.2.1 (8 + i)) (fun q => G.2.2.2 ≤ q) U H ∧ va_Z RJ0 "COMPACT_STRINGS" "Z" (.int 1) (fun q => G.2.2.2 ≤ q) U H ∧ va_Zq "jdk/internal/util/Preconditions" "SIOOBE_FORMATTER" "Ljava/util/function/BiFunction;" (fun q => G.2.2.2 ≤ q) U H
theorem SS.moved {G : EnvG} {u U : State} {H : Heap} (hvm : u.vm.Alike U.vm) (h : SS G u H) : SS G U H := ⟨vk_S.moved hvm h.1, va_Z.moved hvm h.2.1, va_Zq.moved hvm h.2.2⟩
theorem SS.kept {G : EnvG} {U : State} {H H1 : Heap} (h : SS G U H) (hq : ∀ a : Nat, a < H.size → ¬ G.2.2.2 ≤ a → H1[a]? = H[a]?) : SS G U H1 := ⟨vk_S.kept h.1 hq, va_Z.kept h.2.1 hq, va_Zq.kept h.2.2 hq⟩
/-- what the tables say, beside the words: classes, rows, nests -/
noncomputable def K0 (G : EnvG) (U : State) : Prop := va_K G.1 vwCl (tyl G.2.1) U ∧ (va_AO RX10 U ∧ va_AO RX3 U ∧ va_AO RX5 U) ∧ (∀ q ∈ nestM, va_Nw (.methodLinkNest q.1 q.2.1 q.2.2 RX11) U) ∧ (∀ q ∈ nestF, va_Nw (.fieldLinkNest q.1 q.2.1 RX11 q.2.2 "[I" RX11) U) ∧ AOA .long U ∧ AOA .double U ∧ (∀ q ∈ xCast, va_Nw (.castable q.1 q.2) U) ∧ (∀ q ∈ xDecl, va_Nw (.declares q) U) ∧ (∀ q ∈ xNot, va_Nc q.1 q.2 U) ∧ KS G U
theorem K0.warm {G : EnvG} {s U : State} (hW : s.WarmedH U.vm) (h : K0 G s) : K0 G U := ⟨va_K.moved hW.alike h.1, ⟨va_AO.moved hW.alike h.2.1.1, va_AO.moved hW.alike h.2.1.2.1, va_AO.moved hW.alike h.2.1.2.2⟩, fun q hq => va_Nw.warmM hW (h.2.2.1 q hq), fun q hq => va_Nw.warmF hW (h.2.2.2.1 q hq), AOA.moved hW.alike h.2.2.2.2.1, AOA.moved hW.alike h.2.2.2.2.2.1, fun q hq => va_Nw.warmC hW (h.2.2.2.2.2.2.1 q hq), fun q hq => va_Nw.warmD hW (h.2.2.2.2.2.2.2.1 q hq), fun q hq => va_Nc.moved hW.alike (h.2.2.2.2.2.2.2.2.1 q hq), vk_R.warm hW h.2.2.2.2.2.2.2.2.2.1, vk_R.warm hW h.2.2.2.2.2.2.2.2.2.2⟩
noncomputable def fbT : Nat → Int32 := fun j => ([1, 1, 2, 1, 4, 8, 4, 4, 4] : List Int32).getD j 0
noncomputable def usT : Nat → Int32 := fun j => ([1, 100, 1000, 100, 20, 1000, 5000, 512, 1] : List Int32).getD j 0
noncomputable def leT : Nat → Int32 := fun j => ([1, 1, 1, 1, 1, 1, 1, 256, 1] : List Int32).getD j 0
noncomputable def moT : Nat → Int32 := fun j => ([1024, 1000, 10000, 10000, 1000, 100000, 100000, 600, 1024] : List Int32).getD j 0
noncomputable def shT : Nat → Int32 := fun j => ([32, 24, 8, 0] : List Int32).getD j 0
noncomputable def maT : Nat → Int32 := fun j => ([255, 255, 65535, 255] : List Int32).getD j 0
/-- the static rows, and what a throw reads -/
noncomputable def S0 (G : EnvG) (U : State) (H : Heap) : Prop := (va_Z RX11 "FIELD_BYTES" "[I" (.ref (G.2.2.1 0)) (fun q => G.2.2.2 ≤ q) U H ∧ va_Z RX11 "USUAL" "[I" (.ref (G.2.2.1 1)) (fun q => G.2.2.2 ≤ q) U H ∧ va_Z RX11 "LEAST" "[I" (.ref (G.2.2.1 2)) (fun q => G.2.2.2 ≤ q) U H ∧ va_Z RX11 "MOST" "[I" (.ref (G.2.2.1 3)) (fun q => G.2.2.2 ≤ q) U H ∧ va_Z RX3 "PART_SHIFTS" "[I" (.ref (G.2.2.1 4)) (fun q => G.2.2.2 ≤ q) U H ∧ va_Z RX3 "PART_MASKS" "[I" (.ref (G.2.2.1 5)) (fun q => G.2.2.2 ≤ q) U H) ∧ vx_Zq Bundle.tN "UNASSIGNED_STACK" Bundle.steD (fun q => G.2.2.2 ≤ q) U H ∧ (vx_Zq Bundle.tN "SUPPRESSED_SENTINEL" Bundle.listD (fun q => G.2.2.2 ≤ q) U H ∧ SS G U H) ∧ (va_X (G.2.2.1 0) 9 fbT U H ∧ va_X (G.2.2.1 1) 9 usT U H ∧ va_X (G.2.2.1 2) 9 leT U H ∧ va_X (G.2.2.1 3) 9 moT U H ∧ va_X (G.2.2.1 4) 4 shT U H ∧ va_X (G.2.2.1 5) 4 maT U H) ∧ ∀ k, k < 6 → G.2.2.1 k < G.2.2.2
theorem S0.moved {G : EnvG} {u U : State} {H : Heap} (hvm : u.vm.Alike U.vm) (h : S0 G u H) : S0 G U H := ⟨⟨va_Z.moved hvm h.1.1, va_Z.moved hvm h.1.2.1, va_Z.moved hvm h.1.2.2.1, va_Z.moved hvm h.1.2.2.2.1, va_Z.moved hvm h.1.2.2.2.2.1, va_Z.moved hvm h.1.2.2.2.2.2⟩, vx_Zq.moved hvm h.2.1, ⟨vx_Zq.moved hvm h.2.2.1.1, SS.moved hvm h.2.2.1.2⟩, ⟨va_X.moved hvm h.2.2.2.1.1, va_X.moved hvm h.2.2.2.1.2.1, va_X.moved hvm h.2.2.2.1.2.2.1, va_X.moved hvm h.2.2.2.1.2.2.2.1, va_X.moved hvm h.2.2.2.1.2.2.2.2.1, va_X.moved hvm h.2.2.2.1.2.2.2.2.2⟩, h.2.2.2.2⟩
theorem vaX_lt {b L : Nat} {xs : Nat → Int32} {U : State} {H : Heap} (h : va_X b L xs U H) : b < H.size := by
  obtain ⟨scr, h1, -⟩ := h
  exact (Array.getElem?_eq_some_iff.mp h1).1
theorem S0.kept {G : EnvG} {U : State} {H H1 : Heap} (h : S0 G U H) (hq : ∀ a : Nat, a < H.size → ¬ G.2.2.2 ≤ a → H1[a]? = H[a]?) : S0 G U H1 := ⟨⟨va_Z.kept h.1.1 hq, va_Z.kept h.1.2.1 hq, va_Z.kept h.1.2.2.1 hq, va_Z.kept h.1.2.2.2.1 hq, va_Z.kept h.1.2.2.2.2.1 hq, va_Z.kept h.1.2.2.2.2.2 hq⟩, vx_Zq.kept h.2.1 hq, ⟨vx_Zq.kept h.2.2.1.1 hq, SS.kept h.2.2.1.2 hq⟩, ⟨va_X.kept h.2.2.2.1.1 (hq _ (vaX_lt h.2.2.2.1.1) (Nat.not_le.mpr (h.2.2.2.2 0 (by decide)))), va_X.kept h.2.2.2.1.2.1 (hq _ (vaX_lt h.2.2.2.1.2.1) (Nat.not_le.mpr (h.2.2.2.2 1 (by decide)))), va_X.kept h.2.2.2.1.2.2.1 (hq _ (vaX_lt h.2.2.2.1.2.2.1) (Nat.not_le.mpr (h.2.2.2.2 2 (by decide)))), va_X.kept h.2.2.2.1.2.2.2.1 (hq _ (vaX_lt h.2.2.2.1.2.2.2.1) (Nat.not_le.mpr (h.2.2.2.2 3 (by decide)))), va_X.kept h.2.2.2.1.2.2.2.2.1 (hq _ (vaX_lt h.2.2.2.1.2.2.2.2.1) (Nat.not_le.mpr (h.2.2.2.2 4 (by decide)))), va_X.kept h.2.2.2.1.2.2.2.2.2 (hq _ (vaX_lt h.2.2.2.1.2.2.2.2.2) (Nat.not_le.mpr (h.2.2.2.2 5 (by decide))))⟩, h.2.2.2.2⟩
/-- a method's start -/
noncomputable def PU (G : EnvG) (Φ : Hm) (sz : Nat) (U : State) : Prop := HP G.1 Φ sz U.heap ∧ K0 G U ∧ S0 G U U.heap ∧ G.2.2.2 ≤ sz
theorem PU.blind {G : EnvG} {av : List Value} {Φ : Hm} {sz : Nat} : FrameBlind (va_Pc av (PU G Φ sz)) := by
  intro a U g mk h
  exact ⟨h.1, h.2.1, K0.warm (State.WarmedH.refl U) h.2.2.1, S0.moved (Vm.Alike.refl U.vm) h.2.2.2.1, h.2.2.2.2⟩
/-- a method's end: answer, heap, size -/
noncomputable def QU (G : EnvG) (P : Option Value → Hm → Nat → Prop) : Array Value → State → Outcome → State → Prop := fun _ st oc t => (∃ (v : Option Value) (Φ : Hm) (sz : Nat), oc = .returned v ∧ P v Φ sz ∧ HP G.1 Φ sz t.heap) ∧ va_F (fun q => G.2.2.2 ≤ q) st t
noncomputable def Ct (G : EnvG) (l : Launch) (y : MethodName) (ws : List Cond) (rm : Room) (mc ms : Nat) (av : List Value) (Φ : Hm) (sz : Nat) (P : Option Value → Hm → Nat → Prop) : Prop := Met l y ws rm (va_Pc av (PU G Φ sz)) (QU G P) mc ms (fun q => G.2.2.2 ≤ q)
/-- what stays through a method's walk -/
noncomputable def Bd (p : Program) (s : State) (m : MethodId) (args : Array Value) (meth : Method) (c : Code) (G : EnvG) (cc : ByteArray) (nL : Nat) (own : String) (ws : List Cond) (ret : Option FieldType) (nm : String) : Prop :=
  CallFix p m c cc nL s args ws own ∧ meth.sig.returnType = ret ∧ meth.locks = false ∧ meth.name = nm ∧ K0 G s ∧ S0 G s s.heap ∧ G.2.2.2 ≤ s.heap.size
/-- the machine at pc, with these locals, this stack, this heap, comes to Q -/
noncomputable def Z (p : Program) (l : Launch) (e : Env) (R : Room) (s : State) (m : MethodId) (args : Array Value) (below : List Frame) (meth : Method) (c : Code) (Q : State → Prop) (G : EnvG) (nL pc : Nat) (lv : List (Nat × Value)) (st : List Value) (Φ : Hm) (sz cells slots : Nat) : Prop :=
  ∀ (H : Heap) (locs : List Loc) (ls : Array Slot), lv_has ls nL lv → HP G.1 Φ sz H → va_S (fun q => G.2.2.2 ≤ q) s.heap H locs → W p l e R s m args below meth c H locs cells slots Q (F0 m pc ls st)
theorem Ct.of {G : EnvG} {l : Launch} {y : MethodName} {ws ws' : List Cond} {rm : Room} {mc ms : Nat} {av : List Value} {Φ : Hm} {sz : Nat} {P : Option Value → Hm → Nat → Prop} {cc : ByteArray} {maxL : Nat} {ret : Option FieldType} (hy : plainName y.cls = true) (hw : ws = Cond.code y cc maxL ret :: ws') (hlen : (lg_sl av).length ≤ maxL)
    (body : ∀ (p : Program) (e : Env) (s : State) (m : MethodId) (below : List Frame) (meth : Method) (c : Code), Bd p s m av.toArray meth c G cc maxL y.cls ws ret y.name → Z p l e rm s m av.toArray below meth c (MQ below (QU G P) av.toArray s mc ms (fun q => G.2.2.2 ≤ q)) G maxL 0 (lv_args 0 av) [] Φ sz 0 0) : Ct G l y ws rm mc ms av Φ sz P := by
  refine Met.ofW (cc := cc) (maxL := maxL) (ret := ret) hy hw ?_
  intro p e s m args below meth c s₁ B hml hv
  obtain ⟨rfl, hP, hK, hS, hn⟩ := hv
  have hl := lv_entry av hlen
  rw [lg_entry_eq]
  refine body p e s m below meth c ⟨⟨B.exec, B.bytes, hml, findClass_of_methodNamed B.named, atoms_spec (ws := ws) B.pre⟩, B.returns, B.notSynchronized, (name_of_methodNamed B.named B.method).1, hK, hS, by rw [hP.1]; exact hn⟩ s.heap [] _ hl hP va_S.rf
section ZR
variable {p : Program} {l : Launch} {e : Env} {R : Room} {s : State} {m : MethodId} {args : Array Value} {below : List Frame} {meth : Method} {c : Code} {Q : State → Prop} {G : EnvG} {nL pc : Nat} {lv : List (Nat × Value)} {rest : List Value} {Φ : Hm} {sz cells slots : Nat}
variable {cc : ByteArray} {own : String} {ws : List Cond} {ret : Option FieldType} {nm : String}
theorem z_widen {st : List Value} {k n : Nat} (h1 : cells ≤ k) (h2 : slots ≤ n) (kk : Z p l e R s m args below meth c Q G nL pc lv st Φ sz k n) : Z p l e R s m args below meth c Q G nL pc lv st Φ sz cells slots := fun H locs ls hl hP hS => W.widen h1 h2 (kk H locs ls hl hP hS)
theorem z_lv {st : List Value} {lv' : List (Nat × Value)} (ks : List Nat) (h : lv_pick lv ks = lv') (kk : Z p l e R s m args below meth c Q G nL pc lv' st Φ sz cells slots) : Z p l e R s m args below meth c Q G nL pc lv st Φ sz cells slots := fun H locs ls hl hP hS => kk H locs ls (lv_sub hl ks h) hP hS
theorem z_iconst (B : Bd p s m args meth c G cc nL own ws ret nm) {n : Int} {v : Int32} (hdg : decode cc pc = .ok (.iconst n, 1)) (hv : Int32.ofInt n = v) (k : Z p l e R s m args below meth c Q G nL (pc + 1) lv (.int v :: rest) Φ sz cells slots) : Z p l e R s m args below meth c Q G nL pc lv (rest) Φ sz cells slots := fun H locs ls hl hP hS => lv_iconst B.1.1 B.1.2.1 hdg hv (k H locs ls hl hP hS)
theorem z_bipush (B : Bd p s m args meth c G cc nL own ws ret nm) {n : Int} {v : Int32} (hdg : decode cc pc = .ok (.bipush n, 2)) (hv : (Int8.ofInt n).toInt32 = v) (k : Z p l e R s m args below meth c Q G nL (pc + 2) lv (.int v :: rest) Φ sz cells slots) : Z p l e R s m args below meth c Q G nL pc lv (rest) Φ sz cells slots := fun H locs ls hl hP hS => lv_bipush B.1.1 B.1.2.1 hdg hv (k H locs ls hl hP hS)
theorem z_sipush (B : Bd p s m args meth c G cc nL own ws ret nm) {n : Int} {v : Int32} (hdg : decode cc pc = .ok (.sipush n, 3)) (hv : (Int16.ofInt n).toInt32 = v) (k : Z p l e R s m args below meth c Q G nL (pc + 3) lv (.int v :: rest) Φ sz cells slots) : Z p l e R s m args below meth c Q G nL pc lv (rest) Φ sz cells slots := fun H locs ls hl hP hS => lv_sipush B.1.1 B.1.2.1 hdg hv (k H locs ls hl hP hS)
theorem z_lconst (B : Bd p s m args meth c G cc nL own ws ret nm) {n : Fin 2} {v : Int64} (hdg : decode cc pc = .ok (.lconst n, 1)) (hv : Int64.ofNat (n : Nat) = v) (k : Z p l e R s m args below meth c Q G nL (pc + 1) lv (.long v :: rest) Φ sz cells slots) : Z p l e R s m args below meth c Q G nL pc lv (rest) Φ sz cells slots := fun H locs ls hl hP hS => lv_lconst B.1.1 B.1.2.1 hdg hv (k H locs ls hl hP hS)
theorem z_iload_n (B : Bd p s m args meth c G cc nL own ws ret nm) {k4 : Fin 4} {i : Nat} {x : Int32} (hdg : decode cc pc = .ok (.iload_n k4, 1)) (hi : (k4 : Nat) = i) (k0 : Nat) (hl0 : lv[k0]? = some (i, (.int x))) (k : Z p l e R s m args below meth c Q G nL (pc + 1) lv (.int x :: rest) Φ sz cells slots) : Z p l e R s m args below meth c Q G nL pc lv (rest) Φ sz cells slots := fun H locs ls hl hP hS => lv_iload_n B.1.1 B.1.2.1 hdg hi (lv_at hl k0 hl0) (k H locs ls hl hP hS)
theorem z_iload (B : Bd p s m args meth c G cc nL own ws ret nm) {i : Nat} {x : Int32} (hdg : decode cc pc = .ok (.iload i, 2)) (k0 : Nat) (hl0 : lv[k0]? = some (i, (.int x))) (k : Z p l e R s m args below meth c Q G nL (pc + 2) lv (.int x :: rest) Φ sz cells slots) : Z p l e R s m args below meth c Q G nL pc lv (rest) Φ sz cells slots := fun H locs ls hl hP hS => lv_iload B.1.1 B.1.2.1 hdg (lv_at hl k0 hl0) (k H locs ls hl hP hS)
theorem z_lload_n (B : Bd p s m args meth c G cc nL own ws ret nm) {k4 : Fin 4} {i : Nat} {x : Int64} (hdg : decode cc pc = .ok (.lload_n k4, 1)) (hi : (k4 : Nat) = i) (k0 : Nat) (hl0 : lv[k0]? = some (i, (.long x))) (k : Z p l e R s m args below meth c Q G nL (pc + 1) lv (.long x :: rest) Φ sz cells slots) : Z p l e R s m args below meth c Q G nL pc lv (rest) Φ sz cells slots := fun H locs ls hl hP hS => lv_lload_n B.1.1 B.1.2.1 hdg hi (lv_at hl k0 hl0) (k H locs ls hl hP hS)
theorem z_lload (B : Bd p s m args meth c G cc nL own ws ret nm) {i : Nat} {x : Int64} (hdg : decode cc pc = .ok (.lload i, 2)) (k0 : Nat) (hl0 : lv[k0]? = some (i, (.long x))) (k : Z p l e R s m args below meth c Q G nL (pc + 2) lv (.long x :: rest) Φ sz cells slots) : Z p l e R s m args below meth c Q G nL pc lv (rest) Φ sz cells slots := fun H locs ls hl hP hS => lv_lload B.1.1 B.1.2.1 hdg (lv_at hl k0 hl0) (k H locs ls hl hP hS)
theorem z_aload_n (B : Bd p s m args meth c G cc nL own ws ret nm) {k4 : Fin 4} {i : Nat} {x : Nat} (hdg : decode cc pc = .ok (.aload_n k4, 1)) (hi : (k4 : Nat) = i) (k0 : Nat) (hl0 : lv[k0]? = some (i, (.ref x))) (k : Z p l e R s m args below meth c Q G nL (pc + 1) lv (.ref x :: rest) Φ sz cells slots) : Z p l e R s m args below meth c Q G nL pc lv (rest) Φ sz cells slots := fun H locs ls hl hP hS => lv_aload_n B.1.1 B.1.2.1 hdg hi (lv_at hl k0 hl0) (k H locs ls hl hP hS)
theorem z_aload (B : Bd p s m args meth c G cc nL own ws ret nm) {i : Nat} {x : Nat} (hdg : decode cc pc = .ok (.aload i, 2)) (k0 : Nat) (hl0 : lv[k0]? = some (i, (.ref x))) (k : Z p l e R s m args below meth c Q G nL (pc + 2) lv (.ref x :: rest) Φ sz cells slots) : Z p l e R s m args below meth c Q G nL pc lv (rest) Φ sz cells slots := fun H locs ls hl hP hS => lv_aload B.1.1 B.1.2.1 hdg (lv_at hl k0 hl0) (k H locs ls hl hP hS)
theorem z_istore_n (B : Bd p s m args meth c G cc nL own ws ret nm) {k4 : Fin 4} {i : Nat} {x : Int32} {lv' : List (Nat × Value)} (hdg : decode cc pc = .ok (.istore_n k4, 1)) (hi : (k4 : Nat) = i) (hn : i < nL) (hl0 : (i, Value.int x) :: lv.filter (fun q => !(q.1 == i) && !(q.1 + 1 == i && q.2.category == 2)) = lv') (kk : Z p l e R s m args below meth c Q G nL (pc + 1) lv' rest Φ sz cells slots) : Z p l e R s m args below meth c Q G nL pc lv (.int x :: rest) Φ sz cells slots := fun H locs ls hl hP hS => lv_istore_n B.1.1 B.1.2.1 hdg hi hl hn hl0 (fun ls1 hl1 => kk H locs ls1 hl1 hP hS)
theorem z_istore (B : Bd p s m args meth c G cc nL own ws ret nm) {i : Nat} {x : Int32} {lv' : List (Nat × Value)} (hdg : decode cc pc = .ok (.istore i, 2)) (hn : i < nL) (hl0 : (i, Value.int x) :: lv.filter (fun q => !(q.1 == i) && !(q.1 + 1 == i && q.2.category == 2)) = lv') (kk : Z p l e R s m args below meth c Q G nL (pc + 2) lv' rest Φ sz cells slots) : Z p l e R s m args below meth c Q G nL pc lv (.int x :: rest) Φ sz cells slots := fun H locs ls hl hP hS => lv_istore B.1.1 B.1.2.1 hdg hl hn hl0 (fun ls1 hl1 => kk H locs ls1 hl1 hP hS)
theorem z_lstore_n (B : Bd p s m args meth c G cc nL own ws ret nm) {k4 : Fin 4} {i : Nat} {x : Int64} {lv' : List (Nat × Value)} (hdg : decode cc pc = .ok (.lstore_n k4, 1)) (hi : (k4 : Nat) = i) (hn : i + 1 < nL) (hl0 : (i, Value.long x) :: lv.filter (fun q => !(q.1 == i) && (!(q.1 == i + 1) && !(q.1 + 1 == i && q.2.category == 2))) = lv') (kk : Z p l e R s m args below meth c Q G nL (pc + 1) lv' rest Φ sz cells slots) : Z p l e R s m args below meth c Q G nL pc lv (.long x :: rest) Φ sz cells slots := fun H locs ls hl hP hS => lv_lstore_n B.1.1 B.1.2.1 hdg hi hl hn hl0 (fun ls1 hl1 => kk H locs ls1 hl1 hP hS)
theorem z_lstore (B : Bd p s m args meth c G cc nL own ws ret nm) {i : Nat} {x : Int64} {lv' : List (Nat × Value)} (hdg : decode cc pc = .ok (.lstore i, 2)) (hn : i + 1 < nL) (hl0 : (i, Value.long x) :: lv.filter (fun q => !(q.1 == i) && (!(q.1 == i + 1) && !(q.1 + 1 == i && q.2.category == 2))) = lv') (kk : Z p l e R s m args below meth c Q G nL (pc + 2) lv' rest Φ sz cells slots) : Z p l e R s m args below meth c Q G nL pc lv (.long x :: rest) Φ sz cells slots := fun H locs ls hl hP hS => lv_lstore B.1.1 B.1.2.1 hdg hl hn hl0 (fun ls1 hl1 => kk H locs ls1 hl1 hP hS)
theorem z_astore_n (B : Bd p s m args meth c G cc nL own ws ret nm) {k4 : Fin 4} {i : Nat} {x : Nat} {lv' : List (Nat × Value)} (hdg : decode cc pc = .ok (.astore_n k4, 1)) (hi : (k4 : Nat) = i) (hn : i < nL) (hl0 : (i, Value.ref x) :: lv.filter (fun q => !(q.1 == i) && !(q.1 + 1 == i && q.2.category == 2)) = lv') (kk : Z p l e R s m args below meth c Q G nL (pc + 1) lv' rest Φ sz cells slots) : Z p l e R s m args below meth c Q G nL pc lv (.ref x :: rest) Φ sz cells slots := fun H locs ls hl hP hS => lv_astore_n B.1.1 B.1.2.1 hdg hi hl hn hl0 (fun ls1 hl1 => kk H locs ls1 hl1 hP hS)
theorem z_astore (B : Bd p s m args meth c G cc nL own ws ret nm) {i : Nat} {x : Nat} {lv' : List (Nat × Value)} (hdg : decode cc pc = .ok (.astore i, 2)) (hn : i < nL) (hl0 : (i, Value.ref x) :: lv.filter (fun q => !(q.1 == i) && !(q.1 + 1 == i && q.2.category == 2)) = lv') (kk : Z p l e R s m args below meth c Q G nL (pc + 2) lv' rest Φ sz cells slots) : Z p l e R s m args below meth c Q G nL pc lv (.ref x :: rest) Φ sz cells slots := fun H locs ls hl hP hS => lv_astore B.1.1 B.1.2.1 hdg hl hn hl0 (fun ls1 hl1 => kk H locs ls1 hl1 hP hS)
theorem z_iinc (B : Bd p s m args meth c G cc nL own ws ret nm) {i k : Nat} {n : Int} {x v : Int32} {lv' : List (Nat × Value)} (hdg : decode cc pc = .ok (.iinc i n, 3)) (hk : lv[k]? = some (i, .int x)) (hv : x + Int32.ofInt n = v) (hn : i < nL) (hl0 : (i, Value.int v) :: lv.filter (fun q => !(q.1 == i) && !(q.1 + 1 == i && q.2.category == 2)) = lv') (kk : Z p l e R s m args below meth c Q G nL (pc + 3) lv' rest Φ sz cells slots) : Z p l e R s m args below meth c Q G nL pc lv rest Φ sz cells slots := fun H locs ls hl hP hS => lv_iinc B.1.1 B.1.2.1 hdg hl hk hv hn hl0 (fun ls1 hl1 => kk H locs ls1 hl1 hP hS)
theorem z_iadd (B : Bd p s m args meth c G cc nL own ws ret nm) {x y : Int32} (hdg : decode cc pc = .ok (.iadd, 1)) (k : Z p l e R s m args below meth c Q G nL (pc + 1) lv (.int (x + y) :: rest) Φ sz cells slots) : Z p l e R s m args below meth c Q G nL pc lv (.int y :: .int x :: rest) Φ sz cells slots := fun H locs ls hl hP hS => lv_iadd B.1.1 B.1.2.1 hdg (k H locs ls hl hP hS)
theorem z_isub (B : Bd p s m args meth c G cc nL own ws ret nm) {x y : Int32} (hdg : decode cc pc = .ok (.isub, 1)) (k : Z p l e R s m args below meth c Q G nL (pc + 1) lv (.int (x - y) :: rest) Φ sz cells slots) : Z p l e R s m args below meth c Q G nL pc lv (.int y :: .int x :: rest) Φ sz cells slots := fun H locs ls hl hP hS => lv_isub B.1.1 B.1.2.1 hdg (k H locs ls hl hP hS)
theorem z_imul (B : Bd p s m args meth c G cc nL own ws ret nm) {x y : Int32} (hdg : decode cc pc = .ok (.imul, 1)) (k : Z p l e R s m args below meth c Q G nL (pc + 1) lv (.int (x * y) :: rest) Φ sz cells slots) : Z p l e R s m args below meth c Q G nL pc lv (.int y :: .int x :: rest) Φ sz cells slots := fun H locs ls hl hP hS => lv_imul B.1.1 B.1.2.1 hdg (k H locs ls hl hP hS)
theorem z_iand (B : Bd p s m args meth c G cc nL own ws ret nm) {x y : Int32} (hdg : decode cc pc = .ok (.iand, 1)) (k : Z p l e R s m args below meth c Q G nL (pc + 1) lv (.int (x &&& y) :: rest) Φ sz cells slots) : Z p l e R s m args below meth c Q G nL pc lv (.int y :: .int x :: rest) Φ sz cells slots := fun H locs ls hl hP hS => lv_iand B.1.1 B.1.2.1 hdg (k H locs ls hl hP hS)
theorem z_ior (B : Bd p s m args meth c G cc nL own ws ret nm) {x y : Int32} (hdg : decode cc pc = .ok (.ior, 1)) (k : Z p l e R s m args below meth c Q G nL (pc + 1) lv (.int (x ||| y) :: rest) Φ sz cells slots) : Z p l e R s m args below meth c Q G nL pc lv (.int y :: .int x :: rest) Φ sz cells slots := fun H locs ls hl hP hS => lv_ior B.1.1 B.1.2.1 hdg (k H locs ls hl hP hS)
theorem z_ixor (B : Bd p s m args meth c G cc nL own ws ret nm) {x y : Int32} (hdg : decode cc pc = .ok (.ixor, 1)) (k : Z p l e R s m args below meth c Q G nL (pc + 1) lv (.int (x ^^^ y) :: rest) Φ sz cells slots) : Z p l e R s m args below meth c Q G nL pc lv (.int y :: .int x :: rest) Φ sz cells slots := fun H locs ls hl hP hS => lv_ixor B.1.1 B.1.2.1 hdg (k H locs ls hl hP hS)
theorem z_idiv (B : Bd p s m args meth c G cc nL own ws ret nm) {x y : Int32} (hdg : decode cc pc = .ok (.idiv, 1)) (hne : ¬ y = 0) (k : Z p l e R s m args below meth c Q G nL (pc + 1) lv (.int (x / y) :: rest) Φ sz cells slots) : Z p l e R s m args below meth c Q G nL pc lv (.int y :: .int x :: rest) Φ sz cells slots := fun H locs ls hl hP hS => lv_idiv B.1.1 B.1.2.1 hdg hne (k H locs ls hl hP hS)
theorem z_irem (B : Bd p s m args meth c G cc nL own ws ret nm) {x y : Int32} (hdg : decode cc pc = .ok (.irem, 1)) (hne : ¬ y = 0) (k : Z p l e R s m args below meth c Q G nL (pc + 1) lv (.int (x - x / y * y) :: rest) Φ sz cells slots) : Z p l e R s m args below meth c Q G nL pc lv (.int y :: .int x :: rest) Φ sz cells slots := fun H locs ls hl hP hS => lv_irem B.1.1 B.1.2.1 hdg hne (k H locs ls hl hP hS)
theorem z_ineg (B : Bd p s m args meth c G cc nL own ws ret nm) {x : Int32} (hdg : decode cc pc = .ok (.ineg, 1)) (k : Z p l e R s m args below meth c Q G nL (pc + 1) lv (.int (-x) :: rest) Φ sz cells slots) : Z p l e R s m args below meth c Q G nL pc lv (.int x :: rest) Φ sz cells slots := fun H locs ls hl hP hS => lv_ineg B.1.1 B.1.2.1 hdg (k H locs ls hl hP hS)
theorem z_ladd (B : Bd p s m args meth c G cc nL own ws ret nm) {x y : Int64} (hdg : decode cc pc = .ok (.ladd, 1)) (k : Z p l e R s m args below meth c Q G nL (pc + 1) lv (.long (x + y) :: rest) Φ sz cells slots) : Z p l e R s m args below meth c Q G nL pc lv (.long y :: .long x :: rest) Φ sz cells slots := fun H locs ls hl hP hS => lv_ladd B.1.1 B.1.2.1 hdg (k H locs ls hl hP hS)
theorem z_lsub (B : Bd p s m args meth c G cc nL own ws ret nm) {x y : Int64} (hdg : decode cc pc = .ok (.lsub, 1)) (k : Z p l e R s m args below meth c Q G nL (pc + 1) lv (.long (x - y) :: rest) Φ sz cells slots) : Z p l e R s m args below meth c Q G nL pc lv (.long y :: .long x :: rest) Φ sz cells slots := fun H locs ls hl hP hS => lv_lsub B.1.1 B.1.2.1 hdg (k H locs ls hl hP hS)
theorem z_lmul (B : Bd p s m args meth c G cc nL own ws ret nm) {x y : Int64} (hdg : decode cc pc = .ok (.lmul, 1)) (k : Z p l e R s m args below meth c Q G nL (pc + 1) lv (.long (x * y) :: rest) Φ sz cells slots) : Z p l e R s m args below meth c Q G nL pc lv (.long y :: .long x :: rest) Φ sz cells slots := fun H locs ls hl hP hS => lv_lmul B.1.1 B.1.2.1 hdg (k H locs ls hl hP hS)
theorem z_land (B : Bd p s m args meth c G cc nL own ws ret nm) {x y : Int64} (hdg : decode cc pc = .ok (.land, 1)) (k : Z p l e R s m args below meth c Q G nL (pc + 1) lv (.long (x &&& y) :: rest) Φ sz cells slots) : Z p l e R s m args below meth c Q G nL pc lv (.long y :: .long x :: rest) Φ sz cells slots := fun H locs ls hl hP hS => lv_land B.1.1 B.1.2.1 hdg (k H locs ls hl hP hS)
theorem z_lor (B : Bd p s m args meth c G cc nL own ws ret nm) {x y : Int64} (hdg : decode cc pc = .ok (.lor, 1)) (k : Z p l e R s m args below meth c Q G nL (pc + 1) lv (.long (x ||| y) :: rest) Φ sz cells slots) : Z p l e R s m args below meth c Q G nL pc lv (.long y :: .long x :: rest) Φ sz cells slots := fun H locs ls hl hP hS => lv_lor B.1.1 B.1.2.1 hdg (k H locs ls hl hP hS)
theorem z_lxor (B : Bd p s m args meth c G cc nL own ws ret nm) {x y : Int64} (hdg : decode cc pc = .ok (.lxor, 1)) (k : Z p l e R s m args below meth c Q G nL (pc + 1) lv (.long (x ^^^ y) :: rest) Φ sz cells slots) : Z p l e R s m args below meth c Q G nL pc lv (.long y :: .long x :: rest) Φ sz cells slots := fun H locs ls hl hP hS => lv_lxor B.1.1 B.1.2.1 hdg (k H locs ls hl hP hS)
theorem z_ldiv (B : Bd p s m args meth c G cc nL own ws ret nm) {x y : Int64} (hdg : decode cc pc = .ok (.ldiv, 1)) (hne : ¬ y = 0) (k : Z p l e R s m args below meth c Q G nL (pc + 1) lv (.long (x / y) :: rest) Φ sz cells slots) : Z p l e R s m args below meth c Q G nL pc lv (.long y :: .long x :: rest) Φ sz cells slots := fun H locs ls hl hP hS => lv_ldiv B.1.1 B.1.2.1 hdg hne (k H locs ls hl hP hS)
theorem z_lrem (B : Bd p s m args meth c G cc nL own ws ret nm) {x y : Int64} (hdg : decode cc pc = .ok (.lrem, 1)) (hne : ¬ y = 0) (k : Z p l e R s m args below meth c Q G nL (pc + 1) lv (.long (x - x / y * y) :: rest) Φ sz cells slots) : Z p l e R s m args below meth c Q G nL pc lv (.long y :: .long x :: rest) Φ sz cells slots := fun H locs ls hl hP hS => lv_lrem B.1.1 B.1.2.1 hdg hne (k H locs ls hl hP hS)
theorem z_lneg (B : Bd p s m args meth c G cc nL own ws ret nm) {x : Int64} (hdg : decode cc pc = .ok (.lneg, 1)) (k : Z p l e R s m args below meth c Q G nL (pc + 1) lv (.long (-x) :: rest) Φ sz cells slots) : Z p l e R s m args below meth c Q G nL pc lv (.long x :: rest) Φ sz cells slots := fun H locs ls hl hP hS => lv_lneg B.1.1 B.1.2.1 hdg (k H locs ls hl hP hS)
theorem z_ishl (B : Bd p s m args meth c G cc nL own ws ret nm) {x y : Int32} (hdg : decode cc pc = .ok (.ishl, 1)) (k : Z p l e R s m args below meth c Q G nL (pc + 1) lv (.int (x <<< (y &&& 31)) :: rest) Φ sz cells slots) : Z p l e R s m args below meth c Q G nL pc lv (.int y :: .int x :: rest) Φ sz cells slots := fun H locs ls hl hP hS => lv_ishl B.1.1 B.1.2.1 hdg (k H locs ls hl hP hS)
theorem z_ishr (B : Bd p s m args meth c G cc nL own ws ret nm) {x y : Int32} (hdg : decode cc pc = .ok (.ishr, 1)) (k : Z p l e R s m args below meth c Q G nL (pc + 1) lv (.int (x >>> (y &&& 31)) :: rest) Φ sz cells slots) : Z p l e R s m args below meth c Q G nL pc lv (.int y :: .int x :: rest) Φ sz cells slots := fun H locs ls hl hP hS => lv_ishr B.1.1 B.1.2.1 hdg (k H locs ls hl hP hS)
theorem z_i2l (B : Bd p s m args meth c G cc nL own ws ret nm) {x : Int32} {v : Int64} (hdg : decode cc pc = .ok (.i2l, 1)) (hv : x.toInt64 = v) (k : Z p l e R s m args below meth c Q G nL (pc + 1) lv (.long v :: rest) Φ sz cells slots) : Z p l e R s m args below meth c Q G nL pc lv (.int x :: rest) Φ sz cells slots := fun H locs ls hl hP hS => lv_i2l B.1.1 B.1.2.1 hdg hv (k H locs ls hl hP hS)
theorem z_l2i (B : Bd p s m args meth c G cc nL own ws ret nm) {x : Int64} {v : Int32} (hdg : decode cc pc = .ok (.l2i, 1)) (hv : x.toInt32 = v) (k : Z p l e R s m args below meth c Q G nL (pc + 1) lv (.int v :: rest) Φ sz cells slots) : Z p l e R s m args below meth c Q G nL pc lv (.long x :: rest) Φ sz cells slots := fun H locs ls hl hP hS => lv_l2i B.1.1 B.1.2.1 hdg hv (k H locs ls hl hP hS)
theorem z_i2b (B : Bd p s m args meth c G cc nL own ws ret nm) {x : Int32} {v : Int32} (hdg : decode cc pc = .ok (.i2b, 1)) (hv : x.toInt8.toInt32 = v) (k : Z p l e R s m args below meth c Q G nL (pc + 1) lv (.int v :: rest) Φ sz cells slots) : Z p l e R s m args below meth c Q G nL pc lv (.int x :: rest) Φ sz cells slots := fun H locs ls hl hP hS => lv_i2b B.1.1 B.1.2.1 hdg hv (k H locs ls hl hP hS)
theorem z_i2s (B : Bd p s m args meth c G cc nL own ws ret nm) {x : Int32} {v : Int32} (hdg : decode cc pc = .ok (.i2s, 1)) (hv : x.toInt16.toInt32 = v) (k : Z p l e R s m args below meth c Q G nL (pc + 1) lv (.int v :: rest) Φ sz cells slots) : Z p l e R s m args below meth c Q G nL pc lv (.int x :: rest) Φ sz cells slots := fun H locs ls hl hP hS => lv_i2s B.1.1 B.1.2.1 hdg hv (k H locs ls hl hP hS)
theorem z_i2c (B : Bd p s m args meth c G cc nL own ws ret nm) {x : Int32} {v : Int32} (hdg : decode cc pc = .ok (.i2c, 1)) (hv : (x.toUInt32 % 65536).toInt32 = v) (k : Z p l e R s m args below meth c Q G nL (pc + 1) lv (.int v :: rest) Φ sz cells slots) : Z p l e R s m args below meth c Q G nL pc lv (.int x :: rest) Φ sz cells slots := fun H locs ls hl hP hS => lv_i2c B.1.1 B.1.2.1 hdg hv (k H locs ls hl hP hS)
theorem z_iushr (B : Bd p s m args meth c G cc nL own ws ret nm) {x y v : Int32} (hdg : decode cc pc = .ok (.iushr, 1)) (hv : (x.toUInt32 >>> (y.toUInt32 &&& Int32.toUInt32 31)).toInt32 = v) (k : Z p l e R s m args below meth c Q G nL (pc + 1) lv (.int v :: rest) Φ sz cells slots) : Z p l e R s m args below meth c Q G nL pc lv (.int y :: .int x :: rest) Φ sz cells slots := fun H locs ls hl hP hS => lv_iushr B.1.1 B.1.2.1 hdg hv (k H locs ls hl hP hS)
theorem z_lushr (B : Bd p s m args meth c G cc nL own ws ret nm) {x v : Int64} {y : Int32} (hdg : decode cc pc = .ok (.lushr, 1)) (hv : (x.toUInt64 >>> (y.toInt64.toUInt64 &&& Int64.toUInt64 63)).toInt64 = v) (k : Z p l e R s m args below meth c Q G nL (pc + 1) lv (.long v :: rest) Φ sz cells slots) : Z p l e R s m args below meth c Q G nL pc lv (.int y :: .long x :: rest) Φ sz cells slots := fun H locs ls hl hP hS => lv_lushr B.1.1 B.1.2.1 hdg hv (k H locs ls hl hP hS)
theorem z_lshl (B : Bd p s m args meth c G cc nL own ws ret nm) {x v : Int64} {y : Int32} (hdg : decode cc pc = .ok (.lshl, 1)) (hv : x <<< (y.toInt64 &&& 63) = v) (k : Z p l e R s m args below meth c Q G nL (pc + 1) lv (.long v :: rest) Φ sz cells slots) : Z p l e R s m args below meth c Q G nL pc lv (.int y :: .long x :: rest) Φ sz cells slots := fun H locs ls hl hP hS => lv_lshl B.1.1 B.1.2.1 hdg hv (k H locs ls hl hP hS)
theorem z_lshr (B : Bd p s m args meth c G cc nL own ws ret nm) {x v : Int64} {y : Int32} (hdg : decode cc pc = .ok (.lshr, 1)) (hv : x >>> (y.toInt64 &&& 63) = v) (k : Z p l e R s m args below meth c Q G nL (pc + 1) lv (.long v :: rest) Φ sz cells slots) : Z p l e R s m args below meth c Q G nL pc lv (.int y :: .long x :: rest) Φ sz cells slots := fun H locs ls hl hP hS => lv_lshr B.1.1 B.1.2.1 hdg hv (k H locs ls hl hP hS)
theorem z_dup (B : Bd p s m args meth c G cc nL own ws ret nm) {va : Value} (hdg : decode cc pc = .ok (.dup, 1)) (hva : va.category = 1) (k : Z p l e R s m args below meth c Q G nL (pc + 1) lv (va :: va :: rest) Φ sz cells slots) : Z p l e R s m args below meth c Q G nL pc lv (va :: rest) Φ sz cells slots := fun H locs ls hl hP hS => lv_dup B.1.1 B.1.2.1 hdg hva (k H locs ls hl hP hS)
theorem z_pop (B : Bd p s m args meth c G cc nL own ws ret nm) {va : Value} (hdg : decode cc pc = .ok (.pop, 1)) (hva : va.category = 1) (k : Z p l e R s m args below meth c Q G nL (pc + 1) lv (rest) Φ sz cells slots) : Z p l e R s m args below meth c Q G nL pc lv (va :: rest) Φ sz cells slots := fun H locs ls hl hP hS => lv_pop B.1.1 B.1.2.1 hdg hva (k H locs ls hl hP hS)
theorem z_dup_x1 (B : Bd p s m args meth c G cc nL own ws ret nm) {va vb : Value} (hdg : decode cc pc = .ok (.dup_x1, 1)) (hva : va.category = 1) (hvb : vb.category = 1) (k : Z p l e R s m args below meth c Q G nL (pc + 1) lv (va :: vb :: va :: rest) Φ sz cells slots) : Z p l e R s m args below meth c Q G nL pc lv (va :: vb :: rest) Φ sz cells slots := fun H locs ls hl hP hS => lv_dup_x1 B.1.1 B.1.2.1 hdg hva hvb (k H locs ls hl hP hS)
theorem z_dup_x2 (B : Bd p s m args meth c G cc nL own ws ret nm) {va vb vd : Value} (hdg : decode cc pc = .ok (.dup_x2, 1)) (hva : va.category = 1) (hvb : vb.category = 1) (hvd : vd.category = 1) (k : Z p l e R s m args below meth c Q G nL (pc + 1) lv (va :: vb :: vd :: va :: rest) Φ sz cells slots) : Z p l e R s m args below meth c Q G nL pc lv (va :: vb :: vd :: rest) Φ sz cells slots := fun H locs ls hl hP hS => lv_dup_x2 B.1.1 B.1.2.1 hdg hva hvb hvd (k H locs ls hl hP hS)
theorem z_dup2_11 (B : Bd p s m args meth c G cc nL own ws ret nm) {va vb : Value} (hdg : decode cc pc = .ok (.dup2, 1)) (hva : va.category = 1) (hvb : vb.category = 1) (k : Z p l e R s m args below meth c Q G nL (pc + 1) lv (va :: vb :: va :: vb :: rest) Φ sz cells slots) : Z p l e R s m args below meth c Q G nL pc lv (va :: vb :: rest) Φ sz cells slots := fun H locs ls hl hP hS => lv_dup2_11 B.1.1 B.1.2.1 hdg hva hvb (k H locs ls hl hP hS)
theorem z_dup2_2 (B : Bd p s m args meth c G cc nL own ws ret nm) {va : Value} (hdg : decode cc pc = .ok (.dup2, 1)) (hva : va.category = 2) (k : Z p l e R s m args below meth c Q G nL (pc + 1) lv (va :: va :: rest) Φ sz cells slots) : Z p l e R s m args below meth c Q G nL pc lv (va :: rest) Φ sz cells slots := fun H locs ls hl hP hS => lv_dup2_2 B.1.1 B.1.2.1 hdg hva (k H locs ls hl hP hS)
theorem z_pop2_2 (B : Bd p s m args meth c G cc nL own ws ret nm) {va : Value} (hdg : decode cc pc = .ok (.pop2, 1)) (hva : va.category = 2) (k : Z p l e R s m args below meth c Q G nL (pc + 1) lv (rest) Φ sz cells slots) : Z p l e R s m args below meth c Q G nL pc lv (va :: rest) Φ sz cells slots := fun H locs ls hl hP hS => lv_pop2_2 B.1.1 B.1.2.1 hdg hva (k H locs ls hl hP hS)
theorem z_pop2_11 (B : Bd p s m args meth c G cc nL own ws ret nm) {va vb : Value} (hdg : decode cc pc = .ok (.pop2, 1)) (hva : va.category = 1) (hvb : vb.category = 1) (k : Z p l e R s m args below meth c Q G nL (pc + 1) lv (rest) Φ sz cells slots) : Z p l e R s m args below meth c Q G nL pc lv (va :: vb :: rest) Φ sz cells slots := fun H locs ls hl hP hS => lv_pop2_11 B.1.1 B.1.2.1 hdg hva hvb (k H locs ls hl hP hS)
theorem z_dup2_x1_2 (B : Bd p s m args meth c G cc nL own ws ret nm) {va vb : Value} (hdg : decode cc pc = .ok (.dup2_x1, 1)) (hva : va.category = 2) (hvb : vb.category = 1) (k : Z p l e R s m args below meth c Q G nL (pc + 1) lv (va :: vb :: va :: rest) Φ sz cells slots) : Z p l e R s m args below meth c Q G nL pc lv (va :: vb :: rest) Φ sz cells slots := fun H locs ls hl hP hS => lv_dup2_x1_2 B.1.1 B.1.2.1 hdg hva hvb (k H locs ls hl hP hS)
theorem z_dup2_x2_2 (B : Bd p s m args meth c G cc nL own ws ret nm) {va vb vd : Value} (hdg : decode cc pc = .ok (.dup2_x2, 1)) (hva : va.category = 2) (hvb : vb.category = 1) (hvd : vd.category = 1) (k : Z p l e R s m args below meth c Q G nL (pc + 1) lv (va :: vb :: vd :: va :: rest) Φ sz cells slots) : Z p l e R s m args below meth c Q G nL pc lv (va :: vb :: vd :: rest) Φ sz cells slots := fun H locs ls hl hP hS => lv_dup2_x2_2 B.1.1 B.1.2.1 hdg hva hvb hvd (k H locs ls hl hP hS)
theorem z_if_eq (B : Bd p s m args meth c G cc nL own ws ret nm) {x : Int32} {off : Int} {tgt : Nat} (hdg : decode cc pc = .ok (.ifCond .eq off, 3)) (ht : (pc : Int) + off = (tgt : Int)) (kt : x = 0 → Z p l e R s m args below meth c Q G nL tgt lv rest Φ sz cells slots) (kf : ¬ x = 0 → Z p l e R s m args below meth c Q G nL (pc + 3) lv rest Φ sz cells slots) : Z p l e R s m args below meth c Q G nL pc lv (.int x :: rest) Φ sz cells slots := fun H locs ls hl hP hS => lv_if_eq B.1.1 B.1.2.1 hdg ht (fun h9 => kt h9 H locs ls hl hP hS) (fun h9 => kf h9 H locs ls hl hP hS)
theorem z_icmp_eq (B : Bd p s m args meth c G cc nL own ws ret nm) {x y : Int32} {off : Int} {tgt : Nat} (hdg : decode cc pc = .ok (.if_icmp .eq off, 3)) (ht : (pc : Int) + off = (tgt : Int)) (kt : x = y → Z p l e R s m args below meth c Q G nL tgt lv rest Φ sz cells slots) (kf : ¬ x = y → Z p l e R s m args below meth c Q G nL (pc + 3) lv rest Φ sz cells slots) : Z p l e R s m args below meth c Q G nL pc lv (.int y :: .int x :: rest) Φ sz cells slots := fun H locs ls hl hP hS => lv_icmp_eq B.1.1 B.1.2.1 hdg ht (fun h9 => kt h9 H locs ls hl hP hS) (fun h9 => kf h9 H locs ls hl hP hS)
theorem z_if_ne (B : Bd p s m args meth c G cc nL own ws ret nm) {x : Int32} {off : Int} {tgt : Nat} (hdg : decode cc pc = .ok (.ifCond .ne off, 3)) (ht : (pc : Int) + off = (tgt : Int)) (kt : ¬ x = 0 → Z p l e R s m args below meth c Q G nL tgt lv rest Φ sz cells slots) (kf : x = 0 → Z p l e R s m args below meth c Q G nL (pc + 3) lv rest Φ sz cells slots) : Z p l e R s m args below meth c Q G nL pc lv (.int x :: rest) Φ sz cells slots := fun H locs ls hl hP hS => lv_if_ne B.1.1 B.1.2.1 hdg ht (fun h9 => kt h9 H locs ls hl hP hS) (fun h9 => kf h9 H locs ls hl hP hS)
theorem z_icmp_ne (B : Bd p s m args meth c G cc nL own ws ret nm) {x y : Int32} {off : Int} {tgt : Nat} (hdg : decode cc pc = .ok (.if_icmp .ne off, 3)) (ht : (pc : Int) + off = (tgt : Int)) (kt : ¬ x = y → Z p l e R s m args below meth c Q G nL tgt lv rest Φ sz cells slots) (kf : x = y → Z p l e R s m args below meth c Q G nL (pc + 3) lv rest Φ sz cells slots) : Z p l e R s m args below meth c Q G nL pc lv (.int y :: .int x :: rest) Φ sz cells slots := fun H locs ls hl hP hS => lv_icmp_ne B.1.1 B.1.2.1 hdg ht (fun h9 => kt h9 H locs ls hl hP hS) (fun h9 => kf h9 H locs ls hl hP hS)
theorem z_if_lt (B : Bd p s m args meth c G cc nL own ws ret nm) {x : Int32} {off : Int} {tgt : Nat} (hdg : decode cc pc = .ok (.ifCond .lt off, 3)) (ht : (pc : Int) + off = (tgt : Int)) (kt : x < 0 → Z p l e R s m args below meth c Q G nL tgt lv rest Φ sz cells slots) (kf : ¬ x < 0 → Z p l e R s m args below meth c Q G nL (pc + 3) lv rest Φ sz cells slots) : Z p l e R s m args below meth c Q G nL pc lv (.int x :: rest) Φ sz cells slots := fun H locs ls hl hP hS => lv_if_lt B.1.1 B.1.2.1 hdg ht (fun h9 => kt h9 H locs ls hl hP hS) (fun h9 => kf h9 H locs ls hl hP hS)
theorem z_icmp_lt (B : Bd p s m args meth c G cc nL own ws ret nm) {x y : Int32} {off : Int} {tgt : Nat} (hdg : decode cc pc = .ok (.if_icmp .lt off, 3)) (ht : (pc : Int) + off = (tgt : Int)) (kt : x < y → Z p l e R s m args below meth c Q G nL tgt lv rest Φ sz cells slots) (kf : ¬ x < y → Z p l e R s m args below meth c Q G nL (pc + 3) lv rest Φ sz cells slots) : Z p l e R s m args below meth c Q G nL pc lv (.int y :: .int x :: rest) Φ sz cells slots := fun H locs ls hl hP hS => lv_icmp_lt B.1.1 B.1.2.1 hdg ht (fun h9 => kt h9 H locs ls hl hP hS) (fun h9 => kf h9 H locs ls hl hP hS)
theorem z_if_ge (B : Bd p s m args meth c G cc nL own ws ret nm) {x : Int32} {off : Int} {tgt : Nat} (hdg : decode cc pc = .ok (.ifCond .ge off, 3)) (ht : (pc : Int) + off = (tgt : Int)) (kt : 0 ≤ x → Z p l e R s m args below meth c Q G nL tgt lv rest Φ sz cells slots) (kf : ¬ 0 ≤ x → Z p l e R s m args below meth c Q G nL (pc + 3) lv rest Φ sz cells slots) : Z p l e R s m args below meth c Q G nL pc lv (.int x :: rest) Φ sz cells slots := fun H locs ls hl hP hS => lv_if_ge B.1.1 B.1.2.1 hdg ht (fun h9 => kt h9 H locs ls hl hP hS) (fun h9 => kf h9 H locs ls hl hP hS)
theorem z_icmp_ge (B : Bd p s m args meth c G cc nL own ws ret nm) {x y : Int32} {off : Int} {tgt : Nat} (hdg : decode cc pc = .ok (.if_icmp .ge off, 3)) (ht : (pc : Int) + off = (tgt : Int)) (kt : y ≤ x → Z p l e R s m args below meth c Q G nL tgt lv rest Φ sz cells slots) (kf : ¬ y ≤ x → Z p l e R s m args below meth c Q G nL (pc + 3) lv rest Φ sz cells slots) : Z p l e R s m args below meth c Q G nL pc lv (.int y :: .int x :: rest) Φ sz cells slots := fun H locs ls hl hP hS => lv_icmp_ge B.1.1 B.1.2.1 hdg ht (fun h9 => kt h9 H locs ls hl hP hS) (fun h9 => kf h9 H locs ls hl hP hS)
theorem z_if_gt (B : Bd p s m args meth c G cc nL own ws ret nm) {x : Int32} {off : Int} {tgt : Nat} (hdg : decode cc pc = .ok (.ifCond .gt off, 3)) (ht : (pc : Int) + off = (tgt : Int)) (kt : 0 < x → Z p l e R s m args below meth c Q G nL tgt lv rest Φ sz cells slots) (kf : ¬ 0 < x → Z p l e R s m args below meth c Q G nL (pc + 3) lv rest Φ sz cells slots) : Z p l e R s m args below meth c Q G nL pc lv (.int x :: rest) Φ sz cells slots := fun H locs ls hl hP hS => lv_if_gt B.1.1 B.1.2.1 hdg ht (fun h9 => kt h9 H locs ls hl hP hS) (fun h9 => kf h9 H locs ls hl hP hS)
theorem z_icmp_gt (B : Bd p s m args meth c G cc nL own ws ret nm) {x y : Int32} {off : Int} {tgt : Nat} (hdg : decode cc pc = .ok (.if_icmp .gt off, 3)) (ht : (pc : Int) + off = (tgt : Int)) (kt : y < x → Z p l e R s m args below meth c Q G nL tgt lv rest Φ sz cells slots) (kf : ¬ y < x → Z p l e R s m args below meth c Q G nL (pc + 3) lv rest Φ sz cells slots) : Z p l e R s m args below meth c Q G nL pc lv (.int y :: .int x :: rest) Φ sz cells slots := fun H locs ls hl hP hS => lv_icmp_gt B.1.1 B.1.2.1 hdg ht (fun h9 => kt h9 H locs ls hl hP hS) (fun h9 => kf h9 H locs ls hl hP hS)
theorem z_if_le (B : Bd p s m args meth c G cc nL own ws ret nm) {x : Int32} {off : Int} {tgt : Nat} (hdg : decode cc pc = .ok (.ifCond .le off, 3)) (ht : (pc : Int) + off = (tgt : Int)) (kt : x ≤ 0 → Z p l e R s m args below meth c Q G nL tgt lv rest Φ sz cells slots) (kf : ¬ x ≤ 0 → Z p l e R s m args below meth c Q G nL (pc + 3) lv rest Φ sz cells slots) : Z p l e R s m args below meth c Q G nL pc lv (.int x :: rest) Φ sz cells slots := fun H locs ls hl hP hS => lv_if_le B.1.1 B.1.2.1 hdg ht (fun h9 => kt h9 H locs ls hl hP hS) (fun h9 => kf h9 H locs ls hl hP hS)
theorem z_icmp_le (B : Bd p s m args meth c G cc nL own ws ret nm) {x y : Int32} {off : Int} {tgt : Nat} (hdg : decode cc pc = .ok (.if_icmp .le off, 3)) (ht : (pc : Int) + off = (tgt : Int)) (kt : x ≤ y → Z p l e R s m args below meth c Q G nL tgt lv rest Φ sz cells slots) (kf : ¬ x ≤ y → Z p l e R s m args below meth c Q G nL (pc + 3) lv rest Φ sz cells slots) : Z p l e R s m args below meth c Q G nL pc lv (.int y :: .int x :: rest) Φ sz cells slots := fun H locs ls hl hP hS => lv_icmp_le B.1.1 B.1.2.1 hdg ht (fun h9 => kt h9 H locs ls hl hP hS) (fun h9 => kf h9 H locs ls hl hP hS)
theorem z_goto (B : Bd p s m args meth c G cc nL own ws ret nm) {off : Int} {tgt : Nat} (hdg : decode cc pc = .ok (.goto off, 3)) (ht : (pc : Int) + off = (tgt : Int)) (k : Z p l e R s m args below meth c Q G nL tgt lv rest Φ sz cells slots) : Z p l e R s m args below meth c Q G nL pc lv rest Φ sz cells slots := fun H locs ls hl hP hS => lv_goto B.1.1 B.1.2.1 hdg ht (k H locs ls hl hP hS)
theorem z_fconst0 (B : Bd p s m args meth c G cc nL own ws ret nm) (hdg : decode cc pc = .ok (.fconst 0, 1)) (k : Z p l e R s m args below meth c Q G nL (pc + 1) lv (.float FP.fconst0 :: rest) Φ sz cells slots) : Z p l e R s m args below meth c Q G nL pc lv (rest) Φ sz cells slots := fun H locs ls hl hP hS => lv_fconst0 B.1.1 B.1.2.1 hdg (k H locs ls hl hP hS)
theorem z_fconst1 (B : Bd p s m args meth c G cc nL own ws ret nm) (hdg : decode cc pc = .ok (.fconst 1, 1)) (k : Z p l e R s m args below meth c Q G nL (pc + 1) lv (.float FP.fconst1 :: rest) Φ sz cells slots) : Z p l e R s m args below meth c Q G nL pc lv (rest) Φ sz cells slots := fun H locs ls hl hP hS => lv_fconst1 B.1.1 B.1.2.1 hdg (k H locs ls hl hP hS)
theorem z_fconst2 (B : Bd p s m args meth c G cc nL own ws ret nm) (hdg : decode cc pc = .ok (.fconst 2, 1)) (k : Z p l e R s m args below meth c Q G nL (pc + 1) lv (.float FP.fconst2 :: rest) Φ sz cells slots) : Z p l e R s m args below meth c Q G nL pc lv (rest) Φ sz cells slots := fun H locs ls hl hP hS => lv_fconst2 B.1.1 B.1.2.1 hdg (k H locs ls hl hP hS)
theorem z_dconst0 (B : Bd p s m args meth c G cc nL own ws ret nm) (hdg : decode cc pc = .ok (.dconst 0, 1)) (k : Z p l e R s m args below meth c Q G nL (pc + 1) lv (.double FP.dconst0 :: rest) Φ sz cells slots) : Z p l e R s m args below meth c Q G nL pc lv (rest) Φ sz cells slots := fun H locs ls hl hP hS => lv_dconst0 B.1.1 B.1.2.1 hdg (k H locs ls hl hP hS)
theorem z_dconst1 (B : Bd p s m args meth c G cc nL own ws ret nm) (hdg : decode cc pc = .ok (.dconst 1, 1)) (k : Z p l e R s m args below meth c Q G nL (pc + 1) lv (.double FP.dconst1 :: rest) Φ sz cells slots) : Z p l e R s m args below meth c Q G nL pc lv (rest) Φ sz cells slots := fun H locs ls hl hP hS => lv_dconst1 B.1.1 B.1.2.1 hdg (k H locs ls hl hP hS)
theorem z_fload_n (B : Bd p s m args meth c G cc nL own ws ret nm) {k4 : Fin 4} {i : Nat} {x : UInt32} (hdg : decode cc pc = .ok (.fload_n k4, 1)) (hi : (k4 : Nat) = i) (k0 : Nat) (hl0 : lv[k0]? = some (i, (.float x))) (k : Z p l e R s m args below meth c Q G nL (pc + 1) lv (.float x :: rest) Φ sz cells slots) : Z p l e R s m args below meth c Q G nL pc lv (rest) Φ sz cells slots := fun H locs ls hl hP hS => lv_fload_n B.1.1 B.1.2.1 hdg hi (lv_at hl k0 hl0) (k H locs ls hl hP hS)
theorem z_fload (B : Bd p s m args meth c G cc nL own ws ret nm) {i : Nat} {x : UInt32} (hdg : decode cc pc = .ok (.fload i, 2)) (k0 : Nat) (hl0 : lv[k0]? = some (i, (.float x))) (k : Z p l e R s m args below meth c Q G nL (pc + 2) lv (.float x :: rest) Φ sz cells slots) : Z p l e R s m args below meth c Q G nL pc lv (rest) Φ sz cells slots := fun H locs ls hl hP hS => lv_fload B.1.1 B.1.2.1 hdg (lv_at hl k0 hl0) (k H locs ls hl hP hS)
theorem z_fadd (B : Bd p s m args meth c G cc nL own ws ret nm) {x y : UInt32} (hdg : decode cc pc = .ok (.fadd, 1)) (hne : vf_n32 (FP.fadd x y)) (k : Z p l e R s m args below meth c Q G nL (pc + 1) lv (.float (FP.fadd x y) :: rest) Φ sz cells slots) : Z p l e R s m args below meth c Q G nL pc lv (.float y :: .float x :: rest) Φ sz cells slots := fun H locs ls hl hP hS => lv_fadd B.1.1 B.1.2.1 hdg hne (k H locs ls hl hP hS)
theorem z_fsub (B : Bd p s m args meth c G cc nL own ws ret nm) {x y : UInt32} (hdg : decode cc pc = .ok (.fsub, 1)) (hne : vf_n32 (FP.fsub x y)) (k : Z p l e R s m args below meth c Q G nL (pc + 1) lv (.float (FP.fsub x y) :: rest) Φ sz cells slots) : Z p l e R s m args below meth c Q G nL pc lv (.float y :: .float x :: rest) Φ sz cells slots := fun H locs ls hl hP hS => lv_fsub B.1.1 B.1.2.1 hdg hne (k H locs ls hl hP hS)
theorem z_fmul (B : Bd p s m args meth c G cc nL own ws ret nm) {x y : UInt32} (hdg : decode cc pc = .ok (.fmul, 1)) (hne : vf_n32 (FP.fmul x y)) (k : Z p l e R s m args below meth c Q G nL (pc + 1) lv (.float (FP.fmul x y) :: rest) Φ sz cells slots) : Z p l e R s m args below meth c Q G nL pc lv (.float y :: .float x :: rest) Φ sz cells slots := fun H locs ls hl hP hS => lv_fmul B.1.1 B.1.2.1 hdg hne (k H locs ls hl hP hS)
theorem z_fdiv (B : Bd p s m args meth c G cc nL own ws ret nm) {x y : UInt32} (hdg : decode cc pc = .ok (.fdiv, 1)) (hne : vf_n32 (FP.fdiv x y)) (k : Z p l e R s m args below meth c Q G nL (pc + 1) lv (.float (FP.fdiv x y) :: rest) Φ sz cells slots) : Z p l e R s m args below meth c Q G nL pc lv (.float y :: .float x :: rest) Φ sz cells slots := fun H locs ls hl hP hS => lv_fdiv B.1.1 B.1.2.1 hdg hne (k H locs ls hl hP hS)
theorem z_frem (B : Bd p s m args meth c G cc nL own ws ret nm) {x y : UInt32} (hdg : decode cc pc = .ok (.frem, 1)) (hne : vf_n32 (FP.frem x y)) (k : Z p l e R s m args below meth c Q G nL (pc + 1) lv (.float (FP.frem x y) :: rest) Φ sz cells slots) : Z p l e R s m args below meth c Q G nL pc lv (.float y :: .float x :: rest) Φ sz cells slots := fun H locs ls hl hP hS => lv_frem B.1.1 B.1.2.1 hdg hne (k H locs ls hl hP hS)
theorem z_fneg (B : Bd p s m args meth c G cc nL own ws ret nm) {x : UInt32} (hdg : decode cc pc = .ok (.fneg, 1)) (k : Z p l e R s m args below meth c Q G nL (pc + 1) lv (.float (FP.fneg x) :: rest) Φ sz cells slots) : Z p l e R s m args below meth c Q G nL pc lv (.float x :: rest) Φ sz cells slots := fun H locs ls hl hP hS => lv_fneg B.1.1 B.1.2.1 hdg (k H locs ls hl hP hS)
theorem z_fcmp (B : Bd p s m args meth c G cc nL own ws ret nm) {x y : UInt32} {op : CmpOp} (hdg : decode cc pc = .ok (.fcmp op, 1)) (k : Z p l e R s m args below meth c Q G nL (pc + 1) lv (.int (Op.cmpValue (FP.fcmp x y) op) :: rest) Φ sz cells slots) : Z p l e R s m args below meth c Q G nL pc lv (.float y :: .float x :: rest) Φ sz cells slots := fun H locs ls hl hP hS => lv_fcmp B.1.1 B.1.2.1 hdg (k H locs ls hl hP hS)
theorem z_i2f (B : Bd p s m args meth c G cc nL own ws ret nm) {x : Int32} (hdg : decode cc pc = .ok (.i2f, 1)) (k : Z p l e R s m args below meth c Q G nL (pc + 1) lv (.float (FP.i2f x) :: rest) Φ sz cells slots) : Z p l e R s m args below meth c Q G nL pc lv (.int x :: rest) Φ sz cells slots := fun H locs ls hl hP hS => lv_i2f B.1.1 B.1.2.1 hdg (k H locs ls hl hP hS)
theorem z_l2f (B : Bd p s m args meth c G cc nL own ws ret nm) {x : Int64} (hdg : decode cc pc = .ok (.l2f, 1)) (k : Z p l e R s m args below meth c Q G nL (pc + 1) lv (.float (FP.l2f x) :: rest) Φ sz cells slots) : Z p l e R s m args below meth c Q G nL pc lv (.long x :: rest) Φ sz cells slots := fun H locs ls hl hP hS => lv_l2f B.1.1 B.1.2.1 hdg (k H locs ls hl hP hS)
theorem z_f2i (B : Bd p s m args meth c G cc nL own ws ret nm) {x : UInt32} (hdg : decode cc pc = .ok (.f2i, 1)) (k : Z p l e R s m args below meth c Q G nL (pc + 1) lv (.int (FP.f2i x) :: rest) Φ sz cells slots) : Z p l e R s m args below meth c Q G nL pc lv (.float x :: rest) Φ sz cells slots := fun H locs ls hl hP hS => lv_f2i B.1.1 B.1.2.1 hdg (k H locs ls hl hP hS)
theorem z_f2l (B : Bd p s m args meth c G cc nL own ws ret nm) {x : UInt32} (hdg : decode cc pc = .ok (.f2l, 1)) (k : Z p l e R s m args below meth c Q G nL (pc + 1) lv (.long (FP.f2l x) :: rest) Φ sz cells slots) : Z p l e R s m args below meth c Q G nL pc lv (.float x :: rest) Φ sz cells slots := fun H locs ls hl hP hS => lv_f2l B.1.1 B.1.2.1 hdg (k H locs ls hl hP hS)
theorem z_dload_n (B : Bd p s m args meth c G cc nL own ws ret nm) {k4 : Fin 4} {i : Nat} {x : UInt64} (hdg : decode cc pc = .ok (.dload_n k4, 1)) (hi : (k4 : Nat) = i) (k0 : Nat) (hl0 : lv[k0]? = some (i, (.double x))) (k : Z p l e R s m args below meth c Q G nL (pc + 1) lv (.double x :: rest) Φ sz cells slots) : Z p l e R s m args below meth c Q G nL pc lv (rest) Φ sz cells slots := fun H locs ls hl hP hS => lv_dload_n B.1.1 B.1.2.1 hdg hi (lv_at hl k0 hl0) (k H locs ls hl hP hS)
theorem z_dload (B : Bd p s m args meth c G cc nL own ws ret nm) {i : Nat} {x : UInt64} (hdg : decode cc pc = .ok (.dload i, 2)) (k0 : Nat) (hl0 : lv[k0]? = some (i, (.double x))) (k : Z p l e R s m args below meth c Q G nL (pc + 2) lv (.double x :: rest) Φ sz cells slots) : Z p l e R s m args below meth c Q G nL pc lv (rest) Φ sz cells slots := fun H locs ls hl hP hS => lv_dload B.1.1 B.1.2.1 hdg (lv_at hl k0 hl0) (k H locs ls hl hP hS)
theorem z_dadd (B : Bd p s m args meth c G cc nL own ws ret nm) {x y : UInt64} (hdg : decode cc pc = .ok (.dadd, 1)) (hne : vf_n64 (FP.dadd x y)) (k : Z p l e R s m args below meth c Q G nL (pc + 1) lv (.double (FP.dadd x y) :: rest) Φ sz cells slots) : Z p l e R s m args below meth c Q G nL pc lv (.double y :: .double x :: rest) Φ sz cells slots := fun H locs ls hl hP hS => lv_dadd B.1.1 B.1.2.1 hdg hne (k H locs ls hl hP hS)
theorem z_dsub (B : Bd p s m args meth c G cc nL own ws ret nm) {x y : UInt64} (hdg : decode cc pc = .ok (.dsub, 1)) (hne : vf_n64 (FP.dsub x y)) (k : Z p l e R s m args below meth c Q G nL (pc + 1) lv (.double (FP.dsub x y) :: rest) Φ sz cells slots) : Z p l e R s m args below meth c Q G nL pc lv (.double y :: .double x :: rest) Φ sz cells slots := fun H locs ls hl hP hS => lv_dsub B.1.1 B.1.2.1 hdg hne (k H locs ls hl hP hS)
theorem z_dmul (B : Bd p s m args meth c G cc nL own ws ret nm) {x y : UInt64} (hdg : decode cc pc = .ok (.dmul, 1)) (hne : vf_n64 (FP.dmul x y)) (k : Z p l e R s m args below meth c Q G nL (pc + 1) lv (.double (FP.dmul x y) :: rest) Φ sz cells slots) : Z p l e R s m args below meth c Q G nL pc lv (.double y :: .double x :: rest) Φ sz cells slots := fun H locs ls hl hP hS => lv_dmul B.1.1 B.1.2.1 hdg hne (k H locs ls hl hP hS)
theorem z_ddiv (B : Bd p s m args meth c G cc nL own ws ret nm) {x y : UInt64} (hdg : decode cc pc = .ok (.ddiv, 1)) (hne : vf_n64 (FP.ddiv x y)) (k : Z p l e R s m args below meth c Q G nL (pc + 1) lv (.double (FP.ddiv x y) :: rest) Φ sz cells slots) : Z p l e R s m args below meth c Q G nL pc lv (.double y :: .double x :: rest) Φ sz cells slots := fun H locs ls hl hP hS => lv_ddiv B.1.1 B.1.2.1 hdg hne (k H locs ls hl hP hS)
theorem z_drem (B : Bd p s m args meth c G cc nL own ws ret nm) {x y : UInt64} (hdg : decode cc pc = .ok (.drem, 1)) (hne : vf_n64 (FP.drem x y)) (k : Z p l e R s m args below meth c Q G nL (pc + 1) lv (.double (FP.drem x y) :: rest) Φ sz cells slots) : Z p l e R s m args below meth c Q G nL pc lv (.double y :: .double x :: rest) Φ sz cells slots := fun H locs ls hl hP hS => lv_drem B.1.1 B.1.2.1 hdg hne (k H locs ls hl hP hS)
theorem z_dneg (B : Bd p s m args meth c G cc nL own ws ret nm) {x : UInt64} (hdg : decode cc pc = .ok (.dneg, 1)) (k : Z p l e R s m args below meth c Q G nL (pc + 1) lv (.double (FP.dneg x) :: rest) Φ sz cells slots) : Z p l e R s m args below meth c Q G nL pc lv (.double x :: rest) Φ sz cells slots := fun H locs ls hl hP hS => lv_dneg B.1.1 B.1.2.1 hdg (k H locs ls hl hP hS)
theorem z_dcmp (B : Bd p s m args meth c G cc nL own ws ret nm) {x y : UInt64} {op : CmpOp} (hdg : decode cc pc = .ok (.dcmp op, 1)) (k : Z p l e R s m args below meth c Q G nL (pc + 1) lv (.int (Op.cmpValue (FP.dcmp x y) op) :: rest) Φ sz cells slots) : Z p l e R s m args below meth c Q G nL pc lv (.double y :: .double x :: rest) Φ sz cells slots := fun H locs ls hl hP hS => lv_dcmp B.1.1 B.1.2.1 hdg (k H locs ls hl hP hS)
theorem z_i2d (B : Bd p s m args meth c G cc nL own ws ret nm) {x : Int32} (hdg : decode cc pc = .ok (.i2d, 1)) (k : Z p l e R s m args below meth c Q G nL (pc + 1) lv (.double (FP.i2d x) :: rest) Φ sz cells slots) : Z p l e R s m args below meth c Q G nL pc lv (.int x :: rest) Φ sz cells slots := fun H locs ls hl hP hS => lv_i2d B.1.1 B.1.2.1 hdg (k H locs ls hl hP hS)
theorem z_l2d (B : Bd p s m args meth c G cc nL own ws ret nm) {x : Int64} (hdg : decode cc pc = .ok (.l2d, 1)) (k : Z p l e R s m args below meth c Q G nL (pc + 1) lv (.double (FP.l2d x) :: rest) Φ sz cells slots) : Z p l e R s m args below meth c Q G nL pc lv (.long x :: rest) Φ sz cells slots := fun H locs ls hl hP hS => lv_l2d B.1.1 B.1.2.1 hdg (k H locs ls hl hP hS)
theorem z_d2i (B : Bd p s m args meth c G cc nL own ws ret nm) {x : UInt64} (hdg : decode cc pc = .ok (.d2i, 1)) (k : Z p l e R s m args below meth c Q G nL (pc + 1) lv (.int (FP.d2i x) :: rest) Φ sz cells slots) : Z p l e R s m args below meth c Q G nL pc lv (.double x :: rest) Φ sz cells slots := fun H locs ls hl hP hS => lv_d2i B.1.1 B.1.2.1 hdg (k H locs ls hl hP hS)
theorem z_d2l (B : Bd p s m args meth c G cc nL own ws ret nm) {x : UInt64} (hdg : decode cc pc = .ok (.d2l, 1)) (k : Z p l e R s m args below meth c Q G nL (pc + 1) lv (.long (FP.d2l x) :: rest) Φ sz cells slots) : Z p l e R s m args below meth c Q G nL pc lv (.double x :: rest) Φ sz cells slots := fun H locs ls hl hP hS => lv_d2l B.1.1 B.1.2.1 hdg (k H locs ls hl hP hS)
theorem z_f2d (B : Bd p s m args meth c G cc nL own ws ret nm) {x : UInt32} (hdg : decode cc pc = .ok (.f2d, 1)) (hne : vf_n64 (FP.f2d x)) (k : Z p l e R s m args below meth c Q G nL (pc + 1) lv (.double (FP.f2d x) :: rest) Φ sz cells slots) : Z p l e R s m args below meth c Q G nL pc lv (.float x :: rest) Φ sz cells slots := fun H locs ls hl hP hS => lv_f2d B.1.1 B.1.2.1 hdg hne (k H locs ls hl hP hS)
theorem z_d2f (B : Bd p s m args meth c G cc nL own ws ret nm) {x : UInt64} (hdg : decode cc pc = .ok (.d2f, 1)) (hne : vf_n32 (FP.d2f x)) (k : Z p l e R s m args below meth c Q G nL (pc + 1) lv (.float (FP.d2f x) :: rest) Φ sz cells slots) : Z p l e R s m args below meth c Q G nL pc lv (.double x :: rest) Φ sz cells slots := fun H locs ls hl hP hS => lv_d2f B.1.1 B.1.2.1 hdg hne (k H locs ls hl hP hS)
theorem z_fstore_n (B : Bd p s m args meth c G cc nL own ws ret nm) {k4 : Fin 4} {i : Nat} {x : UInt32} {lv' : List (Nat × Value)} (hdg : decode cc pc = .ok (.fstore_n k4, 1)) (hi : (k4 : Nat) = i) (hn : i < nL) (hl0 : (i, Value.float x) :: lv.filter (fun q => !(q.1 == i) && !(q.1 + 1 == i && q.2.category == 2)) = lv') (kk : Z p l e R s m args below meth c Q G nL (pc + 1) lv' rest Φ sz cells slots) : Z p l e R s m args below meth c Q G nL pc lv (.float x :: rest) Φ sz cells slots := fun H locs ls hl hP hS => lv_fstore_n B.1.1 B.1.2.1 hdg hi hl hn hl0 (fun ls1 hl1 => kk H locs ls1 hl1 hP hS)
theorem z_fstore (B : Bd p s m args meth c G cc nL own ws ret nm) {i : Nat} {x : UInt32} {lv' : List (Nat × Value)} (hdg : decode cc pc = .ok (.fstore i, 2)) (hn : i < nL) (hl0 : (i, Value.float x) :: lv.filter (fun q => !(q.1 == i) && !(q.1 + 1 == i && q.2.category == 2)) = lv') (kk : Z p l e R s m args below meth c Q G nL (pc + 2) lv' rest Φ sz cells slots) : Z p l e R s m args below meth c Q G nL pc lv (.float x :: rest) Φ sz cells slots := fun H locs ls hl hP hS => lv_fstore B.1.1 B.1.2.1 hdg hl hn hl0 (fun ls1 hl1 => kk H locs ls1 hl1 hP hS)
theorem z_dstore_n (B : Bd p s m args meth c G cc nL own ws ret nm) {k4 : Fin 4} {i : Nat} {x : UInt64} {lv' : List (Nat × Value)} (hdg : decode cc pc = .ok (.dstore_n k4, 1)) (hi : (k4 : Nat) = i) (hn : i + 1 < nL) (hl0 : (i, Value.double x) :: lv.filter (fun q => !(q.1 == i) && (!(q.1 == i + 1) && !(q.1 + 1 == i && q.2.category == 2))) = lv') (kk : Z p l e R s m args below meth c Q G nL (pc + 1) lv' rest Φ sz cells slots) : Z p l e R s m args below meth c Q G nL pc lv (.double x :: rest) Φ sz cells slots := fun H locs ls hl hP hS => lv_dstore_n B.1.1 B.1.2.1 hdg hi hl hn hl0 (fun ls1 hl1 => kk H locs ls1 hl1 hP hS)
theorem z_dstore (B : Bd p s m args meth c G cc nL own ws ret nm) {i : Nat} {x : UInt64} {lv' : List (Nat × Value)} (hdg : decode cc pc = .ok (.dstore i, 2)) (hn : i + 1 < nL) (hl0 : (i, Value.double x) :: lv.filter (fun q => !(q.1 == i) && (!(q.1 == i + 1) && !(q.1 + 1 == i && q.2.category == 2))) = lv') (kk : Z p l e R s m args below meth c Q G nL (pc + 2) lv' rest Φ sz cells slots) : Z p l e R s m args below meth c Q G nL pc lv (.double x :: rest) Φ sz cells slots := fun H locs ls hl hP hS => lv_dstore B.1.1 B.1.2.1 hdg hl hn hl0 (fun ls1 hl1 => kk H locs ls1 hl1 hP hS)
theorem z_ldcf (B : Bd p s m args meth c G cc nL own ws ret nm) {index : Nat} {v : UInt32} (hconst : Jvm.Cond.constantFloat own index v ∈ ws) (hdg : decode cc pc = .ok (.ldc index, 2)) (k : Z p l e R s m args below meth c Q G nL (pc + 2) lv (.float v :: rest) Φ sz cells slots) : Z p l e R s m args below meth c Q G nL pc lv rest Φ sz cells slots := fun H locs ls hl hP hS => lv_ldcf B.1.1 B.1.2.1 B.1.2.2.2.1 (B.1.2.2.2.2 _ hconst) hdg (k H locs ls hl hP hS)
theorem z_ldc2d (B : Bd p s m args meth c G cc nL own ws ret nm) {index : Nat} {v : UInt64} (hconst : Jvm.Cond.constantDouble own index v ∈ ws) (hdg : decode cc pc = .ok (.ldc2_w index, 3)) (k : Z p l e R s m args below meth c Q G nL (pc + 3) lv (.double v :: rest) Φ sz cells slots) : Z p l e R s m args below meth c Q G nL pc lv rest Φ sz cells slots := fun H locs ls hl hP hS => lv_ldc2d B.1.1 B.1.2.1 B.1.2.2.2.1 (B.1.2.2.2.2 _ hconst) hdg (k H locs ls hl hP hS)
theorem z_ldc (B : Bd p s m args meth c G cc nL own ws ret nm) {index : Nat} {v : Int32} (hconst : Jvm.Cond.constant own index v ∈ ws) (hdg : decode cc pc = .ok (.ldc index, 2)) (k : Z p l e R s m args below meth c Q G nL (pc + 2) lv (.int v :: rest) Φ sz cells slots) : Z p l e R s m args below meth c Q G nL pc lv rest Φ sz cells slots := fun H locs ls hl hP hS => lv_ldc B.1.1 B.1.2.1 B.1.2.2.2.1 (B.1.2.2.2.2 _ hconst) hdg (k H locs ls hl hP hS)
theorem z_ldc2 (B : Bd p s m args meth c G cc nL own ws ret nm) {index : Nat} {v : Int64} (hconst : Jvm.Cond.constantLong own index v ∈ ws) (hdg : decode cc pc = .ok (.ldc2_w index, 3)) (k : Z p l e R s m args below meth c Q G nL (pc + 3) lv (.long v :: rest) Φ sz cells slots) : Z p l e R s m args below meth c Q G nL pc lv rest Φ sz cells slots := fun H locs ls hl hP hS => lv_ldc2 B.1.1 B.1.2.1 B.1.2.2.2.1 (B.1.2.2.2.2 _ hconst) hdg (k H locs ls hl hP hS)
theorem z_tableOut (B : Bd p s m args meth c G cc nL own ws ret nm) {dflt lo hi : Int} {offs : Array Int} {len : Nat} {x : Int32} {tgt : Nat} (hdg : decode cc pc = .ok (.tableswitch dflt lo hi offs, len)) (h : x.toInt < lo ∨ hi < x.toInt) (ht : (pc : Int) + dflt = (tgt : Int)) (k : Z p l e R s m args below meth c Q G nL tgt lv rest Φ sz cells slots) : Z p l e R s m args below meth c Q G nL pc lv (.int x :: rest) Φ sz cells slots := fun H locs ls hl hP hS => lv_tableOut B.1.1 B.1.2.1 hdg h ht (k H locs ls hl hP hS)
theorem z_tableIn (B : Bd p s m args meth c G cc nL own ws ret nm) {dflt lo hi : Int} {offs : Array Int} {len : Nat} {x : Int32} {off : Int} {tgt : Nat} (hdg : decode cc pc = .ok (.tableswitch dflt lo hi offs, len)) (h1 : ¬ x.toInt < lo) (h2 : ¬ hi < x.toInt) (ho : offs[(x.toInt - lo).toNat]? = some off) (ht : (pc : Int) + off = (tgt : Int)) (k : Z p l e R s m args below meth c Q G nL tgt lv rest Φ sz cells slots) : Z p l e R s m args below meth c Q G nL pc lv (.int x :: rest) Φ sz cells slots := fun H locs ls hl hP hS => lv_tableIn B.1.1 B.1.2.1 hdg h1 h2 ho ht (k H locs ls hl hP hS)
theorem z_ifnonnull (B : Bd p s m args meth c G cc nL own ws ret nm) {x : Nat} {off : Int} {tgt : Nat} (hdg : decode cc pc = .ok (.ifnonnull off, 3)) (ht : (pc : Int) + off = (tgt : Int)) (k : Z p l e R s m args below meth c Q G nL tgt lv rest Φ sz cells slots) : Z p l e R s m args below meth c Q G nL pc lv (.ref x :: rest) Φ sz cells slots := fun H locs ls hl hP hS => lv_ifnonnull B.1.1 B.1.2.1 hdg ht (k H locs ls hl hP hS)
theorem z_ifnull (B : Bd p s m args meth c G cc nL own ws ret nm) {x : Nat} {off : Int} (hdg : decode cc pc = .ok (.ifnull off, 3)) (k : Z p l e R s m args below meth c Q G nL (pc + 3) lv rest Φ sz cells slots) : Z p l e R s m args below meth c Q G nL pc lv (.ref x :: rest) Φ sz cells slots := fun H locs ls hl hP hS => lv_ifnull B.1.1 B.1.2.1 hdg (k H locs ls hl hP hS)
theorem z_null (B : Bd p s m args meth c G cc nL own ws ret nm) (hdg : decode cc pc = .ok (.aconst_null, 1)) (k : Z p l e R s m args below meth c Q G nL (pc + 1) lv (.null :: rest) Φ sz cells slots) : Z p l e R s m args below meth c Q G nL pc lv rest Φ sz cells slots := fun H locs ls hl hP hS => lv_null B.1.1 B.1.2.1 hdg (k H locs ls hl hP hS)
theorem z_ifnullN (B : Bd p s m args meth c G cc nL own ws ret nm) {off : Int} {tgt : Nat} (hdg : decode cc pc = .ok (.ifnull off, 3)) (ht : (pc : Int) + off = (tgt : Int)) (k : Z p l e R s m args below meth c Q G nL tgt lv rest Φ sz cells slots) : Z p l e R s m args below meth c Q G nL pc lv (.null :: rest) Φ sz cells slots := fun H locs ls hl hP hS => lv_ifnullN B.1.1 B.1.2.1 hdg ht (k H locs ls hl hP hS)
theorem z_ifnonnullN (B : Bd p s m args meth c G cc nL own ws ret nm) {off : Int} (hdg : decode cc pc = .ok (.ifnonnull off, 3)) (k : Z p l e R s m args below meth c Q G nL (pc + 3) lv rest Φ sz cells slots) : Z p l e R s m args below meth c Q G nL pc lv (.null :: rest) Φ sz cells slots := fun H locs ls hl hP hS => lv_ifnonnullN B.1.1 B.1.2.1 hdg (k H locs ls hl hP hS)
theorem z_ldcw (B : Bd p s m args meth c G cc nL own ws ret nm) {index : Nat} {v : Int32} (hconst : Jvm.Cond.constant own index v ∈ ws) (hdg : decode cc pc = .ok (.ldc_w index, 3)) (k : Z p l e R s m args below meth c Q G nL (pc + 3) lv (.int v :: rest) Φ sz cells slots) : Z p l e R s m args below meth c Q G nL pc lv rest Φ sz cells slots := fun H locs ls hl hP hS => lv_ldcw B.1.1 B.1.2.1 B.1.2.2.2.1 (B.1.2.2.2.2 _ hconst) hdg (k H locs ls hl hP hS)
theorem z_ret_i {P : Option Value → Hm → Nat → Prop} {v : Int32} (B : Bd p s m args meth c G cc nL own ws (some .int) nm) (hdg : decode cc pc = .ok (.ireturn, 1)) (hp : P (some (.int v)) Φ sz) : Z p l e R s m args below meth c (MQ below (QU G P) args s cells slots (fun q => G.2.2.2 ≤ q)) G nL pc lv [.int v] Φ sz cells slots := fun H locs ls hl hP hS =>
  W.iret B.1.1 B.1.2.1 B.2.1 (fun t ht hW => ⟨⟨_, Φ, sz, rfl, hp, by rw [ht]; exact hP⟩, hS.F ht⟩) hS.2.2 hdg B.2.2.1
theorem z_ret_z {P : Option Value → Hm → Nat → Prop} {v : Int32} (B : Bd p s m args meth c G cc nL own ws (some .boolean) nm) (hdg : decode cc pc = .ok (.ireturn, 1)) (hv : v = 0 ∨ v = 1) (hp : P (some (.int v)) Φ sz) : Z p l e R s m args below meth c (MQ below (QU G P) args s cells slots (fun q => G.2.2.2 ≤ q)) G nL pc lv [.int v] Φ sz cells slots := fun H locs ls hl hP hS =>
  W.zret B.1.1 B.1.2.1 B.2.1 (by rcases hv with h | h <;> subst h <;> decide) (fun t ht hW => ⟨⟨_, Φ, sz, rfl, hp, by rw [ht]; exact hP⟩, hS.F ht⟩) hS.2.2 hdg B.2.2.1
theorem z_ret_l {P : Option Value → Hm → Nat → Prop} {v : Int64} (B : Bd p s m args meth c G cc nL own ws (some .long) nm) (hdg : decode cc pc = .ok (.lreturn, 1)) (hp : P (some (.long v)) Φ sz) : Z p l e R s m args below meth c (MQ below (QU G P) args s cells slots (fun q => G.2.2.2 ≤ q)) G nL pc lv [.long v] Φ sz cells slots := fun H locs ls hl hP hS =>
  W.lret B.1.1 B.1.2.1 B.2.1 (fun t ht hW => ⟨⟨_, Φ, sz, rfl, hp, by rw [ht]; exact hP⟩, hS.F ht⟩) hS.2.2 hdg B.2.2.1
theorem z_ret_d {P : Option Value → Hm → Nat → Prop} {v : UInt64} (B : Bd p s m args meth c G cc nL own ws (some .double) nm) (hdg : decode cc pc = .ok (.dreturn, 1)) (hp : P (some (.double v)) Φ sz) : Z p l e R s m args below meth c (MQ below (QU G P) args s cells slots (fun q => G.2.2.2 ≤ q)) G nL pc lv [.double v] Φ sz cells slots := fun H locs ls hl hP hS =>
  W.dret B.1.1 B.1.2.1 B.2.1 (fun t ht hW => ⟨⟨_, Φ, sz, rfl, hp, by rw [ht]; exact hP⟩, hS.F ht⟩) hS.2.2 hdg B.2.2.1
theorem z_ret_v {P : Option Value → Hm → Nat → Prop} (B : Bd p s m args meth c G cc nL own ws none nm) (hdg : decode cc pc = .ok (.return_, 1)) (hp : P none Φ sz) : Z p l e R s m args below meth c (MQ below (QU G P) args s cells slots (fun q => G.2.2.2 ≤ q)) G nL pc lv [] Φ sz cells slots := fun H locs ls hl hP hS =>
  W.vret B.1.1 B.1.2.1 B.2.1 (fun t ht hW => ⟨⟨_, Φ, sz, rfl, hp, by rw [ht]; exact hP⟩, hS.F ht⟩) hS.2.2 hdg B.2.2.1
/-- a field is read -/
theorem z_get (B : Bd p s m args meth c G cc nL own ws ret nm) {ref C : String} {T : u_T} {N ci index : Nat} {a : Nat} {fs : List Value} (hin : ∀ w ∈ u_ws C T N, w ∈ ws) (hc : vwCl[ci]? = some (C, T, N)) (k : Nat) (hk : k < N) (hlink : Cond.fieldLink own index ref (T k).2.1 (T k).2.2.1 ∈ ws) (hre : (T k).1 = ref) {v : Value} (he : Φ a = some (o_ ci fs)) (hv : fs[k]? = some v) (hdg : decode cc pc = .ok (.getfield index, 3))
    (kk : Z p l e R s m args below meth c Q G nL (pc + 3) lv (v :: rest) Φ sz cells slots) : Z p l e R s m args below meth c Q G nL pc lv (.ref a :: rest) Φ sz cells slots := fun H locs ls hl hP hS =>
  va_get (D := G.1) (cl := vwCl) (ws := [(a, o_ ci fs)]) (T := T) (N := N) (C := C) (ci := ci) (fs := fs) B.1.1 B.1.2.1 B.1.2.2.2.2 hin B.1.2.2.2.1 B.2.2.2.2.1.1 (fun i q hq => by
    cases i with
    | zero => cases hq; exact hP.2 _ _ he
    | succ i => cases hq) 0 rfl hc k hk (B.1.2.2.2.2 _ hlink) (fun x hx => by rw [← hre]; exact hx) hv hdg (kk H locs ls hl hP hS)
/-- a field is written -/
theorem z_put (B : Bd p s m args meth c G cc nL own ws ret nm) {ref C : String} {T : u_T} {N ci index : Nat} {a : Nat} {fs : List Value} (hin : ∀ w ∈ u_ws C T N, w ∈ ws) (ty0 : Nat → FieldType) (hty : ∀ k, k < N → parseFieldDescriptor (T k).2.2.1 = some (ty0 k)) (hnm : ∀ a, a < N → ∀ b, b < N → a ≠ b → (T a).2.1 ≠ (T b).2.1) (hc : vwCl[ci]? = some (C, T, N)) (k : Nat) (hk : k < N) (hlink : Cond.fieldLink own index ref (T k).2.1 (T k).2.2.1 ∈ ws) (hre : (T k).1 = ref)
    (hfin : (T k).2.2.2 = false ∨ ((T k).2.2.2 = true ∧ nm = "<init>" ∧ (T k).1 = own)) {v : Value} (he : Φ a = some (o_ ci fs)) (hna : G.2.2.2 ≤ a) (hn : narrow (ty0 k) v = v) (hfit : fits (ty0 k) v = true) (hl0 : k < fs.length) (hdg : decode cc pc = .ok (.putfield index, 3))
    (kk : ∀ Φ1 : Hm, Φ1 = fset Φ a (o_ ci (fs.set k v)) → Z p l e R s m args below meth c Q G nL (pc + 3) lv rest Φ1 sz cells slots) : Z p l e R s m args below meth c Q G nL pc lv (v :: .ref a :: rest) Φ sz cells slots := by
  intro H locs ls hl hP hS
  obtain ⟨⟨hexec, hb, hml, hown, hts⟩, -, -, hnm2, ⟨hK, -⟩, -, -⟩ := B
  have hd := hty k hk
  have hap := va_apart (own := own) hts hin ty0 hty hnm hK hc
  obtain ⟨r, h1, cell, q1, q2, q3, q4⟩ := hP.2 a _ he
  have hr : r = (C, T, N) := Option.some.inj (h1.symm.trans hc)
  subst hr
  obtain ⟨hS1, hfc, kC, hkC, hkind⟩ := hK.1 ci _ hc
  obtain ⟨cf, kf, fi, f, hi, hsl⟩ := hS1 k hk
  have hlay := hts _ (hin _ (u_in_lay hk))
  unfold u_lay at hlay
  have hst := (u_facts hfc hkC (u_lays hts hin hk) hi).1
  have hi2 : s.fieldFound? ref (T k).2.1 (T k).2.2.1 = some (cf, kf, fi, f) := by rw [← hre]; exact hi
  have go : ∀ H' : Heap, H'[a]? = some (cell.setSlot f.slot v) → H'.size = H.size → (∀ q, q ≠ a → H'[q]? = H[q]?) → W p l e R s m args below meth c H' (locs ++ [⟨a, f.slot⟩]) cells slots Q (F0 m (pc + 3) ls rest) := by
    intro H' e1 e2 e3
    rw [hsl] at e1 ⊢
    exact kk _ rfl H' _ ls hl (hP.put ⟨_, hc, t_OB.to (V := updV (vp_V fs) k v) ⟨_, e1, q2, q3, t_set q4 hap hk v⟩ (fun j _ => vp_updV_set hl0 v j)⟩ e2 e3) (hS.put e2 e3 hna)
  rcases hfin with hfin | ⟨hfin, hin2, hdecl⟩
  · rw [if_neg (by rw [hfin]; decide)] at hlay
    exact W.putK hexec hb (f := f) ⟨hown, hts _ hlink, ⟨_, _, _, hi2⟩, hst⟩ (by rw [q2]; exact u_store hfc hkC hkind hlay hi hd hn hfit) q1 q3 (by rw [hsl]; exact k2_hasslot (q4 k hk)) rfl rfl hdg go
  · rw [if_pos hfin] at hlay
    have hcf : m.cls = cf := by
      obtain ⟨_, _, c', _, _, _, -, -, hf', -, -, -, hown2, -⟩ := Cond.laysFinal_spec hlay
      have e1 : c' = cf := by have := hi.symm.trans hf'; simp at this; exact this.1.symm
      rw [hdecl] at hown2
      rw [← e1]; exact Option.some.inj (hown.symm.trans hown2)
    exact W.putFinK hexec hb hown (hts _ hlink) hi2 hst hcf (hnm2.trans hin2) (by rw [q2]; exact u_fits hfc hkC hkind (Or.inr hlay) hi hd hn hfit) q1 q3 (by rw [hsl]; exact k2_hasslot (q4 k hk)) rfl rfl hdg go
theorem z_arr {a : Nat} {x : va_E} {H : Heap} (hP : HP G.1 Φ sz H) (ha : Φ a = some x) : va_P G.1 vwCl [(a, x)] H := fun i q hq => by
  cases i with
  | zero => cases hq; exact hP.2 _ _ ha
  | succ i => cases hq
/-- rows are read -/
theorem z_iald (B : Bd p s m args meth c G cc nL own ws ret nm) {a n : Nat} {f : Nat → Int32} (ha : Φ a = some (ai_ G n f)) {i : Int32} (hin : vp_in i n) (hdg : decode cc pc = .ok (.iaload, 1)) (kk : Z p l e R s m args below meth c Q G nL (pc + 1) lv (.int (f i.toNatClampNeg) :: rest) Φ sz cells slots) : Z p l e R s m args below meth c Q G nL pc lv (.int i :: .ref a :: rest) Φ sz cells slots := fun H locs ls hl hP hS => va_iald B.1.1 B.1.2.1 B.2.2.2.2.1.1 (z_arr hP ha) 0 0 rfl rfl hin hdg (kk H locs ls hl hP hS)
theorem z_bald (B : Bd p s m args meth c G cc nL own ws ret nm) {a n : Nat} {f : Nat → Int32} (ha : Φ a = some (ab_ G n f)) {i : Int32} (hin : vp_in i n) (hdg : decode cc pc = .ok (.baload, 1)) (kk : Z p l e R s m args below meth c Q G nL (pc + 1) lv (.int (f i.toNatClampNeg) :: rest) Φ sz cells slots) : Z p l e R s m args below meth c Q G nL pc lv (.int i :: .ref a :: rest) Φ sz cells slots := fun H locs ls hl hP hS => va_bald B.1.1 B.1.2.1 B.2.2.2.2.1.1 (z_arr hP ha) 0 2 rfl rfl hin hdg (kk H locs ls hl hP hS)
theorem z_lald (B : Bd p s m args meth c G cc nL own ws ret nm) {a n : Nat} {f : Nat → Int64} (ha : Φ a = some (al_ G n f)) {i : Int32} (hin : vp_in i n) (hdg : decode cc pc = .ok (.laload, 1)) (kk : Z p l e R s m args below meth c Q G nL (pc + 1) lv (.long (f i.toNatClampNeg) :: rest) Φ sz cells slots) : Z p l e R s m args below meth c Q G nL pc lv (.int i :: .ref a :: rest) Φ sz cells slots := fun H locs ls hl hP hS => va_lald B.1.1 B.1.2.1 B.2.2.2.2.1.1 (z_arr hP ha) 0 1 rfl rfl hin hdg (kk H locs ls hl hP hS)
theorem z_dald (B : Bd p s m args meth c G cc nL own ws ret nm) {a n : Nat} {f : Nat → UInt64} (ha : Φ a = some (ad_ G n f)) {i : Int32} (hin : vp_in i n) (hdg : decode cc pc = .ok (.daload, 1)) (kk : Z p l e R s m args below meth c Q G nL (pc + 1) lv (.double (f i.toNatClampNeg) :: rest) Φ sz cells slots) : Z p l e R s m args below meth c Q G nL pc lv (.int i :: .ref a :: rest) Φ sz cells slots := fun H locs ls hl hP hS => va_dald B.1.1 B.1.2.1 B.2.2.2.2.1.1 (z_arr hP ha) 0 3 rfl rfl hin hdg (kk H locs ls hl hP hS)
theorem z_aald (B : Bd p s m args meth c G cc nL own ws ret nm) {a n t : Nat} {C : String} {f : Nat → Option Nat} (ht : (tyl G.2.1)[t]? = some (G.2.1 t, .object C)) (ha : Φ a = some (aq_ G t n f)) {i : Int32} (hin : vp_in i n) {b : Nat} (hf : f i.toNatClampNeg = some b) (hdg : decode cc pc = .ok (.aaload, 1)) (kk : Z p l e R s m args below meth c Q G nL (pc + 1) lv (.ref b :: rest) Φ sz cells slots) : Z p l e R s m args below meth c Q G nL pc lv (.int i :: .ref a :: rest) Φ sz cells slots := fun H locs ls hl hP hS => va_aldq B.1.1 B.1.2.1 B.2.2.2.2.1.1 (z_arr hP ha) 0 t rfl ht hin hdg (by rw [hf]; exact kk H locs ls hl hP hS)
theorem z_alen (B : Bd p s m args meth c G cc nL own ws ret nm) {a t : Nat} {ty : FieldType} {x : vp_A} (ht : (tyl G.2.1)[t]? = some (G.2.1 t, ty)) (ha : Φ a = some (.inl (G.2.1 t, x))) {v : Int32} (hv : Int32.ofNat x.1 = v) (hdg : decode cc pc = .ok (.arraylength, 1)) (kk : Z p l e R s m args below meth c Q G nL (pc + 1) lv (.int v :: rest) Φ sz cells slots) : Z p l e R s m args below meth c Q G nL pc lv (.ref a :: rest) Φ sz cells slots := fun H locs ls hl hP hS => va_alen B.1.1 B.1.2.1 B.2.2.2.2.1.1 (z_arr hP ha) 0 t rfl ht hv hdg (kk H locs ls hl hP hS)
/-- rows are written -/
theorem z_iast (B : Bd p s m args meth c G cc nL own ws ret nm) {a n : Nat} {f : Nat → Int32} (ha : Φ a = some (ai_ G n f)) (hna : G.2.2.2 ≤ a) {i x : Int32} (hin : vp_in i n) (hdg : decode cc pc = .ok (.iastore, 1)) (kk : ∀ Φ1 : Hm, Φ1 = fset Φ a (ai_ G n (upd f i.toNatClampNeg x)) → Z p l e R s m args below meth c Q G nL (pc + 1) lv rest Φ1 sz cells slots) : Z p l e R s m args below meth c Q G nL pc lv (.int x :: .int i :: .ref a :: rest) Φ sz cells slots := by
  intro H locs ls hl hP hS
  refine W.iast B.1.1 B.1.2.1 (hP.2 _ _ ha) ((B.2.2.2.2.1.1.2 0 _ rfl).1 n (fun j => .int (f j))) (fun q => by cases q) (by show ¬ (i < 0 ∨ (arrV _ _ _).slots.size ≤ _); rw [arrV_size]; exact hin) rfl rfl hdg fun H1 e z oq => ?_
  refine kk _ rfl H1 _ ls hl (hP.put ?_ z oq) (hS.put z oq hna)
  show H1[a]? = some (vp_cell _ _)
  rw [e]
  rw [vp_cell_i, vp_cell_i, arrV_store]
  congr 2
  funext q
  by_cases hq : q = i.toNatClampNeg
  · subst hq
    simp [updV, upd]
  · simp [updV, upd, hq]
theorem z_bast (B : Bd p s m args meth c G cc nL own ws ret nm) {a n : Nat} {f : Nat → Int32} (ha : Φ a = some (ab_ G n f)) (hna : G.2.2.2 ≤ a) {i x : Int32} (hin : vp_in i n) (hdg : decode cc pc = .ok (.bastore, 1)) (kk : ∀ Φ1 : Hm, Φ1 = fset Φ a (ab_ G n (upd f i.toNatClampNeg (vp_nar .byte x))) → Z p l e R s m args below meth c Q G nL (pc + 1) lv rest Φ1 sz cells slots) : Z p l e R s m args below meth c Q G nL pc lv (.int x :: .int i :: .ref a :: rest) Φ sz cells slots := by
  intro H locs ls hl hP hS
  refine W.bast B.1.1 B.1.2.1 (hP.2 _ _ ha) ((B.2.2.2.2.1.1.2 2 _ rfl).1 n (fun j => .int (f j))) (fun q => by cases q) (by show ¬ (i < 0 ∨ (arrV _ _ _).slots.size ≤ _); rw [arrV_size]; exact hin) rfl rfl hdg fun H1 e z oq => ?_
  refine kk _ rfl H1 _ ls hl (hP.put ?_ z oq) (hS.put z oq hna)
  show H1[a]? = some (vp_cell _ _)
  rw [e]
  rw [vp_cell_i, vp_cell_i, arrV_store]
  congr 2
  funext q
  by_cases hq : q = i.toNatClampNeg
  · subst hq
    simp [updV, upd, vp_nar]
    try rfl
  · simp [updV, upd, hq]
theorem z_last (B : Bd p s m args meth c G cc nL own ws ret nm) {a n : Nat} {f : Nat → Int64} (ha : Φ a = some (al_ G n f)) (hna : G.2.2.2 ≤ a) {i : Int32} {x : Int64} (hin : vp_in i n) (hdg : decode cc pc = .ok (.lastore, 1)) (kk : ∀ Φ1 : Hm, Φ1 = fset Φ a (al_ G n (vp_updL f i.toNatClampNeg x)) → Z p l e R s m args below meth c Q G nL (pc + 1) lv rest Φ1 sz cells slots) : Z p l e R s m args below meth c Q G nL pc lv (.long x :: .int i :: .ref a :: rest) Φ sz cells slots := by
  intro H locs ls hl hP hS
  refine W.last B.1.1 B.1.2.1 (hP.2 _ _ ha) ((B.2.2.2.2.1.1.2 1 _ rfl).1 n (fun j => .long (f j))) (fun q => by cases q) (by show ¬ (i < 0 ∨ (arrV _ _ _).slots.size ≤ _); rw [arrV_size]; exact hin) rfl rfl hdg fun H1 e z oq => ?_
  refine kk _ rfl H1 _ ls hl (hP.put ?_ z oq) (hS.put z oq hna)
  show H1[a]? = some (vp_cell _ _)
  rw [e]
  rw [vp_cell_l, vp_cell_l, arrV_store]
  congr 2
  funext q
  by_cases hq : q = i.toNatClampNeg
  · subst hq
    simp [updV, vp_updL]
  · simp [updV, vp_updL, hq]
theorem z_dast (B : Bd p s m args meth c G cc nL own ws ret nm) {a n : Nat} {f : Nat → UInt64} (ha : Φ a = some (ad_ G n f)) (hna : G.2.2.2 ≤ a) {i : Int32} {x : UInt64} (hin : vp_in i n) (hdg : decode cc pc = .ok (.dastore, 1)) (kk : ∀ Φ1 : Hm, Φ1 = fset Φ a (ad_ G n (vf_upd f i.toNatClampNeg x)) → Z p l e R s m args below meth c Q G nL (pc + 1) lv rest Φ1 sz cells slots) : Z p l e R s m args below meth c Q G nL pc lv (.double x :: .int i :: .ref a :: rest) Φ sz cells slots := by
  intro H locs ls hl hP hS
  refine W.dast B.1.1 B.1.2.1 (hP.2 _ _ ha) ((B.2.2.2.2.1.1.2 3 _ rfl).1 n (fun j => .double (f j))) (fun q => by cases q) (by show ¬ (i < 0 ∨ (arrV _ _ _).slots.size ≤ _); rw [arrV_size]; exact hin) rfl rfl hdg fun H1 e z oq => ?_
  refine kk _ rfl H1 _ ls hl (hP.put ?_ z oq) (hS.put z oq hna)
  show H1[a]? = some (vp_cell _ _)
  rw [e]
  rw [vp_cell_d, vp_cell_d, arrV_store]
  congr 2
  funext q
  by_cases hq : q = i.toNatClampNeg
  · subst hq
    simp [updV, vf_upd]
  · simp [updV, vf_upd, hq]
theorem z_aast (B : Bd p s m args meth c G cc nL own ws ret nm) {a b n t ci : Nat} {r : vw_C} {vs : List Value} {f : Nat → Option Nat} (ht : (tyl G.2.1)[t]? = some (G.2.1 t, .object r.1)) (ha : Φ a = some (aq_ G t n f)) (hna : G.2.2.2 ≤ a) (hb : Φ b = some (o_ ci vs)) (hc : vwCl[ci]? = some r) {i : Int32} (hin : vp_in i n) (hdg : decode cc pc = .ok (.aastore, 1)) (kk : ∀ Φ1 : Hm, Φ1 = fset Φ a (aq_ G t n (va_up f i.toNatClampNeg (some b))) → Z p l e R s m args below meth c Q G nL (pc + 1) lv rest Φ1 sz cells slots) : Z p l e R s m args below meth c Q G nL pc lv (.ref b :: .int i :: .ref a :: rest) Φ sz cells slots := by
  intro H locs ls hl hP hS
  have hK := B.2.2.2.2.1.1
  have hlt : i.toNatClampNeg < n := Nat.not_le.mp fun q => hin (Or.inr q)
  have h0 : ¬ i < 0 := fun q => hin (Or.inl q)
  obtain ⟨r', hr', cellV, g1, g2, g3, -⟩ := hP.2 b _ hb
  have hcls := (hK.1 ci r hc).2
  obtain ⟨kA, comp, k1, k2, k3, -⟩ := (hK.2 t _ ht).2
  have hcomp : comp = G.1.1 ci := Option.some.inj (k3.symm.trans hcls.1)
  subst hcomp
  obtain ⟨kC, hkC, -⟩ := hcls.2
  refine W.aast B.1.1 B.1.2.1 (hP.2 _ _ ha) (fun q h => by cases h) (fun h => by cases h) k1 k2 rfl hkC ⟨h0, by show _ < (arrV _ _ _).slots.size; rw [arrV_size]; exact hlt⟩ g1 (fun q h => by rw [g3] at h; cases h) (by rw [g2]; exact hkC) (by rw [g2]; exact va_assign hcls) rfl rfl hdg fun H1 e z oq => ?_
  refine kk _ rfl H1 _ ls hl (hP.put ?_ z oq) (hS.put z oq hna)
  show H1[a]? = some (vp_cell _ _)
  rw [e]
  rw [vp_cell_q, vp_cell_q, arrV_store]
  congr 2
  funext q
  by_cases hq : q = i.toNatClampNeg
  · subst hq
    simp [updV, va_up, va_rf]
  · simp [updV, va_up, hq]
theorem z_Sz {H : Heap} {locs : List Loc} {H1 : Heap} (B : Bd p s m args meth c G cc nL own ws ret nm) (hP : HP G.1 Φ sz H) (hS : va_S (fun q => G.2.2.2 ≤ q) s.heap H locs) (z : sz ≤ H1.size) (o : ∀ q : Nat, q < sz → H1[q]? = H[q]?) : va_S (fun q => G.2.2.2 ≤ q) s.heap H1 locs := by
  have hz := hP.1
  have h1 := hS.1
  exact ⟨by omega, fun x g1 g2 => (o x (by omega)).trans (hS.2.1 x g1 g2), hS.2.2⟩
/-- a new object -/
theorem z_new (B : Bd p s m args meth c G cc nL own ws ret nm) {C : String} {T : u_T} {N ci index : Nat} (hin : ∀ w ∈ u_ws C T N, w ∈ ws) (ty : Nat → FieldType) (hty : ∀ k, k < N → parseFieldDescriptor (T k).2.2.1 = some (ty k)) (hcl : Cond.classLink own index C ∈ ws) (hinst : Cond.instantiable C N ∈ ws) (hini : Cond.initialized C ∈ ws) (hc : vwCl[ci]? = some (C, T, N)) {fs : List Value} (hfs : ∀ j, j < N → defaultValue (ty j) = vp_V fs j) (hcells : cells + 1 ≤ R.cells) (hslots : slots + N ≤ R.slots) (hdg : decode cc pc = .ok (.new index, 3))
    (kk : ∀ Φ1 : Hm, Φ1 = fset Φ sz (o_ ci fs) → G.2.2.2 ≤ sz → Z p l e R s m args below meth c Q G nL (pc + 3) lv (.ref sz :: rest) Φ1 (sz + 1) (cells + 1) (slots + N)) : Z p l e R s m args below meth c Q G nL pc lv rest Φ sz cells slots := by
  intro H locs ls hl hP hS
  have hts := B.1.2.2.2.2
  have hKn := B.2.2.2.2.1.1.1 ci _ hc
  refine W.newcK B.1.1 B.1.2.1 B.1.2.2.2.1 (hts _ hcl) (hts _ hinst) (hts _ hini) rfl hdg hcells hslots hKn.2.1 hP.1 fun H1 kC hkC e1 z1 o1 => ?_
  have hz : G.2.2.2 ≤ sz := by have := hS.1; have := hP.1; have := B.2.2.2.2.2.2; omega
  refine kk _ rfl hz H1 locs ls hl (hP.new ⟨_, hc, ?_⟩ z1 o1) (z_Sz B hP hS (by omega) o1)
  exact (u_born ty hts hin hKn hkC e1 hty).to hfs
/-- a new row -/
theorem z_newa (B : Bd p s m args meth c G cc nL own ws ret nm) {atype : ArrayType} (harr : Cond.arrayClass (newarray.typeOf atype) ∈ ws) {ty : FieldType} {t : Nat} (hty : newarray.typeOf atype = ty) (ht : (tyl G.2.1)[t]? = some (G.2.1 t, ty)) (hpr : ∀ C, ty ≠ .object C) {n : Int32} {N' : Nat} {a0 : vp_A} (ha : ∀ cA : ClassId, vp_cell cA a0 = arrV cA N' (fun _ => defaultValue ty)) (hn : ¬ n < 0) (hN : n.toNatClampNeg = N') (hbytes : N' * componentBytes ty ≤ 536870912) (hcells : cells + 1 ≤ R.cells) (hslots : slots + N' ≤ R.slots) (hdg : decode cc pc = .ok (.newarray atype, 2))
    (kk : ∀ Φ1 : Hm, Φ1 = fset Φ sz (.inl (G.2.1 t, a0)) → G.2.2.2 ≤ sz → Z p l e R s m args below meth c Q G nL (pc + 2) lv (.ref sz :: rest) Φ1 (sz + 1) (cells + 1) (slots + N')) : Z p l e R s m args below meth c Q G nL pc lv (.int n :: rest) Φ sz cells slots := by
  intro H locs ls hl hP hS
  subst hty
  have hz : G.2.2.2 ≤ sz := by have := hS.1; have := hP.1; have := B.2.2.2.2.2.2; omega
  refine va_newaK B.1.1 B.1.2.1 (B.1.2.2.2.2 _ harr) rfl hdg rfl hn hN hbytes hcells hslots hP.1 fun H1 cA e1 z1 o1 hAr hNm => ?_
  have hra := (B.2.2.2.2.1.1.2 t _ ht).2
  have hcA : cA = G.2.1 t := by
    have h2 : s.vm.findClass ("[" ++ (newarray.typeOf atype).toString) = some (G.2.1 t) := by
      cases atype <;> exact hra
    exact Option.some.inj (hNm.symm.trans h2)
  subst hcA
  refine kk _ rfl hz H1 locs ls hl (hP.new ?_ z1 o1) (z_Sz B hP hS (by omega) o1)
  show H1[sz]? = some (vp_cell _ _)
  rw [ha]
  exact e1
theorem z_newq (B : Bd p s m args meth c G cc nL own ws ret nm) {C : String} {index t : Nat} (hcl : Cond.classLink own index C ∈ ws) (hover : va_AO C s) (ht : (tyl G.2.1)[t]? = some (G.2.1 t, .object C)) {n : Int32} {N' : Nat} (hn : ¬ n < 0) (hN : n.toNatClampNeg = N') (hbytes : N' * 4 ≤ 536870912) (hcells : cells + 1 ≤ R.cells) (hslots : slots + N' ≤ R.slots) (hdg : decode cc pc = .ok (.anewarray index, 3))
    (kk : ∀ Φ1 : Hm, Φ1 = fset Φ sz (aq_ G t N' (fun _ => none)) → G.2.2.2 ≤ sz → Z p l e R s m args below meth c Q G nL (pc + 3) lv (.ref sz :: rest) Φ1 (sz + 1) (cells + 1) (slots + N')) : Z p l e R s m args below meth c Q G nL pc lv (.int n :: rest) Φ sz cells slots := by
  intro H locs ls hl hP hS
  subst hN
  have hz : G.2.2.2 ≤ sz := by have := hS.1; have := hP.1; have := B.2.2.2.2.2.2; omega
  have hsz := hP.1
  refine W.anew B.1.1 B.1.2.1 B.1.2.2.2.1 (B.1.2.2.2.2 _ hcl) (va_AO.use hover) rfl hdg rfl hn hbytes hcells hslots fun cA kA comp f1 f2 f3 f4 => ?_
  obtain ⟨kA', comp', k1, k2, k3, k4⟩ := (B.2.2.2.2.1.1.2 t _ ht).2
  have hcA : cA = G.2.1 t := Option.some.inj (f1.symm.trans k4)
  subst hcA
  rw [hsz]
  generalize hH1 : H.push ({ cls := G.2.1 t, slots := Array.replicate n.toNatClampNeg .null, vm := .none } : Cell) = H1
  have z1 : H1.size = sz + 1 := by rw [← hH1, Array.size_push, hsz]
  have e1 : H1[sz]? = some (arrV (G.2.1 t) n.toNatClampNeg (fun _ => .null)) := by rw [← hH1, ← hsz, Array.getElem?_push_size, ← arrV_new]
  have o1 : ∀ q : Nat, q < sz → H1[q]? = H[q]? := fun q hq => by rw [← hH1, Array.getElem?_push, if_neg (by omega)]
  refine kk _ rfl hz H1 locs ls hl (hP.new ?_ z1 o1) (z_Sz B hP hS (by omega) o1)
  show H1[sz]? = some (vp_cell _ _)
  rw [vp_cell_q]
  exact e1
/-- static rows -/
theorem z_sta (B : Bd p s m args meth c G cc nL own ws ret nm) {C n d ref : String} {v : Value} {index : Nat} (hZ : va_Z C n d v (fun q => G.2.2.2 ≤ q) s s.heap) (hlink : Cond.fieldLink own index ref n d ∈ ws) (hre : C = ref) (hdg : decode cc pc = .ok (.getstatic index, 3)) (kk : Z p l e R s m args below meth c Q G nL (pc + 3) lv (v :: rest) Φ sz cells slots) : Z p l e R s m args below meth c Q G nL pc lv rest Φ sz cells slots := fun H locs ls hl hP hS => va_gets B.1.1 B.1.2.1 hZ hS B.1.2.2.2.1 (B.1.2.2.2.2 _ hlink) (fun x hx => by rw [← hre]; exact hx) hdg (kk H locs ls hl hP hS)
theorem z_staN (B : Bd p s m args meth c G cc nL own ws ret nm) {n : String} {v : Value} {index : Nat} (hZ : va_Z RX11 n "[I" v (fun q => G.2.2.2 ≤ q) s s.heap) (hlink : (own, index, n) ∈ nestF) (hdg : decode cc pc = .ok (.getstatic index, 3)) (kk : Z p l e R s m args below meth c Q G nL (pc + 3) lv (v :: rest) Φ sz cells slots) : Z p l e R s m args below meth c Q G nL pc lv rest Φ sz cells slots := fun H locs ls hl hP hS => va_getsN B.1.1 B.1.2.1 hZ hS B.1.2.2.2.1 (va_Nw.use rfl (B.2.2.2.2.1.2.2.2.1 _ hlink)) (fun x hx => hx) hdg (kk H locs ls hl hP hS)
/-- calls -/
theorem z_run {P : Option Value → Hm → Nat → Prop} {mc ms : Nat} {st : List Value} {a : Array Value} (run : ∀ (H : Heap) (locs : List Loc) (ls : Array Slot), lv_has ls nL lv → HP G.1 Φ sz H → va_S (fun q => G.2.2.2 ≤ q) s.heap H locs → va_Run p l e R s m args below meth c H locs cells slots mc ms (F0 m pc ls st) rest (QU G P a) (fun q => G.2.2.2 ≤ q))
    (kk : ∀ (v : Option Value) (Φ1 : Hm) (sz1 : Nat) (st1 : List Value), P v Φ1 sz1 → st1 = v.toList ++ rest → Z p l e R s m args below meth c Q G nL (pc + 3) lv st1 Φ1 sz1 (cells + mc) (slots + ms)) : Z p l e R s m args below meth c Q G nL pc lv st Φ sz cells slots := by
  intro H locs ls hl hP hS T hT X
  obtain ⟨v, st₀, t, T', L, h0, X', hL, e1, e2, ⟨⟨v2, Φ1, sz1, hv, hp, hb⟩, hz, hk⟩, stp⟩ := run H locs ls hl hP hS T hT X
  cases hv
  rw [h0] at hz hk
  obtain ⟨t2, a1, b1⟩ := kk v Φ1 sz1 _ hp rfl T'.heap (locs ++ L) ls hl (by rw [e1]; exact hb)
    ⟨Nat.le_trans hS.1 (by rw [e1]; exact hz), fun q h1 h2 => by rw [e1, hk q (Nat.lt_of_lt_of_le h1 hS.1) h2]; exact hS.2.1 q h1 h2, fun q hq => by
      rcases List.mem_append.mp hq with h | h
      · exact hS.2.2 q h
      · exact hL q h⟩ T' rfl X'
  exact ⟨t2, stp t2 a1, b1⟩
theorem z_PU {H : Heap} {locs : List Loc} (B : Bd p s m args meth c G cc nL own ws ret nm) (hP : HP G.1 Φ sz H) (hS : va_S (fun q => G.2.2.2 ≤ q) s.heap H locs) (U : State) (hU : U.heap = H) (hW : s.WarmedH U.vm) : PU G Φ sz U := by
  have h1 := hS.1
  have h2 := hP.1
  have h3 := B.2.2.2.2.2.2
  exact ⟨by rw [hU]; exact hP, K0.warm hW B.2.2.2.2.1, by rw [hU]; exact S0.moved hW.alike (S0.kept B.2.2.2.2.2.1 (fun a g1 g2 => hS.2.1 a g1 g2)), by omega⟩
theorem z_callV (B : Bd p s m args meth c G cc nL own ws ret nm) {y : MethodName} {bytes : ByteArray} {maxL mc ms n index : Nat} {ret1 : Option FieldType} {ws1 : List Cond} {rm : Room} {C : String} {P : Option Value → Hm → Nat → Prop} {b ci : Nat} {q : vw_C} {fs : List Value} {As st : List Value} (hM : Ct G l y ws1 rm mc ms (.ref b :: As) Φ sz P) (cw : CallW R s args own C index y bytes maxL ret1 ws1 rm mc ms n) (hb : Φ b = some (o_ ci fs)) (hc : vwCl[ci]? = some q) (hq : q.1 = C) (hn : As.length = n) (hst : st = As.reverse ++ .ref b :: rest) (hcat : (rest.map fun v => v.category).sum ≤ 8) (hdg : decode cc pc = .ok (.invokevirtual index, 3)) (hf : cells + mc ≤ R.cells ∧ slots + ms ≤ R.slots)
    (kk : ∀ (v : Option Value) (Φ1 : Hm) (sz1 : Nat) (st1 : List Value), P v Φ1 sz1 → st1 = v.toList ++ rest → Z p l e R s m args below meth c Q G nL (pc + 3) lv st1 Φ1 sz1 (cells + mc) (slots + ms)) : Z p l e R s m args below meth c Q G nL pc lv st Φ sz cells slots := by
  refine z_run (fun H locs ls hl hP hS => va_runV B.1 hM cw ⟨PU.blind, ?_, fun U hU hW => ⟨rfl, z_PU B hP hS U hU hW⟩⟩ rfl hn hl.1 hst (lv_room hcat) hdg hf) kk
  subst hq
  exact va_recv (q0 := 0) B.2.2.2.2.1.1 (z_arr hP hb) hc rfl
theorem z_callS (B : Bd p s m args meth c G cc nL own ws ret nm) {y : MethodName} {bytes : ByteArray} {maxL mc ms n index : Nat} {ret1 : Option FieldType} {ws1 : List Cond} {rm : Room} {P : Option Value → Hm → Nat → Prop} {As st : List Value} (hM : Ct G l y ws1 rm mc ms As Φ sz P) (cw : CallB R s args own index y bytes maxL ret1 ws1 rm mc ms n ∧ (Cond.static y).before args s = true) (hn : As.length = n) (hst : st = As.reverse ++ rest) (hcat : (rest.map fun v => v.category).sum ≤ 8) (hdg : decode cc pc = .ok (.invokestatic index, 3)) (hf : cells + mc ≤ R.cells ∧ slots + ms ≤ R.slots)
    (kk : ∀ (v : Option Value) (Φ1 : Hm) (sz1 : Nat) (st1 : List Value), P v Φ1 sz1 → st1 = v.toList ++ rest → Z p l e R s m args below meth c Q G nL (pc + 3) lv st1 Φ1 sz1 (cells + mc) (slots + ms)) : Z p l e R s m args below meth c Q G nL pc lv st Φ sz cells slots :=
  z_run (fun H locs ls hl hP hS => va_runS B.1 hM cw ⟨PU.blind, fun U hU hW => ⟨rfl, z_PU B hP hS U hU hW⟩⟩ rfl hn hl.1 hst (lv_room hcat) hdg hf) kk
theorem z_callSN (B : Bd p s m args meth c G cc nL own ws ret nm) {y : MethodName} {bytes : ByteArray} {maxL mc ms n index : Nat} {ret1 : Option FieldType} {ws1 : List Cond} {rm : Room} {host : String} {P : Option Value → Hm → Nat → Prop} {As st : List Value} (hM : Ct G l y ws1 rm mc ms As Φ sz P) (cw : va_CN R s args own index y host bytes maxL ret1 ws1 rm mc ms n ∧ (Cond.static y).before args s = true ∧ True) (hn : As.length = n) (hst : st = As.reverse ++ rest) (hcat : (rest.map fun v => v.category).sum ≤ 8) (hdg : decode cc pc = .ok (.invokestatic index, 3)) (hf : cells + mc ≤ R.cells ∧ slots + ms ≤ R.slots)
    (kk : ∀ (v : Option Value) (Φ1 : Hm) (sz1 : Nat) (st1 : List Value), P v Φ1 sz1 → st1 = v.toList ++ rest → Z p l e R s m args below meth c Q G nL (pc + 3) lv st1 Φ1 sz1 (cells + mc) (slots + ms)) : Z p l e R s m args below meth c Q G nL pc lv st Φ sz cells slots :=
  z_run (fun H locs ls hl hP hS => va_runSN B.1 hM cw ⟨PU.blind, fun U hU hW => ⟨rfl, z_PU B hP hS U hU hW⟩⟩ rfl hn hl.1 hst (lv_room hcat) hdg hf) kk
theorem z_callI (B : Bd p s m args meth c G cc nL own ws ret nm) {y : MethodName} {bytes : ByteArray} {maxL mc ms n index : Nat} {ws1 : List Cond} {rm : Room} {P : Option Value → Hm → Nat → Prop} {b : Nat} {As st : List Value} (hM : Ct G l y ws1 rm mc ms (.ref b :: As) Φ sz P) (cw : CallB R s args own index y bytes maxL none ws1 rm mc ms n ∧ y.name = "<init>" ∧ (Cond.instanceMethod y).before args s = true) (hn : As.length = n) (hst : st = As.reverse ++ .ref b :: rest) (hcat : (rest.map fun v => v.category).sum ≤ 8) (hdg : decode cc pc = .ok (.invokespecial index, 3)) (hf : cells + mc ≤ R.cells ∧ slots + ms ≤ R.slots)
    (kk : ∀ (v : Option Value) (Φ1 : Hm) (sz1 : Nat) (st1 : List Value), P v Φ1 sz1 → st1 = v.toList ++ rest → Z p l e R s m args below meth c Q G nL (pc + 3) lv st1 Φ1 sz1 (cells + mc) (slots + ms)) : Z p l e R s m args below meth c Q G nL pc lv st Φ sz cells slots :=
  z_run (fun H locs ls hl hP hS => va_runI B.1 hM cw ⟨PU.blind, fun U hU hW => ⟨rfl, z_PU B hP hS U hU hW⟩⟩ rfl hn hl.1 hst (lv_room hcat) hdg hf) kk
theorem z_callIN (B : Bd p s m args meth c G cc nL own ws ret nm) {y : MethodName} {bytes : ByteArray} {maxL mc ms n index : Nat} {ws1 : List Cond} {rm : Room} {host : String} {P : Option Value → Hm → Nat → Prop} {b : Nat} {As st : List Value} (hM : Ct G l y ws1 rm mc ms (.ref b :: As) Φ sz P) (cw : va_CN R s args own index y host bytes maxL none ws1 rm mc ms n ∧ y.name = "<init>" ∧ (Cond.instanceMethod y).before args s = true) (hn : As.length = n) (hst : st = As.reverse ++ .ref b :: rest) (hcat : (rest.map fun v => v.category).sum ≤ 8) (hdg : decode cc pc = .ok (.invokespecial index, 3)) (hf : cells + mc ≤ R.cells ∧ slots + ms ≤ R.slots)
    (kk : ∀ (v : Option Value) (Φ1 : Hm) (sz1 : Nat) (st1 : List Value), P v Φ1 sz1 → st1 = v.toList ++ rest → Z p l e R s m args below meth c Q G nL (pc + 3) lv st1 Φ1 sz1 (cells + mc) (slots + ms)) : Z p l e R s m args below meth c Q G nL pc lv st Φ sz cells slots :=
  z_run (fun H locs ls hl hP hS => va_runIN B.1 hM cw ⟨PU.blind, fun U hU hW => ⟨rfl, z_PU B hP hS U hU hW⟩⟩ rfl hn hl.1 hst (lv_room hcat) hdg hf) kk
/-- Object.<init> -/
theorem z_obj (B : Bd p s m args meth c G cc nL own ws ret nm) {index a : Nat} (hl : Cond.methodLink own index objectInit ∈ ws) (hi : Cond.instanceMethod objectInit ∈ ws) (hco : Cond.code objectInit ⟨#[0xb1]⟩ 1 none ∈ ws) (hcat : rest = []) (hR : 1 ≤ R.frames ∧ 12 ≤ R.locals) (hdg : decode cc pc = .ok (.invokespecial index, 3)) (kk : Z p l e R s m args below meth c Q G nL (pc + 3) lv [] Φ sz cells slots) : Z p l e R s m args below meth c Q G nL pc lv (.ref a :: rest) Φ sz cells slots := by
  intro H locs ls hl1 hP hS
  subst hcat
  refine W.objInit B.1.1 B.1.2.1 B.1.2.2.2.1 (B.1.2.2.2.2 _ hl) (B.1.2.2.2.2 _ hi) (B.1.2.2.2.2 _ hco) rfl (by rw [B.1.2.2.1]; exact hl1.1) rfl hdg hR.1 (by simpa using hR.2) ?_
  exact kk H locs ls hl1 hP hS
theorem z_lt {st : List Value} (kk : (∀ (a : Nat) (e : va_E), Φ a = some e → a < sz) → Z p l e R s m args below meth c Q G nL pc lv st Φ sz cells slots) : Z p l e R s m args below meth c Q G nL pc lv st Φ sz cells slots := fun H locs ls hl hP hS => kk (fun a x h => hP.lt h) H locs ls hl hP hS
theorem z_mmax (B : Bd p s m args meth c G cc nL own ws ret nm) {index : Nat} {x y : Int32} (h1 : Cond.methodLink own index Lib.Math.max.name ∈ ws) (h2 : Cond.static Lib.Math.max.name ∈ ws) (h3 : Cond.initialized "java/lang/Math" ∈ ws) (h4 : Cond.code Lib.Math.max.name Lib.Math.max.code 2 (some .int) ∈ ws) {v : Int32} (hv : (if x < y then y else x) = v) (hR : 1 ≤ R.frames ∧ (rest.map fun v => v.category).sum + 13 ≤ R.locals) (hcs : cells ≤ R.cells ∧ slots ≤ R.slots) (hdg : decode cc pc = .ok (.invokestatic index, 3)) (kk : Z p l e R s m args below meth c Q G nL (pc + 3) lv (.int v :: rest) Φ sz cells slots) : Z p l e R s m args below meth c Q G nL pc lv (.int y :: .int x :: rest) Φ sz cells slots := by
  intro H locs ls hl hP hS
  subst hv
  exact va_mmax B.1.1 B.1.2.1 (by rw [B.1.2.2.1]; exact hl.1.symm) B.1.2.2.2.1 (B.1.2.2.2.2 _ h1) (B.1.2.2.2.2 _ h2) (B.1.2.2.2.2 _ h3) (B.1.2.2.2.2 _ h4) hR.1 hR.2 hcs.1 hcs.2 hdg (kk H locs ls hl hP hS)
theorem z_mmin (B : Bd p s m args meth c G cc nL own ws ret nm) {index : Nat} {x y : Int32} (h1 : Cond.methodLink own index Lib.Math.min.name ∈ ws) (h2 : Cond.static Lib.Math.min.name ∈ ws) (h3 : Cond.initialized "java/lang/Math" ∈ ws) (h4 : Cond.code Lib.Math.min.name Lib.Math.min.code 2 (some .int) ∈ ws) {v : Int32} (hv : (if y < x then y else x) = v) (hR : 1 ≤ R.frames ∧ (rest.map fun v => v.category).sum + 13 ≤ R.locals) (hcs : cells ≤ R.cells ∧ slots ≤ R.slots) (hdg : decode cc pc = .ok (.invokestatic index, 3)) (kk : Z p l e R s m args below meth c Q G nL (pc + 3) lv (.int v :: rest) Φ sz cells slots) : Z p l e R s m args below meth c Q G nL pc lv (.int y :: .int x :: rest) Φ sz cells slots := by
  intro H locs ls hl hP hS
  subst hv
  exact va_mmin B.1.1 B.1.2.1 (by rw [B.1.2.2.1]; exact hl.1.symm) B.1.2.2.2.1 (B.1.2.2.2.2 _ h1) (B.1.2.2.2.2 _ h2) (B.1.2.2.2.2 _ h3) (B.1.2.2.2.2 _ h4) hR.1 hR.2 hcs.1 hcs.2 hdg (kk H locs ls hl hP hS)
/-- System.arraycopy of ints or bytes -/
theorem z_copy (B : Bd p s m args meth c G cc nL own ws ret nm) {index a0 a t n0 n1 : Nat} {f g : Nat → Int32} {ty : FieldType} (h6 : Cond.methodLink own index arraycopyName ∈ ws) (h7 : Cond.native arraycopyName ∈ ws) (h8 : Cond.static arraycopyName ∈ ws) (h9 : Cond.initialized "java/lang/System" ∈ ws) (ht : (tyl G.2.1)[t]? = some (G.2.1 t, ty)) (hprim : refKind ty = false) (ha0 : Φ a0 = some (.inl (G.2.1 t, n0, .inl f))) (ha : Φ a = some (.inl (G.2.1 t, n1, .inl g))) (hna : G.2.2.2 ≤ a)
    {sp dp n : Int32} (h1 : ¬ sp < 0) (h2 : ¬ dp < 0) (h3 : ¬ n < 0) (h4 : sp.toNatClampNeg + n.toNatClampNeg ≤ n0) (h5 : dp.toNatClampNeg + n.toNatClampNeg ≤ n1) (hfit : ∀ i, i < n.toNatClampNeg → fits ty (.int (f (sp.toNatClampNeg + i))) = true)
    (hframes : 1 ≤ R.frames) (hlocals : (rest.map fun v => v.category).sum + (nativeFrameWords "java/lang/System" "arraycopy" 5 + 11) ≤ R.locals) (hdg : decode cc pc = .ok (.invokestatic index, 3))
    (kk : ∀ Φ1 : Hm, Φ1 = fset Φ a (.inl (G.2.1 t, n1, .inl (va_cpy f g sp.toNatClampNeg dp.toNatClampNeg n.toNatClampNeg))) → Z p l e R s m args below meth c Q G nL (pc + 3) lv rest Φ1 sz cells slots) : Z p l e R s m args below meth c Q G nL pc lv (.int n :: .int dp :: .ref a :: .int sp :: .ref a0 :: rest) Φ sz cells slots := by
  intro H locs ls hl hP hS
  have nn : ∀ z : Int32, ¬ z < 0 → z.toInt = (z.toNatClampNeg : Int) := by
    intro z hz
    have hz0 : (0 : Int) ≤ z.toInt := by
      have := Int32.not_lt.mp hz
      simpa using Int32.le_iff_toInt_le.mp this
    show z.toInt = ((z.toInt.toNat : Nat) : Int)
    omega
  intro T hT X
  have hc0 : H[a0]? = some (vp_cell (G.2.1 t) (n0, .inl f)) := hP.2 _ _ ha0
  have hc1 : H[a]? = some (vp_cell (G.2.1 t) (n1, .inl g)) := hP.2 _ _ ha
  obtain ⟨-, k0, hk0, cm0, hkk0⟩ := (B.2.2.2.2.1.1.2 t _ ht).1 n0 (fun j => .int (f j))
  obtain ⟨-, k1, hk1, cm1, hkk1⟩ := (B.2.2.2.2.1.1.2 t _ ht).1 n1 (fun j => .int (g j))
  obtain ⟨vm', X', step⟩ := X.arraycopy B.1.1 B.1.2.2.2.1 (B.1.2.2.2.2 _ h6) (B.1.2.2.2.2 _ h7) (B.1.2.2.2.2 _ h8) (B.1.2.2.2.2 _ h9) (src := a0) (dst := a) (cs := vp_cell (G.2.1 t) (n0, .inl f)) (cd := vp_cell (G.2.1 t) (n1, .inl g)) (srcPos := sp) (destPos := dp) (n := n) (by rw [hT]; exact hc0) (by rw [hT]; exact hc1)
    (fun _ h => by cases h) (fun _ h => by cases h) (fun h => by cases h) (fun h => by cases h) hk0 hk1 hkk0 hkk1 (by simp [hprim]) h1 h2 h3
    (by rw [nn sp h1, nn n h3]; show ¬ _ > ((arrV (G.2.1 t) n0 (fun j => .int (f j))).slots.size : Int); rw [arrV_size]; omega)
    (by rw [nn dp h2, nn n h3]; show ¬ _ > ((arrV (G.2.1 t) n1 (fun j => .int (g j))).slots.size : Int); rw [arrV_size]; omega)
    (fun vm₁ _ i hi => by
      have e : (vp_cell (G.2.1 t) (n0, .inl f)).slots.getD (sp.toNatClampNeg + i) .null = .int (f (sp.toNatClampNeg + i)) := by
        show (arrV (G.2.1 t) n0 (fun j => .int (f j))).slots.getD _ _ = _
        rw [Array.getD_eq_getD_getElem?, arrV_read _ _ (by omega)]
        rfl
      refine ⟨?_, ?_⟩
      · rw [e]
        exact hfit i hi
      · rw [e]
        exact trivial)
    (g := F0 m pc ls (.int n :: .int dp :: .ref a :: .int sp :: .ref a0 :: rest)) rfl (by rw [B.1.2.2.1]; exact hl.1) (rest := rest) rfl (by rw [B.1.2.1]; exact hdg) hframes (by show 2 * 0 + _ + _ ≤ _; omega)
  have e1 : copied (vp_cell (G.2.1 t) (n0, .inl f)) (vp_cell (G.2.1 t) (n1, .inl g)) sp dp n = vp_cell (G.2.1 t) (n1, .inl (va_cpy f g sp.toNatClampNeg dp.toNatClampNeg n.toNatClampNeg)) := va_copied (fun z => .int z) (G.2.1 t) (G.2.1 t) f g h4
  rw [e1] at X' step
  have hlz : a < H.size := (Array.getElem?_eq_some_iff.mp hc1).1
  have hheap : ((T.setVm vm').setCell a (vp_cell (G.2.1 t) (n1, .inl (va_cpy f g sp.toNatClampNeg dp.toNatClampNeg n.toNatClampNeg)))).heap = H.setIfInBounds a (vp_cell (G.2.1 t) (n1, .inl (va_cpy f g sp.toNatClampNeg dp.toNatClampNeg n.toNatClampNeg))) := by rw [← hT]; rfl
  have oq : ∀ q : Nat, q ≠ a → (H.setIfInBounds a (vp_cell (G.2.1 t) (n1, .inl (va_cpy f g sp.toNatClampNeg dp.toNatClampNeg n.toNatClampNeg))))[q]? = H[q]? := fun q hq => by simp [Array.getElem?_setIfInBounds, Ne.symm hq]
  obtain ⟨tt, a1, b1⟩ := kk _ rfl _ _ ls hl (hP.put (show (H.setIfInBounds a _)[a]? = some _ by simp [Array.getElem?_setIfInBounds, hlz]) (by simp) oq) ⟨by simp; exact hS.1, fun q g1 g2 => by
      rw [oq q (fun e => g2 (by rw [e]; exact hna))]
      exact hS.2.1 q g1 g2, fun q hq => by
      rcases List.mem_append.mp hq with h | h
      · exact hS.2.2 q h
      · obtain ⟨z, -, hz⟩ := List.mem_map.mp h
        rw [← hz]
        exact hna⟩ _ hheap X'
  exact ⟨tt, step tt a1, b1⟩
/-- a row by what it holds within its length -/
theorem z_row {a n t : Nat} {f g : Nat → Int32} {st : List Value} (ha : Φ a = some (.inl (G.2.1 t, n, .inl f))) (h : ∀ j, j < n → f j = g j) (kk : ∀ Φ1 : Hm, Φ1 = fset Φ a (.inl (G.2.1 t, n, .inl g)) → Z p l e R s m args below meth c Q G nL pc lv st Φ1 sz cells slots) : Z p l e R s m args below meth c Q G nL pc lv st Φ sz cells slots := by
  intro H locs ls hl hP hS
  refine kk _ rfl H locs ls hl (hP.put ?_ rfl (fun _ _ => rfl)) hS
  have h1 : H[a]? = some (vp_cell (G.2.1 t) (n, .inl f)) := hP.2 _ _ ha
  show H[a]? = some (vp_cell (G.2.1 t) (n, .inl g))
  rw [h1, vp_cell_i, vp_cell_i]
  congr 1
  unfold arrV
  congr 1
  apply Array.ext
  · simp
  · intro i h1 h2
    simp at h1
    simp [h i h1]
theorem z_rowL {a n t : Nat} {f g : Nat → Int64} {st : List Value} (ha : Φ a = some (.inl (G.2.1 t, n, .inr (.inl f)))) (h : ∀ j, j < n → f j = g j) (kk : ∀ Φ1 : Hm, Φ1 = fset Φ a (.inl (G.2.1 t, n, .inr (.inl g))) → Z p l e R s m args below meth c Q G nL pc lv st Φ1 sz cells slots) : Z p l e R s m args below meth c Q G nL pc lv st Φ sz cells slots := by
  intro H locs ls hl hP hS
  refine kk _ rfl H locs ls hl (hP.put ?_ rfl (fun _ _ => rfl)) hS
  have h1 : H[a]? = some (vp_cell (G.2.1 t) (n, .inr (.inl f))) := hP.2 _ _ ha
  show H[a]? = some (vp_cell (G.2.1 t) (n, .inr (.inl g)))
  rw [h1, vp_cell_l, vp_cell_l]
  congr 1
  unfold arrV
  congr 1
  apply Array.ext
  · simp
  · intro i h1 h2
    simp at h1
    simp [h i h1]
theorem z_ret_a {P : Option Value → Hm → Nat → Prop} {v : Nat} {Cn : String} (B : Bd p s m args meth c G cc nL own ws (some (.object Cn)) nm) (hdg : decode cc pc = .ok (.areturn, 1)) (hp : P (some (.ref v)) Φ sz) : Z p l e R s m args below meth c (MQ below (QU G P) args s cells slots (fun q => G.2.2.2 ≤ q)) G nL pc lv [.ref v] Φ sz cells slots := fun H locs ls hl hP hS =>
  W.aret B.1.1 B.1.2.1 B.2.1 (Or.inl ⟨_, rfl⟩) (Or.inr ⟨_, rfl⟩) (fun t ht hW => ⟨⟨_, Φ, sz, rfl, hp, by rw [ht]; exact hP⟩, hS.F ht⟩) hS.2.2 hdg B.2.2.1
/-- new T[2][24] -/
theorem z_mna (B : Bd p s m args meth c G cc nL own ws ret nm) {index t u : Nat} {ty : FieldType} (hcl : Cond.classLink own index ("[" ++ (FieldType.array ty).toString) ∈ ws) (hover : AOA ty s) (harr : Cond.arrayClass ty ∈ ws) (hfA : s.vm.findClass ("[" ++ (FieldType.array ty).toString) = some (G.2.1 t)) (hfC : s.vm.findClass (FieldType.array ty).toString = some (G.2.1 u)) {z : vp_A} (hz : ∀ c : ClassId, Jvm.Free.Multi.innerC c 24 (defaultValue ty) = vp_cell c z)
    (hb2 : 24 * componentBytes ty ≤ 536870912) (hdf : fits ty (defaultValue ty) = true) (hdd : (defaultValue ty).isDefault = true) (hcells : cells + (1 + 2) ≤ R.cells) (hslots : slots + (2 + 2 * 24) ≤ R.slots) (hdg : decode cc pc = .ok (.multianewarray index 2, 4))
    (kk : ∀ Φ1 Φ2 Φ3 : Hm, Φ1 = fset Φ sz (aq_ G t 2 (fun i => if i < 2 then some (sz + 1 + i) else none)) → Φ2 = fset Φ1 (sz + 1) (.inl (G.2.1 u, z)) → Φ3 = fset Φ2 (sz + 2) (.inl (G.2.1 u, z)) → G.2.2.2 ≤ sz → Z p l e R s m args below meth c Q G nL (pc + 4) lv (.ref sz :: rest) Φ3 (sz + 3) (cells + 1 + 2) (slots + 2 + 2 * 24)) : Z p l e R s m args below meth c Q G nL pc lv (.int 24 :: .int 2 :: rest) Φ sz cells slots := by
  intro H locs ls hl hP hS T hT Xs
  have hn0 : G.2.2.2 ≤ sz := by have := hS.1; have := hP.1; have := B.2.2.2.2.2.2; omega
  have e2 : ((2 : Int32).toNatClampNeg) = 2 := rfl
  have e24 : ((24 : Int32).toNatClampNeg) = 24 := rfl
  obtain ⟨vm₁, cA, comp, -, fA, fC, hO, -, X', step⟩ := Xs.multianewarray2F B.1.1 B.1.2.2.2.1 (B.1.2.2.2.2 _ hcl) (show (Cond.arrayOver (.array ty)).before args s = true from hover) (B.1.2.2.2.2 _ harr) (g := F0 m pc ls (.int 24 :: .int 2 :: rest)) rfl (by rw [B.1.2.1]; exact hdg) rfl (by decide) (by decide) (by rw [e2]; decide) (by rw [e24]; exact hb2) (by rw [e24]; decide) hdf hdd (by rw [e2]; exact hcells) (by rw [e2, e24]; exact hslots)
  have ec : cA = G.2.1 t := Option.some.inj (fA.symm.trans hfA)
  have ed : comp = G.2.1 u := Option.some.inj (fC.symm.trans hfC)
  subst ec
  subst ed
  rw [e2, e24] at X' step
  generalize hF : Jvm.Free.Multi.fill (T.setVm vm₁) (G.2.1 t) (G.2.1 u) 2 24 (defaultValue ty) 2 = F at X' step
  have hTh : (T.setVm vm₁).heap = H := hT
  obtain ⟨f1, f2, -, -⟩ := Jvm.Free.Multi.fill_facts (T.setVm vm₁) (G.2.1 t) (G.2.1 u) 2 24 (defaultValue ty) 2
  rw [hF, hTh] at f1 f2
  have hsz := hP.1
  have hold : ∀ x : Nat, x < H.size → F.heap[x]? = H[x]? := fun x hx => by
    have := Jvm.Free.Multi.fill_old (T.setVm vm₁) (G.2.1 t) (G.2.1 u) 2 24 (defaultValue ty) (a := x) (by rw [hTh]; exact hx) 2
    rw [hF, hTh] at this
    exact this
  have hrow : ∀ j : Nat, j < 2 → F.heap[H.size + 1 + j]? = some (vp_cell (G.2.1 u) z) := fun j hj => by
    have := Jvm.Free.Multi.fill_inner (T.setVm vm₁) (G.2.1 t) (G.2.1 u) 2 24 (defaultValue ty) 2 j hj
    rw [hF, hTh, hz] at this
    exact this
  rw [vr_outer] at f2
  rw [hsz] at f1 f2 hold hrow
  have hHP : HP G.1 (fset (fset (fset Φ sz (aq_ G t 2 (fun i => if i < 2 then some (sz + 1 + i) else none))) (sz + 1) (.inl (G.2.1 u, z))) (sz + 2) (.inl (G.2.1 u, z))) (sz + 3) F.heap := by
    refine ⟨f1, fun b x hb => ?_⟩
    by_cases h2 : b = sz + 2
    · subst h2
      rw [fset_eq] at hb
      cases hb
      exact hrow 1 (by decide)
    · rw [fset_ne h2] at hb
      by_cases h1 : b = sz + 1
      · subst h1
        rw [fset_eq] at hb
        cases hb
        exact hrow 0 (by decide)
      · rw [fset_ne h1] at hb
        by_cases h0 : b = sz
        · subst h0
          rw [fset_eq] at hb
          cases hb
          show F.heap[_]? = some (vp_cell _ _)
          rw [vp_cell_q]
          exact f2
        · rw [fset_ne h0] at hb
          exact (hP.2 b x hb).kept (hold b (hP.lt hb))
  obtain ⟨tt, a1, b1⟩ := kk _ _ _ rfl rfl rfl hn0 F.heap locs ls hl hHP (z_Sz B hP hS (by omega) hold) F rfl X'
  refine ⟨tt, step tt ?_, b1⟩
  have e3 : T.heap.size = sz := by rw [hT]; exact hsz
  rw [e3]
  exact a1
/-- a static row is read -/
theorem z_sald (B : Bd p s m args meth c G cc nL own ws ret nm) {a n : Nat} {f : Nat → Int32} (hX : va_X a n f s s.heap) (ha : a < G.2.2.2) {i : Int32} (hin : vp_in i n) (hdg : decode cc pc = .ok (.iaload, 1)) (kk : Z p l e R s m args below meth c Q G nL (pc + 1) lv (.int (f i.toNatClampNeg) :: rest) Φ sz cells slots) : Z p l e R s m args below meth c Q G nL pc lv (.int i :: .ref a :: rest) Φ sz cells slots := fun H locs ls hl hP hS => va_sld B.1.1 B.1.2.1 hX (vaX_lt hX) (Nat.not_le.mpr ha) hS hin hdg (kk H locs ls hl hP hS)
theorem z_slen (B : Bd p s m args meth c G cc nL own ws ret nm) {a n : Nat} {f : Nat → Int32} (hX : va_X a n f s s.heap) (ha : a < G.2.2.2) {v : Int32} (hv : Int32.ofNat n = v) (hdg : decode cc pc = .ok (.arraylength, 1)) (kk : Z p l e R s m args below meth c Q G nL (pc + 1) lv (.int v :: rest) Φ sz cells slots) : Z p l e R s m args below meth c Q G nL pc lv (.ref a :: rest) Φ sz cells slots := fun H locs ls hl hP hS => va_slen B.1.1 B.1.2.1 hX (vaX_lt hX) (Nat.not_le.mpr ha) hS hdg (by rw [hv]; exact kk H locs ls hl hP hS)
/-- System.arraycopy out of a static row -/
theorem z_copyS (B : Bd p s m args meth c G cc nL own ws ret nm) {index a0 a n0 n1 : Nat} {f g : Nat → Int32} (h6 : Cond.methodLink own index arraycopyName ∈ ws) (h7 : Cond.native arraycopyName ∈ ws) (h8 : Cond.static arraycopyName ∈ ws) (h9 : Cond.initialized "java/lang/System" ∈ ws) (hX : va_X a0 n0 f s s.heap) (ha0 : a0 < G.2.2.2) (ha : Φ a = some (.inl (G.2.1 0, n1, .inl g))) (hna : G.2.2.2 ≤ a)
    {sp dp n : Int32} (h1 : ¬ sp < 0) (h2 : ¬ dp < 0) (h3 : ¬ n < 0) (h4 : sp.toNatClampNeg + n.toNatClampNeg ≤ n0) (h5 : dp.toNatClampNeg + n.toNatClampNeg ≤ n1) (hfit : ∀ i, i < n.toNatClampNeg → fits .int (.int (f (sp.toNatClampNeg + i))) = true)
    (hframes : 1 ≤ R.frames) (hlocals : (rest.map fun v => v.category).sum + (nativeFrameWords "java/lang/System" "arraycopy" 5 + 11) ≤ R.locals) (hdg : decode cc pc = .ok (.invokestatic index, 3))
    (kk : ∀ Φ1 : Hm, Φ1 = fset Φ a (.inl (G.2.1 0, n1, .inl (va_cpy f g sp.toNatClampNeg dp.toNatClampNeg n.toNatClampNeg))) → Z p l e R s m args below meth c Q G nL (pc + 3) lv rest Φ1 sz cells slots) : Z p l e R s m args below meth c Q G nL pc lv (.int n :: .int dp :: .ref a :: .int sp :: .ref a0 :: rest) Φ sz cells slots := by
  intro H locs ls hl hP hS
  have nn : ∀ z : Int32, ¬ z < 0 → z.toInt = (z.toNatClampNeg : Int) := by
    intro z hz
    have hz0 : (0 : Int) ≤ z.toInt := by
      have := Int32.not_lt.mp hz
      simpa using Int32.le_iff_toInt_le.mp this
    show z.toInt = ((z.toInt.toNat : Nat) : Int)
    omega
  intro T hT X
  obtain ⟨scr, hs1, hs2, hs3, hs4, hs5⟩ := hX
  have hc0 : H[a0]? = some scr := by rw [hS.2.1 a0 (Array.getElem?_eq_some_iff.mp hs1).1 (Nat.not_le.mpr ha0)]; exact hs1
  have hc1 : H[a]? = some (vp_cell (G.2.1 0) (n1, .inl g)) := hP.2 _ _ ha
  obtain ⟨hns, k0, hk0, cm0, hkk0⟩ := hs2
  obtain ⟨-, k1, hk1, cm1, hkk1⟩ := (B.2.2.2.2.1.1.2 0 _ rfl).1 n1 (fun j => .int (g j))
  obtain ⟨vm', X', step⟩ := X.arraycopy B.1.1 B.1.2.2.2.1 (B.1.2.2.2.2 _ h6) (B.1.2.2.2.2 _ h7) (B.1.2.2.2.2 _ h8) (B.1.2.2.2.2 _ h9) (src := a0) (dst := a) (cs := scr) (cd := vp_cell (G.2.1 0) (n1, .inl g)) (srcPos := sp) (destPos := dp) (n := n) (by rw [hT]; exact hc0) (by rw [hT]; exact hc1)
    hns (fun _ h => by cases h) hs3 (fun h => by cases h) hk0 hk1 hkk0 hkk1 (by simp) h1 h2 h3
    (by rw [nn sp h1, nn n h3]; rw [hs4]; omega)
    (by rw [nn dp h2, nn n h3]; show ¬ _ > ((arrV (G.2.1 0) n1 (fun j => .int (g j))).slots.size : Int); rw [arrV_size]; omega)
    (fun vm₁ _ i hi => by
      have e : scr.slots.getD (sp.toNatClampNeg + i) .null = .int (f (sp.toNatClampNeg + i)) := by
        rw [Array.getD_eq_getD_getElem?, hs5 _ (by omega)]
        rfl
      refine ⟨?_, ?_⟩
      · rw [e]
        exact hfit i hi
      · rw [e]
        exact trivial)
    (g := F0 m pc ls (.int n :: .int dp :: .ref a :: .int sp :: .ref a0 :: rest)) rfl (by rw [B.1.2.2.1]; exact hl.1) (rest := rest) rfl (by rw [B.1.2.1]; exact hdg) hframes (by show 2 * 0 + _ + _ ≤ _; omega)
  have e1 : copied scr (vp_cell (G.2.1 0) (n1, .inl g)) sp dp n = vp_cell (G.2.1 0) (n1, .inl (va_cpy f g sp.toNatClampNeg dp.toNatClampNeg n.toNatClampNeg)) := by
    have e0 : copied (vp_cell (G.2.1 0) (n0, .inl f)) (vp_cell (G.2.1 0) (n1, .inl g)) sp dp n = vp_cell (G.2.1 0) (n1, .inl (va_cpy f g sp.toNatClampNeg dp.toNatClampNeg n.toNatClampNeg)) := va_copied (fun z => .int z) (G.2.1 0) (G.2.1 0) f g h4
    rw [← e0]
    have e2 : scr.stretch sp.toNatClampNeg n.toNatClampNeg = (vp_cell (G.2.1 0) (n0, .inl f)).stretch sp.toNatClampNeg n.toNatClampNeg := by
      unfold Cell.stretch
      apply List.map_congr_left
      intro i hi
      have hi' := List.mem_range.mp hi
      rw [Array.getD_eq_getD_getElem?, hs5 _ (by omega)]
      show _ = (arrV (G.2.1 0) n0 (fun j => .int (f j))).slots.getD _ _
      rw [Array.getD_eq_getD_getElem?, arrV_read _ _ (by omega)]
    unfold copied
    rw [e2]
  rw [e1] at X' step
  have hlz : a < H.size := (Array.getElem?_eq_some_iff.mp hc1).1
  have hheap : ((T.setVm vm').setCell a (vp_cell (G.2.1 0) (n1, .inl (va_cpy f g sp.toNatClampNeg dp.toNatClampNeg n.toNatClampNeg)))).heap = H.setIfInBounds a (vp_cell (G.2.1 0) (n1, .inl (va_cpy f g sp.toNatClampNeg dp.toNatClampNeg n.toNatClampNeg))) := by rw [← hT]; rfl
  have oq : ∀ q : Nat, q ≠ a → (H.setIfInBounds a (vp_cell (G.2.1 0) (n1, .inl (va_cpy f g sp.toNatClampNeg dp.toNatClampNeg n.toNatClampNeg))))[q]? = H[q]? := fun q hq => by simp [Array.getElem?_setIfInBounds, Ne.symm hq]
  obtain ⟨tt, a1, b1⟩ := kk _ rfl _ _ ls hl (hP.put (show (H.setIfInBounds a _)[a]? = some _ by simp [Array.getElem?_setIfInBounds, hlz]) (by simp) oq) ⟨by simp; exact hS.1, fun q g1 g2 => by
      rw [oq q (fun e => g2 (by rw [e]; exact hna))]
      exact hS.2.1 q g1 g2, fun q hq => by
      rcases List.mem_append.mp hq with h | h
      · exact hS.2.2 q h
      · obtain ⟨z, -, hz⟩ := List.mem_map.mp h
        rw [← hz]
        exact hna⟩ _ hheap X'
  exact ⟨tt, step tt a1, b1⟩
theorem z_lcmp (B : Bd p s m args meth c G cc nL own ws ret nm) {x y : Int64} (hdg : decode cc pc = .ok (.lcmp, 1)) (kk : Z p l e R s m args below meth c Q G nL (pc + 1) lv (.int (lg_cmp x y) :: rest) Φ sz cells slots) : Z p l e R s m args below meth c Q G nL pc lv (.long y :: .long x :: rest) Φ sz cells slots := fun H locs ls hl hP hS => W.lcmp B.1.1 B.1.2.1 hdg (kk H locs ls hl hP hS)
theorem z_top {st st1 : List Value} (h : st = st1) (kk : Z p l e R s m args below meth c Q G nL pc lv st1 Φ sz cells slots) : Z p l e R s m args below meth c Q G nL pc lv st Φ sz cells slots := by rw [h]; exact kk
end ZR

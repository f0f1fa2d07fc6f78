/-! THE CLAIM OUT OF ONE WALK OF THE LAW'S BODY. Your part is whole_start (and what it stands on); all else here is the same for every law, but numbers. -/
def R_law : String := "FlowExporterLaw"
def lw_P (b : Addr) (xs : List Int32) (args : Array Value) (s : State) : Prop := args = #[.ref b] ∧ s.IntsAt b xs ∧ xs.length ≤ 7 ∧ (Jvm.Cond.and given_1 narrow_1).before args s = true
/-- what a walk over the start with the record d0 says of its end, said of the start itself -/
theorem lw_closed {s t : State} {o : Outcome} {d0 : Drawn} {L : List Loc} {k n : Nat} (hd0 : s.drawn.sameBut d0 lw_cs) (hv : ∃ v, o = .returned v) (hW : (s.setDrawn d0).WarmedH t.vm) (hs : (s.setDrawn d0).sameButNew ({ t with vm := s.vm } : State) L k n) : State.butDraws s t lw_cs (fun t1 => Framed s o t1 L k n) := by
  have h2 : t.drawn = d0 := congrArg State.drawn hs.1
  refine ⟨⟨hv, hW, State.sameButNew.setDrawn hs s.drawn⟩, ?_, by decide⟩
  rw [h2]
  exact hd0
def lw_Q (_ : Array Value) (s : State) (o : Outcome) (t : State) : Prop := o = .returned (some (.int 1)) ∧ State.butDraws s t lw_cs (fun t1 => Framed s o t1 [] 600006 7302048)
def lw_Z (below : List Frame) (a : Array Value) (s : State) : State → Prop := fun t => ∃ o, t.status = .running ∧ Ended t below o ∧ lw_Q a s o t
/-- the law's own end, with 1 on the stack, nothing written that was there before, its room as the claim has it; d0: the record of draws at this point (at the entry s.drawn: begin with 'refine W.base ?_' and 'have hd0 := Drawn.sameBut.refl s.drawn lw_cs') -/
theorem lw_ret {p : Program} {l : Launch} {e : Env} {s : State} {m : MethodId} {below : List Frame} {meth : Method} {c : Code} {b : Nat} {d0 : Drawn} (hd0 : s.drawn.sameBut d0 lw_cs) (hx : p.tables.exec = Jvm.exec) (hb : c.code = code) (hr : meth.sig.returnType = ret) (hlocks : meth.locks = false) {pc : Nat} {H : Heap} {ls : Array Slot} (hdg : decode code pc = .ok (.ireturn, 1)) : W p l e room_1 (s.setDrawn d0) m #[Value.ref b] below meth c H [] 600006 7302048 (lw_Z below #[Value.ref b] s) (F0 m pc ls [.int 1]) := by
  intro T hT X
  obtain ⟨fs, hret, hrun, hended, hW, hframe⟩ := X.leave (v := some (.int 1)) (hlocks := hlocks) (fun h => by rw [hr] at h; cases h)
  have hmeth' : T.vm.method? m = some meth := X.method'
  refine ⟨T.setFrames fs, ?_, .returned (some (.int 1)), hrun, hended, rfl, lw_closed hd0 ⟨_, rfl⟩ hW hframe⟩
  jvm_step X.here [X.here.top, hx, hb, hdg, hmeth', hr, ret, narrow_b1]
  (try refine ⟨rfl, ?_⟩); (try refine ⟨rfl, ?_⟩)
  first | (intro acts; rw [hret _ acts rfl rfl rfl]) | rw [hret _ _ rfl rfl rfl]
  exact Steps.refl _
/-- what holds at the law's entry: the machine, the code, the tables' words (any of lw_tbl by 'hts w (by decide +kernel)'), the script of L ints xs at the cell b, what the Statement gives of the start (any of its parts by flat_of_before) -/
def lw_At (p : Program) (s : State) (m : MethodId) (meth : Method) (c : Code) (b L : Nat) (xs : Nat → Int32) : Prop :=
  p.tables.exec = Jvm.exec ∧ c.code = code ∧ meth.sig.returnType = ret ∧ c.maxLocals = 9 ∧ s.vm.findClass R_law = some m.cls ∧ (∀ w ∈ lw_tbl, w.before #[Value.ref b] s = true) ∧ va_X b L xs s s.heap ∧ b < s.heap.size ∧ meth.locks = false ∧ (Jvm.Cond.and given_1 narrow_1).before #[Value.ref b] s = true
set_option maxHeartbeats 4000000 in
set_option maxRecDepth 100000 in
theorem law_sw {p9 : Program} {e9 : Env} {s9 : State} {m9 : MethodId} {a9 : Array Value} {w9 : List Frame} {t9 : Method} {k9 : Code} {Q9 : State → Prop} {nm9 : String} (G : EnvG) (l : Launch) (hl9 : l.stackTraces = false) (B : Bd p9 s9 m9 a9 t9 k9 G code 9 RL wsL_law ret nm9) (Φ : Hm) (sz : Nat) (b : Nat) (xs : Nat → Int32) (hX : va_X b 7 xs s9 s9.heap) (hbn : b < G.2.2.2) (x y o d : Nat) (go : Nat → Int64) (gd : Nat → UInt64) (hna : G.2.2.2 ≤ x) (hxy : x + 149 ≤ y) (hyo : y + 26 ≤ o) (hyd : y + 26 ≤ d) (hod : o ≠ d) (hx_0 : Φ x = some (o_ 13 [.ref (x + 1), .ref (x + 3), .ref (x + 24), .ref (x + 46), .ref (x + 74), .ref (x + 80), .ref (x + 132), .ref (x + 121)])) (hx_1 : Φ (x + 1) = some (o_ 7 [.ref (x + 2), .int 0])) (hx_2 : Φ (x + 2) = some (ab_ G 700 (fun _ => 0))) (hx_3 : Φ (x + 3) = some (o_ 3 [.ref (x + 4), .ref (x + 5), .ref (x + 6), .ref (x + 7), .int 1, .int 511])) (hx_4 : Φ (x + 4) = some (ai_ G 9 usT)) (hx_5 : Φ (x + 5) = some (ai_ G 256 (fun _ => 0))) (hx_6 : Φ (x + 6) = some (aq_ G 4 4 (va_up (va_up (va_up (va_up (fun _ => none) (0 : Int32).toNatClampNeg (some (x + 8))) (1 : Int32).toNatClampNeg (some (x + 12))) (2 : Int32).toNatClampNeg (some (x + 16))) (3 : Int32).toNatClampNeg (some (x + 20))))) (hx_7 : Φ (x + 7) = some (aq_ G 4 4 (va_up (va_up (va_up (va_up (fun _ => none) (0 : Int32).toNatClampNeg (some (x + 10))) (1 : Int32).toNatClampNeg (some (x + 14))) (2 : Int32).toNatClampNeg (some (x + 18))) (3 : Int32).toNatClampNeg (some (x + 22))))) (hx_8 : Φ (x + 8) = some (o_ 12 [.ref (x + 9), .int 9, .int 511, .int 29])) (hx_9 : Φ (x + 9) = some (ai_ G 9 (upd (upd (upd (upd (upd (upd (upd (upd (upd (fun _ => 0) (0 : Int32).toNatClampNeg 0) (1 : Int32).toNatClampNeg 1) (2 : Int32).toNatClampNeg 2) (3 : Int32).toNatClampNeg 3) (4 : Int32).toNatClampNeg 4) (5 : Int32).toNatClampNeg 5) (6 : Int32).toNatClampNeg 6) (7 : Int32).toNatClampNeg 7) (8 : Int32).toNatClampNeg 8))) (hx_10 : Φ (x + 10) = some (o_ 12 [.ref (x + 11), .int 9, .int 511, .int 29])) (hx_11 : Φ (x + 11) = some (ai_ G 9 (upd (upd (upd (upd (upd (upd (upd (upd (upd (fun _ => 0) (0 : Int32).toNatClampNeg 0) (1 : Int32).toNatClampNeg 1) (2 : Int32).toNatClampNeg 2) (3 : Int32).toNatClampNeg 3) (4 : Int32).toNatClampNeg 4) (5 : Int32).toNatClampNeg 5) (6 : Int32).toNatClampNeg 6) (7 : Int32).toNatClampNeg 7) (8 : Int32).toNatClampNeg 8))) (hx_12 : Φ (x + 12) = some (o_ 12 [.ref (x + 13), .int 0, .int 0, .int 0])) (hx_14 : Φ (x + 14) = some (o_ 12 [.ref (x + 15), .int 0, .int 0, .int 0])) (hx_16 : Φ (x + 16) = some (o_ 12 [.ref (x + 17), .int 0, .int 0, .int 0])) (hx_18 : Φ (x + 18) = some (o_ 12 [.ref (x + 19), .int 0, .int 0, .int 0])) (hx_20 : Φ (x + 20) = some (o_ 12 [.ref (x + 21), .int 0, .int 0, .int 0])) (hx_22 : Φ (x + 22) = some (o_ 12 [.ref (x + 23), .int 0, .int 0, .int 0])) (hx_24 : Φ (x + 24) = some (o_ 8 [.ref (x + 25), .int 0, .int (-1), .ref (x + 1), .int 0, .int 0, .int 0, .int 0])) (hx_25 : Φ (x + 25) = some (o_ 3 [.ref (x + 26), .ref (x + 27), .ref (x + 28), .ref (x + 29), .int 1, .int 511])) (hx_26 : Φ (x + 26) = some (ai_ G 9 usT)) (hx_27 : Φ (x + 27) = some (ai_ G 256 (fun _ => 0))) (hx_28 : Φ (x + 28) = some (aq_ G 4 4 (va_up (va_up (va_up (va_up (fun _ => none) (0 : Int32).toNatClampNeg (some (x + 30))) (1 : Int32).toNatClampNeg (some (x + 34))) (2 : Int32).toNatClampNeg (some (x + 38))) (3 : Int32).toNatClampNeg (some (x + 42))))) (hx_30 : Φ (x + 30) = some (o_ 12 [.ref (x + 31), .int 9, .int 511, .int 29])) (hx_31 : Φ (x + 31) = some (ai_ G 9 (upd (upd (upd (upd (upd (upd (upd (upd (upd (fun _ => 0) (0 : Int32).toNatClampNeg 0) (1 : Int32).toNatClampNeg 1) (2 : Int32).toNatClampNeg 2) (3 : Int32).toNatClampNeg 3) (4 : Int32).toNatClampNeg 4) (5 : Int32).toNatClampNeg 5) (6 : Int32).toNatClampNeg 6) (7 : Int32).toNatClampNeg 7) (8 : Int32).toNatClampNeg 8))) (hx_34 : Φ (x + 34) = some (o_ 12 [.ref (x + 35), .int 0, .int 0, .int 0])) (hx_38 : Φ (x + 38) = some (o_ 12 [.ref (x + 39), .int 0, .int 0, .int 0])) (hx_42 : Φ (x + 42) = some (o_ 12 [.ref (x + 43), .int 0, .int 0, .int 0])) (hx_46 : Φ (x + 46) = some (o_ 9 [.ref (x + 47), .int 0, .int 0])) (hx_74 : Φ (x + 74) = some (o_ 10 [.ref (x + 3), .ref (x + 46), .ref (x + 75), .ref (x + 77), .int 0, .ref (x + 78), .ref (x + 79), .int 0, .long 0, .int 0])) (hx_75 : Φ (x + 75) = some (o_ 7 [.ref (x + 76), .int 0])) (hx_78 : Φ (x + 78) = some (ai_ G 4 (fun _ => 0))) (hx_80 : Φ (x + 80) = some (o_ 4 [.ref (x + 3), .ref (x + 74), .ref (x + 81), .ref (x + 95), .int 0, .int 1, .int 1, .int 0, .int 0, .int 0, .long 0, .long 0, .long 0])) (hx_81 : Φ (x + 81) = some (o_ 6 [.ref (x + 82), .int 0])) (hx_82 : Φ (x + 82) = some (aq_ G 5 12 (va_up (va_up (va_up (va_up (va_up (va_up (va_up (va_up (va_up (va_up (va_up (va_up (fun _ => none) (0 : Int32).toNatClampNeg (some (x + 83))) (1 : Int32).toNatClampNeg (some (x + 84))) (2 : Int32).toNatClampNeg (some (x + 85))) (3 : Int32).toNatClampNeg (some (x + 86))) (4 : Int32).toNatClampNeg (some (x + 87))) (5 : Int32).toNatClampNeg (some (x + 88))) (6 : Int32).toNatClampNeg (some (x + 89))) (7 : Int32).toNatClampNeg (some (x + 90))) (8 : Int32).toNatClampNeg (some (x + 91))) (9 : Int32).toNatClampNeg (some (x + 92))) (10 : Int32).toNatClampNeg (some (x + 93))) (11 : Int32).toNatClampNeg (some (x + 94))))) (hx_83 : Φ (x + 83) = some (o_ 5 [.long 0, .long 0, .long 0, .int 0, .int 0])) (hx_95 : Φ (x + 95) = some (o_ 6 [.ref (x + 96), .int 0])) (hx_96 : Φ (x + 96) = some (aq_ G 5 24 (va_up (va_up (va_up (va_up (va_up (va_up (va_up (va_up (va_up (va_up (va_up (va_up (va_up (va_up (va_up (va_up (va_up (va_up (va_up (va_up (va_up (va_up (va_up (va_up (fun _ => none) (0 : Int32).toNatClampNeg (some (x + 97))) (1 : Int32).toNatClampNeg (some (x + 98))) (2 : Int32).toNatClampNeg (some (x + 99))) (3 : Int32).toNatClampNeg (some (x + 100))) (4 : Int32).toNatClampNeg (some (x + 101))) (5 : Int32).toNatClampNeg (some (x + 102))) (6 : Int32).toNatClampNeg (some (x + 103))) (7 : Int32).toNatClampNeg (some (x + 104))) (8 : Int32).toNatClampNeg (some (x + 105))) (9 : Int32).toNatClampNeg (some (x + 106))) (10 : Int32).toNatClampNeg (some (x + 107))) (11 : Int32).toNatClampNeg (some (x + 108))) (12 : Int32).toNatClampNeg (some (x + 109))) (13 : Int32).toNatClampNeg (some (x + 110))) (14 : Int32).toNatClampNeg (some (x + 111))) (15 : Int32).toNatClampNeg (some (x + 112))) (16 : Int32).toNatClampNeg (some (x + 113))) (17 : Int32).toNatClampNeg (some (x + 114))) (18 : Int32).toNatClampNeg (some (x + 115))) (19 : Int32).toNatClampNeg (some (x + 116))) (20 : Int32).toNatClampNeg (some (x + 117))) (21 : Int32).toNatClampNeg (some (x + 118))) (22 : Int32).toNatClampNeg (some (x + 119))) (23 : Int32).toNatClampNeg (some (x + 120))))) (hx_97 : Φ (x + 97) = some (o_ 5 [.long 0, .long 0, .long 0, .int 0, .int 0])) (hx_121 : Φ (x + 121) = some (o_ 11 [.ref (x + 122), .ref (x + 123), .ref (x + 126), .ref (x + 129), .int 0])) (hx_132 : Φ (x + 132) = some (o_ 2 [.ref (x + 3), .ref (x + 121), .ref (x + 133), .ref (x + 134), .ref (x + 135), .ref (x + 137), .ref (x + 138), .ref (x + 139), .ref (x + 140), .int 0, .int 0, .int 0])) (hx_133 : Φ (x + 133) = some (aq_ G 4 4 (va_up (va_up (va_up (va_up (fun _ => none) (0 : Int32).toNatClampNeg (some (x + 141))) (1 : Int32).toNatClampNeg (some (x + 143))) (2 : Int32).toNatClampNeg (some (x + 145))) (3 : Int32).toNatClampNeg (some (x + 147))))) (hx_139 : Φ (x + 139) = some (al_ G 9 (fun _ => 0))) (hx_141 : Φ (x + 141) = some (o_ 12 [.ref (x + 142), .int 0, .int 0, .int 0])) (hx_143 : Φ (x + 143) = some (o_ 12 [.ref (x + 144), .int 0, .int 0, .int 0])) (hx_145 : Φ (x + 145) = some (o_ 12 [.ref (x + 146), .int 0, .int 0, .int 0])) (hx_147 : Φ (x + 147) = some (o_ 12 [.ref (x + 148), .int 0, .int 0, .int 0])) (hy_0 : Φ y = some (o_ 14 [.int 0, .ref (y + 1), .ref (y + 2), .int 0, .int 1, .int 1, .int 0, .int 0, .ref (y + 3), .ref (y + 4), .int 0, .long 0, .ref (y + 5), .int 0, .int 0, .long 0, .long 0, .long 0, .long 0, .ref (y + 6), .ref (y + 7), .int 0, .ref (y + 8), .int 0, .ref (y + 9), .ref (y + 10), .int 0, .ref (y + 11), .ref (y + 12), .ref (y + 13), .ref (y + 14), .ref (y + 15), .ref (y + 16), .int 0, .long (-1), .ref (y + 17), .ref (y + 18), .ref (y + 19), .ref (y + 20), .ref (y + 21), .ref (y + 22), .int 0, .ref (y + 23), .ref (y + 24), .int 0, .ref (y + 25), .int 0, .int 0, .int 0, .int (-1), .int 0, .int 0, .int 0, .long 0])) (hy_1 : Φ (y + 1) = some (ai_ G 307 (upd (upd (upd (upd (upd (upd (upd (upd (upd (upd (upd (upd (upd (upd (upd (upd (upd (upd (upd (upd (upd (fun _ => 0) (0 : Int32).toNatClampNeg 1) (1 : Int32).toNatClampNeg 100) (2 : Int32).toNatClampNeg 1000) (3 : Int32).toNatClampNeg 100) (4 : Int32).toNatClampNeg 20) (5 : Int32).toNatClampNeg 1000) (6 : Int32).toNatClampNeg 5000) (7 : Int32).toNatClampNeg 512) (8 : Int32).toNatClampNeg 1) (9 : Int32).toNatClampNeg 511) (10 : Int32).toNatClampNeg 1) (11 : Int32).toNatClampNeg 9) (15 : Int32).toNatClampNeg 0) (16 : Int32).toNatClampNeg 1) (17 : Int32).toNatClampNeg 2) (18 : Int32).toNatClampNeg 3) (19 : Int32).toNatClampNeg 4) (20 : Int32).toNatClampNeg 5) (21 : Int32).toNatClampNeg 6) (22 : Int32).toNatClampNeg 7) (23 : Int32).toNatClampNeg 8))) (hy_2 : Φ (y + 2) = some (ai_ G 307 (upd (upd (upd (upd (upd (upd (upd (upd (upd (upd (upd (upd (upd (upd (upd (upd (upd (upd (upd (upd (upd (fun _ => 0) (0 : Int32).toNatClampNeg 1) (1 : Int32).toNatClampNeg 100) (2 : Int32).toNatClampNeg 1000) (3 : Int32).toNatClampNeg 100) (4 : Int32).toNatClampNeg 20) (5 : Int32).toNatClampNeg 1000) (6 : Int32).toNatClampNeg 5000) (7 : Int32).toNatClampNeg 512) (8 : Int32).toNatClampNeg 1) (9 : Int32).toNatClampNeg 511) (10 : Int32).toNatClampNeg 1) (11 : Int32).toNatClampNeg 9) (15 : Int32).toNatClampNeg 0) (16 : Int32).toNatClampNeg 1) (17 : Int32).toNatClampNeg 2) (18 : Int32).toNatClampNeg 3) (19 : Int32).toNatClampNeg 4) (20 : Int32).toNatClampNeg 5) (21 : Int32).toNatClampNeg 6) (22 : Int32).toNatClampNeg 7) (23 : Int32).toNatClampNeg 8))) (hy_3 : Φ (y + 3) = some (ai_ G 4 (upd (upd (upd (upd (fun _ => 0) (0 : Int32).toNatClampNeg (-1)) (1 : Int32).toNatClampNeg (-1)) (2 : Int32).toNatClampNeg (-1)) (3 : Int32).toNatClampNeg (-1)))) (hy_5 : Φ (y + 5) = some (al_ G 96 (fun _ => 0))) (hy_11 : Φ (y + 11) = some (al_ G 9 (vp_updL (vp_updL (vp_updL (vp_updL (vp_updL (vp_updL (vp_updL (vp_updL (vp_updL (fun _ => 0) (0 : Int32).toNatClampNeg 0) (1 : Int32).toNatClampNeg 0) (2 : Int32).toNatClampNeg 0) (3 : Int32).toNatClampNeg 0) (4 : Int32).toNatClampNeg 0) (5 : Int32).toNatClampNeg 0) (6 : Int32).toNatClampNeg 0) (7 : Int32).toNatClampNeg 0) (8 : Int32).toNatClampNeg 0))) (hy_12 : Φ (y + 12) = some (ai_ G 4 (upd (upd (upd (upd (fun _ => 0) (0 : Int32).toNatClampNeg 0) (1 : Int32).toNatClampNeg 0) (2 : Int32).toNatClampNeg 0) (3 : Int32).toNatClampNeg 0))) (hy_23 : Φ (y + 23) = some (ai_ G 96 (fun _ => 0))) (hy_24 : Φ (y + 24) = some (al_ G 48 (fun _ => 0))) (hy_25 : Φ (y + 25) = some (ab_ G 700 (fun _ => 0))) (hco : Φ o = some (al_ G 1 go)) (hcd : Φ d = some (ad_ G 1 gd)) (hT : ∀ (Φ1 : Hm) (sz1 : Nat), Z p9 l e9 room_1 s9 m9 a9 w9 t9 k9 Q9 G 9 2893 [(5, .int 0), (4, .ref d), (3, .ref o), (2, .ref y), (1, .ref x), (0, .ref b)] [] Φ1 sz1 178 20844) : Z p9 l e9 room_1 s9 m9 a9 w9 t9 k9 Q9 G 9 45 [(5, .int 0), (4, .ref d), (3, .ref o), (2, .ref y), (1, .ref x), (0, .ref b)] [.int (xs 0 &&& 63)] Φ sz 177 20838 := by
  obtain ⟨k, hk, he⟩ := sw_get (xs 0)
  rw [he]
  rcases (show k = 0 ∨ k = 1 ∨ k = 2 ∨ k = 3 ∨ k = 4 ∨ k = 5 ∨ k = 6 ∨ k = 7 ∨ k = 8 ∨ k = 9 ∨ k = 10 ∨ k = 11 ∨ k = 12 ∨ k = 13 ∨ k = 14 ∨ k = 15 ∨ k = 16 ∨ k = 17 ∨ k = 18 ∨ k = 19 ∨ k = 20 ∨ k = 21 ∨ k = 22 ∨ k = 23 ∨ k = 24 ∨ k = 25 ∨ k = 26 ∨ k = 27 ∨ k = 28 ∨ k = 29 ∨ k = 30 ∨ k = 31 ∨ k = 32 ∨ k = 33 ∨ k = 34 ∨ k = 35 ∨ k = 36 ∨ k = 37 ∨ k = 38 ∨ k = 39 ∨ k = 40 ∨ k = 41 ∨ k = 42 ∨ k = 43 ∨ k = 44 ∨ k = 45 ∨ k = 46 ∨ k = 47 ∨ k = 48 ∨ k = 49 ∨ k = 50 ∨ k = 51 ∨ k = 52 ∨ k = 53 ∨ k = 54 ∨ k = 55 ∨ k = 56 ∨ k = 57 ∨ k = 58 ∨ k = 59 ∨ k = 60 ∨ k = 61 ∨ k = 62 ∨ k = 63 by omega) with rfl | rfl | rfl | rfl | rfl | rfl | rfl | rfl | rfl | rfl | rfl | rfl | rfl | rfl | rfl | rfl | rfl | rfl | rfl | rfl | rfl | rfl | rfl | rfl | rfl | rfl | rfl | rfl | rfl | rfl | rfl | rfl | rfl | rfl | rfl | rfl | rfl | rfl | rfl | rfl | rfl | rfl | rfl | rfl | rfl | rfl | rfl | rfl | rfl | rfl | rfl | rfl | rfl | rfl | rfl | rfl | rfl | rfl | rfl | rfl | rfl | rfl | rfl | rfl
  · refine z_tableIn (off := 251) (tgt := 296) B dL_law_45 (by decide) (by decide) (by decide) rfl ?_
    exact ld_0 G l hl9 B Φ sz b xs hX hbn x y o d go gd hna hxy hyo hyd hod hx_0 hx_1 hx_2 hy_0 hy_25 hT
  · refine z_tableIn (off := 324) (tgt := 369) B dL_law_45 (by decide) (by decide) (by decide) rfl ?_
    exact ld_1 G l hl9 B Φ sz b xs hX hbn x y o d go gd hna hxy hyo hyd hod hx_0 hx_1 hy_0 hT
  · refine z_tableIn (off := 349) (tgt := 394) B dL_law_45 (by decide) (by decide) (by decide) rfl ?_
    exact ld_2 G l hl9 B Φ sz b xs hX hbn x y o d go gd hna hxy hyo hyd hod hx_0 hx_1 hx_3 hx_4 hx_5 hx_6 hx_7 hx_8 hx_9 hx_10 hx_11 hx_12 hx_14 hx_16 hx_18 hx_20 hx_22 hx_24 hx_25 hx_26 hx_27 hx_28 hx_30 hx_31 hx_34 hx_38 hx_42 hx_46 hx_74 hx_75 hx_78 hx_80 hx_81 hx_95 hx_121 hx_132 hx_133 hx_139 hx_141 hx_143 hx_145 hx_147 hy_0 hy_1 hy_2 hy_3 hy_11 hy_12 hT
  · refine z_tableIn (off := 362) (tgt := 407) B dL_law_45 (by decide) (by decide) (by decide) rfl ?_
    exact ld_3 G l hl9 B Φ sz b xs hX hbn x y o d go gd hna hxy hyo hyd hod hx_0 hx_24 hy_0 hT
  · refine z_tableIn (off := 375) (tgt := 420) B dL_law_45 (by decide) (by decide) (by decide) rfl ?_
    exact ld_4 G l hl9 B Φ sz b xs hX hbn x y o d go gd hna hxy hyo hyd hod hx_0 hx_24 hy_0 hT
  · refine z_tableIn (off := 388) (tgt := 433) B dL_law_45 (by decide) (by decide) (by decide) rfl ?_
    exact ld_5 G l hl9 B Φ sz b xs hX hbn x y o d go gd hna hxy hyo hyd hod hx_0 hx_80 hy_0 hT
  · refine z_tableIn (off := 401) (tgt := 446) B dL_law_45 (by decide) (by decide) (by decide) rfl ?_
    exact ld_6 G l hl9 B Φ sz b xs hX hbn x y o d go gd hna hxy hyo hyd hod hx_0 hx_74 hx_80 hx_81 hx_82 hx_83 hx_95 hx_96 hx_97 hy_0 hy_5 hy_23 hy_24 hco hT
  · refine z_tableIn (off := 512) (tgt := 557) B dL_law_45 (by decide) (by decide) (by decide) rfl ?_
    exact ld_7 G l hl9 B Φ sz b xs hX hbn x y o d go gd hna hxy hyo hyd hod hx_0 hx_74 hx_80 hx_81 hx_82 hx_83 hx_95 hx_96 hx_97 hy_0 hy_5 hy_23 hy_24 hco hT
  · refine z_tableIn (off := 630) (tgt := 675) B dL_law_45 (by decide) (by decide) (by decide) rfl ?_
    exact ld_8 G l hl9 B Φ sz b xs hX hbn x y o d go gd hna hxy hyo hyd hod hx_0 hx_3 hx_4 hx_74 hx_80 hx_81 hy_0 hco hT
  · refine z_tableIn (off := 686) (tgt := 731) B dL_law_45 (by decide) (by decide) (by decide) rfl ?_
    exact ld_9 G l hl9 B Φ sz b xs hX hbn x y o d go gd hna hxy hyo hyd hod hx_0 hx_74 hx_80 hx_81 hy_0 hT
  · refine z_tableIn (off := 699) (tgt := 744) B dL_law_45 (by decide) (by decide) (by decide) rfl ?_
    exact ld_10 G l hl9 B Φ sz b xs hX hbn x y o d go gd hna hxy hyo hyd hod hx_0 hx_80 hx_81 hy_0 hT
  · refine z_tableIn (off := 712) (tgt := 757) B dL_law_45 (by decide) (by decide) (by decide) rfl ?_
    exact ld_11 G l hl9 B Φ sz b xs hX hbn x y o d go gd hna hxy hyo hyd hod hx_0 hx_80 hx_81 hy_0 hT
  · refine z_tableIn (off := 779) (tgt := 824) B dL_law_45 (by decide) (by decide) (by decide) rfl ?_
    exact ld_12 G l hl9 B Φ sz b xs hX hbn x y o d go gd hna hxy hyo hyd hod hx_0 hx_80 hy_0 hT
  · refine z_tableIn (off := 792) (tgt := 837) B dL_law_45 (by decide) (by decide) (by decide) rfl ?_
    exact ld_13 G l hl9 B Φ sz b xs hX hbn x y o d go gd hna hxy hyo hyd hod hx_0 hx_80 hy_0 hT
  · refine z_tableIn (off := 805) (tgt := 850) B dL_law_45 (by decide) (by decide) (by decide) rfl ?_
    exact ld_14 G l hl9 B Φ sz b xs hX hbn x y o d go gd hna hxy hyo hyd hod hx_0 hx_74 hx_80 hx_81 hy_0 hT
  · refine z_tableIn (off := 830) (tgt := 875) B dL_law_45 (by decide) (by decide) (by decide) rfl ?_
    exact ld_15 G l hl9 B Φ sz b xs hX hbn x y o d go gd hna hxy hyo hyd hod hx_0 hx_80 hy_0 hT
  · refine z_tableIn (off := 871) (tgt := 916) B dL_law_45 (by decide) (by decide) (by decide) rfl ?_
    exact ld_16 G l hl9 B Φ sz b xs hX hbn x y o d go gd hna hxy hyo hyd hod hx_0 hx_80 hy_0 hT
  · refine z_tableIn (off := 896) (tgt := 941) B dL_law_45 (by decide) (by decide) (by decide) rfl ?_
    exact ld_17 G l hl9 B Φ sz b xs hX hbn x y o d go gd hna hxy hyo hyd hod hx_0 hx_3 hy_0 hy_2 hT
  · refine z_tableIn (off := 909) (tgt := 954) B dL_law_45 (by decide) (by decide) (by decide) rfl ?_
    exact ld_18 G l hl9 B Φ sz b xs hX hbn x y o d go gd hna hxy hyo hyd hod hx_0 hx_3 hx_6 hx_8 hy_0 hy_2 hco hT
  · refine z_tableIn (off := 965) (tgt := 1010) B dL_law_45 (by decide) (by decide) (by decide) rfl ?_
    exact ld_19 G l hl9 B Φ sz b xs hX hbn x y o d go gd hna hxy hyo hyd hod hx_0 hx_3 hx_7 hx_10 hy_0 hy_2 hco hT
  · refine z_tableIn (off := 1021) (tgt := 1066) B dL_law_45 (by decide) (by decide) (by decide) rfl ?_
    exact ld_20 G l hl9 B Φ sz b xs hX hbn x y o d go gd hna hxy hyo hyd hod hx_0 hx_3 hx_6 hx_8 hx_9 hy_0 hy_2 hco hT
  · refine z_tableIn (off := 1089) (tgt := 1134) B dL_law_45 (by decide) (by decide) (by decide) rfl ?_
    exact ld_21 G l hl9 B Φ sz b xs hX hbn x y o d go gd hna hxy hyo hyd hod hx_0 hx_3 hx_7 hx_10 hy_0 hy_2 hco hT
  · refine z_tableIn (off := 1145) (tgt := 1190) B dL_law_45 (by decide) (by decide) (by decide) rfl ?_
    exact ld_22 G l hl9 B Φ sz b xs hX hbn x y o d go gd hna hxy hyo hyd hod hx_0 hx_3 hx_6 hx_7 hx_8 hx_9 hx_10 hx_11 hx_12 hx_14 hx_16 hx_18 hx_20 hx_22 hx_74 hx_78 hy_0 hy_2 hy_3 hco hT
  · refine z_tableIn (off := 1236) (tgt := 1281) B dL_law_45 (by decide) (by decide) (by decide) rfl ?_
    exact ld_23 G l hl9 B Φ sz b xs hX hbn x y o d go gd hna hxy hyo hyd hod hx_0 hx_74 hx_78 hy_0 hy_3 hT
  · refine z_tableIn (off := 1247) (tgt := 1292) B dL_law_45 (by decide) (by decide) (by decide) rfl ?_
    exact ld_24 G l hl9 B Φ sz b xs hX hbn x y o d go gd hna hxy hyo hyd hod hx_0 hx_3 hx_7 hx_10 hx_74 hx_78 hx_80 hy_0 hy_2 hy_3 hco hT
  · refine z_tableIn (off := 1310) (tgt := 1355) B dL_law_45 (by decide) (by decide) (by decide) rfl ?_
    exact ld_25 G l hl9 B Φ sz b xs hX hbn x y o d go gd hna hxy hyo hyd hod hx_0 hx_74 hx_75 hx_78 hx_80 hx_81 hy_0 hy_3 hT
  · refine z_tableIn (off := 1323) (tgt := 1368) B dL_law_45 (by decide) (by decide) (by decide) rfl ?_
    exact ld_26 G l hl9 B Φ sz b xs hX hbn x y o d go gd hna hxy hyo hyd hod hx_0 hx_80 hy_0 hT
  · refine z_tableIn (off := 1337) (tgt := 1382) B dL_law_45 (by decide) (by decide) (by decide) rfl ?_
    exact ld_27 G l hl9 B Φ sz b xs hX hbn x y o d go gd hna hxy hyo hyd hod hx_0 hx_80 hy_0 hT
  · refine z_tableIn (off := 1351) (tgt := 1396) B dL_law_45 (by decide) (by decide) (by decide) rfl ?_
    exact ld_28 G l hl9 B Φ sz b xs hX hbn x y o d go gd hna hxy hyo hyd hod hx_0 hx_74 hy_0 hT
  · refine z_tableIn (off := 1365) (tgt := 1410) B dL_law_45 (by decide) (by decide) (by decide) rfl ?_
    exact ld_29 G l hl9 B Φ sz b xs hX hbn x y o d go gd hna hxy hyo hyd hod hx_0 hx_80 hy_0 hT
  · refine z_tableIn (off := 1379) (tgt := 1424) B dL_law_45 (by decide) (by decide) (by decide) rfl ?_
    exact ld_30 G l hl9 B Φ sz b xs hX hbn x y o d go gd hna hxy hyo hyd hod hx_0 hx_46 hy_0 hT
  · refine z_tableIn (off := 1392) (tgt := 1437) B dL_law_45 (by decide) (by decide) (by decide) rfl ?_
    exact ld_31 G l hl9 B Φ sz b xs hX hbn x y o d go gd hna hxy hyo hyd hod hx_0 hx_74 hy_0 hT
  · refine z_tableIn (off := 1406) (tgt := 1451) B dL_law_45 (by decide) (by decide) (by decide) rfl ?_
    exact ld_32 G l hl9 B Φ sz b xs hX hbn x y o d go gd hna hxy hyo hyd hod hx_0 hx_46 hy_0 hT
  · refine z_tableIn (off := 1419) (tgt := 1464) B dL_law_45 (by decide) (by decide) (by decide) rfl ?_
    exact ld_33 G l hl9 B Φ sz b xs hX hbn x y o d go gd hna hxy hyo hyd hod hx_0 hx_46 hy_0 hT
  · refine z_tableIn (off := 1475) (tgt := 1520) B dL_law_45 (by decide) (by decide) (by decide) rfl ?_
    exact ld_34 G l hl9 B Φ sz b xs hX hbn x y o d go gd hna hxy hyo hyd hod hx_0 hx_46 hy_0 hT
  · refine z_tableIn (off := 1543) (tgt := 1588) B dL_law_45 (by decide) (by decide) (by decide) rfl ?_
    exact ld_35 G l hl9 B Φ sz b xs hX hbn x y o d go gd hna hxy hyo hyd hod hx_0 hx_46 hy_0 hT
  · refine z_tableIn (off := 1599) (tgt := 1644) B dL_law_45 (by decide) (by decide) (by decide) rfl ?_
    exact ld_36 G l hl9 B Φ sz b xs hX hbn x y o d go gd hna hxy hyo hyd hod hx_0 hx_46 hy_0 hT
  · refine z_tableIn (off := 1612) (tgt := 1657) B dL_law_45 (by decide) (by decide) (by decide) rfl ?_
    exact ld_37 G l hl9 B Φ sz b xs hX hbn x y o d go gd hna hxy hyo hyd hod hx_0 hx_46 hy_0 hT
  · refine z_tableIn (off := 1668) (tgt := 1713) B dL_law_45 (by decide) (by decide) (by decide) rfl ?_
    exact ld_38 G l hl9 B Φ sz b xs hX hbn x y o d go gd hna hxy hyo hyd hod hx_0 hx_46 hy_0 hT
  · refine z_tableIn (off := 1731) (tgt := 1776) B dL_law_45 (by decide) (by decide) (by decide) rfl ?_
    exact ld_39 G l hl9 B Φ sz b xs hX hbn x y o d go gd hna hxy hyo hyd hod hx_0 hx_46 hy_0 hT
  · refine z_tableIn (off := 1806) (tgt := 1851) B dL_law_45 (by decide) (by decide) (by decide) rfl ?_
    exact ld_40 G l hl9 B Φ sz b xs hX hbn x y o d go gd hna hxy hyo hyd hod hx_0 hx_1 hx_80 hx_132 hx_139 hy_0 hy_11 hT
  · refine z_tableIn (off := 1819) (tgt := 1864) B dL_law_45 (by decide) (by decide) (by decide) rfl ?_
    exact ld_41 G l hl9 B Φ sz b xs hX hbn x y o d go gd hna hxy hyo hyd hod hx_0 hx_80 hx_132 hx_133 hx_141 hx_143 hx_145 hx_147 hy_0 hy_12 hT
  · refine z_tableIn (off := 1832) (tgt := 1877) B dL_law_45 (by decide) (by decide) (by decide) rfl ?_
    exact ld_42 G l hl9 B Φ sz b xs hX hbn x y o d go gd hna hxy hyo hyd hod hx_0 hx_80 hx_132 hx_133 hx_141 hx_143 hx_145 hx_147 hy_0 hy_12 hco hT
  · refine z_tableIn (off := 1888) (tgt := 1933) B dL_law_45 (by decide) (by decide) (by decide) rfl ?_
    exact ld_43 G l hl9 B Φ sz b xs hX hbn x y o d go gd hna hxy hyo hyd hod hx_0 hx_132 hy_0 hT
  · refine z_tableIn (off := 1902) (tgt := 1947) B dL_law_45 (by decide) (by decide) (by decide) rfl ?_
    exact ld_44 G l hl9 B Φ sz b xs hX hbn x y o d go gd hna hxy hyo hyd hod hx_0 hx_132 hx_139 hy_0 hy_11 hco hT
  · refine z_tableIn (off := 1957) (tgt := 2002) B dL_law_45 (by decide) (by decide) (by decide) rfl ?_
    exact ld_45 G l hl9 B Φ sz b xs hX hbn x y o d go gd hna hxy hyo hyd hod hx_0 hx_132 hx_139 hy_0 hy_11 hT
  · refine z_tableIn (off := 2022) (tgt := 2067) B dL_law_45 (by decide) (by decide) (by decide) rfl ?_
    exact ld_46 G l hl9 B Φ sz b xs hX hbn x y o d go gd hna hxy hyo hyd hod hx_0 hx_132 hx_133 hx_141 hx_143 hx_145 hx_147 hy_0 hy_12 hT
  · refine z_tableIn (off := 2035) (tgt := 2080) B dL_law_45 (by decide) (by decide) (by decide) rfl ?_
    exact ld_47 G l hl9 B Φ sz b xs hX hbn x y o d go gd hna hxy hyo hyd hod hx_0 hx_121 hy_0 hT
  · refine z_tableIn (off := 2048) (tgt := 2093) B dL_law_45 (by decide) (by decide) (by decide) rfl ?_
    exact ld_48 G l hl9 B Φ sz b xs hX hbn x y o d go gd hna hxy hyo hyd hod hx_0 hx_121 hy_0 hT
  · refine z_tableIn (off := 2116) (tgt := 2161) B dL_law_45 (by decide) (by decide) (by decide) rfl ?_
    exact ld_49 G l hl9 B Φ sz b xs hX hbn x y o d go gd hna hxy hyo hyd hod hx_0 hx_121 hy_0 hT
  · refine z_tableIn (off := 2177) (tgt := 2222) B dL_law_45 (by decide) (by decide) (by decide) rfl ?_
    exact ld_50 G l hl9 B Φ sz b xs hX hbn x y o d go gd hna hxy hyo hyd hod hx_0 hx_121 hy_0 hT
  · refine z_tableIn (off := 2244) (tgt := 2289) B dL_law_45 (by decide) (by decide) (by decide) rfl ?_
    exact ld_51 G l hl9 B Φ sz b xs hX hbn x y o d go gd hna hxy hyo hyd hod hx_0 hx_121 hy_0 hT
  · refine z_tableIn (off := 2311) (tgt := 2356) B dL_law_45 (by decide) (by decide) (by decide) rfl ?_
    exact ld_52 G l hl9 B Φ sz b xs hX hbn x y o d go gd hna hxy hyo hyd hod hx_0 hx_121 hy_0 hT
  · refine z_tableIn (off := 2400) (tgt := 2445) B dL_law_45 (by decide) (by decide) (by decide) rfl ?_
    exact ld_53 G l hl9 B Φ sz b xs hX hbn x y o d go gd hna hxy hyo hyd hod hx_0 hx_121 hy_0 hT
  · refine z_tableIn (off := 2489) (tgt := 2534) B dL_law_45 (by decide) (by decide) (by decide) rfl ?_
    exact ld_54 G l hl9 B Φ sz b xs hX hbn x y o d go gd hna hxy hyo hyd hod hx_0 hx_80 hx_95 hy_0 hco hT
  · refine z_tableIn (off := 2592) (tgt := 2637) B dL_law_45 (by decide) (by decide) (by decide) rfl ?_
    exact ld_55 G l hl9 B Φ sz b xs hX hbn x y o d go gd hna hxy hyo hyd hod hx_0 hx_121 hy_0 hco hT
  · refine z_tableIn (off := 2648) (tgt := 2693) B dL_law_45 (by decide) (by decide) (by decide) rfl ?_
    exact ld_56 G l hl9 B Φ sz b xs hX hbn x y o d go gd hna hxy hyo hyd hod hx_0 hx_121 hy_0 hco hT
  · refine z_tableIn (off := 2703) (tgt := 2748) B dL_law_45 (by decide) (by decide) (by decide) rfl ?_
    exact ld_57 G l hl9 B Φ sz b xs hX hbn x y o d go gd hna hxy hyo hyd hod hx_0 hx_121 hy_0 hcd hT
  · refine z_tableIn (off := 2780) (tgt := 2825) B dL_law_45 (by decide) (by decide) (by decide) rfl ?_
    exact ld_58 G l hl9 B Φ sz b xs hX hbn x y o d go gd hna hxy hyo hyd hod hx_0 hx_121 hy_0 hco hT
  · refine z_tableOut (tgt := 2893) B dL_law_45 (by decide) rfl ?_
    refine z_widen (k := 178) (n := 20844) (Nat.le_of_ble_eq_true rfl) (Nat.le_of_ble_eq_true rfl) ?_
    exact hT _ _
  · refine z_tableOut (tgt := 2893) B dL_law_45 (by decide) rfl ?_
    refine z_widen (k := 178) (n := 20844) (Nat.le_of_ble_eq_true rfl) (Nat.le_of_ble_eq_true rfl) ?_
    exact hT _ _
  · refine z_tableOut (tgt := 2893) B dL_law_45 (by decide) rfl ?_
    refine z_widen (k := 178) (n := 20844) (Nat.le_of_ble_eq_true rfl) (Nat.le_of_ble_eq_true rfl) ?_
    exact hT _ _
  · refine z_tableOut (tgt := 2893) B dL_law_45 (by decide) rfl ?_
    refine z_widen (k := 178) (n := 20844) (Nat.le_of_ble_eq_true rfl) (Nat.le_of_ble_eq_true rfl) ?_
    exact hT _ _
  · refine z_tableOut (tgt := 2893) B dL_law_45 (by decide) rfl ?_
    refine z_widen (k := 178) (n := 20844) (Nat.le_of_ble_eq_true rfl) (Nat.le_of_ble_eq_true rfl) ?_
    exact hT _ _

theorem z_lawret {nm9 : String} {p : Program} {l : Launch} {e : Env} {s : State} {m : MethodId} {below : List Frame} {meth : Method} {c : Code} {b : Nat} {G : EnvG} {pc : Nat} {lv : List (Nat × Value)} {Φ : Hm} {sz cells slots : Nat} (B : Bd p s m #[Value.ref b] meth c G code 9 RL wsL_law ret nm9) (hn0 : G.2.2.2 = s.heap.size) (hc : cells ≤ 600006) (hs : slots ≤ 7302048) (hdg : decode code pc = .ok (.ireturn, 1)) : Z p l e room_1 s m #[Value.ref b] below meth c (lw_Z below #[Value.ref b] s) G 9 pc lv [.int 1] Φ sz cells slots := by
  intro H locs ls hl hP hS
  refine va_forget (fun q hq => by rw [← hn0]; exact hS.2.2 q hq) ?_
  refine W.widen (k := 600006) (n := 7302048) hc hs ?_
  exact lw_ret (Drawn.sameBut.refl s.drawn lw_cs) B.1.1 B.1.2.1 B.2.1 B.2.2.1 hdg

set_option maxHeartbeats 4000000 in
set_option maxRecDepth 100000 in
theorem law_tail {p9 : Program} {e9 : Env} {s9 : State} {m9 : MethodId} {w9 : List Frame} {t9 : Method} {k9 : Code} {nm9 : String} (G : EnvG) (l : Launch) (hl9 : l.stackTraces = false) (b : Nat) (B : Bd p9 s9 m9 #[Value.ref b] t9 k9 G code 9 RL wsL_law ret nm9) (hn0 : G.2.2.2 = s9.heap.size) (xs : Nat → Int32) (hX : va_X b 7 xs s9 s9.heap) (hbn : b < G.2.2.2) (x y o d : Nat) (Φ : Hm) (sz : Nat) : Z p9 l e9 room_1 s9 m9 #[Value.ref b] w9 t9 k9 (lw_Z w9 #[Value.ref b] s9) G 9 2893 [(5, .int 0), (4, .ref d), (3, .ref o), (2, .ref y), (1, .ref x), (0, .ref b)] [] Φ sz 178 20844 := by
  refine z_iinc (k := 0) (v := 7) (lv' := [(5, .int 7), (4, .ref d), (3, .ref o), (2, .ref y), (1, .ref x), (0, .ref b)]) B dL_law_2893 rfl rfl (Nat.le_of_ble_eq_true rfl) rfl ?_
  refine z_goto (tgt := 28) B dL_law_2896 rfl ?_
  refine z_iload B dL_law_28 0 rfl ?_
  refine z_aload_n B dL_law_30 rfl 5 rfl ?_
  refine z_slen (v := 7) B hX hbn rfl dL_law_31 ?_
  refine z_bipush (v := 7) B dL_law_32 rfl ?_
  refine z_isub B dL_law_34 ?_
  refine z_top (st1 := [.int 0, .int 7]) (congrArg (fun w9 : Int32 => ([.int w9, .int 7] : List Value)) (show (7 - 7 : Int32) = 0 by decide +kernel)) ?_
  refine z_icmp_gt (tgt := 2899) B dL_law_35 rfl (fun c_1 => ?_) (fun h9 => absurd (by decide) h9)
  refine z_iconst (v := 1) B dL_law_2899 rfl ?_
  exact z_lawret B hn0 (Nat.le_of_ble_eq_true rfl) (Nat.le_of_ble_eq_true rfl) dL_law_2900

set_option maxHeartbeats 4000000 in
set_option maxRecDepth 100000 in
theorem law_head {p9 : Program} {e9 : Env} {s9 : State} {m9 : MethodId} {w9 : List Frame} {t9 : Method} {k9 : Code} {nm9 : String} (G : EnvG) (l : Launch) (hl9 : l.stackTraces = false) (b : Nat) (B : Bd p9 s9 m9 #[Value.ref b] t9 k9 G code 9 RL wsL_law ret nm9) (hn0 : G.2.2.2 = s9.heap.size) (L : Nat) (xs : Nat → Int32) (hL : L ≤ 7) (hX : va_X b L xs s9 s9.heap) (hbn : b < G.2.2.2) (x y o d : Nat) (Φ : Hm) (sz : Nat) (go : Nat → Int64) (gd : Nat → UInt64) (hna : G.2.2.2 ≤ x) (hxy : x + 149 ≤ y) (hyo : y + 26 ≤ o) (hyd : y + 26 ≤ d) (hod : o ≠ d) (hx_0 : Φ x = some (o_ 13 [.ref (x + 1), .ref (x + 3), .ref (x + 24), .ref (x + 46), .ref (x + 74), .ref (x + 80), .ref (x + 132), .ref (x + 121)])) (hx_1 : Φ (x + 1) = some (o_ 7 [.ref (x + 2), .int 0])) (hx_2 : Φ (x + 2) = some (ab_ G 700 (fun _ => 0))) (hx_3 : Φ (x + 3) = some (o_ 3 [.ref (x + 4), .ref (x + 5), .ref (x + 6), .ref (x + 7), .int 1, .int 511])) (hx_4 : Φ (x + 4) = some (ai_ G 9 usT)) (hx_5 : Φ (x + 5) = some (ai_ G 256 (fun _ => 0))) (hx_6 : Φ (x + 6) = some (aq_ G 4 4 (va_up (va_up (va_up (va_up (fun _ => none) (0 : Int32).toNatClampNeg (some (x + 8))) (1 : Int32).toNatClampNeg (some (x + 12))) (2 : Int32).toNatClampNeg (some (x + 16))) (3 : Int32).toNatClampNeg (some (x + 20))))) (hx_7 : Φ (x + 7) = some (aq_ G 4 4 (va_up (va_up (va_up (va_up (fun _ => none) (0 : Int32).toNatClampNeg (some (x + 10))) (1 : Int32).toNatClampNeg (some (x + 14))) (2 : Int32).toNatClampNeg (some (x + 18))) (3 : Int32).toNatClampNeg (some (x + 22))))) (hx_8 : Φ (x + 8) = some (o_ 12 [.ref (x + 9), .int 9, .int 511, .int 29])) (hx_9 : Φ (x + 9) = some (ai_ G 9 (upd (upd (upd (upd (upd (upd (upd (upd (upd (fun _ => 0) (0 : Int32).toNatClampNeg 0) (1 : Int32).toNatClampNeg 1) (2 : Int32).toNatClampNeg 2) (3 : Int32).toNatClampNeg 3) (4 : Int32).toNatClampNeg 4) (5 : Int32).toNatClampNeg 5) (6 : Int32).toNatClampNeg 6) (7 : Int32).toNatClampNeg 7) (8 : Int32).toNatClampNeg 8))) (hx_10 : Φ (x + 10) = some (o_ 12 [.ref (x + 11), .int 9, .int 511, .int 29])) (hx_11 : Φ (x + 11) = some (ai_ G 9 (upd (upd (upd (upd (upd (upd (upd (upd (upd (fun _ => 0) (0 : Int32).toNatClampNeg 0) (1 : Int32).toNatClampNeg 1) (2 : Int32).toNatClampNeg 2) (3 : Int32).toNatClampNeg 3) (4 : Int32).toNatClampNeg 4) (5 : Int32).toNatClampNeg 5) (6 : Int32).toNatClampNeg 6) (7 : Int32).toNatClampNeg 7) (8 : Int32).toNatClampNeg 8))) (hx_12 : Φ (x + 12) = some (o_ 12 [.ref (x + 13), .int 0, .int 0, .int 0])) (hx_14 : Φ (x + 14) = some (o_ 12 [.ref (x + 15), .int 0, .int 0, .int 0])) (hx_16 : Φ (x + 16) = some (o_ 12 [.ref (x + 17), .int 0, .int 0, .int 0])) (hx_18 : Φ (x + 18) = some (o_ 12 [.ref (x + 19), .int 0, .int 0, .int 0])) (hx_20 : Φ (x + 20) = some (o_ 12 [.ref (x + 21), .int 0, .int 0, .int 0])) (hx_22 : Φ (x + 22) = some (o_ 12 [.ref (x + 23), .int 0, .int 0, .int 0])) (hx_24 : Φ (x + 24) = some (o_ 8 [.ref (x + 25), .int 0, .int (-1), .ref (x + 1), .int 0, .int 0, .int 0, .int 0])) (hx_25 : Φ (x + 25) = some (o_ 3 [.ref (x + 26), .ref (x + 27), .ref (x + 28), .ref (x + 29), .int 1, .int 511])) (hx_26 : Φ (x + 26) = some (ai_ G 9 usT)) (hx_27 : Φ (x + 27) = some (ai_ G 256 (fun _ => 0))) (hx_28 : Φ (x + 28) = some (aq_ G 4 4 (va_up (va_up (va_up (va_up (fun _ => none) (0 : Int32).toNatClampNeg (some (x + 30))) (1 : Int32).toNatClampNeg (some (x + 34))) (2 : Int32).toNatClampNeg (some (x + 38))) (3 : Int32).toNatClampNeg (some (x + 42))))) (hx_30 : Φ (x + 30) = some (o_ 12 [.ref (x + 31), .int 9, .int 511, .int 29])) (hx_31 : Φ (x + 31) = some (ai_ G 9 (upd (upd (upd (upd (upd (upd (upd (upd (upd (fun _ => 0) (0 : Int32).toNatClampNeg 0) (1 : Int32).toNatClampNeg 1) (2 : Int32).toNatClampNeg 2) (3 : Int32).toNatClampNeg 3) (4 : Int32).toNatClampNeg 4) (5 : Int32).toNatClampNeg 5) (6 : Int32).toNatClampNeg 6) (7 : Int32).toNatClampNeg 7) (8 : Int32).toNatClampNeg 8))) (hx_34 : Φ (x + 34) = some (o_ 12 [.ref (x + 35), .int 0, .int 0, .int 0])) (hx_38 : Φ (x + 38) = some (o_ 12 [.ref (x + 39), .int 0, .int 0, .int 0])) (hx_42 : Φ (x + 42) = some (o_ 12 [.ref (x + 43), .int 0, .int 0, .int 0])) (hx_46 : Φ (x + 46) = some (o_ 9 [.ref (x + 47), .int 0, .int 0])) (hx_74 : Φ (x + 74) = some (o_ 10 [.ref (x + 3), .ref (x + 46), .ref (x + 75), .ref (x + 77), .int 0, .ref (x + 78), .ref (x + 79), .int 0, .long 0, .int 0])) (hx_75 : Φ (x + 75) = some (o_ 7 [.ref (x + 76), .int 0])) (hx_78 : Φ (x + 78) = some (ai_ G 4 (fun _ => 0))) (hx_80 : Φ (x + 80) = some (o_ 4 [.ref (x + 3), .ref (x + 74), .ref (x + 81), .ref (x + 95), .int 0, .int 1, .int 1, .int 0, .int 0, .int 0, .long 0, .long 0, .long 0])) (hx_81 : Φ (x + 81) = some (o_ 6 [.ref (x + 82), .int 0])) (hx_82 : Φ (x + 82) = some (aq_ G 5 12 (va_up (va_up (va_up (va_up (va_up (va_up (va_up (va_up (va_up (va_up (va_up (va_up (fun _ => none) (0 : Int32).toNatClampNeg (some (x + 83))) (1 : Int32).toNatClampNeg (some (x + 84))) (2 : Int32).toNatClampNeg (some (x + 85))) (3 : Int32).toNatClampNeg (some (x + 86))) (4 : Int32).toNatClampNeg (some (x + 87))) (5 : Int32).toNatClampNeg (some (x + 88))) (6 : Int32).toNatClampNeg (some (x + 89))) (7 : Int32).toNatClampNeg (some (x + 90))) (8 : Int32).toNatClampNeg (some (x + 91))) (9 : Int32).toNatClampNeg (some (x + 92))) (10 : Int32).toNatClampNeg (some (x + 93))) (11 : Int32).toNatClampNeg (some (x + 94))))) (hx_83 : Φ (x + 83) = some (o_ 5 [.long 0, .long 0, .long 0, .int 0, .int 0])) (hx_95 : Φ (x + 95) = some (o_ 6 [.ref (x + 96), .int 0])) (hx_96 : Φ (x + 96) = some (aq_ G 5 24 (va_up (va_up (va_up (va_up (va_up (va_up (va_up (va_up (va_up (va_up (va_up (va_up (va_up (va_up (va_up (va_up (va_up (va_up (va_up (va_up (va_up (va_up (va_up (va_up (fun _ => none) (0 : Int32).toNatClampNeg (some (x + 97))) (1 : Int32).toNatClampNeg (some (x + 98))) (2 : Int32).toNatClampNeg (some (x + 99))) (3 : Int32).toNatClampNeg (some (x + 100))) (4 : Int32).toNatClampNeg (some (x + 101))) (5 : Int32).toNatClampNeg (some (x + 102))) (6 : Int32).toNatClampNeg (some (x + 103))) (7 : Int32).toNatClampNeg (some (x + 104))) (8 : Int32).toNatClampNeg (some (x + 105))) (9 : Int32).toNatClampNeg (some (x + 106))) (10 : Int32).toNatClampNeg (some (x + 107))) (11 : Int32).toNatClampNeg (some (x + 108))) (12 : Int32).toNatClampNeg (some (x + 109))) (13 : Int32).toNatClampNeg (some (x + 110))) (14 : Int32).toNatClampNeg (some (x + 111))) (15 : Int32).toNatClampNeg (some (x + 112))) (16 : Int32).toNatClampNeg (some (x + 113))) (17 : Int32).toNatClampNeg (some (x + 114))) (18 : Int32).toNatClampNeg (some (x + 115))) (19 : Int32).toNatClampNeg (some (x + 116))) (20 : Int32).toNatClampNeg (some (x + 117))) (21 : Int32).toNatClampNeg (some (x + 118))) (22 : Int32).toNatClampNeg (some (x + 119))) (23 : Int32).toNatClampNeg (some (x + 120))))) (hx_97 : Φ (x + 97) = some (o_ 5 [.long 0, .long 0, .long 0, .int 0, .int 0])) (hx_121 : Φ (x + 121) = some (o_ 11 [.ref (x + 122), .ref (x + 123), .ref (x + 126), .ref (x + 129), .int 0])) (hx_132 : Φ (x + 132) = some (o_ 2 [.ref (x + 3), .ref (x + 121), .ref (x + 133), .ref (x + 134), .ref (x + 135), .ref (x + 137), .ref (x + 138), .ref (x + 139), .ref (x + 140), .int 0, .int 0, .int 0])) (hx_133 : Φ (x + 133) = some (aq_ G 4 4 (va_up (va_up (va_up (va_up (fun _ => none) (0 : Int32).toNatClampNeg (some (x + 141))) (1 : Int32).toNatClampNeg (some (x + 143))) (2 : Int32).toNatClampNeg (some (x + 145))) (3 : Int32).toNatClampNeg (some (x + 147))))) (hx_139 : Φ (x + 139) = some (al_ G 9 (fun _ => 0))) (hx_141 : Φ (x + 141) = some (o_ 12 [.ref (x + 142), .int 0, .int 0, .int 0])) (hx_143 : Φ (x + 143) = some (o_ 12 [.ref (x + 144), .int 0, .int 0, .int 0])) (hx_145 : Φ (x + 145) = some (o_ 12 [.ref (x + 146), .int 0, .int 0, .int 0])) (hx_147 : Φ (x + 147) = some (o_ 12 [.ref (x + 148), .int 0, .int 0, .int 0])) (hy_0 : Φ y = some (o_ 14 [.int 0, .ref (y + 1), .ref (y + 2), .int 0, .int 1, .int 1, .int 0, .int 0, .ref (y + 3), .ref (y + 4), .int 0, .long 0, .ref (y + 5), .int 0, .int 0, .long 0, .long 0, .long 0, .long 0, .ref (y + 6), .ref (y + 7), .int 0, .ref (y + 8), .int 0, .ref (y + 9), .ref (y + 10), .int 0, .ref (y + 11), .ref (y + 12), .ref (y + 13), .ref (y + 14), .ref (y + 15), .ref (y + 16), .int 0, .long (-1), .ref (y + 17), .ref (y + 18), .ref (y + 19), .ref (y + 20), .ref (y + 21), .ref (y + 22), .int 0, .ref (y + 23), .ref (y + 24), .int 0, .ref (y + 25), .int 0, .int 0, .int 0, .int (-1), .int 0, .int 0, .int 0, .long 0])) (hy_1 : Φ (y + 1) = some (ai_ G 307 (upd (upd (upd (upd (upd (upd (upd (upd (upd (upd (upd (upd (upd (upd (upd (upd (upd (upd (upd (upd (upd (fun _ => 0) (0 : Int32).toNatClampNeg 1) (1 : Int32).toNatClampNeg 100) (2 : Int32).toNatClampNeg 1000) (3 : Int32).toNatClampNeg 100) (4 : Int32).toNatClampNeg 20) (5 : Int32).toNatClampNeg 1000) (6 : Int32).toNatClampNeg 5000) (7 : Int32).toNatClampNeg 512) (8 : Int32).toNatClampNeg 1) (9 : Int32).toNatClampNeg 511) (10 : Int32).toNatClampNeg 1) (11 : Int32).toNatClampNeg 9) (15 : Int32).toNatClampNeg 0) (16 : Int32).toNatClampNeg 1) (17 : Int32).toNatClampNeg 2) (18 : Int32).toNatClampNeg 3) (19 : Int32).toNatClampNeg 4) (20 : Int32).toNatClampNeg 5) (21 : Int32).toNatClampNeg 6) (22 : Int32).toNatClampNeg 7) (23 : Int32).toNatClampNeg 8))) (hy_2 : Φ (y + 2) = some (ai_ G 307 (upd (upd (upd (upd (upd (upd (upd (upd (upd (upd (upd (upd (upd (upd (upd (upd (upd (upd (upd (upd (upd (fun _ => 0) (0 : Int32).toNatClampNeg 1) (1 : Int32).toNatClampNeg 100) (2 : Int32).toNatClampNeg 1000) (3 : Int32).toNatClampNeg 100) (4 : Int32).toNatClampNeg 20) (5 : Int32).toNatClampNeg 1000) (6 : Int32).toNatClampNeg 5000) (7 : Int32).toNatClampNeg 512) (8 : Int32).toNatClampNeg 1) (9 : Int32).toNatClampNeg 511) (10 : Int32).toNatClampNeg 1) (11 : Int32).toNatClampNeg 9) (15 : Int32).toNatClampNeg 0) (16 : Int32).toNatClampNeg 1) (17 : Int32).toNatClampNeg 2) (18 : Int32).toNatClampNeg 3) (19 : Int32).toNatClampNeg 4) (20 : Int32).toNatClampNeg 5) (21 : Int32).toNatClampNeg 6) (22 : Int32).toNatClampNeg 7) (23 : Int32).toNatClampNeg 8))) (hy_3 : Φ (y + 3) = some (ai_ G 4 (upd (upd (upd (upd (fun _ => 0) (0 : Int32).toNatClampNeg (-1)) (1 : Int32).toNatClampNeg (-1)) (2 : Int32).toNatClampNeg (-1)) (3 : Int32).toNatClampNeg (-1)))) (hy_5 : Φ (y + 5) = some (al_ G 96 (fun _ => 0))) (hy_11 : Φ (y + 11) = some (al_ G 9 (vp_updL (vp_updL (vp_updL (vp_updL (vp_updL (vp_updL (vp_updL (vp_updL (vp_updL (fun _ => 0) (0 : Int32).toNatClampNeg 0) (1 : Int32).toNatClampNeg 0) (2 : Int32).toNatClampNeg 0) (3 : Int32).toNatClampNeg 0) (4 : Int32).toNatClampNeg 0) (5 : Int32).toNatClampNeg 0) (6 : Int32).toNatClampNeg 0) (7 : Int32).toNatClampNeg 0) (8 : Int32).toNatClampNeg 0))) (hy_12 : Φ (y + 12) = some (ai_ G 4 (upd (upd (upd (upd (fun _ => 0) (0 : Int32).toNatClampNeg 0) (1 : Int32).toNatClampNeg 0) (2 : Int32).toNatClampNeg 0) (3 : Int32).toNatClampNeg 0))) (hy_23 : Φ (y + 23) = some (ai_ G 96 (fun _ => 0))) (hy_24 : Φ (y + 24) = some (al_ G 48 (fun _ => 0))) (hy_25 : Φ (y + 25) = some (ab_ G 700 (fun _ => 0))) (hco : Φ o = some (al_ G 1 go)) (hcd : Φ d = some (ad_ G 1 gd)) : Z p9 l e9 room_1 s9 m9 #[Value.ref b] w9 t9 k9 (lw_Z w9 #[Value.ref b] s9) G 9 28 [(5, .int 0), (4, .ref d), (3, .ref o), (2, .ref y), (1, .ref x), (0, .ref b)] [] Φ sz 177 20838 := by
  rcases (show L = 0 ∨ L = 1 ∨ L = 2 ∨ L = 3 ∨ L = 4 ∨ L = 5 ∨ L = 6 ∨ L = 7 by omega) with rfl | rfl | rfl | rfl | rfl | rfl | rfl | rfl
  · refine z_iload B dL_law_28 0 rfl ?_
    refine z_aload_n B dL_law_30 rfl 5 rfl ?_
    refine z_slen (v := 0) B hX hbn rfl dL_law_31 ?_
    refine z_bipush (v := 7) B dL_law_32 rfl ?_
    refine z_isub B dL_law_34 ?_
    refine z_top (st1 := [.int (-7), .int 0]) (congrArg (fun w9 : Int32 => ([.int w9, .int 0] : List Value)) (show (0 - 7 : Int32) = (-7) by decide +kernel)) ?_
    refine z_icmp_gt (tgt := 2899) B dL_law_35 rfl (fun c_1 => ?_) (fun h9 => absurd (by decide) h9)
    refine z_iconst (v := 1) B dL_law_2899 rfl ?_
    exact z_lawret B hn0 (Nat.le_of_ble_eq_true rfl) (Nat.le_of_ble_eq_true rfl) dL_law_2900
  · refine z_iload B dL_law_28 0 rfl ?_
    refine z_aload_n B dL_law_30 rfl 5 rfl ?_
    refine z_slen (v := 1) B hX hbn rfl dL_law_31 ?_
    refine z_bipush (v := 7) B dL_law_32 rfl ?_
    refine z_isub B dL_law_34 ?_
    refine z_top (st1 := [.int (-6), .int 0]) (congrArg (fun w9 : Int32 => ([.int w9, .int 0] : List Value)) (show (1 - 7 : Int32) = (-6) by decide +kernel)) ?_
    refine z_icmp_gt (tgt := 2899) B dL_law_35 rfl (fun c_1 => ?_) (fun h9 => absurd (by decide) h9)
    refine z_iconst (v := 1) B dL_law_2899 rfl ?_
    exact z_lawret B hn0 (Nat.le_of_ble_eq_true rfl) (Nat.le_of_ble_eq_true rfl) dL_law_2900
  · refine z_iload B dL_law_28 0 rfl ?_
    refine z_aload_n B dL_law_30 rfl 5 rfl ?_
    refine z_slen (v := 2) B hX hbn rfl dL_law_31 ?_
    refine z_bipush (v := 7) B dL_law_32 rfl ?_
    refine z_isub B dL_law_34 ?_
    refine z_top (st1 := [.int (-5), .int 0]) (congrArg (fun w9 : Int32 => ([.int w9, .int 0] : List Value)) (show (2 - 7 : Int32) = (-5) by decide +kernel)) ?_
    refine z_icmp_gt (tgt := 2899) B dL_law_35 rfl (fun c_1 => ?_) (fun h9 => absurd (by decide) h9)
    refine z_iconst (v := 1) B dL_law_2899 rfl ?_
    exact z_lawret B hn0 (Nat.le_of_ble_eq_true rfl) (Nat.le_of_ble_eq_true rfl) dL_law_2900
  · refine z_iload B dL_law_28 0 rfl ?_
    refine z_aload_n B dL_law_30 rfl 5 rfl ?_
    refine z_slen (v := 3) B hX hbn rfl dL_law_31 ?_
    refine z_bipush (v := 7) B dL_law_32 rfl ?_
    refine z_isub B dL_law_34 ?_
    refine z_top (st1 := [.int (-4), .int 0]) (congrArg (fun w9 : Int32 => ([.int w9, .int 0] : List Value)) (show (3 - 7 : Int32) = (-4) by decide +kernel)) ?_
    refine z_icmp_gt (tgt := 2899) B dL_law_35 rfl (fun c_1 => ?_) (fun h9 => absurd (by decide) h9)
    refine z_iconst (v := 1) B dL_law_2899 rfl ?_
    exact z_lawret B hn0 (Nat.le_of_ble_eq_true rfl) (Nat.le_of_ble_eq_true rfl) dL_law_2900
  · refine z_iload B dL_law_28 0 rfl ?_
    refine z_aload_n B dL_law_30 rfl 5 rfl ?_
    refine z_slen (v := 4) B hX hbn rfl dL_law_31 ?_
    refine z_bipush (v := 7) B dL_law_32 rfl ?_
    refine z_isub B dL_law_34 ?_
    refine z_top (st1 := [.int (-3), .int 0]) (congrArg (fun w9 : Int32 => ([.int w9, .int 0] : List Value)) (show (4 - 7 : Int32) = (-3) by decide +kernel)) ?_
    refine z_icmp_gt (tgt := 2899) B dL_law_35 rfl (fun c_1 => ?_) (fun h9 => absurd (by decide) h9)
    refine z_iconst (v := 1) B dL_law_2899 rfl ?_
    exact z_lawret B hn0 (Nat.le_of_ble_eq_true rfl) (Nat.le_of_ble_eq_true rfl) dL_law_2900
  · refine z_iload B dL_law_28 0 rfl ?_
    refine z_aload_n B dL_law_30 rfl 5 rfl ?_
    refine z_slen (v := 5) B hX hbn rfl dL_law_31 ?_
    refine z_bipush (v := 7) B dL_law_32 rfl ?_
    refine z_isub B dL_law_34 ?_
    refine z_top (st1 := [.int (-2), .int 0]) (congrArg (fun w9 : Int32 => ([.int w9, .int 0] : List Value)) (show (5 - 7 : Int32) = (-2) by decide +kernel)) ?_
    refine z_icmp_gt (tgt := 2899) B dL_law_35 rfl (fun c_1 => ?_) (fun h9 => absurd (by decide) h9)
    refine z_iconst (v := 1) B dL_law_2899 rfl ?_
    exact z_lawret B hn0 (Nat.le_of_ble_eq_true rfl) (Nat.le_of_ble_eq_true rfl) dL_law_2900
  · refine z_iload B dL_law_28 0 rfl ?_
    refine z_aload_n B dL_law_30 rfl 5 rfl ?_
    refine z_slen (v := 6) B hX hbn rfl dL_law_31 ?_
    refine z_bipush (v := 7) B dL_law_32 rfl ?_
    refine z_isub B dL_law_34 ?_
    refine z_top (st1 := [.int (-1), .int 0]) (congrArg (fun w9 : Int32 => ([.int w9, .int 0] : List Value)) (show (6 - 7 : Int32) = (-1) by decide +kernel)) ?_
    refine z_icmp_gt (tgt := 2899) B dL_law_35 rfl (fun c_1 => ?_) (fun h9 => absurd (by decide) h9)
    refine z_iconst (v := 1) B dL_law_2899 rfl ?_
    exact z_lawret B hn0 (Nat.le_of_ble_eq_true rfl) (Nat.le_of_ble_eq_true rfl) dL_law_2900
  · have hx0 : xs 0 = xs 0 := rfl
    refine z_iload B dL_law_28 0 rfl ?_
    refine z_aload_n B dL_law_30 rfl 5 rfl ?_
    refine z_slen (v := 7) B hX hbn rfl dL_law_31 ?_
    refine z_bipush (v := 7) B dL_law_32 rfl ?_
    refine z_isub B dL_law_34 ?_
    refine z_top (st1 := [.int 0, .int 0]) (congrArg (fun w9 : Int32 => ([.int w9, .int 0] : List Value)) (show (7 - 7 : Int32) = 0 by decide +kernel)) ?_
    refine z_icmp_gt (tgt := 2899) B dL_law_35 rfl (fun h9 => absurd h9 (by decide)) (fun c_1 => ?_)
    refine z_aload_n B dL_law_38 rfl 5 rfl ?_
    refine z_iload B dL_law_39 0 rfl ?_
    refine z_sald B hX hbn (vin rfl) dL_law_41 ?_
    refine z_top (st1 := [.int (xs 0)]) (congrArg (fun w9 : Int32 => ([.int w9] : List Value)) (show xs (0 : Int32).toNatClampNeg = xs 0 from hx0)) ?_
    refine z_bipush (v := 63) B dL_law_42 rfl ?_
    refine z_iand B dL_law_44 ?_
    exact law_sw G l hl9 B Φ sz b xs hX hbn x y o d go gd hna hxy hyo hyd hod hx_0 hx_1 hx_2 hx_3 hx_4 hx_5 hx_6 hx_7 hx_8 hx_9 hx_10 hx_11 hx_12 hx_14 hx_16 hx_18 hx_20 hx_22 hx_24 hx_25 hx_26 hx_27 hx_28 hx_30 hx_31 hx_34 hx_38 hx_42 hx_46 hx_74 hx_75 hx_78 hx_80 hx_81 hx_82 hx_83 hx_95 hx_96 hx_97 hx_121 hx_132 hx_133 hx_139 hx_141 hx_143 hx_145 hx_147 hy_0 hy_1 hy_2 hy_3 hy_5 hy_11 hy_12 hy_23 hy_24 hy_25 hco hcd (fun Φ1 sz1 => law_tail G l hl9 b B hn0 xs hX hbn x y o d Φ1 sz1)

set_option maxHeartbeats 8000000 in
set_option maxRecDepth 100000 in
theorem law_main {p9 : Program} {e9 : Env} {s9 : State} {m9 : MethodId} {w9 : List Frame} {t9 : Method} {k9 : Code} {nm9 : String} (G : EnvG) (l : Launch) (hl9 : l.stackTraces = false) (b : Nat) (B : Bd p9 s9 m9 #[Value.ref b] t9 k9 G code 9 RL wsL_law ret nm9) (hn0 : G.2.2.2 = s9.heap.size) (L : Nat) (xs : Nat → Int32) (hL : L ≤ 7) (hX : va_X b L xs s9 s9.heap) (hbn : b < G.2.2.2) (Φ : Hm) (x : Nat) (hna : G.2.2.2 ≤ x) : Z p9 l e9 room_1 s9 m9 #[Value.ref b] w9 t9 k9 (lw_Z w9 #[Value.ref b] s9) G 9 0 [(0, .ref b)] [] Φ x 0 0 := by
  refine z_new (C := RX11) (T := TX11) (N := 8) (ci := 13) (fs := [.null, .null, .null, .null, .null, .null, .null, .null]) B (by decide +kernel) tyX11 tyX11_ok (by decide +kernel) (by decide +kernel) (by decide +kernel) rfl (by decide +kernel) (Nat.le_of_ble_eq_true rfl) (Nat.le_of_ble_eq_true rfl) dL_law_0 (fun Φ1 hΦ1 hz1 => ?_)
  have h_1 : Φ1 x = some (o_ 13 [.null, .null, .null, .null, .null, .null, .null, .null]) := fset_at hΦ1
  refine z_dup B dL_law_3 rfl ?_
  refine z_callI (As := []) (rest := [.ref x]) B (c_X11_init G l Φ1 (x + 1) x rfl h_1 hz1) (cwI 0 B.1.2.2.2.2 gL_law_X11_init rfl rfl rfl (B.1.2.2.2.2 _ (by decide +kernel)) (B.1.2.2.2.2 _ (by decide +kernel)) (B.1.2.2.2.2 _ (by decide +kernel)) rfl (by decide +kernel) ⟨Nat.le_of_ble_eq_true rfl, Nat.le_of_ble_eq_true rfl⟩) rfl rfl (Nat.le_of_ble_eq_true rfl) dL_law_4 ⟨Nat.le_of_ble_eq_true rfl, Nat.le_of_ble_eq_true rfl⟩ (fun v1 Φ2 sz1 st1 hp1 hs1 => ?_)
  obtain ⟨rfl, hq1, fr1, h_2, h_3, h_4, h_5, h_6, h_7, h_8, h_9, h_10, h_11, h_12, h_13, h_14, h_15, h_16, h_17, h_18, h_19, h_20, h_21, h_22, h_23, h_24, h_25, h_26, h_27, h_28, h_29, h_30, h_31, h_32, h_33, h_34, h_35, h_36, h_37, h_38, h_39, h_40, h_41, h_42, h_43, h_44, h_45, h_46, h_47, h_48, h_49, h_50, h_51, h_52, h_53, h_54, h_55, h_56, h_57, h_58, h_59, h_60, h_61, h_62, h_63, h_64, h_65, h_66, h_67, h_68, h_69, h_70, h_71, h_72, h_73, h_74, h_75, h_76, h_77, h_78, h_79, h_80, h_81, h_82, h_83, h_84, h_85, h_86, h_87, h_88, h_89, h_90, h_91, h_92, h_93, h_94, h_95, h_96, h_97, h_98, h_99, h_100, h_101, h_102, h_103, h_104, h_105, h_106, h_107, h_108, h_109, h_110, h_111, h_112, h_113, h_114, h_115, h_116, h_117, h_118, h_119, h_120, h_121, h_122, h_123, h_124, h_125, h_126, h_127, h_128, h_129, h_130, h_131, h_132, h_133, h_134, h_135, h_136, h_137, h_138, h_139, h_140, h_141, h_142, h_143, h_144, h_145, h_146, h_147, h_148, h_149, h_150⟩ := hp1
  replace hq1 : sz1 = x + 149 := hq1
  subst sz1
  replace hs1 : st1 = [.ref x] := hs1
  subst st1
  have h_151 : Φ2 x = some (o_ 13 [.ref (x + 1), .ref (x + 3), .ref (x + 24), .ref (x + 46), .ref (x + 74), .ref (x + 80), .ref (x + 132), .ref (x + 121)]) := h_2
  have h_152 : Φ2 (x + 1) = some (o_ 7 [.ref (x + 2), .int 0]) := h_3
  have h_153 : Φ2 (x + 2) = some (ab_ G 700 (fun _ => 0)) := h_4
  have h_154 : Φ2 (x + 3) = some (o_ 3 [.ref (x + 4), .ref (x + 5), .ref (x + 6), .ref (x + 7), .int 1, .int 511]) := h_5
  have h_155 : Φ2 (x + 4) = some (ai_ G 9 usT) := h_6
  have h_156 : Φ2 (x + 5) = some (ai_ G 256 (fun _ => 0)) := h_7
  have h_157 : Φ2 (x + 6) = some (aq_ G 4 4 (va_up (va_up (va_up (va_up (fun _ => none) (0 : Int32).toNatClampNeg (some (x + 8))) (1 : Int32).toNatClampNeg (some (x + 12))) (2 : Int32).toNatClampNeg (some (x + 16))) (3 : Int32).toNatClampNeg (some (x + 20)))) := h_8
  have h_158 : Φ2 (x + 7) = some (aq_ G 4 4 (va_up (va_up (va_up (va_up (fun _ => none) (0 : Int32).toNatClampNeg (some (x + 10))) (1 : Int32).toNatClampNeg (some (x + 14))) (2 : Int32).toNatClampNeg (some (x + 18))) (3 : Int32).toNatClampNeg (some (x + 22)))) := h_9
  have h_159 : Φ2 (x + 8) = some (o_ 12 [.ref (x + 9), .int 9, .int 511, .int 29]) := h_10
  have h_160 : Φ2 (x + 9) = some (ai_ G 9 (upd (upd (upd (upd (upd (upd (upd (upd (upd (fun _ => 0) (0 : Int32).toNatClampNeg 0) (1 : Int32).toNatClampNeg 1) (2 : Int32).toNatClampNeg 2) (3 : Int32).toNatClampNeg 3) (4 : Int32).toNatClampNeg 4) (5 : Int32).toNatClampNeg 5) (6 : Int32).toNatClampNeg 6) (7 : Int32).toNatClampNeg 7) (8 : Int32).toNatClampNeg 8)) := h_11
  have h_161 : Φ2 (x + 10) = some (o_ 12 [.ref (x + 11), .int 9, .int 511, .int 29]) := h_12
  have h_162 : Φ2 (x + 11) = some (ai_ G 9 (upd (upd (upd (upd (upd (upd (upd (upd (upd (fun _ => 0) (0 : Int32).toNatClampNeg 0) (1 : Int32).toNatClampNeg 1) (2 : Int32).toNatClampNeg 2) (3 : Int32).toNatClampNeg 3) (4 : Int32).toNatClampNeg 4) (5 : Int32).toNatClampNeg 5) (6 : Int32).toNatClampNeg 6) (7 : Int32).toNatClampNeg 7) (8 : Int32).toNatClampNeg 8)) := h_13
  have h_163 : Φ2 (x + 12) = some (o_ 12 [.ref (x + 13), .int 0, .int 0, .int 0]) := h_14
  have h_164 : Φ2 (x + 13) = some (ai_ G 9 (fun _ => 0)) := h_15
  have h_165 : Φ2 (x + 14) = some (o_ 12 [.ref (x + 15), .int 0, .int 0, .int 0]) := h_16
  have h_166 : Φ2 (x + 15) = some (ai_ G 9 (fun _ => 0)) := h_17
  have h_167 : Φ2 (x + 16) = some (o_ 12 [.ref (x + 17), .int 0, .int 0, .int 0]) := h_18
  have h_168 : Φ2 (x + 17) = some (ai_ G 9 (fun _ => 0)) := h_19
  have h_169 : Φ2 (x + 18) = some (o_ 12 [.ref (x + 19), .int 0, .int 0, .int 0]) := h_20
  have h_170 : Φ2 (x + 19) = some (ai_ G 9 (fun _ => 0)) := h_21
  have h_171 : Φ2 (x + 20) = some (o_ 12 [.ref (x + 21), .int 0, .int 0, .int 0]) := h_22
  have h_172 : Φ2 (x + 21) = some (ai_ G 9 (fun _ => 0)) := h_23
  have h_173 : Φ2 (x + 22) = some (o_ 12 [.ref (x + 23), .int 0, .int 0, .int 0]) := h_24
  have h_174 : Φ2 (x + 23) = some (ai_ G 9 (fun _ => 0)) := h_25
  have h_175 : Φ2 (x + 24) = some (o_ 8 [.ref (x + 25), .int 0, .int (-1), .ref (x + 1), .int 0, .int 0, .int 0, .int 0]) := h_26
  have h_176 : Φ2 (x + 25) = some (o_ 3 [.ref (x + 26), .ref (x + 27), .ref (x + 28), .ref (x + 29), .int 1, .int 511]) := h_27
  have h_177 : Φ2 (x + 26) = some (ai_ G 9 usT) := h_28
  have h_178 : Φ2 (x + 27) = some (ai_ G 256 (fun _ => 0)) := h_29
  have h_179 : Φ2 (x + 28) = some (aq_ G 4 4 (va_up (va_up (va_up (va_up (fun _ => none) (0 : Int32).toNatClampNeg (some (x + 30))) (1 : Int32).toNatClampNeg (some (x + 34))) (2 : Int32).toNatClampNeg (some (x + 38))) (3 : Int32).toNatClampNeg (some (x + 42)))) := h_30
  have h_180 : Φ2 (x + 29) = some (aq_ G 4 4 (va_up (va_up (va_up (va_up (fun _ => none) (0 : Int32).toNatClampNeg (some (x + 32))) (1 : Int32).toNatClampNeg (some (x + 36))) (2 : Int32).toNatClampNeg (some (x + 40))) (3 : Int32).toNatClampNeg (some (x + 44)))) := h_31
  have h_181 : Φ2 (x + 30) = some (o_ 12 [.ref (x + 31), .int 9, .int 511, .int 29]) := h_32
  have h_182 : Φ2 (x + 31) = some (ai_ G 9 (upd (upd (upd (upd (upd (upd (upd (upd (upd (fun _ => 0) (0 : Int32).toNatClampNeg 0) (1 : Int32).toNatClampNeg 1) (2 : Int32).toNatClampNeg 2) (3 : Int32).toNatClampNeg 3) (4 : Int32).toNatClampNeg 4) (5 : Int32).toNatClampNeg 5) (6 : Int32).toNatClampNeg 6) (7 : Int32).toNatClampNeg 7) (8 : Int32).toNatClampNeg 8)) := h_33
  have h_183 : Φ2 (x + 32) = some (o_ 12 [.ref (x + 33), .int 0, .int 0, .int 0]) := h_34
  have h_184 : Φ2 (x + 33) = some (ai_ G 9 (fun _ => 0)) := h_35
  have h_185 : Φ2 (x + 34) = some (o_ 12 [.ref (x + 35), .int 0, .int 0, .int 0]) := h_36
  have h_186 : Φ2 (x + 35) = some (ai_ G 9 (fun _ => 0)) := h_37
  have h_187 : Φ2 (x + 36) = some (o_ 12 [.ref (x + 37), .int 0, .int 0, .int 0]) := h_38
  have h_188 : Φ2 (x + 37) = some (ai_ G 9 (fun _ => 0)) := h_39
  have h_189 : Φ2 (x + 38) = some (o_ 12 [.ref (x + 39), .int 0, .int 0, .int 0]) := h_40
  have h_190 : Φ2 (x + 39) = some (ai_ G 9 (fun _ => 0)) := h_41
  have h_191 : Φ2 (x + 40) = some (o_ 12 [.ref (x + 41), .int 0, .int 0, .int 0]) := h_42
  have h_192 : Φ2 (x + 41) = some (ai_ G 9 (fun _ => 0)) := h_43
  have h_193 : Φ2 (x + 42) = some (o_ 12 [.ref (x + 43), .int 0, .int 0, .int 0]) := h_44
  have h_194 : Φ2 (x + 43) = some (ai_ G 9 (fun _ => 0)) := h_45
  have h_195 : Φ2 (x + 44) = some (o_ 12 [.ref (x + 45), .int 0, .int 0, .int 0]) := h_46
  have h_196 : Φ2 (x + 45) = some (ai_ G 9 (fun _ => 0)) := h_47
  have h_197 : Φ2 (x + 46) = some (o_ 9 [.ref (x + 47), .int 0, .int 0]) := h_48
  have h_198 : Φ2 (x + 47) = some (aq_ G 6 13 (va_up (va_up (va_up (va_up (va_up (va_up (va_up (va_up (va_up (va_up (va_up (va_up (va_up (fun _ => none) (0 : Int32).toNatClampNeg (some (x + 48))) (1 : Int32).toNatClampNeg (some (x + 50))) (2 : Int32).toNatClampNeg (some (x + 52))) (3 : Int32).toNatClampNeg (some (x + 54))) (4 : Int32).toNatClampNeg (some (x + 56))) (5 : Int32).toNatClampNeg (some (x + 58))) (6 : Int32).toNatClampNeg (some (x + 60))) (7 : Int32).toNatClampNeg (some (x + 62))) (8 : Int32).toNatClampNeg (some (x + 64))) (9 : Int32).toNatClampNeg (some (x + 66))) (10 : Int32).toNatClampNeg (some (x + 68))) (11 : Int32).toNatClampNeg (some (x + 70))) (12 : Int32).toNatClampNeg (some (x + 72)))) := h_49
  have h_199 : Φ2 (x + 48) = some (o_ 7 [.ref (x + 49), .int 0]) := h_50
  have h_200 : Φ2 (x + 49) = some (ab_ G 600 (fun _ => 0)) := h_51
  have h_201 : Φ2 (x + 50) = some (o_ 7 [.ref (x + 51), .int 0]) := h_52
  have h_202 : Φ2 (x + 51) = some (ab_ G 600 (fun _ => 0)) := h_53
  have h_203 : Φ2 (x + 52) = some (o_ 7 [.ref (x + 53), .int 0]) := h_54
  have h_204 : Φ2 (x + 53) = some (ab_ G 600 (fun _ => 0)) := h_55
  have h_205 : Φ2 (x + 54) = some (o_ 7 [.ref (x + 55), .int 0]) := h_56
  have h_206 : Φ2 (x + 55) = some (ab_ G 600 (fun _ => 0)) := h_57
  have h_207 : Φ2 (x + 56) = some (o_ 7 [.ref (x + 57), .int 0]) := h_58
  have h_208 : Φ2 (x + 57) = some (ab_ G 600 (fun _ => 0)) := h_59
  have h_209 : Φ2 (x + 58) = some (o_ 7 [.ref (x + 59), .int 0]) := h_60
  have h_210 : Φ2 (x + 59) = some (ab_ G 600 (fun _ => 0)) := h_61
  have h_211 : Φ2 (x + 60) = some (o_ 7 [.ref (x + 61), .int 0]) := h_62
  have h_212 : Φ2 (x + 61) = some (ab_ G 600 (fun _ => 0)) := h_63
  have h_213 : Φ2 (x + 62) = some (o_ 7 [.ref (x + 63), .int 0]) := h_64
  have h_214 : Φ2 (x + 63) = some (ab_ G 600 (fun _ => 0)) := h_65
  have h_215 : Φ2 (x + 64) = some (o_ 7 [.ref (x + 65), .int 0]) := h_66
  have h_216 : Φ2 (x + 65) = some (ab_ G 600 (fun _ => 0)) := h_67
  have h_217 : Φ2 (x + 66) = some (o_ 7 [.ref (x + 67), .int 0]) := h_68
  have h_218 : Φ2 (x + 67) = some (ab_ G 600 (fun _ => 0)) := h_69
  have h_219 : Φ2 (x + 68) = some (o_ 7 [.ref (x + 69), .int 0]) := h_70
  have h_220 : Φ2 (x + 69) = some (ab_ G 600 (fun _ => 0)) := h_71
  have h_221 : Φ2 (x + 70) = some (o_ 7 [.ref (x + 71), .int 0]) := h_72
  have h_222 : Φ2 (x + 71) = some (ab_ G 600 (fun _ => 0)) := h_73
  have h_223 : Φ2 (x + 72) = some (o_ 7 [.ref (x + 73), .int 0]) := h_74
  have h_224 : Φ2 (x + 73) = some (ab_ G 600 (fun _ => 0)) := h_75
  have h_225 : Φ2 (x + 74) = some (o_ 10 [.ref (x + 3), .ref (x + 46), .ref (x + 75), .ref (x + 77), .int 0, .ref (x + 78), .ref (x + 79), .int 0, .long 0, .int 0]) := h_76
  have h_226 : Φ2 (x + 75) = some (o_ 7 [.ref (x + 76), .int 0]) := h_77
  have h_227 : Φ2 (x + 76) = some (ab_ G 348 (fun _ => 0)) := h_78
  have h_228 : Φ2 (x + 77) = some (ai_ G 12 (fun _ => 0)) := h_79
  have h_229 : Φ2 (x + 78) = some (ai_ G 4 (fun _ => 0)) := h_80
  have h_230 : Φ2 (x + 79) = some (ai_ G 4 (fun _ => 0)) := h_81
  have h_231 : Φ2 (x + 80) = some (o_ 4 [.ref (x + 3), .ref (x + 74), .ref (x + 81), .ref (x + 95), .int 0, .int 1, .int 1, .int 0, .int 0, .int 0, .long 0, .long 0, .long 0]) := h_82
  have h_232 : Φ2 (x + 81) = some (o_ 6 [.ref (x + 82), .int 0]) := h_83
  have h_233 : Φ2 (x + 82) = some (aq_ G 5 12 (va_up (va_up (va_up (va_up (va_up (va_up (va_up (va_up (va_up (va_up (va_up (va_up (fun _ => none) (0 : Int32).toNatClampNeg (some (x + 83))) (1 : Int32).toNatClampNeg (some (x + 84))) (2 : Int32).toNatClampNeg (some (x + 85))) (3 : Int32).toNatClampNeg (some (x + 86))) (4 : Int32).toNatClampNeg (some (x + 87))) (5 : Int32).toNatClampNeg (some (x + 88))) (6 : Int32).toNatClampNeg (some (x + 89))) (7 : Int32).toNatClampNeg (some (x + 90))) (8 : Int32).toNatClampNeg (some (x + 91))) (9 : Int32).toNatClampNeg (some (x + 92))) (10 : Int32).toNatClampNeg (some (x + 93))) (11 : Int32).toNatClampNeg (some (x + 94)))) := h_84
  have h_234 : Φ2 (x + 83) = some (o_ 5 [.long 0, .long 0, .long 0, .int 0, .int 0]) := h_85
  have h_235 : Φ2 (x + 84) = some (o_ 5 [.long 0, .long 0, .long 0, .int 0, .int 0]) := h_86
  have h_236 : Φ2 (x + 85) = some (o_ 5 [.long 0, .long 0, .long 0, .int 0, .int 0]) := h_87
  have h_237 : Φ2 (x + 86) = some (o_ 5 [.long 0, .long 0, .long 0, .int 0, .int 0]) := h_88
  have h_238 : Φ2 (x + 87) = some (o_ 5 [.long 0, .long 0, .long 0, .int 0, .int 0]) := h_89
  have h_239 : Φ2 (x + 88) = some (o_ 5 [.long 0, .long 0, .long 0, .int 0, .int 0]) := h_90
  have h_240 : Φ2 (x + 89) = some (o_ 5 [.long 0, .long 0, .long 0, .int 0, .int 0]) := h_91
  have h_241 : Φ2 (x + 90) = some (o_ 5 [.long 0, .long 0, .long 0, .int 0, .int 0]) := h_92
  have h_242 : Φ2 (x + 91) = some (o_ 5 [.long 0, .long 0, .long 0, .int 0, .int 0]) := h_93
  have h_243 : Φ2 (x + 92) = some (o_ 5 [.long 0, .long 0, .long 0, .int 0, .int 0]) := h_94
  have h_244 : Φ2 (x + 93) = some (o_ 5 [.long 0, .long 0, .long 0, .int 0, .int 0]) := h_95
  have h_245 : Φ2 (x + 94) = some (o_ 5 [.long 0, .long 0, .long 0, .int 0, .int 0]) := h_96
  have h_246 : Φ2 (x + 95) = some (o_ 6 [.ref (x + 96), .int 0]) := h_97
  have h_247 : Φ2 (x + 96) = some (aq_ G 5 24 (va_up (va_up (va_up (va_up (va_up (va_up (va_up (va_up (va_up (va_up (va_up (va_up (va_up (va_up (va_up (va_up (va_up (va_up (va_up (va_up (va_up (va_up (va_up (va_up (fun _ => none) (0 : Int32).toNatClampNeg (some (x + 97))) (1 : Int32).toNatClampNeg (some (x + 98))) (2 : Int32).toNatClampNeg (some (x + 99))) (3 : Int32).toNatClampNeg (some (x + 100))) (4 : Int32).toNatClampNeg (some (x + 101))) (5 : Int32).toNatClampNeg (some (x + 102))) (6 : Int32).toNatClampNeg (some (x + 103))) (7 : Int32).toNatClampNeg (some (x + 104))) (8 : Int32).toNatClampNeg (some (x + 105))) (9 : Int32).toNatClampNeg (some (x + 106))) (10 : Int32).toNatClampNeg (some (x + 107))) (11 : Int32).toNatClampNeg (some (x + 108))) (12 : Int32).toNatClampNeg (some (x + 109))) (13 : Int32).toNatClampNeg (some (x + 110))) (14 : Int32).toNatClampNeg (some (x + 111))) (15 : Int32).toNatClampNeg (some (x + 112))) (16 : Int32).toNatClampNeg (some (x + 113))) (17 : Int32).toNatClampNeg (some (x + 114))) (18 : Int32).toNatClampNeg (some (x + 115))) (19 : Int32).toNatClampNeg (some (x + 116))) (20 : Int32).toNatClampNeg (some (x + 117))) (21 : Int32).toNatClampNeg (some (x + 118))) (22 : Int32).toNatClampNeg (some (x + 119))) (23 : Int32).toNatClampNeg (some (x + 120)))) := h_98
  have h_248 : Φ2 (x + 97) = some (o_ 5 [.long 0, .long 0, .long 0, .int 0, .int 0]) := h_99
  have h_249 : Φ2 (x + 98) = some (o_ 5 [.long 0, .long 0, .long 0, .int 0, .int 0]) := h_100
  have h_250 : Φ2 (x + 99) = some (o_ 5 [.long 0, .long 0, .long 0, .int 0, .int 0]) := h_101
  have h_251 : Φ2 (x + 100) = some (o_ 5 [.long 0, .long 0, .long 0, .int 0, .int 0]) := h_102
  have h_252 : Φ2 (x + 101) = some (o_ 5 [.long 0, .long 0, .long 0, .int 0, .int 0]) := h_103
  have h_253 : Φ2 (x + 102) = some (o_ 5 [.long 0, .long 0, .long 0, .int 0, .int 0]) := h_104
  have h_254 : Φ2 (x + 103) = some (o_ 5 [.long 0, .long 0, .long 0, .int 0, .int 0]) := h_105
  have h_255 : Φ2 (x + 104) = some (o_ 5 [.long 0, .long 0, .long 0, .int 0, .int 0]) := h_106
  have h_256 : Φ2 (x + 105) = some (o_ 5 [.long 0, .long 0, .long 0, .int 0, .int 0]) := h_107
  have h_257 : Φ2 (x + 106) = some (o_ 5 [.long 0, .long 0, .long 0, .int 0, .int 0]) := h_108
  have h_258 : Φ2 (x + 107) = some (o_ 5 [.long 0, .long 0, .long 0, .int 0, .int 0]) := h_109
  have h_259 : Φ2 (x + 108) = some (o_ 5 [.long 0, .long 0, .long 0, .int 0, .int 0]) := h_110
  have h_260 : Φ2 (x + 109) = some (o_ 5 [.long 0, .long 0, .long 0, .int 0, .int 0]) := h_111
  have h_261 : Φ2 (x + 110) = some (o_ 5 [.long 0, .long 0, .long 0, .int 0, .int 0]) := h_112
  have h_262 : Φ2 (x + 111) = some (o_ 5 [.long 0, .long 0, .long 0, .int 0, .int 0]) := h_113
  have h_263 : Φ2 (x + 112) = some (o_ 5 [.long 0, .long 0, .long 0, .int 0, .int 0]) := h_114
  have h_264 : Φ2 (x + 113) = some (o_ 5 [.long 0, .long 0, .long 0, .int 0, .int 0]) := h_115
  have h_265 : Φ2 (x + 114) = some (o_ 5 [.long 0, .long 0, .long 0, .int 0, .int 0]) := h_116
  have h_266 : Φ2 (x + 115) = some (o_ 5 [.long 0, .long 0, .long 0, .int 0, .int 0]) := h_117
  have h_267 : Φ2 (x + 116) = some (o_ 5 [.long 0, .long 0, .long 0, .int 0, .int 0]) := h_118
  have h_268 : Φ2 (x + 117) = some (o_ 5 [.long 0, .long 0, .long 0, .int 0, .int 0]) := h_119
  have h_269 : Φ2 (x + 118) = some (o_ 5 [.long 0, .long 0, .long 0, .int 0, .int 0]) := h_120
  have h_270 : Φ2 (x + 119) = some (o_ 5 [.long 0, .long 0, .long 0, .int 0, .int 0]) := h_121
  have h_271 : Φ2 (x + 120) = some (o_ 5 [.long 0, .long 0, .long 0, .int 0, .int 0]) := h_122
  have h_272 : Φ2 (x + 121) = some (o_ 11 [.ref (x + 122), .ref (x + 123), .ref (x + 126), .ref (x + 129), .int 0]) := h_123
  have h_273 : Φ2 (x + 122) = some (al_ G 24 (fun _ => 0)) := h_124
  have h_274 : Φ2 (x + 123) = some (aq_ G 7 2 (fun i => if i < 2 then some (x + 123 + 1 + i) else none)) := h_125
  have h_275 : Φ2 (x + 124) = some (al_ G 24 (fun _ => 0)) := h_126
  have h_276 : Φ2 (x + 125) = some (al_ G 24 (fun _ => 0)) := h_127
  have h_277 : Φ2 (x + 126) = some (aq_ G 7 2 (fun i => if i < 2 then some (x + 126 + 1 + i) else none)) := h_128
  have h_278 : Φ2 (x + 127) = some (al_ G 24 (fun _ => 0)) := h_129
  have h_279 : Φ2 (x + 128) = some (al_ G 24 (fun _ => 0)) := h_130
  have h_280 : Φ2 (x + 129) = some (aq_ G 8 2 (fun i => if i < 2 then some (x + 129 + 1 + i) else none)) := h_131
  have h_281 : Φ2 (x + 130) = some (ad_ G 24 (fun _ => 0)) := h_132
  have h_282 : Φ2 (x + 131) = some (ad_ G 24 (fun _ => 0)) := h_133
  have h_283 : Φ2 (x + 132) = some (o_ 2 [.ref (x + 3), .ref (x + 121), .ref (x + 133), .ref (x + 134), .ref (x + 135), .ref (x + 137), .ref (x + 138), .ref (x + 139), .ref (x + 140), .int 0, .int 0, .int 0]) := h_134
  have h_284 : Φ2 (x + 133) = some (aq_ G 4 4 (va_up (va_up (va_up (va_up (fun _ => none) (0 : Int32).toNatClampNeg (some (x + 141))) (1 : Int32).toNatClampNeg (some (x + 143))) (2 : Int32).toNatClampNeg (some (x + 145))) (3 : Int32).toNatClampNeg (some (x + 147)))) := h_135
  have h_285 : Φ2 (x + 134) = some (ai_ G 4 (fun _ => 0)) := h_136
  have h_286 : Φ2 (x + 135) = some (o_ 12 [.ref (x + 136), .int 0, .int 0, .int 0]) := h_137
  have h_287 : Φ2 (x + 136) = some (ai_ G 9 (fun _ => 0)) := h_138
  have h_288 : Φ2 (x + 137) = some (ai_ G 8 (fun _ => 0)) := h_139
  have h_289 : Φ2 (x + 138) = some (ai_ G 8 (fun _ => 0)) := h_140
  have h_290 : Φ2 (x + 139) = some (al_ G 9 (fun _ => 0)) := h_141
  have h_291 : Φ2 (x + 140) = some (al_ G 9 (fun _ => 0)) := h_142
  have h_292 : Φ2 (x + 141) = some (o_ 12 [.ref (x + 142), .int 0, .int 0, .int 0]) := h_143
  have h_293 : Φ2 (x + 142) = some (ai_ G 9 (fun _ => 0)) := h_144
  have h_294 : Φ2 (x + 143) = some (o_ 12 [.ref (x + 144), .int 0, .int 0, .int 0]) := h_145
  have h_295 : Φ2 (x + 144) = some (ai_ G 9 (fun _ => 0)) := h_146
  have h_296 : Φ2 (x + 145) = some (o_ 12 [.ref (x + 146), .int 0, .int 0, .int 0]) := h_147
  have h_297 : Φ2 (x + 146) = some (ai_ G 9 (fun _ => 0)) := h_148
  have h_298 : Φ2 (x + 147) = some (o_ 12 [.ref (x + 148), .int 0, .int 0, .int 0]) := h_149
  have h_299 : Φ2 (x + 148) = some (ai_ G 9 (fun _ => 0)) := h_150
  refine z_astore_n (lv' := [(1, .ref x), (0, .ref b)]) B dL_law_7 rfl (Nat.le_of_ble_eq_true rfl) rfl ?_
  refine z_new (C := RX12) (T := TX12) (N := 54) (ci := 14) (fs := [.int 0, .null, .null, .int 0, .int 0, .int 0, .int 0, .int 0, .null, .null, .int 0, .long 0, .null, .int 0, .int 0, .long 0, .long 0, .long 0, .long 0, .null, .null, .int 0, .null, .int 0, .null, .null, .int 0, .null, .null, .null, .null, .null, .null, .int 0, .long 0, .null, .null, .null, .null, .null, .null, .int 0, .null, .null, .int 0, .null, .int 0, .int 0, .int 0, .int 0, .int 0, .int 0, .int 0, .long 0]) B (by decide +kernel) tyX12 tyX12_ok (by decide +kernel) (by decide +kernel) (by decide +kernel) rfl (by decide +kernel) (Nat.le_of_ble_eq_true rfl) (Nat.le_of_ble_eq_true rfl) dL_law_8 (fun Φ3 hΦ2 hz2 => ?_)
  have h_300 : Φ3 (x + 149) = some (o_ 14 [.int 0, .null, .null, .int 0, .int 0, .int 0, .int 0, .int 0, .null, .null, .int 0, .long 0, .null, .int 0, .int 0, .long 0, .long 0, .long 0, .long 0, .null, .null, .int 0, .null, .int 0, .null, .null, .int 0, .null, .null, .null, .null, .null, .null, .int 0, .long 0, .null, .null, .null, .null, .null, .null, .int 0, .null, .null, .int 0, .null, .int 0, .int 0, .int 0, .int 0, .int 0, .int 0, .int 0, .long 0]) := fset_at hΦ2
  refine z_dup B dL_law_11 rfl ?_
  refine z_callI (As := []) (rest := [.ref (x + 149)]) B (c_X12_init G l Φ3 (x + 150) (x + 149) rfl h_300 hz2) (cwI 0 B.1.2.2.2.2 gL_law_X12_init rfl rfl rfl (B.1.2.2.2.2 _ (by decide +kernel)) (B.1.2.2.2.2 _ (by decide +kernel)) (B.1.2.2.2.2 _ (by decide +kernel)) rfl (by decide +kernel) ⟨Nat.le_of_ble_eq_true rfl, Nat.le_of_ble_eq_true rfl⟩) rfl rfl (Nat.le_of_ble_eq_true rfl) dL_law_12 ⟨Nat.le_of_ble_eq_true rfl, Nat.le_of_ble_eq_true rfl⟩ (fun v2 Φ4 sz2 st2 hp2 hs2 => ?_)
  obtain ⟨rfl, hq2, fr2, h_301, h_302, h_303, h_304, h_305, h_306, h_307, h_308, h_309, h_310, h_311, h_312, h_313, h_314, h_315, h_316, h_317, h_318, h_319, h_320, h_321, h_322, h_323, h_324, h_325, h_326⟩ := hp2
  replace hq2 : sz2 = x + 175 := hq2
  subst sz2
  replace hs2 : st2 = [.ref (x + 149)] := hs2
  subst st2
  have h_327 : Φ4 (x + 149) = some (o_ 14 [.int 0, .ref (x + 150), .ref (x + 151), .int 0, .int 1, .int 1, .int 0, .int 0, .ref (x + 152), .ref (x + 153), .int 0, .long 0, .ref (x + 154), .int 0, .int 0, .long 0, .long 0, .long 0, .long 0, .ref (x + 155), .ref (x + 156), .int 0, .ref (x + 157), .int 0, .ref (x + 158), .ref (x + 159), .int 0, .ref (x + 160), .ref (x + 161), .ref (x + 162), .ref (x + 163), .ref (x + 164), .ref (x + 165), .int 0, .long (-1), .ref (x + 166), .ref (x + 167), .ref (x + 168), .ref (x + 169), .ref (x + 170), .ref (x + 171), .int 0, .ref (x + 172), .ref (x + 173), .int 0, .ref (x + 174), .int 0, .int 0, .int 0, .int (-1), .int 0, .int 0, .int 0, .long 0]) := h_301
  have h_328 : Φ4 (x + 150) = some (ai_ G 307 (upd (upd (upd (upd (upd (upd (upd (upd (upd (upd (upd (upd (upd (upd (upd (upd (upd (upd (upd (upd (upd (fun _ => 0) (0 : Int32).toNatClampNeg 1) (1 : Int32).toNatClampNeg 100) (2 : Int32).toNatClampNeg 1000) (3 : Int32).toNatClampNeg 100) (4 : Int32).toNatClampNeg 20) (5 : Int32).toNatClampNeg 1000) (6 : Int32).toNatClampNeg 5000) (7 : Int32).toNatClampNeg 512) (8 : Int32).toNatClampNeg 1) (9 : Int32).toNatClampNeg 511) (10 : Int32).toNatClampNeg 1) (11 : Int32).toNatClampNeg 9) (15 : Int32).toNatClampNeg 0) (16 : Int32).toNatClampNeg 1) (17 : Int32).toNatClampNeg 2) (18 : Int32).toNatClampNeg 3) (19 : Int32).toNatClampNeg 4) (20 : Int32).toNatClampNeg 5) (21 : Int32).toNatClampNeg 6) (22 : Int32).toNatClampNeg 7) (23 : Int32).toNatClampNeg 8)) := h_302
  have h_329 : Φ4 (x + 151) = some (ai_ G 307 (upd (upd (upd (upd (upd (upd (upd (upd (upd (upd (upd (upd (upd (upd (upd (upd (upd (upd (upd (upd (upd (fun _ => 0) (0 : Int32).toNatClampNeg 1) (1 : Int32).toNatClampNeg 100) (2 : Int32).toNatClampNeg 1000) (3 : Int32).toNatClampNeg 100) (4 : Int32).toNatClampNeg 20) (5 : Int32).toNatClampNeg 1000) (6 : Int32).toNatClampNeg 5000) (7 : Int32).toNatClampNeg 512) (8 : Int32).toNatClampNeg 1) (9 : Int32).toNatClampNeg 511) (10 : Int32).toNatClampNeg 1) (11 : Int32).toNatClampNeg 9) (15 : Int32).toNatClampNeg 0) (16 : Int32).toNatClampNeg 1) (17 : Int32).toNatClampNeg 2) (18 : Int32).toNatClampNeg 3) (19 : Int32).toNatClampNeg 4) (20 : Int32).toNatClampNeg 5) (21 : Int32).toNatClampNeg 6) (22 : Int32).toNatClampNeg 7) (23 : Int32).toNatClampNeg 8)) := h_303
  have h_330 : Φ4 (x + 152) = some (ai_ G 4 (upd (upd (upd (upd (fun _ => 0) (0 : Int32).toNatClampNeg (-1)) (1 : Int32).toNatClampNeg (-1)) (2 : Int32).toNatClampNeg (-1)) (3 : Int32).toNatClampNeg (-1))) := h_304
  have h_331 : Φ4 (x + 153) = some (ai_ G 4 (fun _ => 0)) := h_305
  have h_332 : Φ4 (x + 154) = some (al_ G 96 (fun _ => 0)) := h_306
  have h_333 : Φ4 (x + 155) = some (ai_ G 24 (fun _ => 0)) := h_307
  have h_334 : Φ4 (x + 156) = some (ai_ G 720 (fun _ => 0)) := h_308
  have h_335 : Φ4 (x + 157) = some (ai_ G 700 (fun _ => 0)) := h_309
  have h_336 : Φ4 (x + 158) = some (ai_ G 7200 (fun _ => 0)) := h_310
  have h_337 : Φ4 (x + 159) = some (ai_ G 12 (fun _ => 0)) := h_311
  have h_338 : Φ4 (x + 160) = some (al_ G 9 (vp_updL (vp_updL (vp_updL (vp_updL (vp_updL (vp_updL (vp_updL (vp_updL (vp_updL (fun _ => 0) (0 : Int32).toNatClampNeg 0) (1 : Int32).toNatClampNeg 0) (2 : Int32).toNatClampNeg 0) (3 : Int32).toNatClampNeg 0) (4 : Int32).toNatClampNeg 0) (5 : Int32).toNatClampNeg 0) (6 : Int32).toNatClampNeg 0) (7 : Int32).toNatClampNeg 0) (8 : Int32).toNatClampNeg 0)) := h_312
  have h_339 : Φ4 (x + 161) = some (ai_ G 4 (upd (upd (upd (upd (fun _ => 0) (0 : Int32).toNatClampNeg 0) (1 : Int32).toNatClampNeg 0) (2 : Int32).toNatClampNeg 0) (3 : Int32).toNatClampNeg 0)) := h_313
  have h_340 : Φ4 (x + 162) = some (ai_ G 36 (fun _ => 0)) := h_314
  have h_341 : Φ4 (x + 163) = some (ai_ G 4 (fun _ => 0)) := h_315
  have h_342 : Φ4 (x + 164) = some (al_ G 8 (fun _ => 0)) := h_316
  have h_343 : Φ4 (x + 165) = some (al_ G 8 (fun _ => 0)) := h_317
  have h_344 : Φ4 (x + 166) = some (ai_ G 9 (fun _ => 0)) := h_318
  have h_345 : Φ4 (x + 167) = some (al_ G 9 (fun _ => 0)) := h_319
  have h_346 : Φ4 (x + 168) = some (ai_ G 96 (fun _ => 0)) := h_320
  have h_347 : Φ4 (x + 169) = some (al_ G 48 (fun _ => 0)) := h_321
  have h_348 : Φ4 (x + 170) = some (al_ G 48 (fun _ => 0)) := h_322
  have h_349 : Φ4 (x + 171) = some (ad_ G 48 (fun _ => 0)) := h_323
  have h_350 : Φ4 (x + 172) = some (ai_ G 96 (fun _ => 0)) := h_324
  have h_351 : Φ4 (x + 173) = some (al_ G 48 (fun _ => 0)) := h_325
  have h_352 : Φ4 (x + 174) = some (ab_ G 700 (fun _ => 0)) := h_326
  refine z_astore_n (lv' := [(2, .ref (x + 149)), (1, .ref x), (0, .ref b)]) B dL_law_15 rfl (Nat.le_of_ble_eq_true rfl) rfl ?_
  refine z_iconst (v := 1) B dL_law_16 rfl ?_
  refine z_newa (atype := .long) (ty := .long) (t := 1) (N' := 1) (a0 := (1, .inr (.inl (fun _ => 0)))) B (by decide +kernel) rfl rfl (fun _ h9 => by cases h9) (fun _ => rfl) (by decide) rfl (Nat.le_of_ble_eq_true rfl) (Nat.le_of_ble_eq_true rfl) (Nat.le_of_ble_eq_true rfl) dL_law_17 (fun Φ5 hΦ3 hz3 => ?_)
  have h_353 : Φ5 (x + 175) = some (al_ G 1 (fun _ => 0)) := fset_at hΦ3
  refine z_astore_n (lv' := [(3, .ref (x + 175)), (2, .ref (x + 149)), (1, .ref x), (0, .ref b)]) B dL_law_19 rfl (Nat.le_of_ble_eq_true rfl) rfl ?_
  refine z_iconst (v := 1) B dL_law_20 rfl ?_
  refine z_newa (atype := .double) (ty := .double) (t := 3) (N' := 1) (a0 := (1, .inr (.inr (.inr (.inl (fun _ => 0)))))) B (by decide +kernel) rfl rfl (fun _ h9 => by cases h9) (fun _ => rfl) (by decide) rfl (Nat.le_of_ble_eq_true rfl) (Nat.le_of_ble_eq_true rfl) (Nat.le_of_ble_eq_true rfl) dL_law_21 (fun Φ6 hΦ4 hz4 => ?_)
  have h_354 : Φ6 (x + 176) = some (ad_ G 1 (fun _ => 0)) := fset_at hΦ4
  refine z_astore (lv' := [(4, .ref (x + 176)), (3, .ref (x + 175)), (2, .ref (x + 149)), (1, .ref x), (0, .ref b)]) B dL_law_23 (Nat.le_of_ble_eq_true rfl) rfl ?_
  refine z_iconst (v := 0) B dL_law_25 rfl ?_
  refine z_istore (lv' := [(5, .int 0), (4, .ref (x + 176)), (3, .ref (x + 175)), (2, .ref (x + 149)), (1, .ref x), (0, .ref b)]) B dL_law_26 (Nat.le_of_ble_eq_true rfl) rfl ?_
  have h_355 : Φ6 x = some (o_ 13 [.ref (x + 1), .ref (x + 3), .ref (x + 24), .ref (x + 46), .ref (x + 74), .ref (x + 80), .ref (x + 132), .ref (x + 121)]) := ((fset_fr hΦ4 (ne_off (x := x) (i := 0) (j := 176) rfl)).trans ((fset_fr hΦ3 (ne_off (x := x) (i := 0) (j := 175) rfl)).trans ((fr2 x (lt_off (x := x) (i := 0) (j := 150) rfl) (ne_off (x := x) (i := 0) (j := 149) rfl)).trans ((fset_fr hΦ2 (ne_off (x := x) (i := 0) (j := 149) rfl)).trans h_151))))
  have h_356 : Φ6 (x + 1) = some (o_ 7 [.ref (x + 2), .int 0]) := ((fset_fr hΦ4 (ne_off (x := x) (i := 1) (j := 176) rfl)).trans ((fset_fr hΦ3 (ne_off (x := x) (i := 1) (j := 175) rfl)).trans ((fr2 (x + 1) (lt_off (x := x) (i := 1) (j := 150) rfl) (ne_off (x := x) (i := 1) (j := 149) rfl)).trans ((fset_fr hΦ2 (ne_off (x := x) (i := 1) (j := 149) rfl)).trans h_152))))
  have h_357 : Φ6 (x + 2) = some (ab_ G 700 (fun _ => 0)) := ((fset_fr hΦ4 (ne_off (x := x) (i := 2) (j := 176) rfl)).trans ((fset_fr hΦ3 (ne_off (x := x) (i := 2) (j := 175) rfl)).trans ((fr2 (x + 2) (lt_off (x := x) (i := 2) (j := 150) rfl) (ne_off (x := x) (i := 2) (j := 149) rfl)).trans ((fset_fr hΦ2 (ne_off (x := x) (i := 2) (j := 149) rfl)).trans h_153))))
  have h_358 : Φ6 (x + 3) = some (o_ 3 [.ref (x + 4), .ref (x + 5), .ref (x + 6), .ref (x + 7), .int 1, .int 511]) := ((fset_fr hΦ4 (ne_off (x := x) (i := 3) (j := 176) rfl)).trans ((fset_fr hΦ3 (ne_off (x := x) (i := 3) (j := 175) rfl)).trans ((fr2 (x + 3) (lt_off (x := x) (i := 3) (j := 150) rfl) (ne_off (x := x) (i := 3) (j := 149) rfl)).trans ((fset_fr hΦ2 (ne_off (x := x) (i := 3) (j := 149) rfl)).trans h_154))))
  have h_359 : Φ6 (x + 4) = some (ai_ G 9 usT) := ((fset_fr hΦ4 (ne_off (x := x) (i := 4) (j := 176) rfl)).trans ((fset_fr hΦ3 (ne_off (x := x) (i := 4) (j := 175) rfl)).trans ((fr2 (x + 4) (lt_off (x := x) (i := 4) (j := 150) rfl) (ne_off (x := x) (i := 4) (j := 149) rfl)).trans ((fset_fr hΦ2 (ne_off (x := x) (i := 4) (j := 149) rfl)).trans h_155))))
  have h_360 : Φ6 (x + 5) = some (ai_ G 256 (fun _ => 0)) := ((fset_fr hΦ4 (ne_off (x := x) (i := 5) (j := 176) rfl)).trans ((fset_fr hΦ3 (ne_off (x := x) (i := 5) (j := 175) rfl)).trans ((fr2 (x + 5) (lt_off (x := x) (i := 5) (j := 150) rfl) (ne_off (x := x) (i := 5) (j := 149) rfl)).trans ((fset_fr hΦ2 (ne_off (x := x) (i := 5) (j := 149) rfl)).trans h_156))))
  have h_361 : Φ6 (x + 6) = some (aq_ G 4 4 (va_up (va_up (va_up (va_up (fun _ => none) (0 : Int32).toNatClampNeg (some (x + 8))) (1 : Int32).toNatClampNeg (some (x + 12))) (2 : Int32).toNatClampNeg (some (x + 16))) (3 : Int32).toNatClampNeg (some (x + 20)))) := ((fset_fr hΦ4 (ne_off (x := x) (i := 6) (j := 176) rfl)).trans ((fset_fr hΦ3 (ne_off (x := x) (i := 6) (j := 175) rfl)).trans ((fr2 (x + 6) (lt_off (x := x) (i := 6) (j := 150) rfl) (ne_off (x := x) (i := 6) (j := 149) rfl)).trans ((fset_fr hΦ2 (ne_off (x := x) (i := 6) (j := 149) rfl)).trans h_157))))
  have h_362 : Φ6 (x + 7) = some (aq_ G 4 4 (va_up (va_up (va_up (va_up (fun _ => none) (0 : Int32).toNatClampNeg (some (x + 10))) (1 : Int32).toNatClampNeg (some (x + 14))) (2 : Int32).toNatClampNeg (some (x + 18))) (3 : Int32).toNatClampNeg (some (x + 22)))) := ((fset_fr hΦ4 (ne_off (x := x) (i := 7) (j := 176) rfl)).trans ((fset_fr hΦ3 (ne_off (x := x) (i := 7) (j := 175) rfl)).trans ((fr2 (x + 7) (lt_off (x := x) (i := 7) (j := 150) rfl) (ne_off (x := x) (i := 7) (j := 149) rfl)).trans ((fset_fr hΦ2 (ne_off (x := x) (i := 7) (j := 149) rfl)).trans h_158))))
  have h_363 : Φ6 (x + 8) = some (o_ 12 [.ref (x + 9), .int 9, .int 511, .int 29]) := ((fset_fr hΦ4 (ne_off (x := x) (i := 8) (j := 176) rfl)).trans ((fset_fr hΦ3 (ne_off (x := x) (i := 8) (j := 175) rfl)).trans ((fr2 (x + 8) (lt_off (x := x) (i := 8) (j := 150) rfl) (ne_off (x := x) (i := 8) (j := 149) rfl)).trans ((fset_fr hΦ2 (ne_off (x := x) (i := 8) (j := 149) rfl)).trans h_159))))
  have h_364 : Φ6 (x + 9) = some (ai_ G 9 (upd (upd (upd (upd (upd (upd (upd (upd (upd (fun _ => 0) (0 : Int32).toNatClampNeg 0) (1 : Int32).toNatClampNeg 1) (2 : Int32).toNatClampNeg 2) (3 : Int32).toNatClampNeg 3) (4 : Int32).toNatClampNeg 4) (5 : Int32).toNatClampNeg 5) (6 : Int32).toNatClampNeg 6) (7 : Int32).toNatClampNeg 7) (8 : Int32).toNatClampNeg 8)) := ((fset_fr hΦ4 (ne_off (x := x) (i := 9) (j := 176) rfl)).trans ((fset_fr hΦ3 (ne_off (x := x) (i := 9) (j := 175) rfl)).trans ((fr2 (x + 9) (lt_off (x := x) (i := 9) (j := 150) rfl) (ne_off (x := x) (i := 9) (j := 149) rfl)).trans ((fset_fr hΦ2 (ne_off (x := x) (i := 9) (j := 149) rfl)).trans h_160))))
  have h_365 : Φ6 (x + 10) = some (o_ 12 [.ref (x + 11), .int 9, .int 511, .int 29]) := ((fset_fr hΦ4 (ne_off (x := x) (i := 10) (j := 176) rfl)).trans ((fset_fr hΦ3 (ne_off (x := x) (i := 10) (j := 175) rfl)).trans ((fr2 (x + 10) (lt_off (x := x) (i := 10) (j := 150) rfl) (ne_off (x := x) (i := 10) (j := 149) rfl)).trans ((fset_fr hΦ2 (ne_off (x := x) (i := 10) (j := 149) rfl)).trans h_161))))
  have h_366 : Φ6 (x + 11) = some (ai_ G 9 (upd (upd (upd (upd (upd (upd (upd (upd (upd (fun _ => 0) (0 : Int32).toNatClampNeg 0) (1 : Int32).toNatClampNeg 1) (2 : Int32).toNatClampNeg 2) (3 : Int32).toNatClampNeg 3) (4 : Int32).toNatClampNeg 4) (5 : Int32).toNatClampNeg 5) (6 : Int32).toNatClampNeg 6) (7 : Int32).toNatClampNeg 7) (8 : Int32).toNatClampNeg 8)) := ((fset_fr hΦ4 (ne_off (x := x) (i := 11) (j := 176) rfl)).trans ((fset_fr hΦ3 (ne_off (x := x) (i := 11) (j := 175) rfl)).trans ((fr2 (x + 11) (lt_off (x := x) (i := 11) (j := 150) rfl) (ne_off (x := x) (i := 11) (j := 149) rfl)).trans ((fset_fr hΦ2 (ne_off (x := x) (i := 11) (j := 149) rfl)).trans h_162))))
  have h_367 : Φ6 (x + 12) = some (o_ 12 [.ref (x + 13), .int 0, .int 0, .int 0]) := ((fset_fr hΦ4 (ne_off (x := x) (i := 12) (j := 176) rfl)).trans ((fset_fr hΦ3 (ne_off (x := x) (i := 12) (j := 175) rfl)).trans ((fr2 (x + 12) (lt_off (x := x) (i := 12) (j := 150) rfl) (ne_off (x := x) (i := 12) (j := 149) rfl)).trans ((fset_fr hΦ2 (ne_off (x := x) (i := 12) (j := 149) rfl)).trans h_163))))
  have h_368 : Φ6 (x + 14) = some (o_ 12 [.ref (x + 15), .int 0, .int 0, .int 0]) := ((fset_fr hΦ4 (ne_off (x := x) (i := 14) (j := 176) rfl)).trans ((fset_fr hΦ3 (ne_off (x := x) (i := 14) (j := 175) rfl)).trans ((fr2 (x + 14) (lt_off (x := x) (i := 14) (j := 150) rfl) (ne_off (x := x) (i := 14) (j := 149) rfl)).trans ((fset_fr hΦ2 (ne_off (x := x) (i := 14) (j := 149) rfl)).trans h_165))))
  have h_369 : Φ6 (x + 16) = some (o_ 12 [.ref (x + 17), .int 0, .int 0, .int 0]) := ((fset_fr hΦ4 (ne_off (x := x) (i := 16) (j := 176) rfl)).trans ((fset_fr hΦ3 (ne_off (x := x) (i := 16) (j := 175) rfl)).trans ((fr2 (x + 16) (lt_off (x := x) (i := 16) (j := 150) rfl) (ne_off (x := x) (i := 16) (j := 149) rfl)).trans ((fset_fr hΦ2 (ne_off (x := x) (i := 16) (j := 149) rfl)).trans h_167))))
  have h_370 : Φ6 (x + 18) = some (o_ 12 [.ref (x + 19), .int 0, .int 0, .int 0]) := ((fset_fr hΦ4 (ne_off (x := x) (i := 18) (j := 176) rfl)).trans ((fset_fr hΦ3 (ne_off (x := x) (i := 18) (j := 175) rfl)).trans ((fr2 (x + 18) (lt_off (x := x) (i := 18) (j := 150) rfl) (ne_off (x := x) (i := 18) (j := 149) rfl)).trans ((fset_fr hΦ2 (ne_off (x := x) (i := 18) (j := 149) rfl)).trans h_169))))
  have h_371 : Φ6 (x + 20) = some (o_ 12 [.ref (x + 21), .int 0, .int 0, .int 0]) := ((fset_fr hΦ4 (ne_off (x := x) (i := 20) (j := 176) rfl)).trans ((fset_fr hΦ3 (ne_off (x := x) (i := 20) (j := 175) rfl)).trans ((fr2 (x + 20) (lt_off (x := x) (i := 20) (j := 150) rfl) (ne_off (x := x) (i := 20) (j := 149) rfl)).trans ((fset_fr hΦ2 (ne_off (x := x) (i := 20) (j := 149) rfl)).trans h_171))))
  have h_372 : Φ6 (x + 22) = some (o_ 12 [.ref (x + 23), .int 0, .int 0, .int 0]) := ((fset_fr hΦ4 (ne_off (x := x) (i := 22) (j := 176) rfl)).trans ((fset_fr hΦ3 (ne_off (x := x) (i := 22) (j := 175) rfl)).trans ((fr2 (x + 22) (lt_off (x := x) (i := 22) (j := 150) rfl) (ne_off (x := x) (i := 22) (j := 149) rfl)).trans ((fset_fr hΦ2 (ne_off (x := x) (i := 22) (j := 149) rfl)).trans h_173))))
  have h_373 : Φ6 (x + 24) = some (o_ 8 [.ref (x + 25), .int 0, .int (-1), .ref (x + 1), .int 0, .int 0, .int 0, .int 0]) := ((fset_fr hΦ4 (ne_off (x := x) (i := 24) (j := 176) rfl)).trans ((fset_fr hΦ3 (ne_off (x := x) (i := 24) (j := 175) rfl)).trans ((fr2 (x + 24) (lt_off (x := x) (i := 24) (j := 150) rfl) (ne_off (x := x) (i := 24) (j := 149) rfl)).trans ((fset_fr hΦ2 (ne_off (x := x) (i := 24) (j := 149) rfl)).trans h_175))))
  have h_374 : Φ6 (x + 25) = some (o_ 3 [.ref (x + 26), .ref (x + 27), .ref (x + 28), .ref (x + 29), .int 1, .int 511]) := ((fset_fr hΦ4 (ne_off (x := x) (i := 25) (j := 176) rfl)).trans ((fset_fr hΦ3 (ne_off (x := x) (i := 25) (j := 175) rfl)).trans ((fr2 (x + 25) (lt_off (x := x) (i := 25) (j := 150) rfl) (ne_off (x := x) (i := 25) (j := 149) rfl)).trans ((fset_fr hΦ2 (ne_off (x := x) (i := 25) (j := 149) rfl)).trans h_176))))
  have h_375 : Φ6 (x + 26) = some (ai_ G 9 usT) := ((fset_fr hΦ4 (ne_off (x := x) (i := 26) (j := 176) rfl)).trans ((fset_fr hΦ3 (ne_off (x := x) (i := 26) (j := 175) rfl)).trans ((fr2 (x + 26) (lt_off (x := x) (i := 26) (j := 150) rfl) (ne_off (x := x) (i := 26) (j := 149) rfl)).trans ((fset_fr hΦ2 (ne_off (x := x) (i := 26) (j := 149) rfl)).trans h_177))))
  have h_376 : Φ6 (x + 27) = some (ai_ G 256 (fun _ => 0)) := ((fset_fr hΦ4 (ne_off (x := x) (i := 27) (j := 176) rfl)).trans ((fset_fr hΦ3 (ne_off (x := x) (i := 27) (j := 175) rfl)).trans ((fr2 (x + 27) (lt_off (x := x) (i := 27) (j := 150) rfl) (ne_off (x := x) (i := 27) (j := 149) rfl)).trans ((fset_fr hΦ2 (ne_off (x := x) (i := 27) (j := 149) rfl)).trans h_178))))
  have h_377 : Φ6 (x + 28) = some (aq_ G 4 4 (va_up (va_up (va_up (va_up (fun _ => none) (0 : Int32).toNatClampNeg (some (x + 30))) (1 : Int32).toNatClampNeg (some (x + 34))) (2 : Int32).toNatClampNeg (some (x + 38))) (3 : Int32).toNatClampNeg (some (x + 42)))) := ((fset_fr hΦ4 (ne_off (x := x) (i := 28) (j := 176) rfl)).trans ((fset_fr hΦ3 (ne_off (x := x) (i := 28) (j := 175) rfl)).trans ((fr2 (x + 28) (lt_off (x := x) (i := 28) (j := 150) rfl) (ne_off (x := x) (i := 28) (j := 149) rfl)).trans ((fset_fr hΦ2 (ne_off (x := x) (i := 28) (j := 149) rfl)).trans h_179))))
  have h_378 : Φ6 (x + 30) = some (o_ 12 [.ref (x + 31), .int 9, .int 511, .int 29]) := ((fset_fr hΦ4 (ne_off (x := x) (i := 30) (j := 176) rfl)).trans ((fset_fr hΦ3 (ne_off (x := x) (i := 30) (j := 175) rfl)).trans ((fr2 (x + 30) (lt_off (x := x) (i := 30) (j := 150) rfl) (ne_off (x := x) (i := 30) (j := 149) rfl)).trans ((fset_fr hΦ2 (ne_off (x := x) (i := 30) (j := 149) rfl)).trans h_181))))
  have h_379 : Φ6 (x + 31) = some (ai_ G 9 (upd (upd (upd (upd (upd (upd (upd (upd (upd (fun _ => 0) (0 : Int32).toNatClampNeg 0) (1 : Int32).toNatClampNeg 1) (2 : Int32).toNatClampNeg 2) (3 : Int32).toNatClampNeg 3) (4 : Int32).toNatClampNeg 4) (5 : Int32).toNatClampNeg 5) (6 : Int32).toNatClampNeg 6) (7 : Int32).toNatClampNeg 7) (8 : Int32).toNatClampNeg 8)) := ((fset_fr hΦ4 (ne_off (x := x) (i := 31) (j := 176) rfl)).trans ((fset_fr hΦ3 (ne_off (x := x) (i := 31) (j := 175) rfl)).trans ((fr2 (x + 31) (lt_off (x := x) (i := 31) (j := 150) rfl) (ne_off (x := x) (i := 31) (j := 149) rfl)).trans ((fset_fr hΦ2 (ne_off (x := x) (i := 31) (j := 149) rfl)).trans h_182))))
  have h_380 : Φ6 (x + 34) = some (o_ 12 [.ref (x + 35), .int 0, .int 0, .int 0]) := ((fset_fr hΦ4 (ne_off (x := x) (i := 34) (j := 176) rfl)).trans ((fset_fr hΦ3 (ne_off (x := x) (i := 34) (j := 175) rfl)).trans ((fr2 (x + 34) (lt_off (x := x) (i := 34) (j := 150) rfl) (ne_off (x := x) (i := 34) (j := 149) rfl)).trans ((fset_fr hΦ2 (ne_off (x := x) (i := 34) (j := 149) rfl)).trans h_185))))
  have h_381 : Φ6 (x + 38) = some (o_ 12 [.ref (x + 39), .int 0, .int 0, .int 0]) := ((fset_fr hΦ4 (ne_off (x := x) (i := 38) (j := 176) rfl)).trans ((fset_fr hΦ3 (ne_off (x := x) (i := 38) (j := 175) rfl)).trans ((fr2 (x + 38) (lt_off (x := x) (i := 38) (j := 150) rfl) (ne_off (x := x) (i := 38) (j := 149) rfl)).trans ((fset_fr hΦ2 (ne_off (x := x) (i := 38) (j := 149) rfl)).trans h_189))))
  have h_382 : Φ6 (x + 42) = some (o_ 12 [.ref (x + 43), .int 0, .int 0, .int 0]) := ((fset_fr hΦ4 (ne_off (x := x) (i := 42) (j := 176) rfl)).trans ((fset_fr hΦ3 (ne_off (x := x) (i := 42) (j := 175) rfl)).trans ((fr2 (x + 42) (lt_off (x := x) (i := 42) (j := 150) rfl) (ne_off (x := x) (i := 42) (j := 149) rfl)).trans ((fset_fr hΦ2 (ne_off (x := x) (i := 42) (j := 149) rfl)).trans h_193))))
  have h_383 : Φ6 (x + 46) = some (o_ 9 [.ref (x + 47), .int 0, .int 0]) := ((fset_fr hΦ4 (ne_off (x := x) (i := 46) (j := 176) rfl)).trans ((fset_fr hΦ3 (ne_off (x := x) (i := 46) (j := 175) rfl)).trans ((fr2 (x + 46) (lt_off (x := x) (i := 46) (j := 150) rfl) (ne_off (x := x) (i := 46) (j := 149) rfl)).trans ((fset_fr hΦ2 (ne_off (x := x) (i := 46) (j := 149) rfl)).trans h_197))))
  have h_384 : Φ6 (x + 74) = some (o_ 10 [.ref (x + 3), .ref (x + 46), .ref (x + 75), .ref (x + 77), .int 0, .ref (x + 78), .ref (x + 79), .int 0, .long 0, .int 0]) := ((fset_fr hΦ4 (ne_off (x := x) (i := 74) (j := 176) rfl)).trans ((fset_fr hΦ3 (ne_off (x := x) (i := 74) (j := 175) rfl)).trans ((fr2 (x + 74) (lt_off (x := x) (i := 74) (j := 150) rfl) (ne_off (x := x) (i := 74) (j := 149) rfl)).trans ((fset_fr hΦ2 (ne_off (x := x) (i := 74) (j := 149) rfl)).trans h_225))))
  have h_385 : Φ6 (x + 75) = some (o_ 7 [.ref (x + 76), .int 0]) := ((fset_fr hΦ4 (ne_off (x := x) (i := 75) (j := 176) rfl)).trans ((fset_fr hΦ3 (ne_off (x := x) (i := 75) (j := 175) rfl)).trans ((fr2 (x + 75) (lt_off (x := x) (i := 75) (j := 150) rfl) (ne_off (x := x) (i := 75) (j := 149) rfl)).trans ((fset_fr hΦ2 (ne_off (x := x) (i := 75) (j := 149) rfl)).trans h_226))))
  have h_386 : Φ6 (x + 78) = some (ai_ G 4 (fun _ => 0)) := ((fset_fr hΦ4 (ne_off (x := x) (i := 78) (j := 176) rfl)).trans ((fset_fr hΦ3 (ne_off (x := x) (i := 78) (j := 175) rfl)).trans ((fr2 (x + 78) (lt_off (x := x) (i := 78) (j := 150) rfl) (ne_off (x := x) (i := 78) (j := 149) rfl)).trans ((fset_fr hΦ2 (ne_off (x := x) (i := 78) (j := 149) rfl)).trans h_229))))
  have h_387 : Φ6 (x + 80) = some (o_ 4 [.ref (x + 3), .ref (x + 74), .ref (x + 81), .ref (x + 95), .int 0, .int 1, .int 1, .int 0, .int 0, .int 0, .long 0, .long 0, .long 0]) := ((fset_fr hΦ4 (ne_off (x := x) (i := 80) (j := 176) rfl)).trans ((fset_fr hΦ3 (ne_off (x := x) (i := 80) (j := 175) rfl)).trans ((fr2 (x + 80) (lt_off (x := x) (i := 80) (j := 150) rfl) (ne_off (x := x) (i := 80) (j := 149) rfl)).trans ((fset_fr hΦ2 (ne_off (x := x) (i := 80) (j := 149) rfl)).trans h_231))))
  have h_388 : Φ6 (x + 81) = some (o_ 6 [.ref (x + 82), .int 0]) := ((fset_fr hΦ4 (ne_off (x := x) (i := 81) (j := 176) rfl)).trans ((fset_fr hΦ3 (ne_off (x := x) (i := 81) (j := 175) rfl)).trans ((fr2 (x + 81) (lt_off (x := x) (i := 81) (j := 150) rfl) (ne_off (x := x) (i := 81) (j := 149) rfl)).trans ((fset_fr hΦ2 (ne_off (x := x) (i := 81) (j := 149) rfl)).trans h_232))))
  have h_389 : Φ6 (x + 82) = some (aq_ G 5 12 (va_up (va_up (va_up (va_up (va_up (va_up (va_up (va_up (va_up (va_up (va_up (va_up (fun _ => none) (0 : Int32).toNatClampNeg (some (x + 83))) (1 : Int32).toNatClampNeg (some (x + 84))) (2 : Int32).toNatClampNeg (some (x + 85))) (3 : Int32).toNatClampNeg (some (x + 86))) (4 : Int32).toNatClampNeg (some (x + 87))) (5 : Int32).toNatClampNeg (some (x + 88))) (6 : Int32).toNatClampNeg (some (x + 89))) (7 : Int32).toNatClampNeg (some (x + 90))) (8 : Int32).toNatClampNeg (some (x + 91))) (9 : Int32).toNatClampNeg (some (x + 92))) (10 : Int32).toNatClampNeg (some (x + 93))) (11 : Int32).toNatClampNeg (some (x + 94)))) := ((fset_fr hΦ4 (ne_off (x := x) (i := 82) (j := 176) rfl)).trans ((fset_fr hΦ3 (ne_off (x := x) (i := 82) (j := 175) rfl)).trans ((fr2 (x + 82) (lt_off (x := x) (i := 82) (j := 150) rfl) (ne_off (x := x) (i := 82) (j := 149) rfl)).trans ((fset_fr hΦ2 (ne_off (x := x) (i := 82) (j := 149) rfl)).trans h_233))))
  have h_390 : Φ6 (x + 83) = some (o_ 5 [.long 0, .long 0, .long 0, .int 0, .int 0]) := ((fset_fr hΦ4 (ne_off (x := x) (i := 83) (j := 176) rfl)).trans ((fset_fr hΦ3 (ne_off (x := x) (i := 83) (j := 175) rfl)).trans ((fr2 (x + 83) (lt_off (x := x) (i := 83) (j := 150) rfl) (ne_off (x := x) (i := 83) (j := 149) rfl)).trans ((fset_fr hΦ2 (ne_off (x := x) (i := 83) (j := 149) rfl)).trans h_234))))
  have h_391 : Φ6 (x + 95) = some (o_ 6 [.ref (x + 96), .int 0]) := ((fset_fr hΦ4 (ne_off (x := x) (i := 95) (j := 176) rfl)).trans ((fset_fr hΦ3 (ne_off (x := x) (i := 95) (j := 175) rfl)).trans ((fr2 (x + 95) (lt_off (x := x) (i := 95) (j := 150) rfl) (ne_off (x := x) (i := 95) (j := 149) rfl)).trans ((fset_fr hΦ2 (ne_off (x := x) (i := 95) (j := 149) rfl)).trans h_246))))
  have h_392 : Φ6 (x + 96) = some (aq_ G 5 24 (va_up (va_up (va_up (va_up (va_up (va_up (va_up (va_up (va_up (va_up (va_up (va_up (va_up (va_up (va_up (va_up (va_up (va_up (va_up (va_up (va_up (va_up (va_up (va_up (fun _ => none) (0 : Int32).toNatClampNeg (some (x + 97))) (1 : Int32).toNatClampNeg (some (x + 98))) (2 : Int32).toNatClampNeg (some (x + 99))) (3 : Int32).toNatClampNeg (some (x + 100))) (4 : Int32).toNatClampNeg (some (x + 101))) (5 : Int32).toNatClampNeg (some (x + 102))) (6 : Int32).toNatClampNeg (some (x + 103))) (7 : Int32).toNatClampNeg (some (x + 104))) (8 : Int32).toNatClampNeg (some (x + 105))) (9 : Int32).toNatClampNeg (some (x + 106))) (10 : Int32).toNatClampNeg (some (x + 107))) (11 : Int32).toNatClampNeg (some (x + 108))) (12 : Int32).toNatClampNeg (some (x + 109))) (13 : Int32).toNatClampNeg (some (x + 110))) (14 : Int32).toNatClampNeg (some (x + 111))) (15 : Int32).toNatClampNeg (some (x + 112))) (16 : Int32).toNatClampNeg (some (x + 113))) (17 : Int32).toNatClampNeg (some (x + 114))) (18 : Int32).toNatClampNeg (some (x + 115))) (19 : Int32).toNatClampNeg (some (x + 116))) (20 : Int32).toNatClampNeg (some (x + 117))) (21 : Int32).toNatClampNeg (some (x + 118))) (22 : Int32).toNatClampNeg (some (x + 119))) (23 : Int32).toNatClampNeg (some (x + 120)))) := ((fset_fr hΦ4 (ne_off (x := x) (i := 96) (j := 176) rfl)).trans ((fset_fr hΦ3 (ne_off (x := x) (i := 96) (j := 175) rfl)).trans ((fr2 (x + 96) (lt_off (x := x) (i := 96) (j := 150) rfl) (ne_off (x := x) (i := 96) (j := 149) rfl)).trans ((fset_fr hΦ2 (ne_off (x := x) (i := 96) (j := 149) rfl)).trans h_247))))
  have h_393 : Φ6 (x + 97) = some (o_ 5 [.long 0, .long 0, .long 0, .int 0, .int 0]) := ((fset_fr hΦ4 (ne_off (x := x) (i := 97) (j := 176) rfl)).trans ((fset_fr hΦ3 (ne_off (x := x) (i := 97) (j := 175) rfl)).trans ((fr2 (x + 97) (lt_off (x := x) (i := 97) (j := 150) rfl) (ne_off (x := x) (i := 97) (j := 149) rfl)).trans ((fset_fr hΦ2 (ne_off (x := x) (i := 97) (j := 149) rfl)).trans h_248))))
  have h_394 : Φ6 (x + 121) = some (o_ 11 [.ref (x + 122), .ref (x + 123), .ref (x + 126), .ref (x + 129), .int 0]) := ((fset_fr hΦ4 (ne_off (x := x) (i := 121) (j := 176) rfl)).trans ((fset_fr hΦ3 (ne_off (x := x) (i := 121) (j := 175) rfl)).trans ((fr2 (x + 121) (lt_off (x := x) (i := 121) (j := 150) rfl) (ne_off (x := x) (i := 121) (j := 149) rfl)).trans ((fset_fr hΦ2 (ne_off (x := x) (i := 121) (j := 149) rfl)).trans h_272))))
  have h_395 : Φ6 (x + 132) = some (o_ 2 [.ref (x + 3), .ref (x + 121), .ref (x + 133), .ref (x + 134), .ref (x + 135), .ref (x + 137), .ref (x + 138), .ref (x + 139), .ref (x + 140), .int 0, .int 0, .int 0]) := ((fset_fr hΦ4 (ne_off (x := x) (i := 132) (j := 176) rfl)).trans ((fset_fr hΦ3 (ne_off (x := x) (i := 132) (j := 175) rfl)).trans ((fr2 (x + 132) (lt_off (x := x) (i := 132) (j := 150) rfl) (ne_off (x := x) (i := 132) (j := 149) rfl)).trans ((fset_fr hΦ2 (ne_off (x := x) (i := 132) (j := 149) rfl)).trans h_283))))
  have h_396 : Φ6 (x + 133) = some (aq_ G 4 4 (va_up (va_up (va_up (va_up (fun _ => none) (0 : Int32).toNatClampNeg (some (x + 141))) (1 : Int32).toNatClampNeg (some (x + 143))) (2 : Int32).toNatClampNeg (some (x + 145))) (3 : Int32).toNatClampNeg (some (x + 147)))) := ((fset_fr hΦ4 (ne_off (x := x) (i := 133) (j := 176) rfl)).trans ((fset_fr hΦ3 (ne_off (x := x) (i := 133) (j := 175) rfl)).trans ((fr2 (x + 133) (lt_off (x := x) (i := 133) (j := 150) rfl) (ne_off (x := x) (i := 133) (j := 149) rfl)).trans ((fset_fr hΦ2 (ne_off (x := x) (i := 133) (j := 149) rfl)).trans h_284))))
  have h_397 : Φ6 (x + 139) = some (al_ G 9 (fun _ => 0)) := ((fset_fr hΦ4 (ne_off (x := x) (i := 139) (j := 176) rfl)).trans ((fset_fr hΦ3 (ne_off (x := x) (i := 139) (j := 175) rfl)).trans ((fr2 (x + 139) (lt_off (x := x) (i := 139) (j := 150) rfl) (ne_off (x := x) (i := 139) (j := 149) rfl)).trans ((fset_fr hΦ2 (ne_off (x := x) (i := 139) (j := 149) rfl)).trans h_290))))
  have h_398 : Φ6 (x + 141) = some (o_ 12 [.ref (x + 142), .int 0, .int 0, .int 0]) := ((fset_fr hΦ4 (ne_off (x := x) (i := 141) (j := 176) rfl)).trans ((fset_fr hΦ3 (ne_off (x := x) (i := 141) (j := 175) rfl)).trans ((fr2 (x + 141) (lt_off (x := x) (i := 141) (j := 150) rfl) (ne_off (x := x) (i := 141) (j := 149) rfl)).trans ((fset_fr hΦ2 (ne_off (x := x) (i := 141) (j := 149) rfl)).trans h_292))))
  have h_399 : Φ6 (x + 143) = some (o_ 12 [.ref (x + 144), .int 0, .int 0, .int 0]) := ((fset_fr hΦ4 (ne_off (x := x) (i := 143) (j := 176) rfl)).trans ((fset_fr hΦ3 (ne_off (x := x) (i := 143) (j := 175) rfl)).trans ((fr2 (x + 143) (lt_off (x := x) (i := 143) (j := 150) rfl) (ne_off (x := x) (i := 143) (j := 149) rfl)).trans ((fset_fr hΦ2 (ne_off (x := x) (i := 143) (j := 149) rfl)).trans h_294))))
  have h_400 : Φ6 (x + 145) = some (o_ 12 [.ref (x + 146), .int 0, .int 0, .int 0]) := ((fset_fr hΦ4 (ne_off (x := x) (i := 145) (j := 176) rfl)).trans ((fset_fr hΦ3 (ne_off (x := x) (i := 145) (j := 175) rfl)).trans ((fr2 (x + 145) (lt_off (x := x) (i := 145) (j := 150) rfl) (ne_off (x := x) (i := 145) (j := 149) rfl)).trans ((fset_fr hΦ2 (ne_off (x := x) (i := 145) (j := 149) rfl)).trans h_296))))
  have h_401 : Φ6 (x + 147) = some (o_ 12 [.ref (x + 148), .int 0, .int 0, .int 0]) := ((fset_fr hΦ4 (ne_off (x := x) (i := 147) (j := 176) rfl)).trans ((fset_fr hΦ3 (ne_off (x := x) (i := 147) (j := 175) rfl)).trans ((fr2 (x + 147) (lt_off (x := x) (i := 147) (j := 150) rfl) (ne_off (x := x) (i := 147) (j := 149) rfl)).trans ((fset_fr hΦ2 (ne_off (x := x) (i := 147) (j := 149) rfl)).trans h_298))))
  have h_402 : Φ6 (x + 149) = some (o_ 14 [.int 0, .ref (x + 150), .ref (x + 151), .int 0, .int 1, .int 1, .int 0, .int 0, .ref (x + 152), .ref (x + 153), .int 0, .long 0, .ref (x + 154), .int 0, .int 0, .long 0, .long 0, .long 0, .long 0, .ref (x + 155), .ref (x + 156), .int 0, .ref (x + 157), .int 0, .ref (x + 158), .ref (x + 159), .int 0, .ref (x + 160), .ref (x + 161), .ref (x + 162), .ref (x + 163), .ref (x + 164), .ref (x + 165), .int 0, .long (-1), .ref (x + 166), .ref (x + 167), .ref (x + 168), .ref (x + 169), .ref (x + 170), .ref (x + 171), .int 0, .ref (x + 172), .ref (x + 173), .int 0, .ref (x + 174), .int 0, .int 0, .int 0, .int (-1), .int 0, .int 0, .int 0, .long 0]) := ((fset_fr hΦ4 (ne_off (x := x) (i := 149) (j := 176) rfl)).trans ((fset_fr hΦ3 (ne_off (x := x) (i := 149) (j := 175) rfl)).trans h_327))
  have h_403 : Φ6 (x + 150) = some (ai_ G 307 (upd (upd (upd (upd (upd (upd (upd (upd (upd (upd (upd (upd (upd (upd (upd (upd (upd (upd (upd (upd (upd (fun _ => 0) (0 : Int32).toNatClampNeg 1) (1 : Int32).toNatClampNeg 100) (2 : Int32).toNatClampNeg 1000) (3 : Int32).toNatClampNeg 100) (4 : Int32).toNatClampNeg 20) (5 : Int32).toNatClampNeg 1000) (6 : Int32).toNatClampNeg 5000) (7 : Int32).toNatClampNeg 512) (8 : Int32).toNatClampNeg 1) (9 : Int32).toNatClampNeg 511) (10 : Int32).toNatClampNeg 1) (11 : Int32).toNatClampNeg 9) (15 : Int32).toNatClampNeg 0) (16 : Int32).toNatClampNeg 1) (17 : Int32).toNatClampNeg 2) (18 : Int32).toNatClampNeg 3) (19 : Int32).toNatClampNeg 4) (20 : Int32).toNatClampNeg 5) (21 : Int32).toNatClampNeg 6) (22 : Int32).toNatClampNeg 7) (23 : Int32).toNatClampNeg 8)) := ((fset_fr hΦ4 (ne_off (x := x) (i := 150) (j := 176) rfl)).trans ((fset_fr hΦ3 (ne_off (x := x) (i := 150) (j := 175) rfl)).trans h_328))
  have h_404 : Φ6 (x + 151) = some (ai_ G 307 (upd (upd (upd (upd (upd (upd (upd (upd (upd (upd (upd (upd (upd (upd (upd (upd (upd (upd (upd (upd (upd (fun _ => 0) (0 : Int32).toNatClampNeg 1) (1 : Int32).toNatClampNeg 100) (2 : Int32).toNatClampNeg 1000) (3 : Int32).toNatClampNeg 100) (4 : Int32).toNatClampNeg 20) (5 : Int32).toNatClampNeg 1000) (6 : Int32).toNatClampNeg 5000) (7 : Int32).toNatClampNeg 512) (8 : Int32).toNatClampNeg 1) (9 : Int32).toNatClampNeg 511) (10 : Int32).toNatClampNeg 1) (11 : Int32).toNatClampNeg 9) (15 : Int32).toNatClampNeg 0) (16 : Int32).toNatClampNeg 1) (17 : Int32).toNatClampNeg 2) (18 : Int32).toNatClampNeg 3) (19 : Int32).toNatClampNeg 4) (20 : Int32).toNatClampNeg 5) (21 : Int32).toNatClampNeg 6) (22 : Int32).toNatClampNeg 7) (23 : Int32).toNatClampNeg 8)) := ((fset_fr hΦ4 (ne_off (x := x) (i := 151) (j := 176) rfl)).trans ((fset_fr hΦ3 (ne_off (x := x) (i := 151) (j := 175) rfl)).trans h_329))
  have h_405 : Φ6 (x + 152) = some (ai_ G 4 (upd (upd (upd (upd (fun _ => 0) (0 : Int32).toNatClampNeg (-1)) (1 : Int32).toNatClampNeg (-1)) (2 : Int32).toNatClampNeg (-1)) (3 : Int32).toNatClampNeg (-1))) := ((fset_fr hΦ4 (ne_off (x := x) (i := 152) (j := 176) rfl)).trans ((fset_fr hΦ3 (ne_off (x := x) (i := 152) (j := 175) rfl)).trans h_330))
  have h_406 : Φ6 (x + 154) = some (al_ G 96 (fun _ => 0)) := ((fset_fr hΦ4 (ne_off (x := x) (i := 154) (j := 176) rfl)).trans ((fset_fr hΦ3 (ne_off (x := x) (i := 154) (j := 175) rfl)).trans h_332))
  have h_407 : Φ6 (x + 160) = some (al_ G 9 (vp_updL (vp_updL (vp_updL (vp_updL (vp_updL (vp_updL (vp_updL (vp_updL (vp_updL (fun _ => 0) (0 : Int32).toNatClampNeg 0) (1 : Int32).toNatClampNeg 0) (2 : Int32).toNatClampNeg 0) (3 : Int32).toNatClampNeg 0) (4 : Int32).toNatClampNeg 0) (5 : Int32).toNatClampNeg 0) (6 : Int32).toNatClampNeg 0) (7 : Int32).toNatClampNeg 0) (8 : Int32).toNatClampNeg 0)) := ((fset_fr hΦ4 (ne_off (x := x) (i := 160) (j := 176) rfl)).trans ((fset_fr hΦ3 (ne_off (x := x) (i := 160) (j := 175) rfl)).trans h_338))
  have h_408 : Φ6 (x + 161) = some (ai_ G 4 (upd (upd (upd (upd (fun _ => 0) (0 : Int32).toNatClampNeg 0) (1 : Int32).toNatClampNeg 0) (2 : Int32).toNatClampNeg 0) (3 : Int32).toNatClampNeg 0)) := ((fset_fr hΦ4 (ne_off (x := x) (i := 161) (j := 176) rfl)).trans ((fset_fr hΦ3 (ne_off (x := x) (i := 161) (j := 175) rfl)).trans h_339))
  have h_409 : Φ6 (x + 172) = some (ai_ G 96 (fun _ => 0)) := ((fset_fr hΦ4 (ne_off (x := x) (i := 172) (j := 176) rfl)).trans ((fset_fr hΦ3 (ne_off (x := x) (i := 172) (j := 175) rfl)).trans h_350))
  have h_410 : Φ6 (x + 173) = some (al_ G 48 (fun _ => 0)) := ((fset_fr hΦ4 (ne_off (x := x) (i := 173) (j := 176) rfl)).trans ((fset_fr hΦ3 (ne_off (x := x) (i := 173) (j := 175) rfl)).trans h_351))
  have h_411 : Φ6 (x + 174) = some (ab_ G 700 (fun _ => 0)) := ((fset_fr hΦ4 (ne_off (x := x) (i := 174) (j := 176) rfl)).trans ((fset_fr hΦ3 (ne_off (x := x) (i := 174) (j := 175) rfl)).trans h_352))
  have h_412 : Φ6 (x + 175) = some (al_ G 1 (fun _ => 0)) := ((fset_fr hΦ4 (ne_off (x := x) (i := 175) (j := 176) rfl)).trans h_353)
  refine z_lv [0, 1, 2, 3, 4, 5] rfl ?_
  exact law_head G l hl9 b B hn0 L xs hL hX hbn x (x + 149) (x + 175) (x + 176) Φ6 _ (fun _ => 0) (fun _ => 0) hna (Nat.le_refl _) (Nat.le_refl _) (by omega) (by omega) h_355 h_356 h_357 h_358 h_359 h_360 h_361 h_362 h_363 h_364 h_365 h_366 h_367 h_368 h_369 h_370 h_371 h_372 h_373 h_374 h_375 h_376 h_377 h_378 h_379 h_380 h_381 h_382 h_383 h_384 h_385 h_386 h_387 h_388 h_389 h_390 h_391 h_392 h_393 h_394 h_395 h_396 h_397 h_398 h_399 h_400 h_401 h_402 h_403 h_404 h_405 h_406 h_407 h_408 h_409 h_410 h_411 h_412 h_354

set_option maxHeartbeats 4000000 in
set_option maxRecDepth 100000 in
theorem whole_start {p : Program} {e : Env} {s : State} {m : MethodId} {below : List Frame} {meth : Method} {c : Code} (l : Launch) (hflags : l.flags = flags0) {b L : Nat} {xs : Nat → Int32} (hL : L ≤ 7) (C0 : lw_At p s m meth c b L xs) : W p l e room_1 s m #[Value.ref b] below meth c s.heap [] 0 0 (lw_Z below #[Value.ref b] s) (entryFrame m ([Value.ref b] : List Value).toArray 9) := by
  obtain ⟨hx, hb, hr, hml, hown, hts, hX, hbl, hlocks, hgv⟩ := C0
  obtain ⟨G, hn0, hK, hS⟩ := g_start hts hgv
  have hl9 : l.stackTraces = false := by unfold Launch.stackTraces; rw [hflags]; decide
  have hl := lv_entry ([.ref b]) (n := 9) (Nat.le_of_ble_eq_true rfl)
  rw [lg_entry_eq]
  have hB : Bd p s m #[Value.ref b] meth c G code 9 RL wsL_law ret meth.name := ⟨⟨hx, hb, hml, hown, fun w h => hts w (wsL_law_in w h)⟩, hr, hlocks, rfl, hK, hS, Nat.le_of_eq hn0⟩
  exact law_main G l hl9 b hB hn0 L xs hL hX (by rw [hn0]; exact hbl) (fun _ => none) s.heap.size (Nat.le_of_eq hn0) s.heap [] _ hl ⟨rfl, fun a e h => by cases h⟩ va_S.rf

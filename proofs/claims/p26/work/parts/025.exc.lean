/-! throws: a contract of a method that throws; a throw; a throwing call that goes on to the caller; one that is caught -/
abbrev xNames : List String := ["java/lang/RuntimeException", "java/lang/Exception"]
abbrev xBad (cls : String) : List Cond := [.castable cls cls, .declares ⟨"java/lang/RuntimeException", "<init>", "()V"⟩, .declares ⟨"java/lang/Exception", "<init>", "()V"⟩, .declares ⟨"java/lang/Throwable", "<init>", "()V"⟩]
noncomputable def XU (G : EnvG) (Φ : Hm) (E : String) : String → State → State → Prop := fun E1 st t => E1 = E ∧ (∃ sz : Nat, HP G.1 Φ sz t.heap) ∧ va_F (fun q => G.2.2.2 ≤ q) st t
noncomputable def CtX (G : EnvG) (l : Launch) (y : MethodName) (ws : List Cond) (rm : Room) (mc ms : Nat) (av : List Value) (Φ : Hm) (sz : Nat) (E : String) : Prop := vx_Met l y ws rm (va_Pc av (PU G Φ sz)) (fun _ _ _ _ => False) (XU G Φ E) mc ms (fun q => G.2.2.2 ≤ q)
theorem CtX.of {G : EnvG} {l : Launch} {y : MethodName} {ws ws' : List Cond} {rm : Room} {mc ms : Nat} {av : List Value} {Φ : Hm} {sz : Nat} {E : String} {cc : ByteArray} {maxL : Nat} {ret : Option FieldType} (hy : plainName y.cls = true) (hw : ws = Cond.code y cc maxL ret :: ws') (hlen : (lg_sl av).length ≤ maxL)
    (body : ∀ (p : Program) (e : Env) (s : State) (m : MethodId) (below : List Frame) (meth : Method) (c : Code), Bd p s m av.toArray meth c G cc maxL y.cls ws ret y.name → (∀ x ∈ c.exceptionTable.toList, False) → Z p l e rm s m av.toArray below meth c (vx_MQ below (fun _ _ _ _ => False) (XU G Φ E) av.toArray s mc ms (fun q => G.2.2.2 ≤ q)) G maxL 0 (lv_args 0 av) [] Φ sz 0 0) : CtX G l y ws rm mc ms av Φ sz E := by
  refine vx_ofW (cc := cc) (maxL := maxL) (ret := ret) hy hw ?_
  intro p e s m args below meth c s₁ B hml htab hv
  obtain ⟨rfl, hP, hK, hS, hn⟩ := hv
  have hl := lv_entry av hlen
  rw [lg_entry_eq]
  refine body p e s m below meth c ⟨⟨B.exec, B.bytes, hml, findClass_of_methodNamed B.named, atoms_spec (ws := ws) B.pre⟩, B.returns, B.notSynchronized, (name_of_methodNamed B.named B.method).1, hK, hS, by rw [hP.1]; exact hn⟩ htab s.heap [] _ hl hP va_S.rf
/-- a method with a table of its own, that returns -/
theorem Ct.ofH {G : EnvG} {l : Launch} {y : MethodName} {ws ws' : List Cond} {rm : Room} {mc ms : Nat} {av : List Value} {Φ : Hm} {sz : Nat} {P : Option Value → Hm → Nat → Prop} {cc : ByteArray} {maxL : Nat} {ret : Option FieldType} {hh : List (Nat × Nat × Nat × Nat)} (hy : plainName y.cls = true) (hw : ws = Cond.codeWith y cc maxL ret hh :: ws') (hlen : (lg_sl av).length ≤ maxL)
    (body : ∀ (p : Program) (e : Env) (s : State) (m : MethodId) (below : List Frame) (meth : Method) (c : Code), Bd p s m av.toArray meth c G cc maxL y.cls ws ret y.name → c.exceptionTable.toList = tableOf hh → Z p l e rm s m av.toArray below meth c (MQ below (QU G P) av.toArray s mc ms (fun q => G.2.2.2 ≤ q)) G maxL 0 (lv_args 0 av) [] Φ sz 0 0) : Ct G l y ws rm mc ms av Φ sz P := by
  unfold Ct Met
  refine MetFree.of_bodyS (code := cc) (maxLocals := maxL) (ret := ret) hy ?_ ?_
  · intro args s m h hn
    obtain ⟨m9, meth, c, hn9, h1, h2, h3, h4, -, h5, h6, -⟩ := Cond.codeWith_spec (atoms_spec (ws := ws) h _ (by rw [hw]; exact List.mem_cons_self))
    cases hn.symm.trans hn9
    exact ⟨meth, c, h1, h2, h3, h4, h5, h6⟩
  · intro p e s m args below meth c s₁ B hml hv _
    obtain ⟨rfl, hP, hK, hS, hn⟩ := hv
    have hh0 : s₁.heap = s.heap := by rw [B.state]; rfl
    have hl := lv_entry av hlen
    have hts := atoms_spec (ws := ws) B.pre
    have htab : c.exceptionTable.toList = tableOf hh := vx_table (x := y) B (hts _ (by rw [hw]; exact List.mem_cons_self))
    have K : W p l e rm s m av.toArray below meth c s.heap [] 0 0 (MQ below (QU G P) av.toArray s mc ms (fun q => G.2.2.2 ≤ q)) (entryFrame m av.toArray maxL) := by
      rw [lg_entry_eq]
      exact body p e s m below meth c ⟨⟨B.exec, B.bytes, hml, findClass_of_methodNamed B.named, hts⟩, B.returns, B.notSynchronized, (name_of_methodNamed B.named B.method).1, hK, hS, by rw [hP.1]; exact hn⟩ htab s.heap [] _ hl hP va_S.rf
    obtain ⟨t, a1, o, b1, b2, b3⟩ := K s₁ hh0 (Stand.of_body B)
    exact ⟨t, o, a1, b1, b2, ⟨b3.1, b3.2⟩⟩
section ZX
variable {p : Program} {l : Launch} {e : Env} {R : Room} {s : State} {m : MethodId} {args : Array Value} {below : List Frame} {meth : Method} {c : Code} {Q : State → Prop} {G : EnvG} {nL pc : Nat} {lv : List (Nat × Value)} {rest : List Value} {Φ : Hm} {sz cells slots : Nat}
variable {cc : ByteArray} {own : String} {ws : List Cond} {ret : Option FieldType} {nm : String}
theorem z_throw (B : Bd p s m args meth c G cc nL own ws ret nm) (hl : l.stackTraces = false) (htab : ∀ x ∈ c.exceptionTable.toList, False) {cls : String} {ik ic mc ms : Nat} (hx : (cls, cls) ∈ xCast) (hcls : Bundle.fit cls = true) (hnames : ∀ n ∈ xNames, Bundle.fit n = true)
    (hk : Cond.classLink own ik cls ∈ ws) (hini : Cond.initialized cls ∈ ws) (hgd : ∀ w ∈ (vx_at0 own ic cls xNames).filter goodWord, w ∈ ws) (hbad : ∀ w ∈ (vx_at0 own ic cls xNames).filter (fun w => !goodWord w), w ∈ xBad cls) (hgood : ∀ w ∈ Cond.classLink own ik cls :: Cond.initialized cls :: vx_at0 own ic cls xNames, vx_ot w = true)
    (d0 : decode cc pc = .ok (.new ik, 3)) (d3 : decode cc (pc + 3) = .ok (.dup, 1)) (d4 : decode cc (pc + 4) = .ok (.invokespecial ic, 3)) (d7 : decode cc (pc + 7) = .ok (.athrow, 1))
    (hR : 5 < R.frames ∧ (rest.map fun v => v.category).sum + 81 ≤ R.locals ∧ cells + 1 ≤ R.cells ∧ slots + 6 ≤ R.slots) (hc : cells + 1 ≤ mc ∧ slots + 6 ≤ ms) {Qc : Array Value → State → Outcome → State → Prop} : Z p l e R s m args below meth c (vx_MQ below Qc (XU G Φ cls) args s mc ms (fun q => G.2.2.2 ≤ q)) G nL pc lv rest Φ sz cells slots := by
  intro H locs ls hl1 hP hS
  have hts := B.1.2.2.2.2
  have hb3 : ∀ w ∈ xBad cls, w.before args s = true := by
    intro w hw
    simp only [xBad, List.mem_cons, List.not_mem_nil, or_false] at hw
    rcases hw with rfl | rfl | rfl | rfl
    · exact va_Nw.use rfl (B.2.2.2.2.1.2.2.2.2.2.2.1 _ hx)
    · exact va_Nw.use rfl (B.2.2.2.2.1.2.2.2.2.2.2.2.1 _ (by decide))
    · exact va_Nw.use rfl (B.2.2.2.2.1.2.2.2.2.2.2.2.1 _ (by decide))
    · exact va_Nw.use rfl (B.2.2.2.2.1.2.2.2.2.2.2.2.1 _ (by decide))
  refine vx_throw0 (names := xNames) B.1.1 B.1.2.1 hl B.1.2.2.2.1 hcls hnames (hts _ hk) (hts _ hini) (vx_hat (fun w hw => hts _ (hgd w hw)) hbad hb3) hgood B.2.2.2.2.2.1.2.1 B.2.2.2.2.2.1.2.2.1.1 hS (by rw [B.1.2.2.1]; exact hl1.1) d0 d3 d4 d7 (fun x hx9 => (htab x hx9).elim) hR.1 hR.2.1 hR.2.2.1 hR.2.2.2 B.2.2.1 ?_ hS.2.2 hc.1 hc.2
  intro t _ hz ho
  refine ⟨rfl, ⟨t.heap.size, rfl, fun a x ha => (hP.2 a x ha).kept (ho a (hP.2 a x ha).lt)⟩, Nat.le_trans hS.1 hz, fun q h1 h2 => (ho q (Nat.lt_of_lt_of_le h1 hS.1)).trans (hS.2.1 q h1 h2)⟩
/-- what stands behind a call that threw -/
theorem z_runX {E : String} {mc ms : Nat} {st : List Value} {a : Array Value} (run : ∀ (H : Heap) (locs : List Loc) (ls : Array Slot), lv_has ls nL lv → HP G.1 Φ sz H → va_S (fun q => G.2.2.2 ≤ q) s.heap H locs → vx_Run p l e R s m args below meth c H locs cells slots mc ms (F0 m pc ls st) rest ((fun (_ : Array Value) (_ : State) (_ : Outcome) (_ : State) => False) a) (XU G Φ E) (fun q => G.2.2.2 ≤ q))
    (kk : ∀ (H : Heap) (locs : List Loc) (ls : Array Slot) (q sz1 : Nat) (ce : Cell), lv_has ls nL lv → HP G.1 Φ sz1 H → va_S (fun q => G.2.2.2 ≤ q) s.heap H locs → H[q]? = some ce → ce.vm = .none → s.vm.findClass E = some ce.cls → vx_W p l e R s m args below meth c H locs (cells + mc) (slots + ms) Q (F0 m pc ls rest) q) : Z p l e R s m args below meth c Q G nL pc lv st Φ sz cells slots := by
  intro H locs ls hl hP hS T hT X
  rcases run H locs ls hl hP hS T hT X with ⟨v, st₀, t, T', L, h0, X', hL, e1, e2, hF, stp⟩ | ⟨q, st₀, t, T', L, E1, ce, h0, X', hL, e1, e2, ⟨hE, ⟨sz1, hH⟩, hz, hk⟩, hce, hcv, hcl, stp⟩
  · exact hF.elim
  · subst hE
    rw [h0] at hz hk
    obtain ⟨tt, a1, b1⟩ := kk T'.heap (locs ++ L) ls q sz1 ce hl (by rw [e1]; exact hH) ⟨Nat.le_trans hS.1 (by rw [e1]; exact hz), fun x h1 h2 => by rw [e1, hk x (Nat.lt_of_lt_of_le h1 hS.1) h2]; exact hS.2.1 x h1 h2, fun x hx => by
      rcases List.mem_append.mp hx with h | h
      · exact hS.2.2 x h
      · exact hL x h⟩ (by rw [e1]; exact hce) hcv hcl T' rfl X'
    exact ⟨tt, stp.trans a1, b1⟩
/-- it goes on to the caller -/
theorem z_callVX (B : Bd p s m args meth c G cc nL own ws ret nm) (htab : ∀ x ∈ c.exceptionTable.toList, False) {y : MethodName} {bytes : ByteArray} {maxL mc0 ms0 mc ms n index : Nat} {ret1 : Option FieldType} {ws1 : List Cond} {rm : Room} {C E : String} {b ci : Nat} {q : vw_C} {fs : List Value} {As st : List Value} (hM : CtX G l y ws1 rm mc0 ms0 (.ref b :: As) Φ sz E) (cw : CallW R s args own C index y bytes maxL ret1 ws1 rm mc0 ms0 n) (hb : Φ b = some (o_ ci fs)) (hc : vwCl[ci]? = some q) (hq : q.1 = C) (hn : As.length = n) (hst : st = As.reverse ++ .ref b :: rest) (hcat : (rest.map fun v => v.category).sum ≤ 8) (hdg : decode cc pc = .ok (.invokevirtual index, 3)) (hf : cells + mc0 ≤ R.cells ∧ slots + ms0 ≤ R.slots) (hm : cells + mc0 ≤ mc ∧ slots + ms0 ≤ ms) {Qc : Array Value → State → Outcome → State → Prop} : Z p l e R s m args below meth c (vx_MQ below Qc (XU G Φ E) args s mc ms (fun q => G.2.2.2 ≤ q)) G nL pc lv st Φ sz cells slots := by
  refine z_runX (a := (Value.ref b :: As).toArray) (fun H locs ls hl hP hS => vx_runV B.1 hM cw ⟨PU.blind, ?_, fun U hU hW => ⟨rfl, z_PU B hP hS U hU hW⟩⟩ rfl hn hl.1 hst (lv_room hcat) hdg hf) ?_
  · subst hq
    exact va_recv (q0 := 0) B.2.2.2.2.1.1 (z_arr hP hb) hc rfl
  · intro H locs ls q9 sz1 ce hl hP hS hce hcv hcl
    exact vx_out (fun x hx => (htab x hx).elim) B.2.2.1 hce hcv hcl (fun t ht _ => ⟨rfl, ⟨sz1, by rw [ht]; exact hP⟩, hS.F ht⟩) hS.2.2 hm.1 hm.2
theorem z_callSX (B : Bd p s m args meth c G cc nL own ws ret nm) (htab : ∀ x ∈ c.exceptionTable.toList, False) {y : MethodName} {bytes : ByteArray} {maxL mc0 ms0 mc ms n index : Nat} {ret1 : Option FieldType} {ws1 : List Cond} {rm : Room} {E : String} {As st : List Value} (hM : CtX G l y ws1 rm mc0 ms0 As Φ sz E) (cw : CallB R s args own index y bytes maxL ret1 ws1 rm mc0 ms0 n ∧ (Cond.static y).before args s = true) (hn : As.length = n) (hst : st = As.reverse ++ rest) (hcat : (rest.map fun v => v.category).sum ≤ 8) (hdg : decode cc pc = .ok (.invokestatic index, 3)) (hf : cells + mc0 ≤ R.cells ∧ slots + ms0 ≤ R.slots) (hm : cells + mc0 ≤ mc ∧ slots + ms0 ≤ ms) {Qc : Array Value → State → Outcome → State → Prop} : Z p l e R s m args below meth c (vx_MQ below Qc (XU G Φ E) args s mc ms (fun q => G.2.2.2 ≤ q)) G nL pc lv st Φ sz cells slots := by
  refine z_runX (a := As.toArray) (fun H locs ls hl hP hS => vx_runS B.1 hM cw ⟨PU.blind, fun U hU hW => ⟨rfl, z_PU B hP hS U hU hW⟩⟩ rfl hn hl.1 hst (lv_room hcat) hdg hf) ?_
  intro H locs ls q9 sz1 ce hl hP hS hce hcv hcl
  exact vx_out (fun x hx => (htab x hx).elim) B.2.2.1 hce hcv hcl (fun t ht _ => ⟨rfl, ⟨sz1, by rw [ht]; exact hP⟩, hS.F ht⟩) hS.2.2 hm.1 hm.2
/-- it is caught here -/
theorem z_callVC (B : Bd p s m args meth c G cc nL own ws ret nm) {y : MethodName} {bytes : ByteArray} {maxL mc0 ms0 n index : Nat} {ret1 : Option FieldType} {ws1 : List Cond} {rm : Room} {C E : String} {b ci : Nat} {q : vw_C} {fs : List Value} {As st : List Value} (hM : CtX G l y ws1 rm mc0 ms0 (.ref b :: As) Φ sz E) (cw : CallW R s args own C index y bytes maxL ret1 ws1 rm mc0 ms0 n) (hb : Φ b = some (o_ ci fs)) (hc : vwCl[ci]? = some q) (hq : q.1 = C) (hn : As.length = n) (hst : st = As.reverse ++ .ref b :: rest) (hcat : (rest.map fun v => v.category).sum ≤ 8) (hdg : decode cc pc = .ok (.invokevirtual index, 3)) (hf : cells + mc0 ≤ R.cells ∧ slots + ms0 ≤ R.slots)
    (pre : List ExceptionTableEntry) (x : ExceptionTableEntry) (suf : List ExceptionTableEntry) (hsplit : c.exceptionTable.toList = pre ++ x :: suf) (hpass : ∀ z ∈ pre, covers z pc = false ∨ (z.catchType ≠ 0 ∧ ∃ n9 : String, Cond.classLink own z.catchType n9 ∈ ws ∧ (E, n9) ∈ xNot)) (hx : covers x pc = true) (h0 : x.catchType ≠ 0) (hlink : Cond.classLink own x.catchType E ∈ ws) (hcast : (E, E) ∈ xCast)
    (kk : ∀ (q9 sz1 : Nat), Z p l e R s m args below meth c Q G nL x.handlerPc lv [.ref q9] Φ sz1 (cells + mc0) (slots + ms0)) : Z p l e R s m args below meth c Q G nL pc lv st Φ sz cells slots := by
  refine z_runX (a := (Value.ref b :: As).toArray) (fun H locs ls hl hP hS => vx_runV B.1 hM cw ⟨PU.blind, ?_, fun U hU hW => ⟨rfl, z_PU B hP hS U hU hW⟩⟩ rfl hn hl.1 hst (lv_room hcat) hdg hf) ?_
  · subst hq
    exact va_recv (q0 := 0) B.2.2.2.2.1.1 (z_arr hP hb) hc rfl
  · intro H locs ls q9 sz1 ce hl hP hS hce hcv hcl
    refine vx_catch (name := E) B.1.2.2.2.1 pre x suf hsplit (fun z hz => ?_) hx h0 (B.1.2.2.2.2 _ hlink) (va_Nw.use rfl (B.2.2.2.2.1.2.2.2.2.2.2.1 _ hcast)) hce hcv hcl (kk q9 sz1 H locs ls hl hP hS)
    rcases hpass z hz with h | ⟨h1, n9, h2, h3⟩
    · exact Or.inl h
    · exact Or.inr ⟨h1, n9, B.1.2.2.2.2 _ h2, B.2.2.2.2.1.2.2.2.2.2.2.2.2.1 _ h3⟩
/-- a static call of a method with a table -/
theorem z_callSW (B : Bd p s m args meth c G cc nL own ws ret nm) {y : MethodName} {bytes : ByteArray} {maxL mc ms n index : Nat} {ret1 : Option FieldType} {hh : List (Nat × Nat × Nat × Nat)} {ws1 : List Cond} {rm : Room} {P : Option Value → Hm → Nat → Prop} {As st : List Value} (hM : Ct G l y ws1 rm mc ms As Φ sz P) (cw : vx_CSW R s args own index y bytes maxL ret1 hh ws1 rm mc ms n) (hn : As.length = n) (hst : st = As.reverse ++ rest) (hcat : (rest.map fun v => v.category).sum ≤ 8) (hdg : decode cc pc = .ok (.invokestatic index, 3)) (hf : cells + mc ≤ R.cells ∧ slots + ms ≤ R.slots)
    (kk : ∀ (v : Option Value) (Φ1 : Hm) (sz1 : Nat) (st1 : List Value), P v Φ1 sz1 → st1 = v.toList ++ rest → Z p l e R s m args below meth c Q G nL (pc + 3) lv st1 Φ1 sz1 (cells + mc) (slots + ms)) : Z p l e R s m args below meth c Q G nL pc lv st Φ sz cells slots :=
  z_run (fun H locs ls hl hP hS => vx_runSW B.1 hM cw ⟨PU.blind, fun U hU hW => ⟨rfl, z_PU B hP hS U hU hW⟩⟩ rfl hn hl.1 hst (lv_room hcat) hdg hf) kk
end ZX
/-! both: a contract of a method that returns, or throws one of some classes; PX tells the heap behind a throw -/
noncomputable def XB (G : EnvG) (PX : Hm → Prop) (Es : List String) : String → State → State → Prop := fun E1 st t => E1 ∈ Es ∧ (∃ (Φ : Hm) (sz : Nat), PX Φ ∧ HP G.1 Φ sz t.heap) ∧ va_F (fun q => G.2.2.2 ≤ q) st t
noncomputable def CtB (G : EnvG) (l : Launch) (y : MethodName) (ws : List Cond) (rm : Room) (mc ms : Nat) (av : List Value) (Φ : Hm) (sz : Nat) (P : Option Value → Hm → Nat → Prop) (PX : Hm → Prop) (Es : List String) : Prop := vx_Met l y ws rm (va_Pc av (PU G Φ sz)) (QU G P) (XB G PX Es) mc ms (fun q => G.2.2.2 ≤ q)
theorem CtB.of {G : EnvG} {l : Launch} {y : MethodName} {ws ws' : List Cond} {rm : Room} {mc ms : Nat} {av : List Value} {Φ : Hm} {sz : Nat} {P : Option Value → Hm → Nat → Prop} {PX : Hm → Prop} {Es : List String} {cc : ByteArray} {maxL : Nat} {ret : Option FieldType} (hy : plainName y.cls = true) (hw : ws = Cond.code y cc maxL ret :: ws') (hlen : (lg_sl av).length ≤ maxL)
    (body : ∀ (p : Program) (e : Env) (s : State) (m : MethodId) (below : List Frame) (meth : Method) (c : Code), Bd p s m av.toArray meth c G cc maxL y.cls ws ret y.name → (∀ x ∈ c.exceptionTable.toList, False) → Z p l e rm s m av.toArray below meth c (vx_MQ below (QU G P) (XB G PX Es) av.toArray s mc ms (fun q => G.2.2.2 ≤ q)) G maxL 0 (lv_args 0 av) [] Φ sz 0 0) : CtB G l y ws rm mc ms av Φ sz P PX Es := by
  refine vx_ofW (cc := cc) (maxL := maxL) (ret := ret) hy hw ?_
  intro p e s m args below meth c s₁ B hml htab hv
  obtain ⟨rfl, hP, hK, hS, hn⟩ := hv
  have hl := lv_entry av hlen
  rw [lg_entry_eq]
  refine body p e s m below meth c ⟨⟨B.exec, B.bytes, hml, findClass_of_methodNamed B.named, atoms_spec (ws := ws) B.pre⟩, B.returns, B.notSynchronized, (name_of_methodNamed B.named B.method).1, hK, hS, by rw [hP.1]; exact hn⟩ htab s.heap [] _ hl hP va_S.rf
section ZB
variable {p : Program} {l : Launch} {e : Env} {R : Room} {s : State} {m : MethodId} {args : Array Value} {below : List Frame} {meth : Method} {c : Code} {Q : State → Prop} {G : EnvG} {nL pc : Nat} {lv : List (Nat × Value)} {rest : List Value} {Φ : Hm} {sz cells slots : Nat}
variable {cc : ByteArray} {own : String} {ws : List Cond} {ret : Option FieldType} {nm : String}
theorem zb_ret {st : List Value} {Qc : Array Value → State → Outcome → State → Prop} {XC : String → State → State → Prop} {mc ms : Nat} (h1 : cells ≤ mc) (h2 : slots ≤ ms) (k : Z p l e R s m args below meth c (MQ below Qc args s mc ms (fun q => G.2.2.2 ≤ q)) G nL pc lv st Φ sz mc ms) : Z p l e R s m args below meth c (vx_MQ below Qc XC args s mc ms (fun q => G.2.2.2 ≤ q)) G nL pc lv st Φ sz cells slots := z_widen h1 h2 (fun H locs ls hl hP hS => vx_ret (k H locs ls hl hP hS))
theorem zb_throw (B : Bd p s m args meth c G cc nL own ws ret nm) (hl : l.stackTraces = false) (htab : ∀ x ∈ c.exceptionTable.toList, False) {cls : String} {ik ic mc ms : Nat} {PX : Hm → Prop} {Es : List String} (hE : cls ∈ Es) (hPX : PX Φ) (hx : (cls, cls) ∈ xCast) (hcls : Bundle.fit cls = true) (hnames : ∀ n ∈ xNames, Bundle.fit n = true)
    (hk : Cond.classLink own ik cls ∈ ws) (hini : Cond.initialized cls ∈ ws) (hgd : ∀ w ∈ (vx_at0 own ic cls xNames).filter goodWord, w ∈ ws) (hbad : ∀ w ∈ (vx_at0 own ic cls xNames).filter (fun w => !goodWord w), w ∈ xBad cls) (hgood : ∀ w ∈ Cond.classLink own ik cls :: Cond.initialized cls :: vx_at0 own ic cls xNames, vx_ot w = true)
    (d0 : decode cc pc = .ok (.new ik, 3)) (d3 : decode cc (pc + 3) = .ok (.dup, 1)) (d4 : decode cc (pc + 4) = .ok (.invokespecial ic, 3)) (d7 : decode cc (pc + 7) = .ok (.athrow, 1))
    (hR : 5 < R.frames ∧ (rest.map fun v => v.category).sum + 81 ≤ R.locals ∧ cells + 1 ≤ R.cells ∧ slots + 6 ≤ R.slots) (hc : cells + 1 ≤ mc ∧ slots + 6 ≤ ms) {Qc : Array Value → State → Outcome → State → Prop} : Z p l e R s m args below meth c (vx_MQ below Qc (XB G PX Es) args s mc ms (fun q => G.2.2.2 ≤ q)) G nL pc lv rest Φ sz cells slots := by
  intro H locs ls hl1 hP hS
  have hts := B.1.2.2.2.2
  have hb3 : ∀ w ∈ xBad cls, w.before args s = true := by
    intro w hw
    simp only [xBad, List.mem_cons, List.not_mem_nil, or_false] at hw
    rcases hw with rfl | rfl | rfl | rfl
    · exact va_Nw.use rfl (B.2.2.2.2.1.2.2.2.2.2.2.1 _ hx)
    · exact va_Nw.use rfl (B.2.2.2.2.1.2.2.2.2.2.2.2.1 _ (by decide))
    · exact va_Nw.use rfl (B.2.2.2.2.1.2.2.2.2.2.2.2.1 _ (by decide))
    · exact va_Nw.use rfl (B.2.2.2.2.1.2.2.2.2.2.2.2.1 _ (by decide))
  refine vx_throw0 (names := xNames) B.1.1 B.1.2.1 hl B.1.2.2.2.1 hcls hnames (hts _ hk) (hts _ hini) (vx_hat (fun w hw => hts _ (hgd w hw)) hbad hb3) hgood B.2.2.2.2.2.1.2.1 B.2.2.2.2.2.1.2.2.1.1 hS (by rw [B.1.2.2.1]; exact hl1.1) d0 d3 d4 d7 (fun x hx9 => (htab x hx9).elim) hR.1 hR.2.1 hR.2.2.1 hR.2.2.2 B.2.2.1 ?_ hS.2.2 hc.1 hc.2
  intro t _ hz ho
  refine ⟨hE, ⟨Φ, t.heap.size, hPX, rfl, fun a x ha => (hP.2 a x ha).kept (ho a (hP.2 a x ha).lt)⟩, Nat.le_trans hS.1 hz, fun q h1 h2 => (ho q (Nat.lt_of_lt_of_le h1 hS.1)).trans (hS.2.1 q h1 h2)⟩
/-- what stands behind a call that returned, or threw -/
theorem z_runB {P : Option Value → Hm → Nat → Prop} {PX : Hm → Prop} {Es : List String} {mc ms : Nat} {st : List Value} {a : Array Value} (run : ∀ (H : Heap) (locs : List Loc) (ls : Array Slot), lv_has ls nL lv → HP G.1 Φ sz H → va_S (fun q => G.2.2.2 ≤ q) s.heap H locs → vx_Run p l e R s m args below meth c H locs cells slots mc ms (F0 m pc ls st) rest (QU G P a) (XB G PX Es) (fun q => G.2.2.2 ≤ q))
    (kk : ∀ (v : Option Value) (Φ1 : Hm) (sz1 : Nat) (st1 : List Value), P v Φ1 sz1 → st1 = v.toList ++ rest → Z p l e R s m args below meth c Q G nL (pc + 3) lv st1 Φ1 sz1 (cells + mc) (slots + ms))
    (kx : ∀ (E : String) (Φ1 : Hm) (H : Heap) (locs : List Loc) (ls : Array Slot) (q sz1 : Nat) (ce : Cell), E ∈ Es → PX Φ1 → lv_has ls nL lv → HP G.1 Φ1 sz1 H → va_S (fun q => G.2.2.2 ≤ q) s.heap H locs → H[q]? = some ce → ce.vm = .none → s.vm.findClass E = some ce.cls → vx_W p l e R s m args below meth c H locs (cells + mc) (slots + ms) Q (F0 m pc ls rest) q) : Z p l e R s m args below meth c Q G nL pc lv st Φ sz cells slots := by
  intro H locs ls hl hP hS T hT X
  rcases run H locs ls hl hP hS T hT X with ⟨v, st₀, t, T', L, h0, X', hL, e1, e2, ⟨⟨v2, Φ1, sz1, hv, hp, hb⟩, hz, hk⟩, stp⟩ | ⟨q, st₀, t, T', L, E1, ce, h0, X', hL, e1, e2, ⟨hE, ⟨Φ1, sz1, hPX, hH⟩, hz, hk⟩, hce, hcv, hcl, stp⟩
  · cases hv
    rw [h0] at hz hk
    obtain ⟨t2, a1, b1⟩ := kk v Φ1 sz1 _ hp rfl T'.heap (locs ++ L) ls hl (by rw [e1]; exact hb)
      ⟨Nat.le_trans hS.1 (by rw [e1]; exact hz), fun q h1 h2 => by rw [e1, hk q (Nat.lt_of_lt_of_le h1 hS.1) h2]; exact hS.2.1 q h1 h2, fun q hq => by
        rcases List.mem_append.mp hq with h | h
        · exact hS.2.2 q h
        · exact hL q h⟩ T' rfl X'
    exact ⟨t2, stp t2 a1, b1⟩
  · rw [h0] at hz hk
    obtain ⟨tt, a1, b1⟩ := kx E1 Φ1 T'.heap (locs ++ L) ls q sz1 ce hE hPX hl (by rw [e1]; exact hH) ⟨Nat.le_trans hS.1 (by rw [e1]; exact hz), fun x h1 h2 => by rw [e1, hk x (Nat.lt_of_lt_of_le h1 hS.1) h2]; exact hS.2.1 x h1 h2, fun x hx => by
      rcases List.mem_append.mp hx with h | h
      · exact hS.2.2 x h
      · exact hL x h⟩ (by rw [e1]; exact hce) hcv hcl T' rfl X'
    exact ⟨tt, stp.trans a1, b1⟩
/-- a throw goes on to the caller -/
theorem zb_callV (B : Bd p s m args meth c G cc nL own ws ret nm) (htab : ∀ x ∈ c.exceptionTable.toList, False) {y : MethodName} {bytes : ByteArray} {maxL mc0 ms0 mc ms n index : Nat} {ret1 : Option FieldType} {ws1 : List Cond} {rm : Room} {C : String} {P : Option Value → Hm → Nat → Prop} {PX PX1 : Hm → Prop} {Es Es1 : List String} {b ci : Nat} {q : vw_C} {fs : List Value} {As st : List Value} (hM : CtB G l y ws1 rm mc0 ms0 (.ref b :: As) Φ sz P PX Es) (cw : CallW R s args own C index y bytes maxL ret1 ws1 rm mc0 ms0 n) (hb : Φ b = some (o_ ci fs)) (hc : vwCl[ci]? = some q) (hq : q.1 = C) (hn : As.length = n) (hst : st = As.reverse ++ .ref b :: rest) (hcat : (rest.map fun v => v.category).sum ≤ 8) (hdg : decode cc pc = .ok (.invokevirtual index, 3)) (hf : cells + mc0 ≤ R.cells ∧ slots + ms0 ≤ R.slots) (hm : cells + mc0 ≤ mc ∧ slots + ms0 ≤ ms) (hE : ∀ E ∈ Es, E ∈ Es1) (hPX : ∀ Φ1, PX Φ1 → PX1 Φ1) {Qc : Array Value → State → Outcome → State → Prop}
    (kk : ∀ (v : Option Value) (Φ1 : Hm) (sz1 : Nat) (st1 : List Value), P v Φ1 sz1 → st1 = v.toList ++ rest → Z p l e R s m args below meth c (vx_MQ below Qc (XB G PX1 Es1) args s mc ms (fun q => G.2.2.2 ≤ q)) G nL (pc + 3) lv st1 Φ1 sz1 (cells + mc0) (slots + ms0)) : Z p l e R s m args below meth c (vx_MQ below Qc (XB G PX1 Es1) args s mc ms (fun q => G.2.2.2 ≤ q)) G nL pc lv st Φ sz cells slots := by
  refine z_runB (a := (Value.ref b :: As).toArray) (fun H locs ls hl hP hS => vx_runV B.1 hM cw ⟨PU.blind, ?_, fun U hU hW => ⟨rfl, z_PU B hP hS U hU hW⟩⟩ rfl hn hl.1 hst (lv_room hcat) hdg hf) kk ?_
  · subst hq
    exact va_recv (q0 := 0) B.2.2.2.2.1.1 (z_arr hP hb) hc rfl
  · intro E Φ1 H locs ls q9 sz1 ce hE9 hPX9 hl hP hS hce hcv hcl
    exact vx_out (E := E) (fun x hx => (htab x hx).elim) B.2.2.1 hce hcv hcl (fun t ht _ => ⟨hE E hE9, ⟨Φ1, sz1, hPX Φ1 hPX9, by rw [ht]; exact hP⟩, hS.F ht⟩) hS.2.2 hm.1 hm.2
theorem zb_callS (B : Bd p s m args meth c G cc nL own ws ret nm) (htab : ∀ x ∈ c.exceptionTable.toList, False) {y : MethodName} {bytes : ByteArray} {maxL mc0 ms0 mc ms n index : Nat} {ret1 : Option FieldType} {ws1 : List Cond} {rm : Room} {P : Option Value → Hm → Nat → Prop} {PX PX1 : Hm → Prop} {Es Es1 : List String} {As st : List Value} (hM : CtB G l y ws1 rm mc0 ms0 As Φ sz P PX Es) (cw : CallB R s args own index y bytes maxL ret1 ws1 rm mc0 ms0 n ∧ (Cond.static y).before args s = true) (hn : As.length = n) (hst : st = As.reverse ++ rest) (hcat : (rest.map fun v => v.category).sum ≤ 8) (hdg : decode cc pc = .ok (.invokestatic index, 3)) (hf : cells + mc0 ≤ R.cells ∧ slots + ms0 ≤ R.slots) (hm : cells + mc0 ≤ mc ∧ slots + ms0 ≤ ms) (hE : ∀ E ∈ Es, E ∈ Es1) (hPX : ∀ Φ1, PX Φ1 → PX1 Φ1) {Qc : Array Value → State → Outcome → State → Prop}
    (kk : ∀ (v : Option Value) (Φ1 : Hm) (sz1 : Nat) (st1 : List Value), P v Φ1 sz1 → st1 = v.toList ++ rest → Z p l e R s m args below meth c (vx_MQ below Qc (XB G PX1 Es1) args s mc ms (fun q => G.2.2.2 ≤ q)) G nL (pc + 3) lv st1 Φ1 sz1 (cells + mc0) (slots + ms0)) : Z p l e R s m args below meth c (vx_MQ below Qc (XB G PX1 Es1) args s mc ms (fun q => G.2.2.2 ≤ q)) G nL pc lv st Φ sz cells slots := by
  refine z_runB (a := As.toArray) (fun H locs ls hl hP hS => vx_runS B.1 hM cw ⟨PU.blind, fun U hU hW => ⟨rfl, z_PU B hP hS U hU hW⟩⟩ rfl hn hl.1 hst (lv_room hcat) hdg hf) kk ?_
  intro E Φ1 H locs ls q9 sz1 ce hE9 hPX9 hl hP hS hce hcv hcl
  exact vx_out (E := E) (fun x hx => (htab x hx).elim) B.2.2.1 hce hcv hcl (fun t ht _ => ⟨hE E hE9, ⟨Φ1, sz1, hPX Φ1 hPX9, by rw [ht]; exact hP⟩, hS.F ht⟩) hS.2.2 hm.1 hm.2
/-- a handler of this place for E -/
noncomputable def hdl (c : Code) (own : String) (ws : List Cond) (pc : Nat) (E : String) (h : Nat) : Prop := ∃ (pre : List ExceptionTableEntry) (x : ExceptionTableEntry) (suf : List ExceptionTableEntry), c.exceptionTable.toList = pre ++ x :: suf ∧ (∀ z ∈ pre, covers z pc = false ∨ (z.catchType ≠ 0 ∧ ∃ n9 : String, Cond.classLink own z.catchType n9 ∈ ws ∧ (E, n9) ∈ xNot)) ∧ covers x pc = true ∧ x.catchType ≠ 0 ∧ Cond.classLink own x.catchType E ∈ ws ∧ (E, E) ∈ xCast ∧ x.handlerPc = h
theorem zb_callC (B : Bd p s m args meth c G cc nL own ws ret nm) {y : MethodName} {bytes : ByteArray} {maxL mc0 ms0 n index : Nat} {ret1 : Option FieldType} {ws1 : List Cond} {rm : Room} {C : String} {P : Option Value → Hm → Nat → Prop} {PX : Hm → Prop} {Es : List String} {b ci : Nat} {q : vw_C} {fs : List Value} {As st : List Value} (hM : CtB G l y ws1 rm mc0 ms0 (.ref b :: As) Φ sz P PX Es) (cw : CallW R s args own C index y bytes maxL ret1 ws1 rm mc0 ms0 n) (hb : Φ b = some (o_ ci fs)) (hc : vwCl[ci]? = some q) (hq : q.1 = C) (hn : As.length = n) (hst : st = As.reverse ++ .ref b :: rest) (hcat : (rest.map fun v => v.category).sum ≤ 8) (hdg : decode cc pc = .ok (.invokevirtual index, 3)) (hf : cells + mc0 ≤ R.cells ∧ slots + ms0 ≤ R.slots)
    (kk : ∀ (v : Option Value) (Φ1 : Hm) (sz1 : Nat) (st1 : List Value), P v Φ1 sz1 → st1 = v.toList ++ rest → Z p l e R s m args below meth c Q G nL (pc + 3) lv st1 Φ1 sz1 (cells + mc0) (slots + ms0))
    (kx : ∀ E ∈ Es, ∃ h : Nat, hdl c own ws pc E h ∧ ∀ (q9 sz1 : Nat) (Φ1 : Hm), PX Φ1 → Z p l e R s m args below meth c Q G nL h lv [.ref q9] Φ1 sz1 (cells + mc0) (slots + ms0)) : Z p l e R s m args below meth c Q G nL pc lv st Φ sz cells slots := by
  refine z_runB (a := (Value.ref b :: As).toArray) (fun H locs ls hl hP hS => vx_runV B.1 hM cw ⟨PU.blind, ?_, fun U hU hW => ⟨rfl, z_PU B hP hS U hU hW⟩⟩ rfl hn hl.1 hst (lv_room hcat) hdg hf) kk ?_
  · subst hq
    exact va_recv (q0 := 0) B.2.2.2.2.1.1 (z_arr hP hb) hc rfl
  · intro E Φ1 H locs ls q9 sz1 ce hE9 hPX9 hl hP hS hce hcv hcl
    obtain ⟨h, ⟨pre, x, suf, hsplit, hpass, hx, h0, hlink, hcast, hh⟩, kz⟩ := kx E hE9
    subst hh
    refine vx_catch (name := E) B.1.2.2.2.1 pre x suf hsplit (fun z hz => ?_) hx h0 (B.1.2.2.2.2 _ hlink) (va_Nw.use rfl (B.2.2.2.2.1.2.2.2.2.2.2.1 _ hcast)) hce hcv hcl (kz q9 sz1 Φ1 hPX9 H locs ls hl hP hS)
    rcases hpass z hz with h | ⟨h1, n9, h2, h3⟩
    · exact Or.inl h
    · exact Or.inr ⟨h1, n9, B.1.2.2.2.2 _ h2, B.2.2.2.2.1.2.2.2.2.2.2.2.2.1 _ h3⟩
end ZB

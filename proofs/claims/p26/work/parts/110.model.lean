set_option maxRecDepth 20000 in
theorem ggX12_decode_X12_lengthOf : GoodIn wsX12_decode wsX12_lengthOf := (goodIn_r _ [13] rfl (by decide +kernel))
set_option maxRecDepth 20000 in
theorem gX12_decode_X12_lengthOf : GoodIn wsX12_decode (va_wsS RX12 195 yX12_lengthOf wsX12_lengthOf) := goodIn_app (goodIn_m (mem_cA (List.mem_cons_of_mem _ (List.mem_append_left _ (List.mem_append_left _ (List.mem_append_left _ (List.mem_of_getElem? (i := 9) rfl))))) (mem_cA (List.mem_cons_of_mem _ (List.mem_append_left _ (List.mem_append_left _ (List.mem_append_left _ (List.mem_of_getElem? (i := 10) rfl))))) (mem_cA (List.mem_cons_of_mem _ (List.mem_append_left _ (List.mem_append_left _ (List.mem_append_left _ (List.mem_of_getElem? (i := 11) rfl))))) mem_cZ))) (by decide +kernel)) ggX12_decode_X12_lengthOf
set_option maxRecDepth 20000 in
theorem ggX12_decode_X12_get : GoodIn wsX12_decode wsX12_get := goodIn_ca ((goodIn_ca (goodIn_r _ [17, 18] rfl (by decide +kernel)) (goodIn_sub (fun _ h => List.mem_cons_of_mem _ (List.mem_append_left _ (List.mem_append_right _ h))) gw_wsX120))) (goodIn_sub (fun _ h => List.mem_cons_of_mem _ (List.mem_append_right _ h)) (all_fg _))
set_option maxRecDepth 20000 in
theorem gX12_decode_X12_get : GoodIn wsX12_decode (wsV RX12 339 RX12 yX12_get wsX12_get) := goodIn_app (goodIn_m (mem_cA (List.mem_cons_of_mem _ (List.mem_append_left _ (List.mem_append_left _ (List.mem_append_left _ (List.mem_of_getElem? (i := 13) rfl))))) (mem_cA (List.mem_cons_of_mem _ (List.mem_append_left _ (List.mem_append_left _ (List.mem_append_left _ (List.mem_of_getElem? (i := 14) rfl))))) (mem_cA (List.mem_cons_of_mem _ (List.mem_append_left _ (List.mem_append_left _ (List.mem_append_left _ (List.mem_of_getElem? (i := 15) rfl))))) (mem_cA (List.mem_cons_of_mem _ (List.mem_append_left _ (List.mem_append_left _ (List.mem_append_left _ (List.mem_of_getElem? (i := 11) rfl))))) mem_cZ)))) (by decide +kernel)) ggX12_decode_X12_get
set_option maxRecDepth 20000 in
theorem ggX12_decode_X12_rateOf : GoodIn wsX12_decode wsX12_rateOf := goodIn_ca ((goodIn_ca (goodIn_r _ [22, 2, 23] rfl (by decide +kernel)) (goodIn_sub (fun _ h => List.mem_cons_of_mem _ (List.mem_append_left _ (List.mem_append_right _ h))) gw_wsX120))) (goodIn_sub (fun _ h => List.mem_cons_of_mem _ (List.mem_append_right _ h)) (all_fg _))
set_option maxRecDepth 20000 in
theorem gX12_decode_X12_rateOf : GoodIn wsX12_decode (wsV RX12 379 RX12 yX12_rateOf wsX12_rateOf) := goodIn_app (goodIn_m (mem_cA (List.mem_cons_of_mem _ (List.mem_append_left _ (List.mem_append_left _ (List.mem_append_left _ (List.mem_of_getElem? (i := 18) rfl))))) (mem_cA (List.mem_cons_of_mem _ (List.mem_append_left _ (List.mem_append_left _ (List.mem_append_left _ (List.mem_of_getElem? (i := 19) rfl))))) (mem_cA (List.mem_cons_of_mem _ (List.mem_append_left _ (List.mem_append_left _ (List.mem_append_left _ (List.mem_of_getElem? (i := 20) rfl))))) (mem_cA (List.mem_cons_of_mem _ (List.mem_append_left _ (List.mem_append_left _ (List.mem_append_left _ (List.mem_of_getElem? (i := 11) rfl))))) mem_cZ)))) (by decide +kernel)) ggX12_decode_X12_rateOf
set_option maxRecDepth 20000 in
theorem ggX12_decode_X12_addRecord : GoodIn wsX12_decode wsX12_addRecord := goodIn_ca ((goodIn_ca (goodIn_r _ [27, 1, 28, 9, 29, 30, 31, 32, 33, 34, 35, 12, 36, 37, 38, 39] rfl (by decide +kernel)) (goodIn_sub (fun _ h => List.mem_cons_of_mem _ (List.mem_append_left _ (List.mem_append_right _ h))) gw_wsX120))) (goodIn_sub (fun _ h => List.mem_cons_of_mem _ (List.mem_append_right _ h)) (all_fg _))
set_option maxRecDepth 20000 in
theorem gX12_decode_X12_addRecord : GoodIn wsX12_decode (wsV RX12 382 RX12 yX12_addRecord wsX12_addRecord) := goodIn_app (goodIn_m (mem_cA (List.mem_cons_of_mem _ (List.mem_append_left _ (List.mem_append_left _ (List.mem_append_left _ (List.mem_of_getElem? (i := 23) rfl))))) (mem_cA (List.mem_cons_of_mem _ (List.mem_append_left _ (List.mem_append_left _ (List.mem_append_right _ (List.mem_of_getElem? (i := 0) rfl))))) (mem_cA (List.mem_cons_of_mem _ (List.mem_append_left _ (List.mem_append_left _ (List.mem_append_right _ (List.mem_of_getElem? (i := 1) rfl))))) (mem_cA (List.mem_cons_of_mem _ (List.mem_append_left _ (List.mem_append_left _ (List.mem_append_left _ (List.mem_of_getElem? (i := 11) rfl))))) mem_cZ)))) (by decide +kernel)) ggX12_decode_X12_addRecord
theorem dX12_decode_0 : decode cX12_decode 0 = .ok (.iconst 0, 1) := by decide +kernel
theorem dX12_decode_1 : decode cX12_decode 1 = .ok (.istore_n 3, 1) := by decide +kernel
theorem dX12_decode_2 : decode cX12_decode 2 = .ok (.iload_n 3, 1) := by decide +kernel
theorem dX12_decode_3 : decode cX12_decode 3 = .ok (.bipush 9, 2) := by decide +kernel
theorem dX12_decode_5 : decode cX12_decode 5 = .ok (.if_icmp .ge 16, 3) := by decide +kernel
theorem dX12_decode_8 : decode cX12_decode 8 = .ok (.aload_n 0, 1) := by decide +kernel
theorem dX12_decode_9 : decode cX12_decode 9 = .ok (.getfield 66, 3) := by decide +kernel
theorem dX12_decode_12 : decode cX12_decode 12 = .ok (.iload_n 3, 1) := by decide +kernel
theorem dX12_decode_13 : decode cX12_decode 13 = .ok (.lconst 0, 1) := by decide +kernel
theorem dX12_decode_14 : decode cX12_decode 14 = .ok (.lastore, 1) := by decide +kernel
theorem dX12_decode_15 : decode cX12_decode 15 = .ok (.iinc 3 1, 3) := by decide +kernel
theorem dX12_decode_18 : decode cX12_decode 18 = .ok (.goto (-16), 3) := by decide +kernel
theorem dX12_decode_21 : decode cX12_decode 21 = .ok (.aload_n 0, 1) := by decide +kernel
theorem dX12_decode_22 : decode cX12_decode 22 = .ok (.getfield 17, 3) := by decide +kernel
theorem dX12_decode_25 : decode cX12_decode 25 = .ok (.bipush 8, 2) := by decide +kernel
theorem dX12_decode_27 : decode cX12_decode 27 = .ok (.iaload, 1) := by decide +kernel
theorem dX12_decode_28 : decode cX12_decode 28 = .ok (.istore_n 3, 1) := by decide +kernel
theorem dX12_decode_29 : decode cX12_decode 29 = .ok (.iload_n 2, 1) := by decide +kernel
theorem dX12_decode_30 : decode cX12_decode 30 = .ok (.istore 4, 2) := by decide +kernel
theorem dX12_decode_32 : decode cX12_decode 32 = .ok (.iconst 0, 1) := by decide +kernel
theorem dX12_decode_33 : decode cX12_decode 33 = .ok (.istore 5, 2) := by decide +kernel
theorem dX12_decode_35 : decode cX12_decode 35 = .ok (.iload 5, 2) := by decide +kernel
theorem dX12_decode_37 : decode cX12_decode 37 = .ok (.aload_n 0, 1) := by decide +kernel
theorem dX12_decode_38 : decode cX12_decode 38 = .ok (.getfield 48, 3) := by decide +kernel
theorem dX12_decode_41 : decode cX12_decode 41 = .ok (.iload_n 1, 1) := by decide +kernel
theorem dX12_decode_42 : decode cX12_decode 42 = .ok (.iaload, 1) := by decide +kernel
theorem dX12_decode_43 : decode cX12_decode 43 = .ok (.if_icmp .ge 74, 3) := by decide +kernel
theorem dX12_decode_46 : decode cX12_decode 46 = .ok (.aload_n 0, 1) := by decide +kernel
theorem dX12_decode_47 : decode cX12_decode 47 = .ok (.getfield 51, 3) := by decide +kernel
theorem dX12_decode_50 : decode cX12_decode 50 = .ok (.bipush 9, 2) := by decide +kernel
theorem dX12_decode_52 : decode cX12_decode 52 = .ok (.iload_n 1, 1) := by decide +kernel
theorem dX12_decode_53 : decode cX12_decode 53 = .ok (.imul, 1) := by decide +kernel
theorem dX12_decode_54 : decode cX12_decode 54 = .ok (.iload 5, 2) := by decide +kernel
theorem dX12_decode_56 : decode cX12_decode 56 = .ok (.iadd, 1) := by decide +kernel
theorem dX12_decode_57 : decode cX12_decode 57 = .ok (.iaload, 1) := by decide +kernel
theorem dX12_decode_58 : decode cX12_decode 58 = .ok (.istore 6, 2) := by decide +kernel
theorem dX12_decode_60 : decode cX12_decode 60 = .ok (.aload_n 0, 1) := by decide +kernel
theorem dX12_decode_61 : decode cX12_decode 61 = .ok (.getfield 66, 3) := by decide +kernel
theorem dX12_decode_64 : decode cX12_decode 64 = .ok (.iload 6, 2) := by decide +kernel
theorem dX12_decode_66 : decode cX12_decode 66 = .ok (.aload_n 0, 1) := by decide +kernel
theorem dX12_decode_67 : decode cX12_decode 67 = .ok (.iload 4, 2) := by decide +kernel
theorem dX12_decode_69 : decode cX12_decode 69 = .ok (.iload 6, 2) := by decide +kernel
theorem dX12_decode_71 : decode cX12_decode 71 = .ok (.invokestatic 195, 3) := by decide +kernel
theorem dX12_decode_74 : decode cX12_decode 74 = .ok (.invokevirtual 339, 3) := by decide +kernel
theorem dX12_decode_77 : decode cX12_decode 77 = .ok (.lastore, 1) := by decide +kernel
theorem dX12_decode_78 : decode cX12_decode 78 = .ok (.iload 4, 2) := by decide +kernel
theorem dX12_decode_80 : decode cX12_decode 80 = .ok (.iload 6, 2) := by decide +kernel
theorem dX12_decode_82 : decode cX12_decode 82 = .ok (.invokestatic 195, 3) := by decide +kernel
theorem dX12_decode_85 : decode cX12_decode 85 = .ok (.iadd, 1) := by decide +kernel
theorem dX12_decode_86 : decode cX12_decode 86 = .ok (.istore 4, 2) := by decide +kernel
theorem dX12_decode_88 : decode cX12_decode 88 = .ok (.iload 6, 2) := by decide +kernel
theorem dX12_decode_90 : decode cX12_decode 90 = .ok (.bipush 8, 2) := by decide +kernel
theorem dX12_decode_92 : decode cX12_decode 92 = .ok (.if_icmp .ne 19, 3) := by decide +kernel
theorem dX12_decode_95 : decode cX12_decode 95 = .ok (.aload_n 0, 1) := by decide +kernel
theorem dX12_decode_96 : decode cX12_decode 96 = .ok (.aload_n 0, 1) := by decide +kernel
theorem dX12_decode_97 : decode cX12_decode 97 = .ok (.getfield 66, 3) := by decide +kernel
theorem dX12_decode_100 : decode cX12_decode 100 = .ok (.iload 6, 2) := by decide +kernel
theorem dX12_decode_102 : decode cX12_decode 102 = .ok (.laload, 1) := by decide +kernel
theorem dX12_decode_103 : decode cX12_decode 103 = .ok (.l2i, 1) := by decide +kernel
theorem dX12_decode_104 : decode cX12_decode 104 = .ok (.invokestatic 375, 3) := by decide +kernel
theorem dX12_decode_107 : decode cX12_decode 107 = .ok (.invokevirtual 379, 3) := by decide +kernel
theorem dX12_decode_110 : decode cX12_decode 110 = .ok (.istore_n 3, 1) := by decide +kernel
theorem dX12_decode_111 : decode cX12_decode 111 = .ok (.iinc 5 1, 3) := by decide +kernel
theorem dX12_decode_114 : decode cX12_decode 114 = .ok (.goto (-79), 3) := by decide +kernel
theorem dX12_decode_117 : decode cX12_decode 117 = .ok (.aload_n 0, 1) := by decide +kernel
theorem dX12_decode_118 : decode cX12_decode 118 = .ok (.getfield 45, 3) := by decide +kernel
theorem dX12_decode_121 : decode cX12_decode 121 = .ok (.bipush 7, 2) := by decide +kernel
theorem dX12_decode_123 : decode cX12_decode 123 = .ok (.dup2, 1) := by decide +kernel
theorem dX12_decode_124 : decode cX12_decode 124 = .ok (.laload, 1) := by decide +kernel
theorem dX12_decode_125 : decode cX12_decode 125 = .ok (.lconst 1, 1) := by decide +kernel
theorem dX12_decode_126 : decode cX12_decode 126 = .ok (.ladd, 1) := by decide +kernel
theorem dX12_decode_127 : decode cX12_decode 127 = .ok (.lastore, 1) := by decide +kernel
theorem dX12_decode_128 : decode cX12_decode 128 = .ok (.aload_n 0, 1) := by decide +kernel
theorem dX12_decode_129 : decode cX12_decode 129 = .ok (.iload_n 3, 1) := by decide +kernel
theorem dX12_decode_130 : decode cX12_decode 130 = .ok (.invokevirtual 382, 3) := by decide +kernel
theorem dX12_decode_133 : decode cX12_decode 133 = .ok (.return_, 1) := by decide +kernel
/-! draws: a contract of a method that may draw (a NaN's copy); the walk goes over the start with any record of draws -/
noncomputable def CtD (G : EnvG) (l : Launch) (y : MethodName) (ws : List Cond) (rm : Room) (mc ms : Nat) (av : List Value) (Φ : Hm) (sz : Nat) (P : Option Value → Hm → Nat → Prop) : Prop := MetD lw_cs l y ws rm (va_Pc av (PU G Φ sz)) (QU G P) mc ms (fun q => G.2.2.2 ≤ q)
theorem Bd.drawn {p : Program} {s : State} {m : MethodId} {args : Array Value} {meth : Method} {c : Code} {G : EnvG} {cc : ByteArray} {nL : Nat} {own : String} {ws : List Cond} {ret : Option FieldType} {nm : String} (B : Bd p s m args meth c G cc nL own ws ret nm) (d : Drawn) : Bd p (s.setDrawn d) m args meth c G cc nL own ws ret nm :=
  ⟨⟨B.1.1, B.1.2.1, B.1.2.2.1, B.1.2.2.2.1, dr_words B.1.2.2.2.2 d⟩, B.2.1, B.2.2.1, B.2.2.2.1, K0.warm (U := s.setDrawn d) (State.WarmedH.refl s) B.2.2.2.2.1, S0.moved (U := s.setDrawn d) (Vm.Alike.refl s.vm) B.2.2.2.2.2.1, B.2.2.2.2.2.2⟩
theorem CtD.of {G : EnvG} {l : Launch} {y : MethodName} {ws ws' : List Cond} {rm : Room} {mc ms : Nat} {av : List Value} {Φ : Hm} {sz : Nat} {P : Option Value → Hm → Nat → Prop} {cc : ByteArray} {maxL : Nat} {ret : Option FieldType} (hy : plainName y.cls = true) (hw : ws = Cond.code y cc maxL ret :: ws') (hlen : (lg_sl av).length ≤ maxL)
    (body : ∀ (p : Program) (e : Env) (s : State) (m : MethodId) (below : List Frame) (meth : Method) (c : Code) (d : Drawn), s.drawn.sameBut d lw_cs → Bd p (s.setDrawn d) m av.toArray meth c G cc maxL y.cls ws ret y.name → Z p l e rm (s.setDrawn d) m av.toArray below meth c (MQD lw_cs below (QU G P) av.toArray s mc ms (fun q => G.2.2.2 ≤ q)) G maxL 0 (lv_args 0 av) [] Φ sz 0 0) : CtD G l y ws rm mc ms av Φ sz P := by
  refine MetD.ofW (cc := cc) (maxL := maxL) (ret := ret) hy hw ?_
  intro p e s m args below meth c s₁ B hml hv hd0
  obtain ⟨rfl, hP, hK, hS, hn⟩ := hv
  have hl := lv_entry av hlen
  rw [lg_entry_eq]
  have B0 : Bd p s m av.toArray meth c G cc maxL y.cls ws ret y.name := ⟨⟨B.exec, B.bytes, hml, findClass_of_methodNamed B.named, atoms_spec (ws := ws) B.pre⟩, B.returns, B.notSynchronized, (name_of_methodNamed B.named B.method).1, hK, hS, by rw [hP.1]; exact hn⟩
  exact body p e s m below meth c s.drawn hd0 (B0.drawn s.drawn) s.heap [] _ hl hP va_S.rf
theorem CtD.of_ct {G : EnvG} {l : Launch} {y : MethodName} {ws : List Cond} {rm : Room} {mc ms : Nat} {av : List Value} {Φ : Hm} {sz : Nat} {P : Option Value → Hm → Nat → Prop} (h : Ct G l y ws rm mc ms av Φ sz P) : CtD G l y ws rm mc ms av Φ sz P := MetD.of_met h
section ZDr
variable {p : Program} {l : Launch} {e : Env} {R : Room} {s : State} {m : MethodId} {args : Array Value} {below : List Frame} {meth : Method} {c : Code} {Q : State → Prop} {G : EnvG} {nL pc : Nat} {lv : List (Nat × Value)} {rest : List Value} {Φ : Hm} {sz cells slots : Nat}
variable {cc : ByteArray} {own : String} {ws : List Cond} {ret : Option FieldType} {nm : String}
theorem zd_end {st : List Value} {d : Drawn} {Qc : Array Value → State → Outcome → State → Prop} {mc ms : Nat} (hd : s.drawn.sameBut d lw_cs) (k : Z p l e R (s.setDrawn d) m args below meth c (MQ below Qc args (s.setDrawn d) mc ms (fun q => G.2.2.2 ≤ q)) G nL pc lv st Φ sz cells slots) : Z p l e R (s.setDrawn d) m args below meth c (MQD lw_cs below Qc args s mc ms (fun q => G.2.2.2 ≤ q)) G nL pc lv st Φ sz cells slots := fun H locs ls hl hP hS => W.endD hd (k H locs ls hl hP hS)
/-- behind a call that may have drawn -/
theorem z_runD {P : Option Value → Hm → Nat → Prop} {mc ms : Nat} {st : List Value} {a : Array Value} (run : ∀ (H : Heap) (locs : List Loc) (ls : Array Slot), lv_has ls nL lv → HP G.1 Φ sz H → va_S (fun q => G.2.2.2 ≤ q) s.heap H locs → va_RunD lw_cs p l e R s m args below meth c H locs cells slots mc ms (F0 m pc ls st) rest (QU G P a) (fun q => G.2.2.2 ≤ q))
    (kk : ∀ (d : Drawn), s.drawn.sameBut d lw_cs → ∀ (v : Option Value) (Φ1 : Hm) (sz1 : Nat) (st1 : List Value), P v Φ1 sz1 → st1 = v.toList ++ rest → Z p l e R (s.setDrawn d) m args below meth c Q G nL (pc + 3) lv st1 Φ1 sz1 (cells + mc) (slots + ms)) : Z p l e R s m args below meth c Q G nL pc lv st Φ sz cells slots := by
  intro H locs ls hl hP hS T hT X
  obtain ⟨v, st₀, t, T', L, d', hd', h0, X', hL, e1, e2, ⟨⟨v2, Φ1, sz1, hv, hp, hb⟩, hz, hk⟩, stp⟩ := run H locs ls hl hP hS T hT X
  cases hv
  rw [h0] at hz hk
  obtain ⟨t2, a1, b1⟩ := kk d' hd' v Φ1 sz1 _ hp rfl T'.heap (locs ++ L) ls hl (by rw [e1]; exact hb)
    ⟨Nat.le_trans hS.1 (by rw [e1]; exact hz), fun q h1 h2 => by rw [e1, hk q (Nat.lt_of_lt_of_le h1 hS.1) h2]; exact hS.2.1 q h1 h2, fun q hq => by
      rcases List.mem_append.mp hq with h | h
      · exact hS.2.2 q h
      · exact hL q h⟩ T' rfl X'
  exact ⟨t2, stp t2 a1, b1⟩
theorem zd_callV (B : Bd p s m args meth c G cc nL own ws ret nm) {y : MethodName} {bytes : ByteArray} {maxL mc ms n index : Nat} {ret1 : Option FieldType} {ws1 : List Cond} {rm : Room} {C : String} {P : Option Value → Hm → Nat → Prop} {b ci : Nat} {q : vw_C} {fs : List Value} {As st : List Value} (hM : CtD G l y ws1 rm mc ms (.ref b :: As) Φ sz P) (cw : CallW R s args own C index y bytes maxL ret1 ws1 rm mc ms n) (hb : Φ b = some (o_ ci fs)) (hc : vwCl[ci]? = some q) (hq : q.1 = C) (hn : As.length = n) (hst : st = As.reverse ++ .ref b :: rest) (hcat : (rest.map fun v => v.category).sum ≤ 8) (hdg : decode cc pc = .ok (.invokevirtual index, 3)) (hf : cells + mc ≤ R.cells ∧ slots + ms ≤ R.slots)
    (kk : ∀ (d : Drawn), s.drawn.sameBut d lw_cs → ∀ (v : Option Value) (Φ1 : Hm) (sz1 : Nat) (st1 : List Value), P v Φ1 sz1 → st1 = v.toList ++ rest → Z p l e R (s.setDrawn d) m args below meth c Q G nL (pc + 3) lv st1 Φ1 sz1 (cells + mc) (slots + ms)) : Z p l e R s m args below meth c Q G nL pc lv st Φ sz cells slots := by
  refine z_runD (fun H locs ls hl hP hS => va_runV_D B.1 hM cw ⟨PU.blind, ?_, fun U hU hW => ⟨rfl, z_PU B hP hS U hU hW⟩⟩ rfl hn hl.1 hst (lv_room hcat) hdg hf) kk
  subst hq
  exact va_recv (q0 := 0) B.2.2.2.2.1.1 (z_arr hP hb) hc rfl
/-- Float.intBitsToFloat of any int -/
theorem vn_i2fD {T : State} {locs : List Loc} (X : Stand p l e R s m args below meth c T locs cells slots) (hexec : p.tables.exec = Jvm.exec) {own : String} {index : Nat} (hown : s.vm.findClass own = some m.cls) (hlink : (Cond.methodLink own index ⟨"java/lang/Float", "intBitsToFloat", "(I)F"⟩).before args s = true) (hnat : (Cond.native ⟨"java/lang/Float", "intBitsToFloat", "(I)F"⟩).before args s = true) (hstat : (Cond.static ⟨"java/lang/Float", "intBitsToFloat", "(I)F"⟩).before args s = true) (hinit : (Cond.initialized "java/lang/Float").before args s = true)
    {g : JFrame} (hg : g.method = m) (hsize : g.locals.size = c.maxLocals) {rest : List Value} {b : Int32} (hstack : g.stack = .int b :: rest) (hdg : decode c.code g.pc = .ok (.invokestatic index, 3)) (hframes : 1 ≤ R.frames) (hlocals : 2 * g.monitorRoom + (rest.map fun v => v.category).sum + (nativeFrameWords "java/lang/Float" "intBitsToFloat" 1 + 11) ≤ R.locals) :
    ∃ (r : UInt32) (vm' : Vm) (d' : Drawn), s.drawn.sameBut d' lw_cs ∧ Stand p l e R (s.setDrawn d') m args below meth c ((T.setVm vm').setDrawn d') locs cells slots ∧ ∀ target, Steps p.tables e below (((T.setVm vm').setDrawn d').setTop { g with pc := g.pc + 3, stack := .float r :: rest }) target → Steps p.tables e below (T.setTop g) target := by
  obtain ⟨r, kS, methS, hnS, hmS, hkS, N⟩ := NativeOf.of_static hnat hstat (ps := [.int]) (ret := some .float) (by decide +kernel)
  have hinitS : kS.init = .initialized := Cond.initialized_spec (findClass_of_methodNamed hnS) hkS hinit
  obtain ⟨vm', X', step⟩ := X.invokestatic hexec hown hlink hnS hmS N.static hkS hinitS (by decide) hg (argsL := [.int b]) (rest := rest) (by rw [N.sig]; rfl) hstack hdg
  have hdr : (T.setVm vm').drawn = s.drawn := X'.drawn_eq
  by_cases hv : (b.toUInt32 &&& 0x7fffffff > 0x7f800000 && b.toUInt32 &&& 0x00400000 == 0) = false
  · refine ⟨b.toUInt32, vm', (T.setVm vm').drawn, by rw [hdr]; exact Drawn.sameBut.refl _ _, X'.drew _, fun target hrest => step target fun acts => ?_⟩
    subst hg
    obtain ⟨kS', N'⟩ := N.alike X'.warmed.alike
    exact Steps.intBitsToFloatOf (g := { g with stack := rest }) (ig := .invokestatic index) (len := 3) p X'.here acts N' b (X'.notFull (g := { g with stack := rest }) hsize (vars := nativeFrameWords "java/lang/Float" "intBitsToFloat" 1) hframes hlocals) hv hdg hrest
  · have hv1 : (b.toUInt32 &&& 0x7fffffff > 0x7f800000 && b.toUInt32 &&& 0x00400000 == 0) = true := by simpa using hv
    refine ⟨if (e.choices (.named "NaN.copy") ((T.setVm vm').drawn.count (.named "NaN.copy"))) % 2 == 0 then b.toUInt32 else b.toUInt32 ||| 0x00400000, vm', (T.setVm vm').drawn.next (.named "NaN.copy"), ?_, X'.drew _, fun target hrest => step target fun acts => ?_⟩
    · rw [hdr]
      exact Drawn.sameBut.mono (Drawn.next_named s.drawn "NaN.copy") (fun c hc => by
        simp only [List.mem_cons, List.not_mem_nil, or_false] at hc
        subst hc
        simp [lw_cs])
    · subst hg
      obtain ⟨kS', N'⟩ := N.alike X'.warmed.alike
      have hseen : seenByNative methS #[.int b] = #[.int b] := by simp [seenByNative, N'.static, N'.sig, narrow]
      refine Steps.nativeEnds (row := Native.java_lang_Float.bits.rowIntBitsToFloat) (v := some (.float (if (e.choices (.named "NaN.copy") ((T.setVm vm').drawn.count (.named "NaN.copy"))) % 2 == 0 then b.toUInt32 else b.toUInt32 ||| 0x00400000))) (T := fun u => u.setDrawn ((T.setVm vm').drawn.next (.named "NaN.copy"))) (g := { g with stack := rest }) (ig := .invokestatic index) (len := 3) X'.here acts N'.cls N'.meth N'.boot N'.native N'.noCode N'.noLock
        (by rw [N'.className, N'.name, N'.desc]; exact intBitsToFloat_row p) (by rw [N'.className, N'.name]; exact X'.notFull (g := { g with stack := rest }) hsize (vars := nativeFrameWords "java/lang/Float" "intBitsToFloat" 1) hframes hlocals) (fun _ => rfl) rfl (fun _ => X'.here.code) ?_ hdg hrest
      intro Q hq
      rw [hseen] at hq ⊢
      rw [Native.java_lang_Float.bits.intBitsToFloat_on]
      simp only [hv1, if_true, wp_bind', W.choose, W.mark, wp_pure']
      exact hq _ _
theorem zd_i2f (B : Bd p s m args meth c G cc nL own ws ret nm) {index : Nat} {b : Int32} (h1 : Cond.methodLink own index ⟨"java/lang/Float", "intBitsToFloat", "(I)F"⟩ ∈ ws) (h2 : Cond.native ⟨"java/lang/Float", "intBitsToFloat", "(I)F"⟩ ∈ ws) (h3 : Cond.static ⟨"java/lang/Float", "intBitsToFloat", "(I)F"⟩ ∈ ws) (h4 : Cond.initialized "java/lang/Float" ∈ ws) (hR : 1 ≤ R.frames ∧ (rest.map fun v => v.category).sum + 15 ≤ R.locals) (hdg : decode cc pc = .ok (.invokestatic index, 3)) (kk : ∀ (d : Drawn), s.drawn.sameBut d lw_cs → ∀ r : UInt32, Z p l e R (s.setDrawn d) m args below meth c Q G nL (pc + 3) lv (.float r :: rest) Φ sz cells slots) : Z p l e R s m args below meth c Q G nL pc lv (.int b :: rest) Φ sz cells slots := by
  intro H locs ls hl hP hS T hT X
  obtain ⟨r, vm', d', hd', X', st⟩ := vn_i2fD X B.1.1 B.1.2.2.2.1 (B.1.2.2.2.2 _ h1) (B.1.2.2.2.2 _ h2) (B.1.2.2.2.2 _ h3) (B.1.2.2.2.2 _ h4) (b := b) (g := F0 m pc ls (.int b :: rest)) rfl (by rw [B.1.2.2.1]; exact hl.1) rfl (by rw [B.1.2.1]; exact hdg) hR.1 (by show 2 * 0 + _ + _ ≤ _; have hw : nativeFrameWords "java/lang/Float" "intBitsToFloat" 1 = 3 := (by decide); have := hR.2; omega)
  obtain ⟨t, a1, b1⟩ := kk d' hd' r H locs ls hl hP hS ((T.setVm vm').setDrawn d') hT X'
  exact ⟨t, st t a1, b1⟩
end ZDr
theorem z_loopD {p : Program} {l : Launch} {e : Env} {R : Room} {s0 : State} {m : MethodId} {args : Array Value} {below : List Frame} {meth : Method} {c : Code} {Q : State → Prop} {G : EnvG} {nL pc : Nat} {Φ : Hm} {sz cells slots : Nat} {α : Type} (Iv : α → Hm → Prop) (lvf : α → List (Nat × Value)) (ms : α → Nat) (body : ∀ (d : Drawn), s0.drawn.sameBut d lw_cs → ∀ (a : α) (Φi : Hm), Iv a Φi → (∀ (d' : Drawn), s0.drawn.sameBut d' lw_cs → ∀ (a' : α) (Φj : Hm), ms a' < ms a → Iv a' Φj → Z p l e R (s0.setDrawn d') m args below meth c Q G nL pc (lvf a') [] Φj sz cells slots) → Z p l e R (s0.setDrawn d) m args below meth c Q G nL pc (lvf a) [] Φi sz cells slots) {d0 : Drawn} (hd0 : s0.drawn.sameBut d0 lw_cs) (a0 : α) (h0 : Iv a0 Φ) : Z p l e R (s0.setDrawn d0) m args below meth c Q G nL pc (lvf a0) [] Φ sz cells slots := by
  have h : ∀ (n : Nat) (d : Drawn), s0.drawn.sameBut d lw_cs → ∀ (a : α) (Φi : Hm), ms a = n → Iv a Φi → Z p l e R (s0.setDrawn d) m args below meth c Q G nL pc (lvf a) [] Φi sz cells slots := by
    intro n
    induction n using Nat.strongRecOn with
    | _ n ih =>
      intro d hd a Φi hn hi
      exact body d hd a Φi hi (fun d' hd' a' Φj h1 h2 => ih (ms a') (by omega) d' hd' a' Φj rfl h2)
  exact h (ms a0) d0 hd0 a0 Φ rfl h0

set_option maxHeartbeats 4000000 in
set_option maxRecDepth 100000 in
theorem r_isKnownE (G : EnvG) (l : Launch) (Φ : Hm) (sz x : Nat) (rd : (Nat → Int32) → Prop) (nw : (Nat → Int32) → Prop) (cr : (Nat → Int64) → Prop) (tp : (Nat → Int32) → Prop) (tt : (Nat → Int64) → Prop) (sI : (Nat → Int32) → Prop) (sT : (Nat → Int32) → Prop) (pt : (Nat → Int32) → Prop) (ql : (Nat → Int32) → Prop) (fl : Nat) (pe : Nat) (le : Nat) (nx : Nat) (il : Nat) (qu : Nat) (kn : Int32) (ec : Int32) (nu : Int32) (va : Int64) (st : Nat) (ep : Int32) (ti : Int32) (ad : Int32) (ob : Int64) (ra : Int32) (rt : Nat) (ex : Int32) (sa : Int64) (us : Int64) (tk : Nat) (th : Int32) (me : Int32) (dr : Int32) (se : Int64) (sn : Int64) (fS : Nat → Int32) (t : Nat) (hx : G.2.2.2 ≤ x) (hI : Im G x (rd, nw, cr, tp, tt, sI, sT, pt, ql, fl, pe, le, nx, il, qu, kn, ec, nu, va, st, ep, ti, ad, ob, ra, rt, ex, sa, us, tk, th, me, dr, se, sn) Φ) (hc0 : Φ (x + 12) = some (ai_ G 4 fS)) (ht : t < 4) (hS : Rw 9 fS) (hnw : ∀ f9 : Nat → Int32, nw f9 → NN f9) : Ct G l yX12_isKnown wsX12_isKnown ({ frames := 0, cells := 0, slots := 0, locals := 0 }) 0 0 [.ref x, .int (nI t)] Φ sz (fun v Φ1 sz1 => (v = some (.int 0) ∨ (v = some (.int 1) ∧ ∃ n9 : Nat, 1 ≤ n9 ∧ n9 ≤ 9 ∧ fS t = nI n9)) ∧ sz1 = sz ∧ (Im G x (rd, nw, cr, tp, tt, sI, sT, pt, ql, fl, pe, le, nx, il, qu, kn, ec, nu, va, st, ep, ti, ad, ob, ra, rt, ex, sa, us, tk, th, me, dr, se, sn) Φ1) ∧ Fr x (fun j9 => False) Φ Φ1) := by
  refine Ct.of (cc := cX12_isKnown) (maxL := 2) (ret := (some .boolean)) (by decide) rfl (Nat.le_of_ble_eq_true rfl) ?_
  intro p9 e9 s9 m9 w9 t9 k9 B
  show Z p9 l e9 _ s9 m9 _ w9 t9 k9 _ G 2 0 [(0, .ref x), (1, .int (nI t))] [] Φ sz 0 0
  refine z_aload_n B dX12_isKnown_0 rfl 0 rfl ?_
  obtain ⟨n_1, v_1, n_2, h_1, b_13, b_1, b_2, b_3, b_4, b_5, b_6, b_7, b_8, b_9, b_10, b_11, b_12⟩ := im0 hI
  replace b_1 : 1 ≤ rt := b_1
  replace b_2 : rt ≤ 1024 := b_2
  replace b_3 : fl ≤ 12 := b_3
  replace b_4 : pe ≤ 24 := b_4
  replace b_5 : le ≤ 700 := b_5
  replace b_6 : qu ≤ 12 := b_6
  replace b_7 : n_1 ≤ 8 := b_7
  replace b_8 : n_2 ≤ 24 := b_8
  replace b_9 : tk ≤ 24 := b_9
  replace b_10 : il ≤ 700 := b_10
  replace b_11 : nx ≤ 701 := b_11
  replace b_12 : st ≤ 701 := b_12
  have h_2 : Φ x = some (o_ 14 [.int th, .ref (x + 1), .ref (x + 2), .int ti, .int ra, .int (nI rt), .int ex, .int ad, .ref (x + 3), .ref (x + 4), .int me, .long se, .ref (x + 5), .int (nI fl), .int dr, .long ob, .long sa, .long sn, .long us, .ref (x + 6), .ref (x + 7), .int (nI pe), .ref (x + 8), .int (nI le), .ref (x + 9), .ref (x + 10), .int (nI qu), .ref (x + 11), .ref (x + 12), .ref (x + 13), .ref (x + 14), .ref (x + 15), .ref (x + 16), .int (nI n_1), .long v_1, .ref (x + 17), .ref (x + 18), .ref (x + 19), .ref (x + 20), .ref (x + 21), .ref (x + 22), .int (nI n_2), .ref (x + 23), .ref (x + 24), .int (nI tk), .ref (x + 25), .int (nI il), .int (nI nx), .int ec, .int ep, .int kn, .int (nI st), .int nu, .long va]) := h_1
  refine z_get (ref := "FlowExporterModel") (C := RX12) (T := TX12) (N := 54) (ci := 14) (v := .ref (x + 12)) B hu_X12_isKnown_X12 rfl 28 (Nat.le_of_ble_eq_true rfl) hv_X12_isKnown_48 rfl h_2 rfl dX12_isKnown_1 ?_
  refine z_iload_n B dX12_isKnown_4 rfl 1 rfl ?_
  refine z_iald B hc0 (vp_in_nI (by omega) (by omega)) dX12_isKnown_5 ?_
  obtain ⟨n_3, hk1, hk2⟩ := hS t
  refine z_top (st1 := [.int (nI n_3)]) (congrArg (fun w9 : Int32 => ([.int w9] : List Value)) ((congrArg fS (nI_clamp (by omega))).trans hk2)) ?_
  refine z_if_le (tgt := 34) B dX12_isKnown_6 rfl (fun c_1 => ?_) (fun c_1 => ?_)
  · have e_1 : n_3 ≤ 0 := (nI_leI (a := n_3) (b := 0) (by omega) (by omega)).mp c_1
    refine z_iconst (v := 0) B dX12_isKnown_34 rfl ?_
    exact z_ret_z B dX12_isKnown_35 (by decide) ⟨(Or.inl rfl), rfl, hI, (fun b9 h9 => rfl)⟩
  · have e_2 : ¬ (n_3 ≤ 0) := fun h9 => c_1 ((nI_leI (a := n_3) (b := 0) (by omega) (by omega)).mpr h9)
    refine z_aload_n B dX12_isKnown_9 rfl 0 rfl ?_
    refine z_get (ref := "FlowExporterModel") (C := RX12) (T := TX12) (N := 54) (ci := 14) (v := .int ti) B hu_X12_isKnown_X12 rfl 3 (Nat.le_of_ble_eq_true rfl) hv_X12_isKnown_101 rfl h_2 rfl dX12_isKnown_10 ?_
    refine z_aload_n B dX12_isKnown_13 rfl 0 rfl ?_
    refine z_get (ref := "FlowExporterModel") (C := RX12) (T := TX12) (N := 54) (ci := 14) (v := .ref (x + 14)) B hu_X12_isKnown_X12 rfl 30 (Nat.le_of_ble_eq_true rfl) hv_X12_isKnown_54 rfl h_2 rfl dX12_isKnown_14 ?_
    refine z_iload_n B dX12_isKnown_17 rfl 1 rfl ?_
    obtain ⟨f_1, h_3⟩ := imk (k := 14) hI
    have h_4 : Φ (x + 14) = some (ai_ G 4 f_1) := h_3
    refine z_iald B h_4 (vp_in_nI (by omega) (by omega)) dX12_isKnown_18 ?_
    refine z_fi (fun v_2 => ?_)
    refine z_isub B dX12_isKnown_19 ?_
    refine z_fi (fun v_3 => ?_)
    refine z_aload_n B dX12_isKnown_20 rfl 0 rfl ?_
    refine z_get (ref := "FlowExporterModel") (C := RX12) (T := TX12) (N := 54) (ci := 14) (v := .ref (x + 2)) B hu_X12_isKnown_X12 rfl 2 (Nat.le_of_ble_eq_true rfl) hv_X12_isKnown_17 rfl h_2 rfl dX12_isKnown_21 ?_
    refine z_bipush (v := 6) B dX12_isKnown_24 rfl ?_
    obtain ⟨f_2, h_5, r_2⟩ := imk (k := 2) hI
    replace r_2 : nw f_2 := r_2
    have r_3 : NN f_2 := hnw f_2 r_2
    have h_6 : Φ (x + 2) = some (ai_ G 307 f_2) := h_5
    refine z_iald B h_6 (vin rfl) dX12_isKnown_26 ?_
    refine z_fi (fun v_4 => ?_)
    refine z_icmp_gt (tgt := 34) B dX12_isKnown_27 rfl (fun c_2 => ?_) (fun c_2 => ?_)
    · refine z_iconst (v := 0) B dX12_isKnown_34 rfl ?_
      exact z_ret_z B dX12_isKnown_35 (by decide) ⟨(Or.inl rfl), rfl, hI, (fun b9 h9 => rfl)⟩
    · refine z_iconst (v := 1) B dX12_isKnown_30 rfl ?_
      refine z_goto (tgt := 35) B dX12_isKnown_31 rfl ?_
      exact z_ret_z B dX12_isKnown_35 (by decide) ⟨(Or.inr ⟨rfl, n_3, by omega, hk1, hk2⟩), rfl, hI, (fun b9 h9 => rfl)⟩

theorem hu_X12_decode_X12 : ∀ w ∈ u_ws RX12 TX12 54, w ∈ wsX12_decode := fun _ h => List.mem_cons_of_mem _ (List.mem_append_left _ (List.mem_append_right _ (h)))

theorem hv_X12_decode_17 : Cond.fieldLink RX12 17 "FlowExporterModel" (TX12 2).2.1 (TX12 2).2.2.1 ∈ wsX12_decode := List.mem_cons_of_mem _ (List.mem_append_left _ (List.mem_append_left _ (List.mem_append_left _ (List.mem_of_getElem? (i := 1) rfl))))

theorem fq_1284 {x : Nat} : ∀ j9 : Nat, x = x + j9 → (j9 = 18) → False := by
  intro j9 h1 h2
  omega

theorem hv_X12_decode_48 : Cond.fieldLink RX12 48 "FlowExporterModel" (TX12 28).2.1 (TX12 28).2.2.1 ∈ wsX12_decode := List.mem_cons_of_mem _ (List.mem_append_left _ (List.mem_append_left _ (List.mem_append_left _ (List.mem_of_getElem? (i := 2) rfl))))

theorem fq_1286 {x : Nat} : ∀ j9 : Nat, x + 12 = x + j9 → (j9 = 18) → False := by
  intro j9 h1 h2
  omega

theorem hv_X12_decode_45 : Cond.fieldLink RX12 45 "FlowExporterModel" (TX12 27).2.1 (TX12 27).2.2.1 ∈ wsX12_decode := List.mem_cons_of_mem _ (List.mem_append_left _ (List.mem_append_left _ (List.mem_append_left _ (List.mem_of_getElem? (i := 8) rfl))))

theorem fq_1288 : ∀ j9 : Nat, (j9 = 18) → (j9 = 0 ∨ j9 = 11 ∨ j9 = 18 ∨ j9 = 19 ∨ j9 = 20 ∨ j9 = 21 ∨ j9 = 22) := by
  intro j9 h
  omega

theorem fq_1289 : ∀ j9 : Nat, (j9 = 0 ∨ j9 = 11 ∨ j9 = 19 ∨ j9 = 20 ∨ j9 = 21 ∨ j9 = 22) → (j9 = 0 ∨ j9 = 11 ∨ j9 = 18 ∨ j9 = 19 ∨ j9 = 20 ∨ j9 = 21 ∨ j9 = 22) := by
  intro j9 h
  omega

theorem hv_X12_decode_51 : Cond.fieldLink RX12 51 "FlowExporterModel" (TX12 29).2.1 (TX12 29).2.2.1 ∈ wsX12_decode := List.mem_cons_of_mem _ (List.mem_append_left _ (List.mem_append_left _ (List.mem_append_left _ (List.mem_of_getElem? (i := 3) rfl))))

theorem fq_1291 {x : Nat} : ∀ j9 : Nat, x + 13 = x + j9 → (j9 = 18) → False := by
  intro j9 h1 h2
  omega

theorem hv_X12_decode_66 : Cond.fieldLink RX12 66 "FlowExporterModel" (TX12 36).2.1 (TX12 36).2.2.1 ∈ wsX12_decode := List.mem_cons_of_mem _ (List.mem_append_left _ (List.mem_append_left _ (List.mem_append_left _ (List.mem_of_getElem? (i := 0) rfl))))

set_option maxHeartbeats 4000000 in
set_option maxRecDepth 100000 in
theorem r_decode (G : EnvG) (l : Launch) (Φ : Hm) (sz x : Nat) (rd : (Nat → Int32) → Prop) (nw : (Nat → Int32) → Prop) (cr : (Nat → Int64) → Prop) (tp : (Nat → Int32) → Prop) (tt : (Nat → Int64) → Prop) (sI : (Nat → Int32) → Prop) (sT : (Nat → Int32) → Prop) (pt : (Nat → Int32) → Prop) (ql : (Nat → Int32) → Prop) (fl : Nat) (pe : Nat) (le : Nat) (nx : Nat) (il : Nat) (qu : Nat) (kn : Int32) (ec : Int32) (nu : Int32) (va : Int64) (st : Nat) (ep : Int32) (ti : Int32) (ad : Int32) (ob : Int64) (ra : Int32) (rt : Nat) (ex : Int32) (sa : Int64) (us : Int64) (tk : Nat) (th : Int32) (me : Int32) (dr : Int32) (se : Int64) (sn : Int64) (fS : Nat → Int32) (fF : Nat → Int32) (n : Nat) (t : Nat) (q : Nat) (hx : G.2.2.2 ≤ x) (hI : Im G x (rd, nw, cr, tp, tt, sI, sT, pt, ql, fl, pe, le, nx, il, qu, kn, ec, nu, va, st, ep, ti, ad, ob, ra, rt, ex, sa, us, tk, th, me, dr, se, sn) Φ) (hc0 : Φ (x + 12) = some (ai_ G 4 fS)) (hc1 : Φ (x + 13) = some (ai_ G 36 fF)) (ht : t < 4) (hF : Rw 8 fF) (hn : fS t = nI n) (hn9 : n ≤ 9) (hb : q + lsm fF (9 * t) n ≤ 700) (hnw : ∀ f9 : Nat → Int32, nw f9 → NN f9) : CtD G l yX12_decode wsX12_decode ({ frames := 3, cells := 0, slots := 0, locals := 84 }) 0 0 [.ref x, .int (nI t), .int (nI q)] Φ sz (fun v Φ1 sz1 => (v = none) ∧ sz1 = sz ∧ (Im G x (rd, nw, cr, tp, tt, sI, sT, pt, ql, fl, pe, le, nx, il, qu, kn, ec, nu, va, st, ep, ti, ad, ob, ra, rt, ex, sa, us, tk, th, me, dr, se, sn) Φ1) ∧ Fr x (fun j9 => j9 = 0 ∨ j9 = 11 ∨ j9 = 18 ∨ j9 = 19 ∨ j9 = 20 ∨ j9 = 21 ∨ j9 = 22) Φ Φ1) := by
  refine CtD.of (cc := cX12_decode) (maxL := 7) (ret := none) (by decide) rfl (Nat.le_of_ble_eq_true rfl) ?_
  intro p9 e9 s9 m9 w9 t9 k9 d9 hd9 B
  show Z p9 l e9 _ (s9.setDrawn d9) m9 _ w9 t9 k9 _ G 7 0 [(0, .ref x), (1, .int (nI t)), (2, .int (nI q))] [] Φ sz 0 0
  refine z_iconst (v := 0) B dX12_decode_0 rfl ?_
  refine z_istore_n (lv' := [(3, .int 0), (0, .ref x), (1, .int (nI t)), (2, .int (nI q))]) B dX12_decode_1 rfl (Nat.le_of_ble_eq_true rfl) rfl ?_
  refine z_lv [0, 1, 2, 3] rfl ?_
  refine z_loopD (s0 := s9) (α := Nat) (fun (a9 : Nat) Φi => Im G x (rd, nw, cr, tp, tt, sI, sT, pt, ql, fl, pe, le, nx, il, qu, kn, ec, nu, va, st, ep, ti, ad, ob, ra, rt, ex, sa, us, tk, th, me, dr, se, sn) Φi ∧ Fr x (fun j9 => j9 = 18) Φ Φi ∧ (a9 ≤ 9) ∧ True) (fun a9 => [(3, .int (nI a9)), (0, .ref x), (1, .int (nI t)), (2, .int (nI q))]) (fun a9 => 9 - a9) ?_ hd9 (0) ⟨hI, fun _ _ => rfl, (show 0 ≤ 9 by omega), trivial⟩
  intro d_1 hdr1
  have B : Bd p9 (s9.setDrawn d_1) m9 _ t9 k9 G _ _ _ _ _ _ := Bd.drawn B d_1
  rintro i_1 Φl1 ⟨hI1, hF1, b_1, -⟩ ih1
  replace hI1 : Im G x (rd, nw, cr, tp, tt, sI, sT, pt, ql, fl, pe, le, nx, il, qu, kn, ec, nu, va, st, ep, ti, ad, ob, ra, rt, ex, sa, us, tk, th, me, dr, se, sn) Φl1 := hI1
  replace b_1 : i_1 ≤ 9 := b_1
  show Z p9 l e9 _ (s9.setDrawn d_1) m9 _ w9 t9 k9 _ G 7 2 [(3, .int (nI i_1)), (0, .ref x), (1, .int (nI t)), (2, .int (nI q))] [] Φl1 _ _ _
  refine z_iload_n B dX12_decode_2 rfl 0 rfl ?_
  refine z_bipush (v := 9) B dX12_decode_3 rfl ?_
  refine z_icmp_ge (tgt := 21) B dX12_decode_5 rfl (fun c_1 => ?_) (fun c_1 => ?_)
  · have e_1 : 9 ≤ i_1 := (nI_leI (a := 9) (b := i_1) (by omega) (by omega)).mp c_1
    refine z_aload_n B dX12_decode_21 rfl 1 rfl ?_
    obtain ⟨n_1, v_1, n_2, h_1, b_14, b_2, b_3, b_4, b_5, b_6, b_7, b_8, b_9, b_10, b_11, b_12, b_13⟩ := im0 hI1
    replace b_2 : 1 ≤ rt := b_2
    replace b_3 : rt ≤ 1024 := b_3
    replace b_4 : fl ≤ 12 := b_4
    replace b_5 : pe ≤ 24 := b_5
    replace b_6 : le ≤ 700 := b_6
    replace b_7 : qu ≤ 12 := b_7
    replace b_8 : n_1 ≤ 8 := b_8
    replace b_9 : n_2 ≤ 24 := b_9
    replace b_10 : tk ≤ 24 := b_10
    replace b_11 : il ≤ 700 := b_11
    replace b_12 : nx ≤ 701 := b_12
    replace b_13 : st ≤ 701 := b_13
    have h_2 : Φl1 x = some (o_ 14 [.int th, .ref (x + 1), .ref (x + 2), .int ti, .int ra, .int (nI rt), .int ex, .int ad, .ref (x + 3), .ref (x + 4), .int me, .long se, .ref (x + 5), .int (nI fl), .int dr, .long ob, .long sa, .long sn, .long us, .ref (x + 6), .ref (x + 7), .int (nI pe), .ref (x + 8), .int (nI le), .ref (x + 9), .ref (x + 10), .int (nI qu), .ref (x + 11), .ref (x + 12), .ref (x + 13), .ref (x + 14), .ref (x + 15), .ref (x + 16), .int (nI n_1), .long v_1, .ref (x + 17), .ref (x + 18), .ref (x + 19), .ref (x + 20), .ref (x + 21), .ref (x + 22), .int (nI n_2), .ref (x + 23), .ref (x + 24), .int (nI tk), .ref (x + 25), .int (nI il), .int (nI nx), .int ec, .int ep, .int kn, .int (nI st), .int nu, .long va]) := h_1
    refine z_get (ref := "FlowExporterModel") (C := RX12) (T := TX12) (N := 54) (ci := 14) (v := .ref (x + 2)) B hu_X12_decode_X12 rfl 2 (Nat.le_of_ble_eq_true rfl) hv_X12_decode_17 rfl h_2 rfl dX12_decode_22 ?_
    refine z_bipush (v := 8) B dX12_decode_25 rfl ?_
    obtain ⟨f_1, h_3, r_1⟩ := imk (k := 2) hI1
    replace r_1 : nw f_1 := r_1
    have r_2 : NN f_1 := hnw f_1 r_1
    have h_4 : Φl1 (x + 2) = some (ai_ G 307 f_1) := h_3
    refine z_iald B h_4 (vin rfl) dX12_decode_27 ?_
    obtain ⟨n_3, b_15, e_2⟩ := r_2.2.2.2.2.2.2.1
    refine z_top (st1 := [.int (nI n_3)]) (congrArg (fun w9 : Int32 => ([.int w9] : List Value)) (e_2)) ?_
    refine z_istore_n (lv' := [(3, .int (nI n_3)), (0, .ref x), (1, .int (nI t)), (2, .int (nI q))]) B dX12_decode_28 rfl (Nat.le_of_ble_eq_true rfl) rfl ?_
    refine z_iload_n B dX12_decode_29 rfl 3 rfl ?_
    refine z_istore (lv' := [(4, .int (nI q)), (3, .int (nI n_3)), (0, .ref x), (1, .int (nI t)), (2, .int (nI q))]) B dX12_decode_30 (Nat.le_of_ble_eq_true rfl) rfl ?_
    refine z_iconst (v := 0) B dX12_decode_32 rfl ?_
    refine z_istore (lv' := [(5, .int 0), (4, .int (nI q)), (3, .int (nI n_3)), (0, .ref x), (1, .int (nI t)), (2, .int (nI q))]) B dX12_decode_33 (Nat.le_of_ble_eq_true rfl) rfl ?_
    refine z_lv [0, 1, 2, 3, 4, 5] rfl ?_
    refine z_loopD (s0 := s9) (α := Nat × Nat × Nat) (fun (a9 : Nat × Nat × Nat) Φi => Im G x (rd, nw, cr, tp, tt, sI, sT, pt, ql, fl, pe, le, nx, il, qu, kn, ec, nu, va, st, ep, ti, ad, ob, ra, rt, ex, sa, us, tk, th, me, dr, se, sn) Φi ∧ Fr x (fun j9 => j9 = 18) Φl1 Φi ∧ (a9.1 ≤ n) ∧ (a9.2.2 < 2 ^ 31) ∧ (a9.2.1 = q + lsm fF (9 * t) a9.1) ∧ True) (fun a9 => [(5, .int (nI (a9.1))), (4, .int (nI (a9.2.1))), (3, .int (nI (a9.2.2))), (0, .ref x), (1, .int (nI t)), (2, .int (nI q))]) (fun a9 => n - a9.1) ?_ hdr1 (0, q, n_3) ⟨hI1, fun _ _ => rfl, (show 0 ≤ n by omega), (show n_3 < 2 ^ 31 by omega), (show q = q + lsm fF (9 * t) 0 from rfl), trivial⟩
    intro d_2 hdr3
    have B : Bd p9 (s9.setDrawn d_2) m9 _ t9 k9 G _ _ _ _ _ _ := Bd.drawn B d_2
    rintro ⟨i_2, i_3, i_4⟩ Φl2 ⟨hI2, hF2, b_16, b_17, b_18, -⟩ ih2
    replace hI2 : Im G x (rd, nw, cr, tp, tt, sI, sT, pt, ql, fl, pe, le, nx, il, qu, kn, ec, nu, va, st, ep, ti, ad, ob, ra, rt, ex, sa, us, tk, th, me, dr, se, sn) Φl2 := hI2
    replace b_16 : i_2 ≤ n := b_16
    replace b_17 : i_4 < 2 ^ 31 := b_17
    replace b_18 : i_3 = q + lsm fF (9 * t) i_2 := b_18
    show Z p9 l e9 _ (s9.setDrawn d_2) m9 _ w9 t9 k9 _ G 7 35 [(5, .int (nI i_2)), (4, .int (nI i_3)), (3, .int (nI i_4)), (0, .ref x), (1, .int (nI t)), (2, .int (nI q))] [] Φl2 _ _ _
    refine z_iload B dX12_decode_35 0 rfl ?_
    refine z_aload_n B dX12_decode_37 rfl 3 rfl ?_
    have h_5 : Φl2 x = some (o_ 14 [.int th, .ref (x + 1), .ref (x + 2), .int ti, .int ra, .int (nI rt), .int ex, .int ad, .ref (x + 3), .ref (x + 4), .int me, .long se, .ref (x + 5), .int (nI fl), .int dr, .long ob, .long sa, .long sn, .long us, .ref (x + 6), .ref (x + 7), .int (nI pe), .ref (x + 8), .int (nI le), .ref (x + 9), .ref (x + 10), .int (nI qu), .ref (x + 11), .ref (x + 12), .ref (x + 13), .ref (x + 14), .ref (x + 15), .ref (x + 16), .int (nI n_1), .long v_1, .ref (x + 17), .ref (x + 18), .ref (x + 19), .ref (x + 20), .ref (x + 21), .ref (x + 22), .int (nI n_2), .ref (x + 23), .ref (x + 24), .int (nI tk), .ref (x + 25), .int (nI il), .int (nI nx), .int ec, .int ep, .int kn, .int (nI st), .int nu, .long va]) := ((hF2 x fq_1284).trans h_2)
    refine z_get (ref := "FlowExporterModel") (C := RX12) (T := TX12) (N := 54) (ci := 14) (v := .ref (x + 12)) B hu_X12_decode_X12 rfl 28 (Nat.le_of_ble_eq_true rfl) hv_X12_decode_48 rfl h_5 rfl dX12_decode_38 ?_
    refine z_iload_n B dX12_decode_41 rfl 4 rfl ?_
    have h_6 : Φl2 (x + 12) = some (ai_ G 4 fS) := ((hF2 (x + 12) fq_1286).trans ((hF1 (x + 12) fq_1286).trans hc0))
    refine z_iald B h_6 (vp_in_nI (by omega) (by omega)) dX12_decode_42 ?_
    refine z_top (st1 := [.int (nI n), .int (nI i_2)]) (congrArg (fun w9 : Int32 => ([.int w9, .int (nI i_2)] : List Value)) ((congrArg fS (nI_clamp (by omega))).trans hn)) ?_
    refine z_icmp_ge (tgt := 117) B dX12_decode_43 rfl (fun c_2 => ?_) (fun c_2 => ?_)
    · have e_3 : n ≤ i_2 := (nI_leI (a := n) (b := i_2) (by omega) (by omega)).mp c_2
      refine z_aload_n B dX12_decode_117 rfl 3 rfl ?_
      refine z_get (ref := "FlowExporterModel") (C := RX12) (T := TX12) (N := 54) (ci := 14) (v := .ref (x + 11)) B hu_X12_decode_X12 rfl 27 (Nat.le_of_ble_eq_true rfl) hv_X12_decode_45 rfl h_5 rfl dX12_decode_118 ?_
      refine z_bipush (v := 7) B dX12_decode_121 rfl ?_
      refine z_dup2_11 B dX12_decode_123 rfl rfl ?_
      obtain ⟨f_2, h_7⟩ := imk (k := 11) hI2
      have h_8 : Φl2 (x + 11) = some (al_ G 9 f_2) := h_7
      refine z_lald B h_8 (vin rfl) dX12_decode_124 ?_
      refine z_fl (fun v_2 => ?_)
      refine z_lconst (v := 1) B dX12_decode_125 rfl ?_
      refine z_ladd B dX12_decode_126 ?_
      refine z_fl (fun v_3 => ?_)
      refine z_last B h_8 (Nat.le_trans hx (Nat.le_add_right x 11)) (vin rfl) dX12_decode_127 (fun Φ1 hΦ1 => ?_)
      have h_9 : Φ1 (x + 11) = some (al_ G 9 (vp_updL f_2 (7 : Int32).toNatClampNeg v_3)) := fset_at hΦ1
      have hI3 : Im G x (rd, nw, cr, tp, tt, sI, sT, pt, ql, fl, pe, le, nx, il, qu, kn, ec, nu, va, st, ep, ti, ad, ob, ra, rt, ex, sa, us, tk, th, me, dr, se, sn) Φ1 := Im.put (k := 11) hI2 hΦ1 ⟨_, rfl⟩
      refine z_aload_n B dX12_decode_128 rfl 3 rfl ?_
      refine z_iload_n B dX12_decode_129 rfl 2 rfl ?_
      have h_10 : Φ1 x = some (o_ 14 [.int th, .ref (x + 1), .ref (x + 2), .int ti, .int ra, .int (nI rt), .int ex, .int ad, .ref (x + 3), .ref (x + 4), .int me, .long se, .ref (x + 5), .int (nI fl), .int dr, .long ob, .long sa, .long sn, .long us, .ref (x + 6), .ref (x + 7), .int (nI pe), .ref (x + 8), .int (nI le), .ref (x + 9), .ref (x + 10), .int (nI qu), .ref (x + 11), .ref (x + 12), .ref (x + 13), .ref (x + 14), .ref (x + 15), .ref (x + 16), .int (nI n_1), .long v_1, .ref (x + 17), .ref (x + 18), .ref (x + 19), .ref (x + 20), .ref (x + 21), .ref (x + 22), .int (nI n_2), .ref (x + 23), .ref (x + 24), .int (nI tk), .ref (x + 25), .int (nI il), .int (nI nx), .int ec, .int ep, .int kn, .int (nI st), .int nu, .long va]) := ((fset_fr hΦ1 (ne_off (x := x) (i := 0) (j := 11) rfl)).trans h_5)
      refine z_callV (As := [.int (nI i_4)]) (rest := []) B (r_addRecord G l Φ1 sz x rd nw cr tp tt sI sT pt ql fl pe le nx il qu kn ec nu va st ep ti ad ob ra rt ex sa us tk th me dr se sn i_4 hx hI3 (show i_4 < 2 ^ 31 by omega) hnw) (cwV 1 B.1.2.2.2.2 gX12_decode_X12_addRecord rfl rfl rfl (by decide +kernel) ⟨Nat.le_of_ble_eq_true rfl, Nat.le_of_ble_eq_true rfl⟩) h_10 rfl rfl rfl rfl (Nat.le_of_ble_eq_true rfl) dX12_decode_130 ⟨Nat.le_of_ble_eq_true rfl, Nat.le_of_ble_eq_true rfl⟩ (fun r_4 Φ2 sz1 st1 hp1 hs1 => ?_)
      obtain ⟨rfl, hq1, hI4, hF3⟩ := hp1
      subst sz1
      replace hs1 : st1 = [] := hs1
      subst st1
      replace hI4 : Im G x (rd, nw, cr, tp, tt, sI, sT, pt, ql, fl, pe, le, nx, il, qu, kn, ec, nu, va, st, ep, ti, ad, ob, ra, rt, ex, sa, us, tk, th, me, dr, se, sn) Φ2 := hI4
      exact zd_end hdr3 (z_ret_v B dX12_decode_133 ⟨rfl, rfl, hI4, (fun b9 h9 => ((hF3 b9 (fun j9 h8 h7 => h9 j9 h8 (fq_1289 j9 h7))).trans ((fset_fr hΦ1 (fun h8 => h9 (11) h8 (show 11 = 0 ∨ 11 = 11 ∨ 11 = 18 ∨ 11 = 19 ∨ 11 = 20 ∨ 11 = 21 ∨ 11 = 22 by decide))).trans ((hF2 b9 (fun j9 h8 h7 => h9 j9 h8 (fq_1288 j9 h7))).trans ((hF1 b9 (fun j9 h8 h7 => h9 j9 h8 (fq_1288 j9 h7))).trans rfl)))))⟩)
    · have e_4 : ¬ (n ≤ i_2) := fun h9 => c_2 ((nI_leI (a := n) (b := i_2) (by omega) (by omega)).mpr h9)
      refine z_aload_n B dX12_decode_46 rfl 3 rfl ?_
      refine z_get (ref := "FlowExporterModel") (C := RX12) (T := TX12) (N := 54) (ci := 14) (v := .ref (x + 13)) B hu_X12_decode_X12 rfl 29 (Nat.le_of_ble_eq_true rfl) hv_X12_decode_51 rfl h_5 rfl dX12_decode_47 ?_
      refine z_bipush (v := 9) B dX12_decode_50 rfl ?_
      refine z_iload_n B dX12_decode_52 rfl 4 rfl ?_
      refine z_imul B dX12_decode_53 ?_
      refine z_top (st1 := [.int (nI (9 * t)), .ref (x + 13)]) (congrArg (fun w9 : Int32 => ([.int w9, .ref (x + 13)] : List Value)) (nI_mul 9 t)) ?_
      refine z_iload B dX12_decode_54 0 rfl ?_
      refine z_iadd B dX12_decode_56 ?_
      refine z_top (st1 := [.int (nI (9 * t + i_2)), .ref (x + 13)]) (congrArg (fun w9 : Int32 => ([.int w9, .ref (x + 13)] : List Value)) (nI_add (9 * t) i_2)) ?_
      have h_11 : Φl2 (x + 13) = some (ai_ G 36 fF) := ((hF2 (x + 13) fq_1291).trans ((hF1 (x + 13) fq_1291).trans hc1))
      refine z_iald B h_11 (vp_in_nI (by omega) (by omega)) dX12_decode_57 ?_
      obtain ⟨n_4, b_19, e_5⟩ := hF (9 * t + i_2)
      refine z_top (st1 := [.int (nI n_4)]) (congrArg (fun w9 : Int32 => ([.int w9] : List Value)) ((congrArg fF (nI_clamp (by omega))).trans e_5)) ?_
      have e_6 := lsm_s (f := fF) (b := 9 * t) (q := i_2) (n := n_4) e_5 (by omega)
      have b_20 := lsm_mono (f := fF) (b := 9 * t) (show i_2 + 1 ≤ n by omega)
      refine z_istore (lv' := [(6, .int (nI n_4)), (5, .int (nI i_2)), (4, .int (nI i_3)), (3, .int (nI i_4)), (0, .ref x), (1, .int (nI t)), (2, .int (nI q))]) B dX12_decode_58 (Nat.le_of_ble_eq_true rfl) rfl ?_
      refine z_aload_n B dX12_decode_60 rfl 4 rfl ?_
      refine z_get (ref := "FlowExporterModel") (C := RX12) (T := TX12) (N := 54) (ci := 14) (v := .ref (x + 18)) B hu_X12_decode_X12 rfl 36 (Nat.le_of_ble_eq_true rfl) hv_X12_decode_66 rfl h_5 rfl dX12_decode_61 ?_
      refine z_iload B dX12_decode_64 0 rfl ?_
      refine z_aload_n B dX12_decode_66 rfl 4 rfl ?_
      refine z_iload B dX12_decode_67 2 rfl ?_
      refine z_iload B dX12_decode_69 0 rfl ?_
      refine z_callS (As := [.int (nI n_4)]) (rest := [.int (nI i_3), .ref x, .int (nI n_4), .ref (x + 18)]) B (r_lengthOf G l Φl2 sz x rd nw cr tp tt sI sT pt ql fl pe le nx il qu kn ec nu va st ep ti ad ob ra rt ex sa us tk th me dr se sn n_4 hx hI2 (show n_4 < 2 ^ 31 by omega) hnw) (va_cwS 1 B.1.2.2.2.2 gX12_decode_X12_lengthOf rfl rfl rfl (by decide +kernel) ⟨Nat.le_of_ble_eq_true rfl, Nat.le_of_ble_eq_true rfl⟩) rfl rfl (Nat.le_of_ble_eq_true rfl) dX12_decode_71 ⟨Nat.le_of_ble_eq_true rfl, Nat.le_of_ble_eq_true rfl⟩ (fun r_5 Φ3 sz2 st2 hp2 hs2 => ?_)
      obtain ⟨rfl, hq2, hI5, hF4⟩ := hp2
      subst sz2
      replace hs2 : st2 = [.int (nI (lnN n_4)), .int (nI i_3), .ref x, .int (nI n_4), .ref (x + 18)] := hs2
      subst st2
      have b_21 := lnN_pos n_4
      have b_22 := lnN_le n_4
      replace hI5 : Im G x (rd, nw, cr, tp, tt, sI, sT, pt, ql, fl, pe, le, nx, il, qu, kn, ec, nu, va, st, ep, ti, ad, ob, ra, rt, ex, sa, us, tk, th, me, dr, se, sn) Φ3 := hI5
      have h_12 : Φ3 x = some (o_ 14 [.int th, .ref (x + 1), .ref (x + 2), .int ti, .int ra, .int (nI rt), .int ex, .int ad, .ref (x + 3), .ref (x + 4), .int me, .long se, .ref (x + 5), .int (nI fl), .int dr, .long ob, .long sa, .long sn, .long us, .ref (x + 6), .ref (x + 7), .int (nI pe), .ref (x + 8), .int (nI le), .ref (x + 9), .ref (x + 10), .int (nI qu), .ref (x + 11), .ref (x + 12), .ref (x + 13), .ref (x + 14), .ref (x + 15), .ref (x + 16), .int (nI n_1), .long v_1, .ref (x + 17), .ref (x + 18), .ref (x + 19), .ref (x + 20), .ref (x + 21), .ref (x + 22), .int (nI n_2), .ref (x + 23), .ref (x + 24), .int (nI tk), .ref (x + 25), .int (nI il), .int (nI nx), .int ec, .int ep, .int kn, .int (nI st), .int nu, .long va]) := ((hF4 x (fun j9 h8 h7 => (show False from h7).elim)).trans h_5)
      refine z_callV (As := [.int (nI i_3), .int (nI (lnN n_4))]) (rest := [.int (nI n_4), .ref (x + 18)]) B (r_get G l Φ3 sz x rd nw cr tp tt sI sT pt ql fl pe le nx il qu kn ec nu va st ep ti ad ob ra rt ex sa us tk th me dr se sn i_3 (lnN n_4) hx hI5 (show (lnN n_4) ≤ 8 by omega) (show i_3 + (lnN n_4) ≤ 700 by omega) hnw) (cwV 2 B.1.2.2.2.2 gX12_decode_X12_get rfl rfl rfl (by decide +kernel) ⟨Nat.le_of_ble_eq_true rfl, Nat.le_of_ble_eq_true rfl⟩) h_12 rfl rfl rfl rfl (Nat.le_of_ble_eq_true rfl) dX12_decode_74 ⟨Nat.le_of_ble_eq_true rfl, Nat.le_of_ble_eq_true rfl⟩ (fun r_6 Φ4 sz3 st3 hp3 hs3 => ?_)
      obtain ⟨⟨v_4, rfl, q_1⟩, hq3, hI6, hF5⟩ := hp3
      subst sz3
      replace hs3 : st3 = [.long v_4, .int (nI n_4), .ref (x + 18)] := hs3
      subst st3
      replace q_1 : np (lnN n_4) v_4 := q_1
      replace hI6 : Im G x (rd, nw, cr, tp, tt, sI, sT, pt, ql, fl, pe, le, nx, il, qu, kn, ec, nu, va, st, ep, ti, ad, ob, ra, rt, ex, sa, us, tk, th, me, dr, se, sn) Φ4 := hI6
      obtain ⟨f_3, h_13, r_7⟩ := imk (k := 18) hI6
      have h_14 : Φ4 (x + 18) = some (al_ G 9 f_3) := h_13
      refine z_last B h_14 (Nat.le_trans hx (Nat.le_add_right x 18)) (vp_in_nI (by omega) (by omega)) dX12_decode_77 (fun Φ5 hΦ2 => ?_)
      have h_15 : Φ5 (x + 18) = some (al_ G 9 (vp_updL f_3 (nI n_4).toNatClampNeg v_4)) := fset_at hΦ2
      have hI7 : Im G x (rd, nw, cr, tp, tt, sI, sT, pt, ql, fl, pe, le, nx, il, qu, kn, ec, nu, va, st, ep, ti, ad, ob, ra, rt, ex, sa, us, tk, th, me, dr, se, sn) Φ5 := Im.put (k := 18) hI6 hΦ2 ⟨_, rfl, rec_up r_7 (fun h9 => np_nn q_1 (by rw [nI_clamp (by omega)] at h9; subst h9; decide))⟩
      refine z_iload B dX12_decode_78 2 rfl ?_
      refine z_iload B dX12_decode_80 0 rfl ?_
      refine z_callS (As := [.int (nI n_4)]) (rest := [.int (nI i_3)]) B (r_lengthOf G l Φ5 sz x rd nw cr tp tt sI sT pt ql fl pe le nx il qu kn ec nu va st ep ti ad ob ra rt ex sa us tk th me dr se sn n_4 hx hI7 (show n_4 < 2 ^ 31 by omega) hnw) (va_cwS 1 B.1.2.2.2.2 gX12_decode_X12_lengthOf rfl rfl rfl (by decide +kernel) ⟨Nat.le_of_ble_eq_true rfl, Nat.le_of_ble_eq_true rfl⟩) rfl rfl (Nat.le_of_ble_eq_true rfl) dX12_decode_82 ⟨Nat.le_of_ble_eq_true rfl, Nat.le_of_ble_eq_true rfl⟩ (fun r_8 Φ6 sz4 st4 hp4 hs4 => ?_)
      obtain ⟨rfl, hq4, hI8, hF6⟩ := hp4
      subst sz4
      replace hs4 : st4 = [.int (nI (lnN n_4)), .int (nI i_3)] := hs4
      subst st4
      have b_23 := lnN_pos n_4
      have b_24 := lnN_le n_4
      replace hI8 : Im G x (rd, nw, cr, tp, tt, sI, sT, pt, ql, fl, pe, le, nx, il, qu, kn, ec, nu, va, st, ep, ti, ad, ob, ra, rt, ex, sa, us, tk, th, me, dr, se, sn) Φ6 := hI8
      refine z_iadd B dX12_decode_85 ?_
      refine z_top (st1 := [.int (nI (i_3 + lnN n_4))]) (congrArg (fun w9 : Int32 => ([.int w9] : List Value)) (nI_add i_3 (lnN n_4))) ?_
      refine z_istore (lv' := [(4, .int (nI (i_3 + lnN n_4))), (6, .int (nI n_4)), (5, .int (nI i_2)), (3, .int (nI i_4)), (0, .ref x), (1, .int (nI t)), (2, .int (nI q))]) B dX12_decode_86 (Nat.le_of_ble_eq_true rfl) rfl ?_
      refine z_iload B dX12_decode_88 1 rfl ?_
      refine z_bipush (v := 8) B dX12_decode_90 rfl ?_
      refine z_icmp_ne (tgt := 111) B dX12_decode_92 rfl (fun c_3 => ?_) (fun c_3 => ?_)
      · have e_7 : ¬ (n_4 = 8) := fun h9 => c_3 ((nI_eq (a := n_4) (b := 8) (by omega) (by omega)).mpr h9)
        refine z_iinc (k := 2) (v := nI (i_2 + 1)) (lv' := [(5, .int (nI (i_2 + 1))), (4, .int (nI (i_3 + lnN n_4))), (6, .int (nI n_4)), (3, .int (nI i_4)), (0, .ref x), (1, .int (nI t)), (2, .int (nI q))]) B dX12_decode_111 rfl (nI_add i_2 1) (Nat.le_of_ble_eq_true rfl) rfl ?_
        refine z_goto (tgt := 35) B dX12_decode_114 rfl ?_
        refine z_lv [0, 1, 3, 4, 5, 6] rfl ?_
        exact ih2 d_2 hdr3 (i_2 + 1, i_3 + lnN n_4, i_4) Φ6 (show n - (i_2 + 1) < n - i_2 by omega) ⟨hI8, (fun b9 h9 => ((hF6 b9 (fun j9 h8 h7 => (show False from h7).elim)).trans ((fset_fr hΦ2 (fun h8 => h9 (18) h8 (show 18 = 18 by decide))).trans ((hF5 b9 (fun j9 h8 h7 => (show False from h7).elim)).trans ((hF4 b9 (fun j9 h8 h7 => (show False from h7).elim)).trans ((hF2 b9 h9).trans rfl)))))), (show (i_2 + 1) ≤ n by omega), (show i_4 < 2 ^ 31 by omega), (show (i_3 + lnN n_4) = q + lsm fF (9 * t) (i_2 + 1) by omega), trivial⟩
      · have e_8 : n_4 = 8 := (nI_eq (a := n_4) (b := 8) (by omega) (by omega)).mp c_3
        refine z_aload_n B dX12_decode_95 rfl 4 rfl ?_
        refine z_aload_n B dX12_decode_96 rfl 4 rfl ?_
        have h_16 : Φ6 x = some (o_ 14 [.int th, .ref (x + 1), .ref (x + 2), .int ti, .int ra, .int (nI rt), .int ex, .int ad, .ref (x + 3), .ref (x + 4), .int me, .long se, .ref (x + 5), .int (nI fl), .int dr, .long ob, .long sa, .long sn, .long us, .ref (x + 6), .ref (x + 7), .int (nI pe), .ref (x + 8), .int (nI le), .ref (x + 9), .ref (x + 10), .int (nI qu), .ref (x + 11), .ref (x + 12), .ref (x + 13), .ref (x + 14), .ref (x + 15), .ref (x + 16), .int (nI n_1), .long v_1, .ref (x + 17), .ref (x + 18), .ref (x + 19), .ref (x + 20), .ref (x + 21), .ref (x + 22), .int (nI n_2), .ref (x + 23), .ref (x + 24), .int (nI tk), .ref (x + 25), .int (nI il), .int (nI nx), .int ec, .int ep, .int kn, .int (nI st), .int nu, .long va]) := ((hF6 x (fun j9 h8 h7 => (show False from h7).elim)).trans ((fset_fr hΦ2 (ne_off (x := x) (i := 0) (j := 18) rfl)).trans ((hF5 x (fun j9 h8 h7 => (show False from h7).elim)).trans h_12)))
        refine z_get (ref := "FlowExporterModel") (C := RX12) (T := TX12) (N := 54) (ci := 14) (v := .ref (x + 18)) B hu_X12_decode_X12 rfl 36 (Nat.le_of_ble_eq_true rfl) hv_X12_decode_66 rfl h_16 rfl dX12_decode_97 ?_
        refine z_iload B dX12_decode_100 1 rfl ?_
        obtain ⟨f_4, h_17, r_9⟩ := imk (k := 18) hI8
        have h_18 : Φ6 (x + 18) = some (al_ G 9 f_4) := h_17
        refine z_lald B h_18 (vp_in_nI (by omega) (by omega)) dX12_decode_102 ?_
        refine z_fl (fun v_5 => ?_)
        refine z_l2i (v := v_5.toInt32) B dX12_decode_103 rfl ?_
        refine z_fi (fun v_6 => ?_)
        refine zd_i2f (b := v_6) B (by decide +kernel) (by decide +kernel) (by decide +kernel) (by decide +kernel) ⟨Nat.le_of_ble_eq_true rfl, Nat.le_of_ble_eq_true rfl⟩ dX12_decode_104 (fun d_3 hdr5 v_7 => ?_)
        have hdr6 := Drawn.sameBut.trans hdr3 hdr5
        have B : Bd p9 (s9.setDrawn d_3) m9 _ t9 k9 G _ _ _ _ _ _ := Bd.drawn B d_3
        show Z p9 l e9 _ (s9.setDrawn d_3) m9 _ w9 t9 k9 _ G _ _ _ _ _ _ _ _
        refine z_callV (As := [.float v_7]) (rest := []) B (r_rateOf G l Φ6 sz x rd nw cr tp tt sI sT pt ql fl pe le nx il qu kn ec nu va st ep ti ad ob ra rt ex sa us tk th me dr se sn v_7 hx hI8 hnw) (cwV 1 B.1.2.2.2.2 gX12_decode_X12_rateOf rfl rfl rfl (by decide +kernel) ⟨Nat.le_of_ble_eq_true rfl, Nat.le_of_ble_eq_true rfl⟩) h_16 rfl rfl rfl rfl (Nat.le_of_ble_eq_true rfl) dX12_decode_107 ⟨Nat.le_of_ble_eq_true rfl, Nat.le_of_ble_eq_true rfl⟩ (fun r_10 Φ7 sz5 st5 hp5 hs5 => ?_)
        obtain ⟨⟨n_5, rfl, b_25⟩, hq5, hI9, hF7⟩ := hp5
        subst sz5
        replace hs5 : st5 = [.int (nI n_5)] := hs5
        subst st5
        replace b_25 : n_5 < 2 ^ 31 := b_25
        replace hI9 : Im G x (rd, nw, cr, tp, tt, sI, sT, pt, ql, fl, pe, le, nx, il, qu, kn, ec, nu, va, st, ep, ti, ad, ob, ra, rt, ex, sa, us, tk, th, me, dr, se, sn) Φ7 := hI9
        refine z_istore_n (lv' := [(3, .int (nI n_5)), (4, .int (nI (i_3 + lnN n_4))), (6, .int (nI n_4)), (5, .int (nI i_2)), (0, .ref x), (1, .int (nI t)), (2, .int (nI q))]) B dX12_decode_110 rfl (Nat.le_of_ble_eq_true rfl) rfl ?_
        refine z_iinc (k := 3) (v := nI (i_2 + 1)) (lv' := [(5, .int (nI (i_2 + 1))), (3, .int (nI n_5)), (4, .int (nI (i_3 + lnN n_4))), (6, .int (nI n_4)), (0, .ref x), (1, .int (nI t)), (2, .int (nI q))]) B dX12_decode_111 rfl (nI_add i_2 1) (Nat.le_of_ble_eq_true rfl) rfl ?_
        refine z_goto (tgt := 35) B dX12_decode_114 rfl ?_
        refine z_lv [0, 2, 1, 4, 5, 6] rfl ?_
        exact ih2 d_3 hdr6 (i_2 + 1, i_3 + lnN n_4, n_5) Φ7 (show n - (i_2 + 1) < n - i_2 by omega) ⟨hI9, (fun b9 h9 => ((hF7 b9 (fun j9 h8 h7 => (show False from h7).elim)).trans ((hF6 b9 (fun j9 h8 h7 => (show False from h7).elim)).trans ((fset_fr hΦ2 (fun h8 => h9 (18) h8 (show 18 = 18 by decide))).trans ((hF5 b9 (fun j9 h8 h7 => (show False from h7).elim)).trans ((hF4 b9 (fun j9 h8 h7 => (show False from h7).elim)).trans ((hF2 b9 h9).trans rfl))))))), (show (i_2 + 1) ≤ n by omega), (show n_5 < 2 ^ 31 by omega), (show (i_3 + lnN n_4) = q + lsm fF (9 * t) (i_2 + 1) by omega), trivial⟩
  · have e_9 : ¬ (9 ≤ i_1) := fun h9 => c_1 ((nI_leI (a := 9) (b := i_1) (by omega) (by omega)).mpr h9)
    refine z_aload_n B dX12_decode_8 rfl 1 rfl ?_
    obtain ⟨n_6, v_8, n_7, h_19, b_38, b_26, b_27, b_28, b_29, b_30, b_31, b_32, b_33, b_34, b_35, b_36, b_37⟩ := im0 hI1
    replace b_26 : 1 ≤ rt := b_26
    replace b_27 : rt ≤ 1024 := b_27
    replace b_28 : fl ≤ 12 := b_28
    replace b_29 : pe ≤ 24 := b_29
    replace b_30 : le ≤ 700 := b_30
    replace b_31 : qu ≤ 12 := b_31
    replace b_32 : n_6 ≤ 8 := b_32
    replace b_33 : n_7 ≤ 24 := b_33
    replace b_34 : tk ≤ 24 := b_34
    replace b_35 : il ≤ 700 := b_35
    replace b_36 : nx ≤ 701 := b_36
    replace b_37 : st ≤ 701 := b_37
    have h_20 : Φl1 x = some (o_ 14 [.int th, .ref (x + 1), .ref (x + 2), .int ti, .int ra, .int (nI rt), .int ex, .int ad, .ref (x + 3), .ref (x + 4), .int me, .long se, .ref (x + 5), .int (nI fl), .int dr, .long ob, .long sa, .long sn, .long us, .ref (x + 6), .ref (x + 7), .int (nI pe), .ref (x + 8), .int (nI le), .ref (x + 9), .ref (x + 10), .int (nI qu), .ref (x + 11), .ref (x + 12), .ref (x + 13), .ref (x + 14), .ref (x + 15), .ref (x + 16), .int (nI n_6), .long v_8, .ref (x + 17), .ref (x + 18), .ref (x + 19), .ref (x + 20), .ref (x + 21), .ref (x + 22), .int (nI n_7), .ref (x + 23), .ref (x + 24), .int (nI tk), .ref (x + 25), .int (nI il), .int (nI nx), .int ec, .int ep, .int kn, .int (nI st), .int nu, .long va]) := h_19
    refine z_get (ref := "FlowExporterModel") (C := RX12) (T := TX12) (N := 54) (ci := 14) (v := .ref (x + 18)) B hu_X12_decode_X12 rfl 36 (Nat.le_of_ble_eq_true rfl) hv_X12_decode_66 rfl h_20 rfl dX12_decode_9 ?_
    refine z_iload_n B dX12_decode_12 rfl 0 rfl ?_
    refine z_lconst (v := 0) B dX12_decode_13 rfl ?_
    obtain ⟨f_5, h_21, r_11⟩ := imk (k := 18) hI1
    have h_22 : Φl1 (x + 18) = some (al_ G 9 f_5) := h_21
    refine z_last B h_22 (Nat.le_trans hx (Nat.le_add_right x 18)) (vp_in_nI (by omega) (by omega)) dX12_decode_14 (fun Φ8 hΦ3 => ?_)
    have h_23 : Φ8 (x + 18) = some (al_ G 9 (vp_updL f_5 (nI i_1).toNatClampNeg 0)) := fset_at hΦ3
    have hI10 : Im G x (rd, nw, cr, tp, tt, sI, sT, pt, ql, fl, pe, le, nx, il, qu, kn, ec, nu, va, st, ep, ti, ad, ob, ra, rt, ex, sa, us, tk, th, me, dr, se, sn) Φ8 := Im.put (k := 18) hI1 hΦ3 ⟨_, rfl, rec_up r_11 (fun _ => by decide)⟩
    refine z_iinc (k := 0) (v := nI (i_1 + 1)) (lv' := [(3, .int (nI (i_1 + 1))), (0, .ref x), (1, .int (nI t)), (2, .int (nI q))]) B dX12_decode_15 rfl (nI_add i_1 1) (Nat.le_of_ble_eq_true rfl) rfl ?_
    refine z_goto (tgt := 2) B dX12_decode_18 rfl ?_
    refine z_lv [0, 1, 2, 3] rfl ?_
    exact ih1 d_1 hdr1 (i_1 + 1) Φ8 (show 9 - (i_1 + 1) < 9 - i_1 by omega) ⟨hI10, (fun b9 h9 => ((fset_fr hΦ3 (fun h8 => h9 (18) h8 (show 18 = 18 by decide))).trans ((hF1 b9 h9).trans rfl))), (show (i_1 + 1) ≤ 9 by omega), trivial⟩

theorem hu_X12_readData_X12 : ∀ w ∈ u_ws RX12 TX12 54, w ∈ wsX12_readData := fun _ h => List.mem_cons_of_mem _ (List.mem_append_left _ (List.mem_append_right _ (h)))

theorem hv_X12_readData_45 : Cond.fieldLink RX12 45 "FlowExporterModel" (TX12 27).2.1 (TX12 27).2.2.1 ∈ wsX12_readData := List.mem_cons_of_mem _ (List.mem_append_left _ (List.mem_append_left _ (List.mem_append_left _ (List.mem_of_getElem? (i := 0) rfl))))

theorem hv_X12_readData_48 : Cond.fieldLink RX12 48 "FlowExporterModel" (TX12 28).2.1 (TX12 28).2.2.1 ∈ wsX12_readData := List.mem_cons_of_mem _ (List.mem_append_left _ (List.mem_append_left _ (List.mem_append_left _ (List.mem_of_getElem? (i := 1) rfl))))

theorem fq_1296 {x : Nat} : ∀ j9 : Nat, x + 12 = x + j9 → (j9 = 0 ∨ j9 = 11 ∨ j9 = 18 ∨ j9 = 19 ∨ j9 = 20 ∨ j9 = 21 ∨ j9 = 22) → False := by
  intro j9 h1 h2
  omega

theorem fq_1297 {x : Nat} : ∀ j9 : Nat, x + 13 = x + j9 → (j9 = 0 ∨ j9 = 11 ∨ j9 = 18 ∨ j9 = 19 ∨ j9 = 20 ∨ j9 = 21 ∨ j9 = 22) → False := by
  intro j9 h1 h2
  omega

theorem hv_X12_readData_51 : Cond.fieldLink RX12 51 "FlowExporterModel" (TX12 29).2.1 (TX12 29).2.2.1 ∈ wsX12_readData := List.mem_cons_of_mem _ (List.mem_append_left _ (List.mem_append_left _ (List.mem_append_left _ (List.mem_of_getElem? (i := 2) rfl))))

section ZP
variable {p : Program} {l : Launch} {e : Env} {R : Room} {s : State} {m : MethodId} {args : Array Value} {below : List Frame} {meth : Method} {c : Code} {Q : State → Prop} {G : EnvG} {nL pc : Nat} {lv : List (Nat × Value)} {rest : List Value} {Φ : Hm} {sz cells slots : Nat}
variable {cc : ByteArray} {own : String} {ws : List Cond} {ret : Option FieldType} {nm : String}
theorem z_fbits (B : Bd p s m args meth c G cc nL own ws ret nm) {index : Nat} {q : UInt32} (h1 : Cond.methodLink own index ⟨"java/lang/Float", "floatToRawIntBits", "(F)I"⟩ ∈ ws) (h2 : Cond.native ⟨"java/lang/Float", "floatToRawIntBits", "(F)I"⟩ ∈ ws) (h3 : Cond.static ⟨"java/lang/Float", "floatToRawIntBits", "(F)I"⟩ ∈ ws) (h4 : Cond.initialized "java/lang/Float" ∈ ws) (hR : 1 ≤ R.frames ∧ (rest.map fun v => v.category).sum + 15 ≤ R.locals) (hdg : decode cc pc = .ok (.invokestatic index, 3)) (kk : Z p l e R s m args below meth c Q G nL (pc + 3) lv (.int q.toInt32 :: rest) Φ sz cells slots) : Z p l e R s m args below meth c Q G nL pc lv (.float q :: rest) Φ sz cells slots := by
  intro H locs ls hl hP hS
  exact vn_f2i B.1.1 B.1.2.1 (by rw [B.1.2.2.1]; exact hl.1.symm) B.1.2.2.2.1 (B.1.2.2.2.2 _ h1) (B.1.2.2.2.2 _ h2) (B.1.2.2.2.2 _ h3) (B.1.2.2.2.2 _ h4) hR.1 hR.2 hdg (kk H locs ls hl hP hS)
end ZP
theorem Ct.ofF {G : EnvG} {l : Launch} {y : MethodName} {ws ws' : List Cond} {rm : Room} {mc ms : Nat} {av : List Value} {Φ : Hm} {sz : Nat} {P : Option Value → Hm → Nat → Prop} {cc : ByteArray} {maxL : Nat} {ret : Option FieldType} (hy : plainFor y = true) (hw : ws = Cond.code y cc maxL ret :: ws') (hlen : (lg_sl av).length ≤ maxL)
    (body : ∀ (p : Program) (e : Env) (s : State) (m : MethodId) (below : List Frame) (meth : Method) (c : Code), Bd p s m av.toArray meth c G cc maxL y.cls ws ret y.name → Z p l e rm s m av.toArray below meth c (MQ below (QU G P) av.toArray s mc ms (fun q => G.2.2.2 ≤ q)) G maxL 0 (lv_args 0 av) [] Φ sz 0 0) : Ct G l y ws rm mc ms av Φ sz P := by
  refine va_MetF (cc := cc) (maxL := maxL) (ret := ret) hy hw ?_
  intro p e s m args below meth c s₁ B hml hv
  obtain ⟨rfl, hP, hK, hS, hn⟩ := hv
  have hl := lv_entry av hlen
  rw [lg_entry_eq]
  refine body p e s m below meth c ⟨⟨B.exec, B.bytes, hml, findClass_of_methodNamed B.named, atoms_spec (ws := ws) B.pre⟩, B.returns, B.notSynchronized, (name_of_methodNamed B.named B.method).1, hK, hS, by rw [hP.1]; exact hn⟩ s.heap [] _ hl hP va_S.rf

set_option maxHeartbeats 4000000 in
set_option maxRecDepth 100000 in
theorem c_J_isNaN (G : EnvG) (l : Launch) (Φ : Hm) (sz : Nat) (q : UInt32) (h1 : Op.cmpValue (FP.fcmp q q) .l = 0) : Ct G l yJxf58ca_isNaN_12338 wsJxf58ca_isNaN_12338 ({ frames := 0, cells := 0, slots := 0, locals := 0 }) 0 0 [.float q] Φ sz (fun v Φ1 sz1 => v = some (.int 0) ∧ sz1 = sz ∧ (∀ b9 : Nat, Φ1 b9 = Φ b9)) := by
  refine Ct.ofF (cc := cJxf58ca_isNaN_12338) (maxL := 1) (ret := (some .boolean)) (by decide +kernel) rfl (Nat.le_of_ble_eq_true rfl) ?_
  intro p9 e9 s9 m9 w9 t9 k9 B
  show Z p9 l e9 _ s9 m9 _ w9 t9 k9 _ G 1 0 [(0, .float q)] [] Φ (sz) 0 0
  refine z_fload_n B dJxf58ca_isNaN_12338_0 rfl 0 rfl ?_
  refine z_fload_n B dJxf58ca_isNaN_12338_1 rfl 0 rfl ?_
  refine z_fcmp B dJxf58ca_isNaN_12338_2 ?_
  refine z_if_eq (tgt := 10) B dJxf58ca_isNaN_12338_3 rfl (fun c_1 => ?_) (fun h9 => absurd h1 h9)
  refine z_iconst (v := 0) B dJxf58ca_isNaN_12338_10 rfl ?_
  exact z_ret_z B dJxf58ca_isNaN_12338_11 (by decide) ⟨rfl, rfl, (fun b9 => rfl)⟩

set_option maxHeartbeats 4000000 in
set_option maxRecDepth 100000 in
theorem c_J_f2i (G : EnvG) (l : Launch) (Φ : Hm) (sz : Nat) (q : UInt32) (h1 : Op.cmpValue (FP.fcmp q q) .l = 0) : Ct G l yJxf58ca_floatToIntBits_5c35a wsJxf58ca_floatToIntBits_5c35a ({ frames := 1, cells := 0, slots := 0, locals := 20 }) 0 0 [.float q] Φ sz (fun v Φ1 sz1 => v = some (.int q.toInt32) ∧ sz1 = sz ∧ (∀ b9 : Nat, Φ1 b9 = Φ b9)) := by
  refine Ct.ofF (cc := cJxf58ca_floatToIntBits_5c35a) (maxL := 1) (ret := (some .int)) (by decide +kernel) rfl (Nat.le_of_ble_eq_true rfl) ?_
  intro p9 e9 s9 m9 w9 t9 k9 B
  show Z p9 l e9 _ s9 m9 _ w9 t9 k9 _ G 1 0 [(0, .float q)] [] Φ (sz) 0 0
  refine z_fload_n B dJxf58ca_floatToIntBits_5c35a_0 rfl 0 rfl ?_
  refine z_callS (As := [.float q]) (rest := []) B (c_J_isNaN G l Φ sz q h1) (va_cwS 1 B.1.2.2.2.2 gJxf58ca_floatToIntBits_5c35a_Jxf58ca_isNaN_12338 rfl rfl rfl (by decide +kernel) ⟨Nat.le_of_ble_eq_true rfl, Nat.le_of_ble_eq_true rfl⟩) rfl rfl (Nat.le_of_ble_eq_true rfl) dJxf58ca_floatToIntBits_5c35a_1 ⟨Nat.le_of_ble_eq_true rfl, Nat.le_of_ble_eq_true rfl⟩ (fun v1 Φ1 sz1 st1 hp1 hs1 => ?_)
  obtain ⟨rfl, hq1, fr1⟩ := hp1
  replace hq1 : sz1 = sz := hq1
  subst sz1
  replace hs1 : st1 = [.int 0] := hs1
  subst st1
  refine z_if_ne (tgt := 12) B dJxf58ca_floatToIntBits_5c35a_4 rfl (fun h9 => absurd (by decide) h9) (fun c_1 => ?_)
  refine z_fload_n B dJxf58ca_floatToIntBits_5c35a_7 rfl 0 rfl ?_
  refine z_fbits B (by decide +kernel) (by decide +kernel) (by decide +kernel) (by decide +kernel) ⟨Nat.le_of_ble_eq_true rfl, Nat.le_of_ble_eq_true rfl⟩ dJxf58ca_floatToIntBits_5c35a_8 ?_
  exact z_ret_i B dJxf58ca_floatToIntBits_5c35a_11 ⟨rfl, rfl, (fun b9 => ((fr1 b9).trans rfl))⟩

set_option maxHeartbeats 4000000 in
set_option maxRecDepth 100000 in
theorem m_X12_rateBits (G : EnvG) (l : Launch) (Φ : Hm) (sz : Nat) (y : Nat) (hc0_ : Φ y = some (o_ 14 [.int 0, .ref (y + 1), .ref (y + 2), .int 0, .int 1, .int 1, .int 0, .int 0, .ref (y + 3), .ref (y + 4), .int 0, .long 0, .ref (y + 5), .int 0, .int 0, .long 0, .long 0, .long 0, .long 0, .ref (y + 6), .ref (y + 7), .int 0, .ref (y + 8), .int 0, .ref (y + 9), .ref (y + 10), .int 0, .ref (y + 11), .ref (y + 12), .ref (y + 13), .ref (y + 14), .ref (y + 15), .ref (y + 16), .int 0, .long (-1), .ref (y + 17), .ref (y + 18), .ref (y + 19), .ref (y + 20), .ref (y + 21), .ref (y + 22), .int 0, .ref (y + 23), .ref (y + 24), .int 0, .ref (y + 25), .int 0, .int 0, .int 0, .int (-1), .int 0, .int 0, .int 0, .long 0])) (hna : G.2.2.2 ≤ y) : Ct G l yX12_rateBits wsX12_rateBits ({ frames := 2, cells := 0, slots := 0, locals := 40 }) 0 0 [.ref y] Φ sz (fun v Φ1 sz1 => v = some (.int 1065353216) ∧ (∃ fs : List Value, Φ1 y = some (o_ 14 fs) ∧ fs[0]? = some (.int 0)) ∧ ∀ b9 : Nat, y + 26 ≤ b9 → Φ1 b9 = Φ b9) := by
  refine Ct.of (cc := cX12_rateBits) (maxL := 1) (ret := (some .int)) (by decide) rfl (Nat.le_of_ble_eq_true rfl) ?_
  intro p9 e9 s9 m9 w9 t9 k9 B
  show Z p9 l e9 _ s9 m9 _ w9 t9 k9 _ G 1 0 [(0, .ref y)] [] Φ sz 0 0
  refine z_aload_n B dX12_rateBits_0 rfl 0 rfl ?_
  refine z_iconst (v := 0) B dX12_rateBits_1 rfl ?_
  refine z_put (ref := "FlowExporterModel") (C := RX12) (T := TX12) (N := 54) (ci := 14) (v := .int 0) B (by decide +kernel) tyX12 tyX12_ok nmX12 rfl 0 (by decide) (by decide +kernel) rfl (Or.inl rfl) hc0_ hna rfl rfl (Nat.le_of_ble_eq_true rfl) dX12_rateBits_2 (fun Φ1 hΦ1 => ?_)
  have h_1 : Φ1 y = some (o_ 14 [.int 0, .ref (y + 1), .ref (y + 2), .int 0, .int 1, .int 1, .int 0, .int 0, .ref (y + 3), .ref (y + 4), .int 0, .long 0, .ref (y + 5), .int 0, .int 0, .long 0, .long 0, .long 0, .long 0, .ref (y + 6), .ref (y + 7), .int 0, .ref (y + 8), .int 0, .ref (y + 9), .ref (y + 10), .int 0, .ref (y + 11), .ref (y + 12), .ref (y + 13), .ref (y + 14), .ref (y + 15), .ref (y + 16), .int 0, .long (-1), .ref (y + 17), .ref (y + 18), .ref (y + 19), .ref (y + 20), .ref (y + 21), .ref (y + 22), .int 0, .ref (y + 23), .ref (y + 24), .int 0, .ref (y + 25), .int 0, .int 0, .int 0, .int (-1), .int 0, .int 0, .int 0, .long 0]) := fset_at hΦ1
  refine z_fconst1 B dX12_rateBits_5 ?_
  refine z_aload_n B dX12_rateBits_6 rfl 0 rfl ?_
  refine z_get (ref := "FlowExporterModel") (C := RX12) (T := TX12) (N := 54) (ci := 14) (v := .int 1) B (by decide +kernel) rfl 5 (by decide) (by decide +kernel) rfl h_1 rfl dX12_rateBits_7 ?_
  refine z_i2f B dX12_rateBits_10 ?_
  refine z_fdiv B dX12_rateBits_11 (by unfold vf_n32; decide +kernel) ?_
  refine z_callS (As := [.float (FP.fdiv FP.fconst1 (FP.i2f 1))]) (rest := []) B (c_J_f2i G l Φ1 sz (FP.fdiv FP.fconst1 (FP.i2f 1)) (by decide +kernel)) (va_cwS 1 B.1.2.2.2.2 gX12_rateBits_Jxf58ca_floatToIntBits_5c35a rfl rfl rfl (by decide +kernel) ⟨Nat.le_of_ble_eq_true rfl, Nat.le_of_ble_eq_true rfl⟩) rfl rfl (Nat.le_of_ble_eq_true rfl) dX12_rateBits_12 ⟨Nat.le_of_ble_eq_true rfl, Nat.le_of_ble_eq_true rfl⟩ (fun v1 Φ2 sz1 st1 hp1 hs1 => ?_)
  obtain ⟨rfl, hq1, fr1⟩ := hp1
  replace hq1 : sz1 = sz := hq1
  subst sz1
  replace hs1 : st1 = [.int ((FP.fdiv FP.fconst1 (FP.i2f 1)).toInt32)] := hs1
  subst st1
  have h_2 : Φ2 y = some (o_ 14 [.int 0, .ref (y + 1), .ref (y + 2), .int 0, .int 1, .int 1, .int 0, .int 0, .ref (y + 3), .ref (y + 4), .int 0, .long 0, .ref (y + 5), .int 0, .int 0, .long 0, .long 0, .long 0, .long 0, .ref (y + 6), .ref (y + 7), .int 0, .ref (y + 8), .int 0, .ref (y + 9), .ref (y + 10), .int 0, .ref (y + 11), .ref (y + 12), .ref (y + 13), .ref (y + 14), .ref (y + 15), .ref (y + 16), .int 0, .long (-1), .ref (y + 17), .ref (y + 18), .ref (y + 19), .ref (y + 20), .ref (y + 21), .ref (y + 22), .int 0, .ref (y + 23), .ref (y + 24), .int 0, .ref (y + 25), .int 0, .int 0, .int 0, .int (-1), .int 0, .int 0, .int 0, .long 0]) := ((fr1 y).trans h_1)
  exact z_ret_i B dX12_rateBits_15 ⟨(congrArg (fun w9 : Int32 => some (Value.int w9)) (by decide +kernel)), ⟨_, h_2, rfl⟩, fun b9 h9 => ((fr1 b9).trans ((fset_fr hΦ1 (Nat.ne_of_gt (Nat.lt_of_lt_of_le (lt_off (x := y) (i := 0) (j := 26) rfl) h9))).trans rfl))⟩

set_option maxHeartbeats 4000000 in
set_option maxRecDepth 100000 in
theorem m_changeRate_1 (G : EnvG) (l : Launch) (Φ : Hm) (sz : Nat) (y : Nat) (hc0_ : Φ y = some (o_ 14 [.int 0, .ref (y + 1), .ref (y + 2), .int 0, .int 1, .int 1, .int 0, .int 0, .ref (y + 3), .ref (y + 4), .int 0, .long 0, .ref (y + 5), .int 0, .int 0, .long 0, .long 0, .long 0, .long 0, .ref (y + 6), .ref (y + 7), .int 0, .ref (y + 8), .int 0, .ref (y + 9), .ref (y + 10), .int 0, .ref (y + 11), .ref (y + 12), .ref (y + 13), .ref (y + 14), .ref (y + 15), .ref (y + 16), .int 0, .long (-1), .ref (y + 17), .ref (y + 18), .ref (y + 19), .ref (y + 20), .ref (y + 21), .ref (y + 22), .int 0, .ref (y + 23), .ref (y + 24), .int 0, .ref (y + 25), .int 0, .int 0, .int 0, .int (-1), .int 0, .int 0, .int 0, .long 0])) : Ct G l yX12_changeRate wsX12_changeRate ({ frames := 0, cells := 0, slots := 0, locals := 0 }) 0 0 [.ref y, .int 1] Φ sz (fun v Φ1 sz1 => v = some (.int 0) ∧ sz1 = sz ∧ (∀ b9 : Nat, Φ1 b9 = Φ b9)) := by
  refine Ct.of (cc := cX12_changeRate) (maxL := 3) (ret := (some .int)) (by decide) rfl (Nat.le_of_ble_eq_true rfl) ?_
  intro p9 e9 s9 m9 w9 t9 k9 B
  show Z p9 l e9 _ s9 m9 _ w9 t9 k9 _ G 3 0 [(0, .ref y), (1, .int 1)] [] Φ sz 0 0
  refine z_iload_n B dX12_changeRate_0 rfl 1 rfl ?_
  refine z_aload_n B dX12_changeRate_1 rfl 0 rfl ?_
  refine z_get (ref := "FlowExporterModel") (C := RX12) (T := TX12) (N := 54) (ci := 14) (v := .int 1) B (by decide +kernel) rfl 5 (by decide) (by decide +kernel) rfl hc0_ rfl dX12_changeRate_2 ?_
  refine z_icmp_ne (tgt := 10) B dX12_changeRate_5 rfl (fun h9 => absurd (by decide) h9) (fun c_1 => ?_)
  refine z_iconst (v := 0) B dX12_changeRate_8 rfl ?_
  exact z_ret_i B dX12_changeRate_9 ⟨rfl, rfl, (fun b9 => rfl)⟩

set_option maxHeartbeats 4000000 in
set_option maxRecDepth 100000 in
theorem m_X12_setRate_1 (G : EnvG) (l : Launch) (Φ : Hm) (sz : Nat) (y : Nat) (hc0_ : Φ y = some (o_ 14 [.int 0, .ref (y + 1), .ref (y + 2), .int 0, .int 1, .int 1, .int 0, .int 0, .ref (y + 3), .ref (y + 4), .int 0, .long 0, .ref (y + 5), .int 0, .int 0, .long 0, .long 0, .long 0, .long 0, .ref (y + 6), .ref (y + 7), .int 0, .ref (y + 8), .int 0, .ref (y + 9), .ref (y + 10), .int 0, .ref (y + 11), .ref (y + 12), .ref (y + 13), .ref (y + 14), .ref (y + 15), .ref (y + 16), .int 0, .long (-1), .ref (y + 17), .ref (y + 18), .ref (y + 19), .ref (y + 20), .ref (y + 21), .ref (y + 22), .int 0, .ref (y + 23), .ref (y + 24), .int 0, .ref (y + 25), .int 0, .int 0, .int 0, .int (-1), .int 0, .int 0, .int 0, .long 0])) (hna : G.2.2.2 ≤ y) : Ct G l yX12_setRate wsX12_setRate ({ frames := 1, cells := 0, slots := 0, locals := 25 }) 0 0 [.ref y, .int 1] Φ sz (fun v Φ1 sz1 => v = some (.int 0) ∧ (∃ fs : List Value, Φ1 y = some (o_ 14 fs) ∧ fs[0]? = some (.int 0)) ∧ ∀ b9 : Nat, y + 26 ≤ b9 → Φ1 b9 = Φ b9) := by
  refine Ct.of (cc := cX12_setRate) (maxL := 3) (ret := (some .int)) (by decide) rfl (Nat.le_of_ble_eq_true rfl) ?_
  intro p9 e9 s9 m9 w9 t9 k9 B
  show Z p9 l e9 _ s9 m9 _ w9 t9 k9 _ G 3 0 [(0, .ref y), (1, .int 1)] [] Φ sz 0 0
  refine z_aload_n B dX12_setRate_0 rfl 0 rfl ?_
  refine z_iconst (v := 0) B dX12_setRate_1 rfl ?_
  refine z_put (ref := "FlowExporterModel") (C := RX12) (T := TX12) (N := 54) (ci := 14) (v := .int 0) B (by decide +kernel) tyX12 tyX12_ok nmX12 rfl 0 (by decide) (by decide +kernel) rfl (Or.inl rfl) hc0_ hna rfl rfl (Nat.le_of_ble_eq_true rfl) dX12_setRate_2 (fun Φ1 hΦ1 => ?_)
  have h_1 : Φ1 y = some (o_ 14 [.int 0, .ref (y + 1), .ref (y + 2), .int 0, .int 1, .int 1, .int 0, .int 0, .ref (y + 3), .ref (y + 4), .int 0, .long 0, .ref (y + 5), .int 0, .int 0, .long 0, .long 0, .long 0, .long 0, .ref (y + 6), .ref (y + 7), .int 0, .ref (y + 8), .int 0, .ref (y + 9), .ref (y + 10), .int 0, .ref (y + 11), .ref (y + 12), .ref (y + 13), .ref (y + 14), .ref (y + 15), .ref (y + 16), .int 0, .long (-1), .ref (y + 17), .ref (y + 18), .ref (y + 19), .ref (y + 20), .ref (y + 21), .ref (y + 22), .int 0, .ref (y + 23), .ref (y + 24), .int 0, .ref (y + 25), .int 0, .int 0, .int 0, .int (-1), .int 0, .int 0, .int 0, .long 0]) := fset_at hΦ1
  refine z_iload_n B dX12_setRate_5 rfl 1 rfl ?_
  refine z_i2l (v := 1) B dX12_setRate_6 (by decide +kernel) ?_
  refine z_lconst (v := 1) B dX12_setRate_7 rfl ?_
  refine z_ldc2 (v := 1024) B (by decide +kernel) dX12_setRate_8 ?_
  refine z_callS (As := [.long 1, .long 1, .long 1024]) (rest := []) B (c_X12_inRange_1 G l Φ1 sz 1 1 1024 ⟨by decide +kernel, by decide +kernel⟩) (va_cwS 3 B.1.2.2.2.2 gX12_setRate_X12_inRange rfl rfl rfl (by decide +kernel) ⟨Nat.le_of_ble_eq_true rfl, Nat.le_of_ble_eq_true rfl⟩) rfl rfl (Nat.le_of_ble_eq_true rfl) dX12_setRate_11 ⟨Nat.le_of_ble_eq_true rfl, Nat.le_of_ble_eq_true rfl⟩ (fun v1 Φ2 sz1 st1 hp1 hs1 => ?_)
  obtain ⟨rfl, hq1, fr1⟩ := hp1
  replace hq1 : sz1 = sz := hq1
  subst sz1
  replace hs1 : st1 = [.int 1] := hs1
  subst st1
  refine z_if_ne (tgt := 19) B dX12_setRate_14 rfl (fun c_1 => ?_) (fun h9 => absurd h9 (by decide))
  refine z_aload_n B dX12_setRate_19 rfl 0 rfl ?_
  refine z_iload_n B dX12_setRate_20 rfl 1 rfl ?_
  have h_2 : Φ2 y = some (o_ 14 [.int 0, .ref (y + 1), .ref (y + 2), .int 0, .int 1, .int 1, .int 0, .int 0, .ref (y + 3), .ref (y + 4), .int 0, .long 0, .ref (y + 5), .int 0, .int 0, .long 0, .long 0, .long 0, .long 0, .ref (y + 6), .ref (y + 7), .int 0, .ref (y + 8), .int 0, .ref (y + 9), .ref (y + 10), .int 0, .ref (y + 11), .ref (y + 12), .ref (y + 13), .ref (y + 14), .ref (y + 15), .ref (y + 16), .int 0, .long (-1), .ref (y + 17), .ref (y + 18), .ref (y + 19), .ref (y + 20), .ref (y + 21), .ref (y + 22), .int 0, .ref (y + 23), .ref (y + 24), .int 0, .ref (y + 25), .int 0, .int 0, .int 0, .int (-1), .int 0, .int 0, .int 0, .long 0]) := ((fr1 y).trans h_1)
  refine z_callV (As := [.int 1]) (rest := []) B (m_changeRate_1 G l Φ2 sz y h_2) (cwV 1 B.1.2.2.2.2 gX12_setRate_X12_changeRate rfl rfl rfl (by decide +kernel) ⟨Nat.le_of_ble_eq_true rfl, Nat.le_of_ble_eq_true rfl⟩) h_2 rfl rfl rfl rfl (Nat.le_of_ble_eq_true rfl) dX12_setRate_21 ⟨Nat.le_of_ble_eq_true rfl, Nat.le_of_ble_eq_true rfl⟩ (fun v2 Φ3 sz2 st2 hp2 hs2 => ?_)
  obtain ⟨rfl, hq2, fr2⟩ := hp2
  replace hq2 : sz2 = sz := hq2
  subst sz2
  replace hs2 : st2 = [.int 0] := hs2
  subst st2
  refine z_istore_n (lv' := [(2, .int 0), (0, .ref y), (1, .int 1)]) B dX12_setRate_24 rfl (Nat.le_of_ble_eq_true rfl) rfl ?_
  refine z_aload_n B dX12_setRate_25 rfl 1 rfl ?_
  have h_3 : Φ3 y = some (o_ 14 [.int 0, .ref (y + 1), .ref (y + 2), .int 0, .int 1, .int 1, .int 0, .int 0, .ref (y + 3), .ref (y + 4), .int 0, .long 0, .ref (y + 5), .int 0, .int 0, .long 0, .long 0, .long 0, .long 0, .ref (y + 6), .ref (y + 7), .int 0, .ref (y + 8), .int 0, .ref (y + 9), .ref (y + 10), .int 0, .ref (y + 11), .ref (y + 12), .ref (y + 13), .ref (y + 14), .ref (y + 15), .ref (y + 16), .int 0, .long (-1), .ref (y + 17), .ref (y + 18), .ref (y + 19), .ref (y + 20), .ref (y + 21), .ref (y + 22), .int 0, .ref (y + 23), .ref (y + 24), .int 0, .ref (y + 25), .int 0, .int 0, .int 0, .int (-1), .int 0, .int 0, .int 0, .long 0]) := ((fr2 y).trans h_2)
  refine z_callV (As := []) (rest := []) B (m_sendPending G l Φ3 sz y h_3 hna) (cwV 0 B.1.2.2.2.2 gX12_setRate_X12_sendPending rfl rfl rfl (by decide +kernel) ⟨Nat.le_of_ble_eq_true rfl, Nat.le_of_ble_eq_true rfl⟩) h_3 rfl rfl rfl rfl (Nat.le_of_ble_eq_true rfl) dX12_setRate_26 ⟨Nat.le_of_ble_eq_true rfl, Nat.le_of_ble_eq_true rfl⟩ (fun v3 Φ4 sz3 st3 hp3 hs3 => ?_)
  obtain ⟨rfl, hq3, fr3, h_4⟩ := hp3
  replace hq3 : sz3 = sz := hq3
  subst sz3
  replace hs3 : st3 = [] := hs3
  subst st3
  have h_5 : Φ4 y = some (o_ 14 [.int 0, .ref (y + 1), .ref (y + 2), .int 0, .int 1, .int 1, .int 0, .int 0, .ref (y + 3), .ref (y + 4), .int 0, .long 0, .ref (y + 5), .int 0, .int 0, .long 0, .long 0, .long 0, .long 0, .ref (y + 6), .ref (y + 7), .int 0, .ref (y + 8), .int 0, .ref (y + 9), .ref (y + 10), .int 0, .ref (y + 11), .ref (y + 12), .ref (y + 13), .ref (y + 14), .ref (y + 15), .ref (y + 16), .int 0, .long (-1), .ref (y + 17), .ref (y + 18), .ref (y + 19), .ref (y + 20), .ref (y + 21), .ref (y + 22), .int 0, .ref (y + 23), .ref (y + 24), .int 0, .ref (y + 25), .int 0, .int 0, .int 0, .int (-1), .int 0, .int 0, .int 0, .long 0]) := h_4
  refine z_iload_n B dX12_setRate_29 rfl 0 rfl ?_
  exact z_ret_i B dX12_setRate_30 ⟨rfl, ⟨_, h_5, rfl⟩, fun b9 h9 => ((fr3 b9 (Nat.ne_of_gt (Nat.lt_of_lt_of_le (lt_off (x := y) (i := 0) (j := 26) rfl) h9))).trans ((fr2 b9).trans ((fr1 b9).trans ((fset_fr hΦ1 (Nat.ne_of_gt (Nat.lt_of_lt_of_le (lt_off (x := y) (i := 0) (j := 26) rfl) h9))).trans rfl))))⟩

set_option maxHeartbeats 4000000 in
set_option maxRecDepth 100000 in
theorem m_sendPending_r (G : EnvG) (l : Launch) (Φ : Hm) (sz : Nat) (y : Nat) (rt : Int32) (hc0_ : Φ y = some (o_ 14 [.int 0, .ref (y + 1), .ref (y + 2), .int 0, .int 1, .int rt, .int 0, .int 0, .ref (y + 3), .ref (y + 4), .int 0, .long 0, .ref (y + 5), .int 0, .int 0, .long 0, .long 0, .long 0, .long 0, .ref (y + 6), .ref (y + 7), .int 0, .ref (y + 8), .int 0, .ref (y + 9), .ref (y + 10), .int 0, .ref (y + 11), .ref (y + 12), .ref (y + 13), .ref (y + 14), .ref (y + 15), .ref (y + 16), .int 0, .long (-1), .ref (y + 17), .ref (y + 18), .ref (y + 19), .ref (y + 20), .ref (y + 21), .ref (y + 22), .int 0, .ref (y + 23), .ref (y + 24), .int 0, .ref (y + 25), .int 0, .int 0, .int 0, .int (-1), .int 0, .int 0, .int 0, .long 0])) (hna : G.2.2.2 ≤ y) : Ct G l yX12_sendPending wsX12_sendPending ({ frames := 0, cells := 0, slots := 0, locals := 0 }) 0 0 [.ref y] Φ sz (fun v Φ1 sz1 => v = none ∧ sz1 = sz ∧ (∀ b9 : Nat, b9 ≠ y → Φ1 b9 = Φ b9) ∧ Φ1 y = some (o_ 14 [.int 0, .ref (y + 1), .ref (y + 2), .int 0, .int 1, .int rt, .int 0, .int 0, .ref (y + 3), .ref (y + 4), .int 0, .long 0, .ref (y + 5), .int 0, .int 0, .long 0, .long 0, .long 0, .long 0, .ref (y + 6), .ref (y + 7), .int 0, .ref (y + 8), .int 0, .ref (y + 9), .ref (y + 10), .int 0, .ref (y + 11), .ref (y + 12), .ref (y + 13), .ref (y + 14), .ref (y + 15), .ref (y + 16), .int 0, .long (-1), .ref (y + 17), .ref (y + 18), .ref (y + 19), .ref (y + 20), .ref (y + 21), .ref (y + 22), .int 0, .ref (y + 23), .ref (y + 24), .int 0, .ref (y + 25), .int 0, .int 0, .int 0, .int (-1), .int 0, .int 0, .int 0, .long 0])) := by
  refine Ct.of (cc := cX12_sendPending) (maxL := 3) (ret := none) (by decide) rfl (Nat.le_of_ble_eq_true rfl) ?_
  intro p9 e9 s9 m9 w9 t9 k9 B
  show Z p9 l e9 _ s9 m9 _ w9 t9 k9 _ G 3 0 [(0, .ref y)] [] Φ sz 0 0
  refine z_iconst (v := 0) B dX12_sendPending_0 rfl ?_
  refine z_istore_n (lv' := [(1, .int 0), (0, .ref y)]) B dX12_sendPending_1 rfl (Nat.le_of_ble_eq_true rfl) rfl ?_
  refine z_iload_n B dX12_sendPending_2 rfl 0 rfl ?_
  refine z_aload_n B dX12_sendPending_3 rfl 1 rfl ?_
  refine z_get (ref := "FlowExporterModel") (C := RX12) (T := TX12) (N := 54) (ci := 14) (v := .int 0) B (by decide +kernel) rfl 21 (by decide) (by decide +kernel) rfl hc0_ rfl dX12_sendPending_4 ?_
  refine z_icmp_ge (tgt := 132) B dX12_sendPending_7 rfl (fun c_1 => ?_) (fun h9 => absurd (by decide) h9)
  refine z_aload_n B dX12_sendPending_132 rfl 1 rfl ?_
  refine z_iconst (v := 0) B dX12_sendPending_133 rfl ?_
  refine z_put (ref := "FlowExporterModel") (C := RX12) (T := TX12) (N := 54) (ci := 14) (v := .int 0) B (by decide +kernel) tyX12 tyX12_ok nmX12 rfl 21 (by decide) (by decide +kernel) rfl (Or.inl rfl) hc0_ hna rfl rfl (Nat.le_of_ble_eq_true rfl) dX12_sendPending_134 (fun Φ1 hΦ1 => ?_)
  have h_1 : Φ1 y = some (o_ 14 [.int 0, .ref (y + 1), .ref (y + 2), .int 0, .int 1, .int rt, .int 0, .int 0, .ref (y + 3), .ref (y + 4), .int 0, .long 0, .ref (y + 5), .int 0, .int 0, .long 0, .long 0, .long 0, .long 0, .ref (y + 6), .ref (y + 7), .int 0, .ref (y + 8), .int 0, .ref (y + 9), .ref (y + 10), .int 0, .ref (y + 11), .ref (y + 12), .ref (y + 13), .ref (y + 14), .ref (y + 15), .ref (y + 16), .int 0, .long (-1), .ref (y + 17), .ref (y + 18), .ref (y + 19), .ref (y + 20), .ref (y + 21), .ref (y + 22), .int 0, .ref (y + 23), .ref (y + 24), .int 0, .ref (y + 25), .int 0, .int 0, .int 0, .int (-1), .int 0, .int 0, .int 0, .long 0]) := fset_at hΦ1
  exact z_ret_v B dX12_sendPending_137 ⟨rfl, rfl, (fun b9 h9a => ((fset_fr hΦ1 h9a).trans rfl)), h_1⟩

set_option maxHeartbeats 4000000 in
set_option maxRecDepth 100000 in
theorem m_X12_setRate_c (G : EnvG) (l : Launch) (Φ : Hm) (sz : Nat) (y : Nat) (a : Int32) (hc0_ : Φ y = some (o_ 14 [.int 0, .ref (y + 1), .ref (y + 2), .int 0, .int 1, .int 1, .int 0, .int 0, .ref (y + 3), .ref (y + 4), .int 0, .long 0, .ref (y + 5), .int 0, .int 0, .long 0, .long 0, .long 0, .long 0, .ref (y + 6), .ref (y + 7), .int 0, .ref (y + 8), .int 0, .ref (y + 9), .ref (y + 10), .int 0, .ref (y + 11), .ref (y + 12), .ref (y + 13), .ref (y + 14), .ref (y + 15), .ref (y + 16), .int 0, .long (-1), .ref (y + 17), .ref (y + 18), .ref (y + 19), .ref (y + 20), .ref (y + 21), .ref (y + 22), .int 0, .ref (y + 23), .ref (y + 24), .int 0, .ref (y + 25), .int 0, .int 0, .int 0, .int (-1), .int 0, .int 0, .int 0, .long 0])) (hna : G.2.2.2 ≤ y) (hp : inP a.toInt64 1 1024) (ha : a ≠ 1) : Ct G l yX12_setRate wsX12_setRate ({ frames := 2, cells := 0, slots := 0, locals := 43 }) 0 0 [.ref y, .int a] Φ sz (fun v Φ1 sz1 => v = some (.int 0) ∧ (∃ fs : List Value, Φ1 y = some (o_ 14 fs) ∧ fs[0]? = some (.int 0)) ∧ ∀ b9 : Nat, y + 26 ≤ b9 → Φ1 b9 = Φ b9) := by
  refine Ct.of (cc := cX12_setRate) (maxL := 3) (ret := (some .int)) (by decide) rfl (Nat.le_of_ble_eq_true rfl) ?_
  intro p9 e9 s9 m9 w9 t9 k9 B
  show Z p9 l e9 _ s9 m9 _ w9 t9 k9 _ G 3 0 [(0, .ref y), (1, .int a)] [] Φ sz 0 0
  refine z_aload_n B dX12_setRate_0 rfl 0 rfl ?_
  refine z_iconst (v := 0) B dX12_setRate_1 rfl ?_
  refine z_put (ref := "FlowExporterModel") (C := RX12) (T := TX12) (N := 54) (ci := 14) (v := .int 0) B (by decide +kernel) tyX12 tyX12_ok nmX12 rfl 0 (by decide) (by decide +kernel) rfl (Or.inl rfl) hc0_ hna rfl rfl (Nat.le_of_ble_eq_true rfl) dX12_setRate_2 (fun Φ1 hΦ1 => ?_)
  have h_1 : Φ1 y = some (o_ 14 [.int 0, .ref (y + 1), .ref (y + 2), .int 0, .int 1, .int 1, .int 0, .int 0, .ref (y + 3), .ref (y + 4), .int 0, .long 0, .ref (y + 5), .int 0, .int 0, .long 0, .long 0, .long 0, .long 0, .ref (y + 6), .ref (y + 7), .int 0, .ref (y + 8), .int 0, .ref (y + 9), .ref (y + 10), .int 0, .ref (y + 11), .ref (y + 12), .ref (y + 13), .ref (y + 14), .ref (y + 15), .ref (y + 16), .int 0, .long (-1), .ref (y + 17), .ref (y + 18), .ref (y + 19), .ref (y + 20), .ref (y + 21), .ref (y + 22), .int 0, .ref (y + 23), .ref (y + 24), .int 0, .ref (y + 25), .int 0, .int 0, .int 0, .int (-1), .int 0, .int 0, .int 0, .long 0]) := fset_at hΦ1
  refine z_iload_n B dX12_setRate_5 rfl 1 rfl ?_
  refine z_i2l (v := a.toInt64) B dX12_setRate_6 rfl ?_
  refine z_lconst (v := 1) B dX12_setRate_7 rfl ?_
  refine z_ldc2 (v := 1024) B (by decide +kernel) dX12_setRate_8 ?_
  refine z_callS (As := [.long a.toInt64, .long 1, .long 1024]) (rest := []) B (c_X12_inRange_1 G l Φ1 sz a.toInt64 1 1024 hp) (va_cwS 3 B.1.2.2.2.2 gX12_setRate_X12_inRange rfl rfl rfl (by decide +kernel) ⟨Nat.le_of_ble_eq_true rfl, Nat.le_of_ble_eq_true rfl⟩) rfl rfl (Nat.le_of_ble_eq_true rfl) dX12_setRate_11 ⟨Nat.le_of_ble_eq_true rfl, Nat.le_of_ble_eq_true rfl⟩ (fun v1 Φ2 sz1 st1 hp1 hs1 => ?_)
  obtain ⟨rfl, hq1, fr1⟩ := hp1
  replace hq1 : sz1 = sz := hq1
  subst sz1
  replace hs1 : st1 = [.int 1] := hs1
  subst st1
  refine z_if_ne (tgt := 19) B dX12_setRate_14 rfl (fun c_1 => ?_) (fun h9 => absurd h9 (by decide))
  refine z_aload_n B dX12_setRate_19 rfl 0 rfl ?_
  refine z_iload_n B dX12_setRate_20 rfl 1 rfl ?_
  have h_2 : Φ2 y = some (o_ 14 [.int 0, .ref (y + 1), .ref (y + 2), .int 0, .int 1, .int 1, .int 0, .int 0, .ref (y + 3), .ref (y + 4), .int 0, .long 0, .ref (y + 5), .int 0, .int 0, .long 0, .long 0, .long 0, .long 0, .ref (y + 6), .ref (y + 7), .int 0, .ref (y + 8), .int 0, .ref (y + 9), .ref (y + 10), .int 0, .ref (y + 11), .ref (y + 12), .ref (y + 13), .ref (y + 14), .ref (y + 15), .ref (y + 16), .int 0, .long (-1), .ref (y + 17), .ref (y + 18), .ref (y + 19), .ref (y + 20), .ref (y + 21), .ref (y + 22), .int 0, .ref (y + 23), .ref (y + 24), .int 0, .ref (y + 25), .int 0, .int 0, .int 0, .int (-1), .int 0, .int 0, .int 0, .long 0]) := ((fr1 y).trans h_1)
  refine z_callV (As := [.int a]) (rest := []) B (m_changeRate G l Φ2 sz y a h_2 hna ha) (cwV 1 B.1.2.2.2.2 gX12_setRate_X12_changeRate rfl rfl rfl (by decide +kernel) ⟨Nat.le_of_ble_eq_true rfl, Nat.le_of_ble_eq_true rfl⟩) h_2 rfl rfl rfl rfl (Nat.le_of_ble_eq_true rfl) dX12_setRate_21 ⟨Nat.le_of_ble_eq_true rfl, Nat.le_of_ble_eq_true rfl⟩ (fun v2 Φ3 sz2 st2 hp2 hs2 => ?_)
  obtain ⟨rfl, hq2, fr2, h_3⟩ := hp2
  replace hq2 : sz2 = sz := hq2
  subst sz2
  replace hs2 : st2 = [.int 0] := hs2
  subst st2
  have h_4 : Φ3 y = some (o_ 14 [.int 0, .ref (y + 1), .ref (y + 2), .int 0, .int 1, .int a, .int 0, .int 0, .ref (y + 3), .ref (y + 4), .int 0, .long 0, .ref (y + 5), .int 0, .int 0, .long 0, .long 0, .long 0, .long 0, .ref (y + 6), .ref (y + 7), .int 0, .ref (y + 8), .int 0, .ref (y + 9), .ref (y + 10), .int 0, .ref (y + 11), .ref (y + 12), .ref (y + 13), .ref (y + 14), .ref (y + 15), .ref (y + 16), .int 0, .long (-1), .ref (y + 17), .ref (y + 18), .ref (y + 19), .ref (y + 20), .ref (y + 21), .ref (y + 22), .int 0, .ref (y + 23), .ref (y + 24), .int 0, .ref (y + 25), .int 0, .int 0, .int 0, .int (-1), .int 0, .int 0, .int 0, .long 0]) := h_3
  refine z_istore_n (lv' := [(2, .int 0), (0, .ref y), (1, .int a)]) B dX12_setRate_24 rfl (Nat.le_of_ble_eq_true rfl) rfl ?_
  refine z_aload_n B dX12_setRate_25 rfl 1 rfl ?_
  refine z_callV (As := []) (rest := []) B (m_sendPending_r G l Φ3 sz y a h_4 hna) (cwV 0 B.1.2.2.2.2 gX12_setRate_X12_sendPending rfl rfl rfl (by decide +kernel) ⟨Nat.le_of_ble_eq_true rfl, Nat.le_of_ble_eq_true rfl⟩) h_4 rfl rfl rfl rfl (Nat.le_of_ble_eq_true rfl) dX12_setRate_26 ⟨Nat.le_of_ble_eq_true rfl, Nat.le_of_ble_eq_true rfl⟩ (fun v3 Φ4 sz3 st3 hp3 hs3 => ?_)
  obtain ⟨rfl, hq3, fr3, h_5⟩ := hp3
  replace hq3 : sz3 = sz := hq3
  subst sz3
  replace hs3 : st3 = [] := hs3
  subst st3
  have h_6 : Φ4 y = some (o_ 14 [.int 0, .ref (y + 1), .ref (y + 2), .int 0, .int 1, .int a, .int 0, .int 0, .ref (y + 3), .ref (y + 4), .int 0, .long 0, .ref (y + 5), .int 0, .int 0, .long 0, .long 0, .long 0, .long 0, .ref (y + 6), .ref (y + 7), .int 0, .ref (y + 8), .int 0, .ref (y + 9), .ref (y + 10), .int 0, .ref (y + 11), .ref (y + 12), .ref (y + 13), .ref (y + 14), .ref (y + 15), .ref (y + 16), .int 0, .long (-1), .ref (y + 17), .ref (y + 18), .ref (y + 19), .ref (y + 20), .ref (y + 21), .ref (y + 22), .int 0, .ref (y + 23), .ref (y + 24), .int 0, .ref (y + 25), .int 0, .int 0, .int 0, .int (-1), .int 0, .int 0, .int 0, .long 0]) := h_5
  refine z_iload_n B dX12_setRate_29 rfl 0 rfl ?_
  exact z_ret_i B dX12_setRate_30 ⟨rfl, ⟨_, h_6, rfl⟩, fun b9 h9 => ((fr3 b9 (Nat.ne_of_gt (Nat.lt_of_lt_of_le (lt_off (x := y) (i := 0) (j := 26) rfl) h9))).trans ((fr2 b9 (Nat.ne_of_gt (Nat.lt_of_lt_of_le (lt_off (x := y) (i := 0) (j := 26) rfl) h9))).trans ((fr1 b9).trans ((fset_fr hΦ1 (Nat.ne_of_gt (Nat.lt_of_lt_of_le (lt_off (x := y) (i := 0) (j := 26) rfl) h9))).trans rfl))))⟩

set_option maxHeartbeats 4000000 in
set_option maxRecDepth 100000 in
theorem m_X12_counter (G : EnvG) (l : Launch) (Φ : Hm) (sz : Nat) (y : Nat) (a : Int32) (hc0_ : Φ y = some (o_ 14 [.int 0, .ref (y + 1), .ref (y + 2), .int 0, .int 1, .int 1, .int 0, .int 0, .ref (y + 3), .ref (y + 4), .int 0, .long 0, .ref (y + 5), .int 0, .int 0, .long 0, .long 0, .long 0, .long 0, .ref (y + 6), .ref (y + 7), .int 0, .ref (y + 8), .int 0, .ref (y + 9), .ref (y + 10), .int 0, .ref (y + 11), .ref (y + 12), .ref (y + 13), .ref (y + 14), .ref (y + 15), .ref (y + 16), .int 0, .long (-1), .ref (y + 17), .ref (y + 18), .ref (y + 19), .ref (y + 20), .ref (y + 21), .ref (y + 22), .int 0, .ref (y + 23), .ref (y + 24), .int 0, .ref (y + 25), .int 0, .int 0, .int 0, .int (-1), .int 0, .int 0, .int 0, .long 0])) (hc11_ : Φ (y + 11) = some (al_ G 9 (vp_updL (vp_updL (vp_updL (vp_updL (vp_updL (vp_updL (vp_updL (vp_updL (vp_updL (fun _ => 0) (0 : Int32).toNatClampNeg 0) (1 : Int32).toNatClampNeg 0) (2 : Int32).toNatClampNeg 0) (3 : Int32).toNatClampNeg 0) (4 : Int32).toNatClampNeg 0) (5 : Int32).toNatClampNeg 0) (6 : Int32).toNatClampNeg 0) (7 : Int32).toNatClampNeg 0) (8 : Int32).toNatClampNeg 0))) (hna : G.2.2.2 ≤ y) (hp : inP a.toInt64 0 8) (hv : vp_in a 9) : Ct G l yX12_counter wsX12_counter ({ frames := 1, cells := 0, slots := 0, locals := 25 }) 0 0 [.ref y, .int a] Φ sz (fun v Φ1 sz1 => v = some (.long 0) ∧ (∃ fs : List Value, Φ1 y = some (o_ 14 fs) ∧ fs[0]? = some (.int 0)) ∧ ∀ b9 : Nat, y + 26 ≤ b9 → Φ1 b9 = Φ b9) := by
  refine Ct.of (cc := cX12_counter) (maxL := 2) (ret := (some .long)) (by decide) rfl (Nat.le_of_ble_eq_true rfl) ?_
  intro p9 e9 s9 m9 w9 t9 k9 B
  show Z p9 l e9 _ s9 m9 _ w9 t9 k9 _ G 2 0 [(0, .ref y), (1, .int a)] [] Φ sz 0 0
  refine z_aload_n B dX12_counter_0 rfl 0 rfl ?_
  refine z_iconst (v := 0) B dX12_counter_1 rfl ?_
  refine z_put (ref := "FlowExporterModel") (C := RX12) (T := TX12) (N := 54) (ci := 14) (v := .int 0) B (by decide +kernel) tyX12 tyX12_ok nmX12 rfl 0 (by decide) (by decide +kernel) rfl (Or.inl rfl) hc0_ hna rfl rfl (Nat.le_of_ble_eq_true rfl) dX12_counter_2 (fun Φ1 hΦ1 => ?_)
  have h_1 : Φ1 y = some (o_ 14 [.int 0, .ref (y + 1), .ref (y + 2), .int 0, .int 1, .int 1, .int 0, .int 0, .ref (y + 3), .ref (y + 4), .int 0, .long 0, .ref (y + 5), .int 0, .int 0, .long 0, .long 0, .long 0, .long 0, .ref (y + 6), .ref (y + 7), .int 0, .ref (y + 8), .int 0, .ref (y + 9), .ref (y + 10), .int 0, .ref (y + 11), .ref (y + 12), .ref (y + 13), .ref (y + 14), .ref (y + 15), .ref (y + 16), .int 0, .long (-1), .ref (y + 17), .ref (y + 18), .ref (y + 19), .ref (y + 20), .ref (y + 21), .ref (y + 22), .int 0, .ref (y + 23), .ref (y + 24), .int 0, .ref (y + 25), .int 0, .int 0, .int 0, .int (-1), .int 0, .int 0, .int 0, .long 0]) := fset_at hΦ1
  refine z_aload_n B dX12_counter_5 rfl 0 rfl ?_
  refine z_iload_n B dX12_counter_6 rfl 1 rfl ?_
  refine z_i2l (v := a.toInt64) B dX12_counter_7 rfl ?_
  refine z_lconst (v := 0) B dX12_counter_8 rfl ?_
  refine z_ldc2 (v := 8) B (by decide +kernel) dX12_counter_9 ?_
  refine z_callS (As := [.long a.toInt64, .long 0, .long 8]) (rest := [.ref y]) B (c_X12_inRange_1 G l Φ1 sz a.toInt64 0 8 hp) (va_cwS 3 B.1.2.2.2.2 gX12_counter_X12_inRange rfl rfl rfl (by decide +kernel) ⟨Nat.le_of_ble_eq_true rfl, Nat.le_of_ble_eq_true rfl⟩) rfl rfl (Nat.le_of_ble_eq_true rfl) dX12_counter_12 ⟨Nat.le_of_ble_eq_true rfl, Nat.le_of_ble_eq_true rfl⟩ (fun v1 Φ2 sz1 st1 hp1 hs1 => ?_)
  obtain ⟨rfl, hq1, fr1⟩ := hp1
  replace hq1 : sz1 = sz := hq1
  subst sz1
  replace hs1 : st1 = [.int 1, .ref y] := hs1
  subst st1
  refine z_if_ne (tgt := 22) B dX12_counter_15 rfl (fun c_1 => ?_) (fun h9 => absurd h9 (by decide))
  refine z_iconst (v := 0) B dX12_counter_22 rfl ?_
  refine z_iconst (v := 1) B dX12_counter_23 rfl ?_
  have h_2 : Φ2 y = some (o_ 14 [.int 0, .ref (y + 1), .ref (y + 2), .int 0, .int 1, .int 1, .int 0, .int 0, .ref (y + 3), .ref (y + 4), .int 0, .long 0, .ref (y + 5), .int 0, .int 0, .long 0, .long 0, .long 0, .long 0, .ref (y + 6), .ref (y + 7), .int 0, .ref (y + 8), .int 0, .ref (y + 9), .ref (y + 10), .int 0, .ref (y + 11), .ref (y + 12), .ref (y + 13), .ref (y + 14), .ref (y + 15), .ref (y + 16), .int 0, .long (-1), .ref (y + 17), .ref (y + 18), .ref (y + 19), .ref (y + 20), .ref (y + 21), .ref (y + 22), .int 0, .ref (y + 23), .ref (y + 24), .int 0, .ref (y + 25), .int 0, .int 0, .int 0, .int (-1), .int 0, .int 0, .int 0, .long 0]) := ((fr1 y).trans h_1)
  refine z_callV (As := [.int 0, .int 1]) (rest := []) B (c_X12_throwsIf_0 G l Φ2 sz y 0 0 1 1 0 0 0 0 0 0 0 0 0 0 0 0 0 0 (-1) 0 0 0 0 0 (-1) 0 0 0 0 1 h_2 hna) (cwV 2 B.1.2.2.2.2 gX12_counter_X12_throwsIf rfl rfl rfl (by decide +kernel) ⟨Nat.le_of_ble_eq_true rfl, Nat.le_of_ble_eq_true rfl⟩) h_2 rfl rfl rfl rfl (Nat.le_of_ble_eq_true rfl) dX12_counter_24 ⟨Nat.le_of_ble_eq_true rfl, Nat.le_of_ble_eq_true rfl⟩ (fun v2 Φ3 sz2 st2 hp2 hs2 => ?_)
  obtain ⟨rfl, hq2, fr2⟩ := hp2
  replace hq2 : sz2 = sz := hq2
  subst sz2
  replace hs2 : st2 = [.int 0] := hs2
  subst st2
  refine z_if_eq (tgt := 34) B dX12_counter_27 rfl (fun c_2 => ?_) (fun h9 => absurd (by decide) h9)
  refine z_aload_n B dX12_counter_34 rfl 0 rfl ?_
  have h_3 : Φ3 y = some (o_ 14 [.int 0, .ref (y + 1), .ref (y + 2), .int 0, .int 1, .int 1, .int 0, .int 0, .ref (y + 3), .ref (y + 4), .int 0, .long 0, .ref (y + 5), .int 0, .int 0, .long 0, .long 0, .long 0, .long 0, .ref (y + 6), .ref (y + 7), .int 0, .ref (y + 8), .int 0, .ref (y + 9), .ref (y + 10), .int 0, .ref (y + 11), .ref (y + 12), .ref (y + 13), .ref (y + 14), .ref (y + 15), .ref (y + 16), .int 0, .long (-1), .ref (y + 17), .ref (y + 18), .ref (y + 19), .ref (y + 20), .ref (y + 21), .ref (y + 22), .int 0, .ref (y + 23), .ref (y + 24), .int 0, .ref (y + 25), .int 0, .int 0, .int 0, .int (-1), .int 0, .int 0, .int 0, .long 0]) := ((fr2 y).trans h_2)
  refine z_get (ref := "FlowExporterModel") (C := RX12) (T := TX12) (N := 54) (ci := 14) (v := .ref (y + 11)) B (by decide +kernel) rfl 27 (by decide) (by decide +kernel) rfl h_3 rfl dX12_counter_35 ?_
  refine z_iload_n B dX12_counter_38 rfl 1 rfl ?_
  have h_4 : Φ3 (y + 11) = some (al_ G 9 (vp_updL (vp_updL (vp_updL (vp_updL (vp_updL (vp_updL (vp_updL (vp_updL (vp_updL (fun _ => 0) (0 : Int32).toNatClampNeg 0) (1 : Int32).toNatClampNeg 0) (2 : Int32).toNatClampNeg 0) (3 : Int32).toNatClampNeg 0) (4 : Int32).toNatClampNeg 0) (5 : Int32).toNatClampNeg 0) (6 : Int32).toNatClampNeg 0) (7 : Int32).toNatClampNeg 0) (8 : Int32).toNatClampNeg 0)) := ((fr2 (y + 11)).trans ((fr1 (y + 11)).trans ((fset_fr hΦ1 (ne_off (x := y) (i := 11) (j := 0) rfl)).trans hc11_)))
  refine z_lald B h_4 hv dX12_counter_39 ?_
  refine z_top (st1 := [.long 0]) (congrArg (fun w9 : Int64 => ([.long w9] : List Value)) (by simp [vp_updL])) ?_
  exact z_ret_l B dX12_counter_40 ⟨rfl, ⟨_, h_3, rfl⟩, fun b9 h9 => ((fr2 b9).trans ((fr1 b9).trans ((fset_fr hΦ1 (Nat.ne_of_gt (Nat.lt_of_lt_of_le (lt_off (x := y) (i := 0) (j := 26) rfl) h9))).trans rfl)))⟩

set_option maxHeartbeats 4000000 in
set_option maxRecDepth 100000 in
theorem m_X12_templateAge_0 (G : EnvG) (l : Launch) (Φ : Hm) (sz : Nat) (y : Nat) (hc0_ : Φ y = some (o_ 14 [.int 0, .ref (y + 1), .ref (y + 2), .int 0, .int 1, .int 1, .int 0, .int 0, .ref (y + 3), .ref (y + 4), .int 0, .long 0, .ref (y + 5), .int 0, .int 0, .long 0, .long 0, .long 0, .long 0, .ref (y + 6), .ref (y + 7), .int 0, .ref (y + 8), .int 0, .ref (y + 9), .ref (y + 10), .int 0, .ref (y + 11), .ref (y + 12), .ref (y + 13), .ref (y + 14), .ref (y + 15), .ref (y + 16), .int 0, .long (-1), .ref (y + 17), .ref (y + 18), .ref (y + 19), .ref (y + 20), .ref (y + 21), .ref (y + 22), .int 0, .ref (y + 23), .ref (y + 24), .int 0, .ref (y + 25), .int 0, .int 0, .int 0, .int (-1), .int 0, .int 0, .int 0, .long 0])) (hc12_ : Φ (y + 12) = some (ai_ G 4 (upd (upd (upd (upd (fun _ => 0) (0 : Int32).toNatClampNeg 0) (1 : Int32).toNatClampNeg 0) (2 : Int32).toNatClampNeg 0) (3 : Int32).toNatClampNeg 0))) (hna : G.2.2.2 ≤ y) : Ct G l yX12_templateAge wsX12_templateAge ({ frames := 1, cells := 0, slots := 0, locals := 25 }) 0 0 [.ref y, .int 0] Φ sz (fun v Φ1 sz1 => v = some (.int (-1)) ∧ (∃ fs : List Value, Φ1 y = some (o_ 14 fs) ∧ fs[0]? = some (.int 0)) ∧ ∀ b9 : Nat, y + 26 ≤ b9 → Φ1 b9 = Φ b9) := by
  refine Ct.of (cc := cX12_templateAge) (maxL := 2) (ret := (some .int)) (by decide) rfl (Nat.le_of_ble_eq_true rfl) ?_
  intro p9 e9 s9 m9 w9 t9 k9 B
  show Z p9 l e9 _ s9 m9 _ w9 t9 k9 _ G 2 0 [(0, .ref y), (1, .int 0)] [] Φ sz 0 0
  refine z_aload_n B dX12_templateAge_0 rfl 0 rfl ?_
  refine z_iconst (v := 0) B dX12_templateAge_1 rfl ?_
  refine z_put (ref := "FlowExporterModel") (C := RX12) (T := TX12) (N := 54) (ci := 14) (v := .int 0) B (by decide +kernel) tyX12 tyX12_ok nmX12 rfl 0 (by decide) (by decide +kernel) rfl (Or.inl rfl) hc0_ hna rfl rfl (Nat.le_of_ble_eq_true rfl) dX12_templateAge_2 (fun Φ1 hΦ1 => ?_)
  have h_1 : Φ1 y = some (o_ 14 [.int 0, .ref (y + 1), .ref (y + 2), .int 0, .int 1, .int 1, .int 0, .int 0, .ref (y + 3), .ref (y + 4), .int 0, .long 0, .ref (y + 5), .int 0, .int 0, .long 0, .long 0, .long 0, .long 0, .ref (y + 6), .ref (y + 7), .int 0, .ref (y + 8), .int 0, .ref (y + 9), .ref (y + 10), .int 0, .ref (y + 11), .ref (y + 12), .ref (y + 13), .ref (y + 14), .ref (y + 15), .ref (y + 16), .int 0, .long (-1), .ref (y + 17), .ref (y + 18), .ref (y + 19), .ref (y + 20), .ref (y + 21), .ref (y + 22), .int 0, .ref (y + 23), .ref (y + 24), .int 0, .ref (y + 25), .int 0, .int 0, .int 0, .int (-1), .int 0, .int 0, .int 0, .long 0]) := fset_at hΦ1
  refine z_aload_n B dX12_templateAge_5 rfl 0 rfl ?_
  refine z_iload_n B dX12_templateAge_6 rfl 1 rfl ?_
  refine z_i2l (v := 0) B dX12_templateAge_7 (by decide +kernel) ?_
  refine z_lconst (v := 0) B dX12_templateAge_8 rfl ?_
  refine z_ldc2 (v := 3) B (by decide +kernel) dX12_templateAge_9 ?_
  refine z_callS (As := [.long 0, .long 0, .long 3]) (rest := [.ref y]) B (c_X12_inRange_1 G l Φ1 sz 0 0 3 ⟨by decide +kernel, by decide +kernel⟩) (va_cwS 3 B.1.2.2.2.2 gX12_templateAge_X12_inRange rfl rfl rfl (by decide +kernel) ⟨Nat.le_of_ble_eq_true rfl, Nat.le_of_ble_eq_true rfl⟩) rfl rfl (Nat.le_of_ble_eq_true rfl) dX12_templateAge_12 ⟨Nat.le_of_ble_eq_true rfl, Nat.le_of_ble_eq_true rfl⟩ (fun v1 Φ2 sz1 st1 hp1 hs1 => ?_)
  obtain ⟨rfl, hq1, fr1⟩ := hp1
  replace hq1 : sz1 = sz := hq1
  subst sz1
  replace hs1 : st1 = [.int 1, .ref y] := hs1
  subst st1
  refine z_if_ne (tgt := 22) B dX12_templateAge_15 rfl (fun c_1 => ?_) (fun h9 => absurd h9 (by decide))
  refine z_iconst (v := 0) B dX12_templateAge_22 rfl ?_
  refine z_iconst (v := 1) B dX12_templateAge_23 rfl ?_
  have h_2 : Φ2 y = some (o_ 14 [.int 0, .ref (y + 1), .ref (y + 2), .int 0, .int 1, .int 1, .int 0, .int 0, .ref (y + 3), .ref (y + 4), .int 0, .long 0, .ref (y + 5), .int 0, .int 0, .long 0, .long 0, .long 0, .long 0, .ref (y + 6), .ref (y + 7), .int 0, .ref (y + 8), .int 0, .ref (y + 9), .ref (y + 10), .int 0, .ref (y + 11), .ref (y + 12), .ref (y + 13), .ref (y + 14), .ref (y + 15), .ref (y + 16), .int 0, .long (-1), .ref (y + 17), .ref (y + 18), .ref (y + 19), .ref (y + 20), .ref (y + 21), .ref (y + 22), .int 0, .ref (y + 23), .ref (y + 24), .int 0, .ref (y + 25), .int 0, .int 0, .int 0, .int (-1), .int 0, .int 0, .int 0, .long 0]) := ((fr1 y).trans h_1)
  refine z_callV (As := [.int 0, .int 1]) (rest := []) B (c_X12_throwsIf_0 G l Φ2 sz y 0 0 1 1 0 0 0 0 0 0 0 0 0 0 0 0 0 0 (-1) 0 0 0 0 0 (-1) 0 0 0 0 1 h_2 hna) (cwV 2 B.1.2.2.2.2 gX12_templateAge_X12_throwsIf rfl rfl rfl (by decide +kernel) ⟨Nat.le_of_ble_eq_true rfl, Nat.le_of_ble_eq_true rfl⟩) h_2 rfl rfl rfl rfl (Nat.le_of_ble_eq_true rfl) dX12_templateAge_24 ⟨Nat.le_of_ble_eq_true rfl, Nat.le_of_ble_eq_true rfl⟩ (fun v2 Φ3 sz2 st2 hp2 hs2 => ?_)
  obtain ⟨rfl, hq2, fr2⟩ := hp2
  replace hq2 : sz2 = sz := hq2
  subst sz2
  replace hs2 : st2 = [.int 0] := hs2
  subst st2
  refine z_if_eq (tgt := 32) B dX12_templateAge_27 rfl (fun c_2 => ?_) (fun h9 => absurd (by decide) h9)
  refine z_aload_n B dX12_templateAge_32 rfl 0 rfl ?_
  have h_3 : Φ3 y = some (o_ 14 [.int 0, .ref (y + 1), .ref (y + 2), .int 0, .int 1, .int 1, .int 0, .int 0, .ref (y + 3), .ref (y + 4), .int 0, .long 0, .ref (y + 5), .int 0, .int 0, .long 0, .long 0, .long 0, .long 0, .ref (y + 6), .ref (y + 7), .int 0, .ref (y + 8), .int 0, .ref (y + 9), .ref (y + 10), .int 0, .ref (y + 11), .ref (y + 12), .ref (y + 13), .ref (y + 14), .ref (y + 15), .ref (y + 16), .int 0, .long (-1), .ref (y + 17), .ref (y + 18), .ref (y + 19), .ref (y + 20), .ref (y + 21), .ref (y + 22), .int 0, .ref (y + 23), .ref (y + 24), .int 0, .ref (y + 25), .int 0, .int 0, .int 0, .int (-1), .int 0, .int 0, .int 0, .long 0]) := ((fr2 y).trans h_2)
  refine z_get (ref := "FlowExporterModel") (C := RX12) (T := TX12) (N := 54) (ci := 14) (v := .ref (y + 12)) B (by decide +kernel) rfl 28 (by decide) (by decide +kernel) rfl h_3 rfl dX12_templateAge_33 ?_
  refine z_iload_n B dX12_templateAge_36 rfl 1 rfl ?_
  have h_4 : Φ3 (y + 12) = some (ai_ G 4 (upd (upd (upd (upd (fun _ => 0) (0 : Int32).toNatClampNeg 0) (1 : Int32).toNatClampNeg 0) (2 : Int32).toNatClampNeg 0) (3 : Int32).toNatClampNeg 0)) := ((fr2 (y + 12)).trans ((fr1 (y + 12)).trans ((fset_fr hΦ1 (ne_off (x := y) (i := 12) (j := 0) rfl)).trans hc12_)))
  refine z_iald B h_4 (vin rfl) dX12_templateAge_37 ?_
  refine z_top (st1 := [.int 0]) (by rfl) ?_
  refine z_if_le (tgt := 55) B dX12_templateAge_38 rfl (fun c_3 => ?_) (fun h9 => absurd (by decide) h9)
  refine z_iconst (v := (-1)) B dX12_templateAge_55 rfl ?_
  exact z_ret_i B dX12_templateAge_56 ⟨rfl, ⟨_, h_3, rfl⟩, fun b9 h9 => ((fr2 b9).trans ((fr1 b9).trans ((fset_fr hΦ1 (Nat.ne_of_gt (Nat.lt_of_lt_of_le (lt_off (x := y) (i := 0) (j := 26) rfl) h9))).trans rfl)))⟩

set_option maxHeartbeats 4000000 in
set_option maxRecDepth 100000 in
theorem m_X12_templateAge_1 (G : EnvG) (l : Launch) (Φ : Hm) (sz : Nat) (y : Nat) (hc0_ : Φ y = some (o_ 14 [.int 0, .ref (y + 1), .ref (y + 2), .int 0, .int 1, .int 1, .int 0, .int 0, .ref (y + 3), .ref (y + 4), .int 0, .long 0, .ref (y + 5), .int 0, .int 0, .long 0, .long 0, .long 0, .long 0, .ref (y + 6), .ref (y + 7), .int 0, .ref (y + 8), .int 0, .ref (y + 9), .ref (y + 10), .int 0, .ref (y + 11), .ref (y + 12), .ref (y + 13), .ref (y + 14), .ref (y + 15), .ref (y + 16), .int 0, .long (-1), .ref (y + 17), .ref (y + 18), .ref (y + 19), .ref (y + 20), .ref (y + 21), .ref (y + 22), .int 0, .ref (y + 23), .ref (y + 24), .int 0, .ref (y + 25), .int 0, .int 0, .int 0, .int (-1), .int 0, .int 0, .int 0, .long 0])) (hc12_ : Φ (y + 12) = some (ai_ G 4 (upd (upd (upd (upd (fun _ => 0) (0 : Int32).toNatClampNeg 0) (1 : Int32).toNatClampNeg 0) (2 : Int32).toNatClampNeg 0) (3 : Int32).toNatClampNeg 0))) (hna : G.2.2.2 ≤ y) : Ct G l yX12_templateAge wsX12_templateAge ({ frames := 1, cells := 0, slots := 0, locals := 25 }) 0 0 [.ref y, .int 1] Φ sz (fun v Φ1 sz1 => v = some (.int (-1)) ∧ (∃ fs : List Value, Φ1 y = some (o_ 14 fs) ∧ fs[0]? = some (.int 0)) ∧ ∀ b9 : Nat, y + 26 ≤ b9 → Φ1 b9 = Φ b9) := by
  refine Ct.of (cc := cX12_templateAge) (maxL := 2) (ret := (some .int)) (by decide) rfl (Nat.le_of_ble_eq_true rfl) ?_
  intro p9 e9 s9 m9 w9 t9 k9 B
  show Z p9 l e9 _ s9 m9 _ w9 t9 k9 _ G 2 0 [(0, .ref y), (1, .int 1)] [] Φ sz 0 0
  refine z_aload_n B dX12_templateAge_0 rfl 0 rfl ?_
  refine z_iconst (v := 0) B dX12_templateAge_1 rfl ?_
  refine z_put (ref := "FlowExporterModel") (C := RX12) (T := TX12) (N := 54) (ci := 14) (v := .int 0) B (by decide +kernel) tyX12 tyX12_ok nmX12 rfl 0 (by decide) (by decide +kernel) rfl (Or.inl rfl) hc0_ hna rfl rfl (Nat.le_of_ble_eq_true rfl) dX12_templateAge_2 (fun Φ1 hΦ1 => ?_)
  have h_1 : Φ1 y = some (o_ 14 [.int 0, .ref (y + 1), .ref (y + 2), .int 0, .int 1, .int 1, .int 0, .int 0, .ref (y + 3), .ref (y + 4), .int 0, .long 0, .ref (y + 5), .int 0, .int 0, .long 0, .long 0, .long 0, .long 0, .ref (y + 6), .ref (y + 7), .int 0, .ref (y + 8), .int 0, .ref (y + 9), .ref (y + 10), .int 0, .ref (y + 11), .ref (y + 12), .ref (y + 13), .ref (y + 14), .ref (y + 15), .ref (y + 16), .int 0, .long (-1), .ref (y + 17), .ref (y + 18), .ref (y + 19), .ref (y + 20), .ref (y + 21), .ref (y + 22), .int 0, .ref (y + 23), .ref (y + 24), .int 0, .ref (y + 25), .int 0, .int 0, .int 0, .int (-1), .int 0, .int 0, .int 0, .long 0]) := fset_at hΦ1
  refine z_aload_n B dX12_templateAge_5 rfl 0 rfl ?_
  refine z_iload_n B dX12_templateAge_6 rfl 1 rfl ?_
  refine z_i2l (v := 1) B dX12_templateAge_7 (by decide +kernel) ?_
  refine z_lconst (v := 0) B dX12_templateAge_8 rfl ?_
  refine z_ldc2 (v := 3) B (by decide +kernel) dX12_templateAge_9 ?_
  refine z_callS (As := [.long 1, .long 0, .long 3]) (rest := [.ref y]) B (c_X12_inRange_1 G l Φ1 sz 1 0 3 ⟨by decide +kernel, by decide +kernel⟩) (va_cwS 3 B.1.2.2.2.2 gX12_templateAge_X12_inRange rfl rfl rfl (by decide +kernel) ⟨Nat.le_of_ble_eq_true rfl, Nat.le_of_ble_eq_true rfl⟩) rfl rfl (Nat.le_of_ble_eq_true rfl) dX12_templateAge_12 ⟨Nat.le_of_ble_eq_true rfl, Nat.le_of_ble_eq_true rfl⟩ (fun v1 Φ2 sz1 st1 hp1 hs1 => ?_)
  obtain ⟨rfl, hq1, fr1⟩ := hp1
  replace hq1 : sz1 = sz := hq1
  subst sz1
  replace hs1 : st1 = [.int 1, .ref y] := hs1
  subst st1
  refine z_if_ne (tgt := 22) B dX12_templateAge_15 rfl (fun c_1 => ?_) (fun h9 => absurd h9 (by decide))
  refine z_iconst (v := 0) B dX12_templateAge_22 rfl ?_
  refine z_iconst (v := 1) B dX12_templateAge_23 rfl ?_
  have h_2 : Φ2 y = some (o_ 14 [.int 0, .ref (y + 1), .ref (y + 2), .int 0, .int 1, .int 1, .int 0, .int 0, .ref (y + 3), .ref (y + 4), .int 0, .long 0, .ref (y + 5), .int 0, .int 0, .long 0, .long 0, .long 0, .long 0, .ref (y + 6), .ref (y + 7), .int 0, .ref (y + 8), .int 0, .ref (y + 9), .ref (y + 10), .int 0, .ref (y + 11), .ref (y + 12), .ref (y + 13), .ref (y + 14), .ref (y + 15), .ref (y + 16), .int 0, .long (-1), .ref (y + 17), .ref (y + 18), .ref (y + 19), .ref (y + 20), .ref (y + 21), .ref (y + 22), .int 0, .ref (y + 23), .ref (y + 24), .int 0, .ref (y + 25), .int 0, .int 0, .int 0, .int (-1), .int 0, .int 0, .int 0, .long 0]) := ((fr1 y).trans h_1)
  refine z_callV (As := [.int 0, .int 1]) (rest := []) B (c_X12_throwsIf_0 G l Φ2 sz y 0 0 1 1 0 0 0 0 0 0 0 0 0 0 0 0 0 0 (-1) 0 0 0 0 0 (-1) 0 0 0 0 1 h_2 hna) (cwV 2 B.1.2.2.2.2 gX12_templateAge_X12_throwsIf rfl rfl rfl (by decide +kernel) ⟨Nat.le_of_ble_eq_true rfl, Nat.le_of_ble_eq_true rfl⟩) h_2 rfl rfl rfl rfl (Nat.le_of_ble_eq_true rfl) dX12_templateAge_24 ⟨Nat.le_of_ble_eq_true rfl, Nat.le_of_ble_eq_true rfl⟩ (fun v2 Φ3 sz2 st2 hp2 hs2 => ?_)
  obtain ⟨rfl, hq2, fr2⟩ := hp2
  replace hq2 : sz2 = sz := hq2
  subst sz2
  replace hs2 : st2 = [.int 0] := hs2
  subst st2
  refine z_if_eq (tgt := 32) B dX12_templateAge_27 rfl (fun c_2 => ?_) (fun h9 => absurd (by decide) h9)
  refine z_aload_n B dX12_templateAge_32 rfl 0 rfl ?_
  have h_3 : Φ3 y = some (o_ 14 [.int 0, .ref (y + 1), .ref (y + 2), .int 0, .int 1, .int 1, .int 0, .int 0, .ref (y + 3), .ref (y + 4), .int 0, .long 0, .ref (y + 5), .int 0, .int 0, .long 0, .long 0, .long 0, .long 0, .ref (y + 6), .ref (y + 7), .int 0, .ref (y + 8), .int 0, .ref (y + 9), .ref (y + 10), .int 0, .ref (y + 11), .ref (y + 12), .ref (y + 13), .ref (y + 14), .ref (y + 15), .ref (y + 16), .int 0, .long (-1), .ref (y + 17), .ref (y + 18), .ref (y + 19), .ref (y + 20), .ref (y + 21), .ref (y + 22), .int 0, .ref (y + 23), .ref (y + 24), .int 0, .ref (y + 25), .int 0, .int 0, .int 0, .int (-1), .int 0, .int 0, .int 0, .long 0]) := ((fr2 y).trans h_2)
  refine z_get (ref := "FlowExporterModel") (C := RX12) (T := TX12) (N := 54) (ci := 14) (v := .ref (y + 12)) B (by decide +kernel) rfl 28 (by decide) (by decide +kernel) rfl h_3 rfl dX12_templateAge_33 ?_
  refine z_iload_n B dX12_templateAge_36 rfl 1 rfl ?_
  have h_4 : Φ3 (y + 12) = some (ai_ G 4 (upd (upd (upd (upd (fun _ => 0) (0 : Int32).toNatClampNeg 0) (1 : Int32).toNatClampNeg 0) (2 : Int32).toNatClampNeg 0) (3 : Int32).toNatClampNeg 0)) := ((fr2 (y + 12)).trans ((fr1 (y + 12)).trans ((fset_fr hΦ1 (ne_off (x := y) (i := 12) (j := 0) rfl)).trans hc12_)))
  refine z_iald B h_4 (vin rfl) dX12_templateAge_37 ?_
  refine z_top (st1 := [.int 0]) (by rfl) ?_
  refine z_if_le (tgt := 55) B dX12_templateAge_38 rfl (fun c_3 => ?_) (fun h9 => absurd (by decide) h9)
  refine z_iconst (v := (-1)) B dX12_templateAge_55 rfl ?_
  exact z_ret_i B dX12_templateAge_56 ⟨rfl, ⟨_, h_3, rfl⟩, fun b9 h9 => ((fr2 b9).trans ((fr1 b9).trans ((fset_fr hΦ1 (Nat.ne_of_gt (Nat.lt_of_lt_of_le (lt_off (x := y) (i := 0) (j := 26) rfl) h9))).trans rfl)))⟩

set_option maxHeartbeats 4000000 in
set_option maxRecDepth 100000 in
theorem m_X12_templateAge_2 (G : EnvG) (l : Launch) (Φ : Hm) (sz : Nat) (y : Nat) (hc0_ : Φ y = some (o_ 14 [.int 0, .ref (y + 1), .ref (y + 2), .int 0, .int 1, .int 1, .int 0, .int 0, .ref (y + 3), .ref (y + 4), .int 0, .long 0, .ref (y + 5), .int 0, .int 0, .long 0, .long 0, .long 0, .long 0, .ref (y + 6), .ref (y + 7), .int 0, .ref (y + 8), .int 0, .ref (y + 9), .ref (y + 10), .int 0, .ref (y + 11), .ref (y + 12), .ref (y + 13), .ref (y + 14), .ref (y + 15), .ref (y + 16), .int 0, .long (-1), .ref (y + 17), .ref (y + 18), .ref (y + 19), .ref (y + 20), .ref (y + 21), .ref (y + 22), .int 0, .ref (y + 23), .ref (y + 24), .int 0, .ref (y + 25), .int 0, .int 0, .int 0, .int (-1), .int 0, .int 0, .int 0, .long 0])) (hc12_ : Φ (y + 12) = some (ai_ G 4 (upd (upd (upd (upd (fun _ => 0) (0 : Int32).toNatClampNeg 0) (1 : Int32).toNatClampNeg 0) (2 : Int32).toNatClampNeg 0) (3 : Int32).toNatClampNeg 0))) (hna : G.2.2.2 ≤ y) : Ct G l yX12_templateAge wsX12_templateAge ({ frames := 1, cells := 0, slots := 0, locals := 25 }) 0 0 [.ref y, .int 2] Φ sz (fun v Φ1 sz1 => v = some (.int (-1)) ∧ (∃ fs : List Value, Φ1 y = some (o_ 14 fs) ∧ fs[0]? = some (.int 0)) ∧ ∀ b9 : Nat, y + 26 ≤ b9 → Φ1 b9 = Φ b9) := by
  refine Ct.of (cc := cX12_templateAge) (maxL := 2) (ret := (some .int)) (by decide) rfl (Nat.le_of_ble_eq_true rfl) ?_
  intro p9 e9 s9 m9 w9 t9 k9 B
  show Z p9 l e9 _ s9 m9 _ w9 t9 k9 _ G 2 0 [(0, .ref y), (1, .int 2)] [] Φ sz 0 0
  refine z_aload_n B dX12_templateAge_0 rfl 0 rfl ?_
  refine z_iconst (v := 0) B dX12_templateAge_1 rfl ?_
  refine z_put (ref := "FlowExporterModel") (C := RX12) (T := TX12) (N := 54) (ci := 14) (v := .int 0) B (by decide +kernel) tyX12 tyX12_ok nmX12 rfl 0 (by decide) (by decide +kernel) rfl (Or.inl rfl) hc0_ hna rfl rfl (Nat.le_of_ble_eq_true rfl) dX12_templateAge_2 (fun Φ1 hΦ1 => ?_)
  have h_1 : Φ1 y = some (o_ 14 [.int 0, .ref (y + 1), .ref (y + 2), .int 0, .int 1, .int 1, .int 0, .int 0, .ref (y + 3), .ref (y + 4), .int 0, .long 0, .ref (y + 5), .int 0, .int 0, .long 0, .long 0, .long 0, .long 0, .ref (y + 6), .ref (y + 7), .int 0, .ref (y + 8), .int 0, .ref (y + 9), .ref (y + 10), .int 0, .ref (y + 11), .ref (y + 12), .ref (y + 13), .ref (y + 14), .ref (y + 15), .ref (y + 16), .int 0, .long (-1), .ref (y + 17), .ref (y + 18), .ref (y + 19), .ref (y + 20), .ref (y + 21), .ref (y + 22), .int 0, .ref (y + 23), .ref (y + 24), .int 0, .ref (y + 25), .int 0, .int 0, .int 0, .int (-1), .int 0, .int 0, .int 0, .long 0]) := fset_at hΦ1
  refine z_aload_n B dX12_templateAge_5 rfl 0 rfl ?_
  refine z_iload_n B dX12_templateAge_6 rfl 1 rfl ?_
  refine z_i2l (v := 2) B dX12_templateAge_7 (by decide +kernel) ?_
  refine z_lconst (v := 0) B dX12_templateAge_8 rfl ?_
  refine z_ldc2 (v := 3) B (by decide +kernel) dX12_templateAge_9 ?_
  refine z_callS (As := [.long 2, .long 0, .long 3]) (rest := [.ref y]) B (c_X12_inRange_1 G l Φ1 sz 2 0 3 ⟨by decide +kernel, by decide +kernel⟩) (va_cwS 3 B.1.2.2.2.2 gX12_templateAge_X12_inRange rfl rfl rfl (by decide +kernel) ⟨Nat.le_of_ble_eq_true rfl, Nat.le_of_ble_eq_true rfl⟩) rfl rfl (Nat.le_of_ble_eq_true rfl) dX12_templateAge_12 ⟨Nat.le_of_ble_eq_true rfl, Nat.le_of_ble_eq_true rfl⟩ (fun v1 Φ2 sz1 st1 hp1 hs1 => ?_)
  obtain ⟨rfl, hq1, fr1⟩ := hp1
  replace hq1 : sz1 = sz := hq1
  subst sz1
  replace hs1 : st1 = [.int 1, .ref y] := hs1
  subst st1
  refine z_if_ne (tgt := 22) B dX12_templateAge_15 rfl (fun c_1 => ?_) (fun h9 => absurd h9 (by decide))
  refine z_iconst (v := 0) B dX12_templateAge_22 rfl ?_
  refine z_iconst (v := 1) B dX12_templateAge_23 rfl ?_
  have h_2 : Φ2 y = some (o_ 14 [.int 0, .ref (y + 1), .ref (y + 2), .int 0, .int 1, .int 1, .int 0, .int 0, .ref (y + 3), .ref (y + 4), .int 0, .long 0, .ref (y + 5), .int 0, .int 0, .long 0, .long 0, .long 0, .long 0, .ref (y + 6), .ref (y + 7), .int 0, .ref (y + 8), .int 0, .ref (y + 9), .ref (y + 10), .int 0, .ref (y + 11), .ref (y + 12), .ref (y + 13), .ref (y + 14), .ref (y + 15), .ref (y + 16), .int 0, .long (-1), .ref (y + 17), .ref (y + 18), .ref (y + 19), .ref (y + 20), .ref (y + 21), .ref (y + 22), .int 0, .ref (y + 23), .ref (y + 24), .int 0, .ref (y + 25), .int 0, .int 0, .int 0, .int (-1), .int 0, .int 0, .int 0, .long 0]) := ((fr1 y).trans h_1)
  refine z_callV (As := [.int 0, .int 1]) (rest := []) B (c_X12_throwsIf_0 G l Φ2 sz y 0 0 1 1 0 0 0 0 0 0 0 0 0 0 0 0 0 0 (-1) 0 0 0 0 0 (-1) 0 0 0 0 1 h_2 hna) (cwV 2 B.1.2.2.2.2 gX12_templateAge_X12_throwsIf rfl rfl rfl (by decide +kernel) ⟨Nat.le_of_ble_eq_true rfl, Nat.le_of_ble_eq_true rfl⟩) h_2 rfl rfl rfl rfl (Nat.le_of_ble_eq_true rfl) dX12_templateAge_24 ⟨Nat.le_of_ble_eq_true rfl, Nat.le_of_ble_eq_true rfl⟩ (fun v2 Φ3 sz2 st2 hp2 hs2 => ?_)
  obtain ⟨rfl, hq2, fr2⟩ := hp2
  replace hq2 : sz2 = sz := hq2
  subst sz2
  replace hs2 : st2 = [.int 0] := hs2
  subst st2
  refine z_if_eq (tgt := 32) B dX12_templateAge_27 rfl (fun c_2 => ?_) (fun h9 => absurd (by decide) h9)
  refine z_aload_n B dX12_templateAge_32 rfl 0 rfl ?_
  have h_3 : Φ3 y = some (o_ 14 [.int 0, .ref (y + 1), .ref (y + 2), .int 0, .int 1, .int 1, .int 0, .int 0, .ref (y + 3), .ref (y + 4), .int 0, .long 0, .ref (y + 5), .int 0, .int 0, .long 0, .long 0, .long 0, .long 0, .ref (y + 6), .ref (y + 7), .int 0, .ref (y + 8), .int 0, .ref (y + 9), .ref (y + 10), .int 0, .ref (y + 11), .ref (y + 12), .ref (y + 13), .ref (y + 14), .ref (y + 15), .ref (y + 16), .int 0, .long (-1), .ref (y + 17), .ref (y + 18), .ref (y + 19), .ref (y + 20), .ref (y + 21), .ref (y + 22), .int 0, .ref (y + 23), .ref (y + 24), .int 0, .ref (y + 25), .int 0, .int 0, .int 0, .int (-1), .int 0, .int 0, .int 0, .long 0]) := ((fr2 y).trans h_2)
  refine z_get (ref := "FlowExporterModel") (C := RX12) (T := TX12) (N := 54) (ci := 14) (v := .ref (y + 12)) B (by decide +kernel) rfl 28 (by decide) (by decide +kernel) rfl h_3 rfl dX12_templateAge_33 ?_
  refine z_iload_n B dX12_templateAge_36 rfl 1 rfl ?_
  have h_4 : Φ3 (y + 12) = some (ai_ G 4 (upd (upd (upd (upd (fun _ => 0) (0 : Int32).toNatClampNeg 0) (1 : Int32).toNatClampNeg 0) (2 : Int32).toNatClampNeg 0) (3 : Int32).toNatClampNeg 0)) := ((fr2 (y + 12)).trans ((fr1 (y + 12)).trans ((fset_fr hΦ1 (ne_off (x := y) (i := 12) (j := 0) rfl)).trans hc12_)))
  refine z_iald B h_4 (vin rfl) dX12_templateAge_37 ?_
  refine z_top (st1 := [.int 0]) (by rfl) ?_
  refine z_if_le (tgt := 55) B dX12_templateAge_38 rfl (fun c_3 => ?_) (fun h9 => absurd (by decide) h9)
  refine z_iconst (v := (-1)) B dX12_templateAge_55 rfl ?_
  exact z_ret_i B dX12_templateAge_56 ⟨rfl, ⟨_, h_3, rfl⟩, fun b9 h9 => ((fr2 b9).trans ((fr1 b9).trans ((fset_fr hΦ1 (Nat.ne_of_gt (Nat.lt_of_lt_of_le (lt_off (x := y) (i := 0) (j := 26) rfl) h9))).trans rfl)))⟩

set_option maxHeartbeats 4000000 in
set_option maxRecDepth 100000 in
theorem m_X12_templateAge_3 (G : EnvG) (l : Launch) (Φ : Hm) (sz : Nat) (y : Nat) (hc0_ : Φ y = some (o_ 14 [.int 0, .ref (y + 1), .ref (y + 2), .int 0, .int 1, .int 1, .int 0, .int 0, .ref (y + 3), .ref (y + 4), .int 0, .long 0, .ref (y + 5), .int 0, .int 0, .long 0, .long 0, .long 0, .long 0, .ref (y + 6), .ref (y + 7), .int 0, .ref (y + 8), .int 0, .ref (y + 9), .ref (y + 10), .int 0, .ref (y + 11), .ref (y + 12), .ref (y + 13), .ref (y + 14), .ref (y + 15), .ref (y + 16), .int 0, .long (-1), .ref (y + 17), .ref (y + 18), .ref (y + 19), .ref (y + 20), .ref (y + 21), .ref (y + 22), .int 0, .ref (y + 23), .ref (y + 24), .int 0, .ref (y + 25), .int 0, .int 0, .int 0, .int (-1), .int 0, .int 0, .int 0, .long 0])) (hc12_ : Φ (y + 12) = some (ai_ G 4 (upd (upd (upd (upd (fun _ => 0) (0 : Int32).toNatClampNeg 0) (1 : Int32).toNatClampNeg 0) (2 : Int32).toNatClampNeg 0) (3 : Int32).toNatClampNeg 0))) (hna : G.2.2.2 ≤ y) : Ct G l yX12_templateAge wsX12_templateAge ({ frames := 1, cells := 0, slots := 0, locals := 25 }) 0 0 [.ref y, .int 3] Φ sz (fun v Φ1 sz1 => v = some (.int (-1)) ∧ (∃ fs : List Value, Φ1 y = some (o_ 14 fs) ∧ fs[0]? = some (.int 0)) ∧ ∀ b9 : Nat, y + 26 ≤ b9 → Φ1 b9 = Φ b9) := by
  refine Ct.of (cc := cX12_templateAge) (maxL := 2) (ret := (some .int)) (by decide) rfl (Nat.le_of_ble_eq_true rfl) ?_
  intro p9 e9 s9 m9 w9 t9 k9 B
  show Z p9 l e9 _ s9 m9 _ w9 t9 k9 _ G 2 0 [(0, .ref y), (1, .int 3)] [] Φ sz 0 0
  refine z_aload_n B dX12_templateAge_0 rfl 0 rfl ?_
  refine z_iconst (v := 0) B dX12_templateAge_1 rfl ?_
  refine z_put (ref := "FlowExporterModel") (C := RX12) (T := TX12) (N := 54) (ci := 14) (v := .int 0) B (by decide +kernel) tyX12 tyX12_ok nmX12 rfl 0 (by decide) (by decide +kernel) rfl (Or.inl rfl) hc0_ hna rfl rfl (Nat.le_of_ble_eq_true rfl) dX12_templateAge_2 (fun Φ1 hΦ1 => ?_)
  have h_1 : Φ1 y = some (o_ 14 [.int 0, .ref (y + 1), .ref (y + 2), .int 0, .int 1, .int 1, .int 0, .int 0, .ref (y + 3), .ref (y + 4), .int 0, .long 0, .ref (y + 5), .int 0, .int 0, .long 0, .long 0, .long 0, .long 0, .ref (y + 6), .ref (y + 7), .int 0, .ref (y + 8), .int 0, .ref (y + 9), .ref (y + 10), .int 0, .ref (y + 11), .ref (y + 12), .ref (y + 13), .ref (y + 14), .ref (y + 15), .ref (y + 16), .int 0, .long (-1), .ref (y + 17), .ref (y + 18), .ref (y + 19), .ref (y + 20), .ref (y + 21), .ref (y + 22), .int 0, .ref (y + 23), .ref (y + 24), .int 0, .ref (y + 25), .int 0, .int 0, .int 0, .int (-1), .int 0, .int 0, .int 0, .long 0]) := fset_at hΦ1
  refine z_aload_n B dX12_templateAge_5 rfl 0 rfl ?_
  refine z_iload_n B dX12_templateAge_6 rfl 1 rfl ?_
  refine z_i2l (v := 3) B dX12_templateAge_7 (by decide +kernel) ?_
  refine z_lconst (v := 0) B dX12_templateAge_8 rfl ?_
  refine z_ldc2 (v := 3) B (by decide +kernel) dX12_templateAge_9 ?_
  refine z_callS (As := [.long 3, .long 0, .long 3]) (rest := [.ref y]) B (c_X12_inRange_1 G l Φ1 sz 3 0 3 ⟨by decide +kernel, by decide +kernel⟩) (va_cwS 3 B.1.2.2.2.2 gX12_templateAge_X12_inRange rfl rfl rfl (by decide +kernel) ⟨Nat.le_of_ble_eq_true rfl, Nat.le_of_ble_eq_true rfl⟩) rfl rfl (Nat.le_of_ble_eq_true rfl) dX12_templateAge_12 ⟨Nat.le_of_ble_eq_true rfl, Nat.le_of_ble_eq_true rfl⟩ (fun v1 Φ2 sz1 st1 hp1 hs1 => ?_)
  obtain ⟨rfl, hq1, fr1⟩ := hp1
  replace hq1 : sz1 = sz := hq1
  subst sz1
  replace hs1 : st1 = [.int 1, .ref y] := hs1
  subst st1
  refine z_if_ne (tgt := 22) B dX12_templateAge_15 rfl (fun c_1 => ?_) (fun h9 => absurd h9 (by decide))
  refine z_iconst (v := 0) B dX12_templateAge_22 rfl ?_
  refine z_iconst (v := 1) B dX12_templateAge_23 rfl ?_
  have h_2 : Φ2 y = some (o_ 14 [.int 0, .ref (y + 1), .ref (y + 2), .int 0, .int 1, .int 1, .int 0, .int 0, .ref (y + 3), .ref (y + 4), .int 0, .long 0, .ref (y + 5), .int 0, .int 0, .long 0, .long 0, .long 0, .long 0, .ref (y + 6), .ref (y + 7), .int 0, .ref (y + 8), .int 0, .ref (y + 9), .ref (y + 10), .int 0, .ref (y + 11), .ref (y + 12), .ref (y + 13), .ref (y + 14), .ref (y + 15), .ref (y + 16), .int 0, .long (-1), .ref (y + 17), .ref (y + 18), .ref (y + 19), .ref (y + 20), .ref (y + 21), .ref (y + 22), .int 0, .ref (y + 23), .ref (y + 24), .int 0, .ref (y + 25), .int 0, .int 0, .int 0, .int (-1), .int 0, .int 0, .int 0, .long 0]) := ((fr1 y).trans h_1)
  refine z_callV (As := [.int 0, .int 1]) (rest := []) B (c_X12_throwsIf_0 G l Φ2 sz y 0 0 1 1 0 0 0 0 0 0 0 0 0 0 0 0 0 0 (-1) 0 0 0 0 0 (-1) 0 0 0 0 1 h_2 hna) (cwV 2 B.1.2.2.2.2 gX12_templateAge_X12_throwsIf rfl rfl rfl (by decide +kernel) ⟨Nat.le_of_ble_eq_true rfl, Nat.le_of_ble_eq_true rfl⟩) h_2 rfl rfl rfl rfl (Nat.le_of_ble_eq_true rfl) dX12_templateAge_24 ⟨Nat.le_of_ble_eq_true rfl, Nat.le_of_ble_eq_true rfl⟩ (fun v2 Φ3 sz2 st2 hp2 hs2 => ?_)
  obtain ⟨rfl, hq2, fr2⟩ := hp2
  replace hq2 : sz2 = sz := hq2
  subst sz2
  replace hs2 : st2 = [.int 0] := hs2
  subst st2
  refine z_if_eq (tgt := 32) B dX12_templateAge_27 rfl (fun c_2 => ?_) (fun h9 => absurd (by decide) h9)
  refine z_aload_n B dX12_templateAge_32 rfl 0 rfl ?_
  have h_3 : Φ3 y = some (o_ 14 [.int 0, .ref (y + 1), .ref (y + 2), .int 0, .int 1, .int 1, .int 0, .int 0, .ref (y + 3), .ref (y + 4), .int 0, .long 0, .ref (y + 5), .int 0, .int 0, .long 0, .long 0, .long 0, .long 0, .ref (y + 6), .ref (y + 7), .int 0, .ref (y + 8), .int 0, .ref (y + 9), .ref (y + 10), .int 0, .ref (y + 11), .ref (y + 12), .ref (y + 13), .ref (y + 14), .ref (y + 15), .ref (y + 16), .int 0, .long (-1), .ref (y + 17), .ref (y + 18), .ref (y + 19), .ref (y + 20), .ref (y + 21), .ref (y + 22), .int 0, .ref (y + 23), .ref (y + 24), .int 0, .ref (y + 25), .int 0, .int 0, .int 0, .int (-1), .int 0, .int 0, .int 0, .long 0]) := ((fr2 y).trans h_2)
  refine z_get (ref := "FlowExporterModel") (C := RX12) (T := TX12) (N := 54) (ci := 14) (v := .ref (y + 12)) B (by decide +kernel) rfl 28 (by decide) (by decide +kernel) rfl h_3 rfl dX12_templateAge_33 ?_
  refine z_iload_n B dX12_templateAge_36 rfl 1 rfl ?_
  have h_4 : Φ3 (y + 12) = some (ai_ G 4 (upd (upd (upd (upd (fun _ => 0) (0 : Int32).toNatClampNeg 0) (1 : Int32).toNatClampNeg 0) (2 : Int32).toNatClampNeg 0) (3 : Int32).toNatClampNeg 0)) := ((fr2 (y + 12)).trans ((fr1 (y + 12)).trans ((fset_fr hΦ1 (ne_off (x := y) (i := 12) (j := 0) rfl)).trans hc12_)))
  refine z_iald B h_4 (vin rfl) dX12_templateAge_37 ?_
  refine z_top (st1 := [.int 0]) (by rfl) ?_
  refine z_if_le (tgt := 55) B dX12_templateAge_38 rfl (fun c_3 => ?_) (fun h9 => absurd (by decide) h9)
  refine z_iconst (v := (-1)) B dX12_templateAge_55 rfl ?_
  exact z_ret_i B dX12_templateAge_56 ⟨rfl, ⟨_, h_3, rfl⟩, fun b9 h9 => ((fr2 b9).trans ((fr1 b9).trans ((fset_fr hΦ1 (Nat.ne_of_gt (Nat.lt_of_lt_of_le (lt_off (x := y) (i := 0) (j := 26) rfl) h9))).trans rfl)))⟩

set_option maxHeartbeats 4000000 in
set_option maxRecDepth 100000 in
theorem m_isKnown_0 (G : EnvG) (l : Launch) (Φ : Hm) (sz : Nat) (y : Nat) (hc0_ : Φ y = some (o_ 14 [.int 0, .ref (y + 1), .ref (y + 2), .int 0, .int 1, .int 1, .int 0, .int 0, .ref (y + 3), .ref (y + 4), .int 0, .long 0, .ref (y + 5), .int 0, .int 0, .long 0, .long 0, .long 0, .long 0, .ref (y + 6), .ref (y + 7), .int 0, .ref (y + 8), .int 0, .ref (y + 9), .ref (y + 10), .int 0, .ref (y + 11), .ref (y + 12), .ref (y + 13), .ref (y + 14), .ref (y + 15), .ref (y + 16), .int 0, .long (-1), .ref (y + 17), .ref (y + 18), .ref (y + 19), .ref (y + 20), .ref (y + 21), .ref (y + 22), .int 0, .ref (y + 23), .ref (y + 24), .int 0, .ref (y + 25), .int 0, .int 0, .int 0, .int (-1), .int 0, .int 0, .int 0, .long 0])) (hc12_ : Φ (y + 12) = some (ai_ G 4 (upd (upd (upd (upd (fun _ => 0) (0 : Int32).toNatClampNeg 0) (1 : Int32).toNatClampNeg 0) (2 : Int32).toNatClampNeg 0) (3 : Int32).toNatClampNeg 0))) : Ct G l yX12_isKnown wsX12_isKnown ({ frames := 0, cells := 0, slots := 0, locals := 0 }) 0 0 [.ref y, .int 0] Φ sz (fun v Φ1 sz1 => v = some (.int 0) ∧ sz1 = sz ∧ (∀ b9 : Nat, Φ1 b9 = Φ b9)) := by
  refine Ct.of (cc := cX12_isKnown) (maxL := 2) (ret := (some .boolean)) (by decide) rfl (Nat.le_of_ble_eq_true rfl) ?_
  intro p9 e9 s9 m9 w9 t9 k9 B
  show Z p9 l e9 _ s9 m9 _ w9 t9 k9 _ G 2 0 [(0, .ref y), (1, .int 0)] [] Φ sz 0 0
  refine z_aload_n B dX12_isKnown_0 rfl 0 rfl ?_
  refine z_get (ref := "FlowExporterModel") (C := RX12) (T := TX12) (N := 54) (ci := 14) (v := .ref (y + 12)) B (by decide +kernel) rfl 28 (by decide) (by decide +kernel) rfl hc0_ rfl dX12_isKnown_1 ?_
  refine z_iload_n B dX12_isKnown_4 rfl 1 rfl ?_
  refine z_iald B hc12_ (vin rfl) dX12_isKnown_5 ?_
  refine z_top (st1 := [.int 0]) (by rfl) ?_
  refine z_if_le (tgt := 34) B dX12_isKnown_6 rfl (fun c_1 => ?_) (fun h9 => absurd (by decide) h9)
  refine z_iconst (v := 0) B dX12_isKnown_34 rfl ?_
  exact z_ret_z B dX12_isKnown_35 (by decide) ⟨rfl, rfl, (fun b9 => rfl)⟩

set_option maxHeartbeats 4000000 in
set_option maxRecDepth 100000 in
theorem m_isKnown_1 (G : EnvG) (l : Launch) (Φ : Hm) (sz : Nat) (y : Nat) (hc0_ : Φ y = some (o_ 14 [.int 0, .ref (y + 1), .ref (y + 2), .int 0, .int 1, .int 1, .int 0, .int 0, .ref (y + 3), .ref (y + 4), .int 0, .long 0, .ref (y + 5), .int 0, .int 0, .long 0, .long 0, .long 0, .long 0, .ref (y + 6), .ref (y + 7), .int 0, .ref (y + 8), .int 0, .ref (y + 9), .ref (y + 10), .int 0, .ref (y + 11), .ref (y + 12), .ref (y + 13), .ref (y + 14), .ref (y + 15), .ref (y + 16), .int 0, .long (-1), .ref (y + 17), .ref (y + 18), .ref (y + 19), .ref (y + 20), .ref (y + 21), .ref (y + 22), .int 0, .ref (y + 23), .ref (y + 24), .int 0, .ref (y + 25), .int 0, .int 0, .int 0, .int (-1), .int 0, .int 0, .int 0, .long 0])) (hc12_ : Φ (y + 12) = some (ai_ G 4 (upd (upd (upd (upd (fun _ => 0) (0 : Int32).toNatClampNeg 0) (1 : Int32).toNatClampNeg 0) (2 : Int32).toNatClampNeg 0) (3 : Int32).toNatClampNeg 0))) : Ct G l yX12_isKnown wsX12_isKnown ({ frames := 0, cells := 0, slots := 0, locals := 0 }) 0 0 [.ref y, .int 1] Φ sz (fun v Φ1 sz1 => v = some (.int 0) ∧ sz1 = sz ∧ (∀ b9 : Nat, Φ1 b9 = Φ b9)) := by
  refine Ct.of (cc := cX12_isKnown) (maxL := 2) (ret := (some .boolean)) (by decide) rfl (Nat.le_of_ble_eq_true rfl) ?_
  intro p9 e9 s9 m9 w9 t9 k9 B
  show Z p9 l e9 _ s9 m9 _ w9 t9 k9 _ G 2 0 [(0, .ref y), (1, .int 1)] [] Φ sz 0 0
  refine z_aload_n B dX12_isKnown_0 rfl 0 rfl ?_
  refine z_get (ref := "FlowExporterModel") (C := RX12) (T := TX12) (N := 54) (ci := 14) (v := .ref (y + 12)) B (by decide +kernel) rfl 28 (by decide) (by decide +kernel) rfl hc0_ rfl dX12_isKnown_1 ?_
  refine z_iload_n B dX12_isKnown_4 rfl 1 rfl ?_
  refine z_iald B hc12_ (vin rfl) dX12_isKnown_5 ?_
  refine z_top (st1 := [.int 0]) (by rfl) ?_
  refine z_if_le (tgt := 34) B dX12_isKnown_6 rfl (fun c_1 => ?_) (fun h9 => absurd (by decide) h9)
  refine z_iconst (v := 0) B dX12_isKnown_34 rfl ?_
  exact z_ret_z B dX12_isKnown_35 (by decide) ⟨rfl, rfl, (fun b9 => rfl)⟩

set_option maxHeartbeats 4000000 in
set_option maxRecDepth 100000 in
theorem m_isKnown_2 (G : EnvG) (l : Launch) (Φ : Hm) (sz : Nat) (y : Nat) (hc0_ : Φ y = some (o_ 14 [.int 0, .ref (y + 1), .ref (y + 2), .int 0, .int 1, .int 1, .int 0, .int 0, .ref (y + 3), .ref (y + 4), .int 0, .long 0, .ref (y + 5), .int 0, .int 0, .long 0, .long 0, .long 0, .long 0, .ref (y + 6), .ref (y + 7), .int 0, .ref (y + 8), .int 0, .ref (y + 9), .ref (y + 10), .int 0, .ref (y + 11), .ref (y + 12), .ref (y + 13), .ref (y + 14), .ref (y + 15), .ref (y + 16), .int 0, .long (-1), .ref (y + 17), .ref (y + 18), .ref (y + 19), .ref (y + 20), .ref (y + 21), .ref (y + 22), .int 0, .ref (y + 23), .ref (y + 24), .int 0, .ref (y + 25), .int 0, .int 0, .int 0, .int (-1), .int 0, .int 0, .int 0, .long 0])) (hc12_ : Φ (y + 12) = some (ai_ G 4 (upd (upd (upd (upd (fun _ => 0) (0 : Int32).toNatClampNeg 0) (1 : Int32).toNatClampNeg 0) (2 : Int32).toNatClampNeg 0) (3 : Int32).toNatClampNeg 0))) : Ct G l yX12_isKnown wsX12_isKnown ({ frames := 0, cells := 0, slots := 0, locals := 0 }) 0 0 [.ref y, .int 2] Φ sz (fun v Φ1 sz1 => v = some (.int 0) ∧ sz1 = sz ∧ (∀ b9 : Nat, Φ1 b9 = Φ b9)) := by
  refine Ct.of (cc := cX12_isKnown) (maxL := 2) (ret := (some .boolean)) (by decide) rfl (Nat.le_of_ble_eq_true rfl) ?_
  intro p9 e9 s9 m9 w9 t9 k9 B
  show Z p9 l e9 _ s9 m9 _ w9 t9 k9 _ G 2 0 [(0, .ref y), (1, .int 2)] [] Φ sz 0 0
  refine z_aload_n B dX12_isKnown_0 rfl 0 rfl ?_
  refine z_get (ref := "FlowExporterModel") (C := RX12) (T := TX12) (N := 54) (ci := 14) (v := .ref (y + 12)) B (by decide +kernel) rfl 28 (by decide) (by decide +kernel) rfl hc0_ rfl dX12_isKnown_1 ?_
  refine z_iload_n B dX12_isKnown_4 rfl 1 rfl ?_
  refine z_iald B hc12_ (vin rfl) dX12_isKnown_5 ?_
  refine z_top (st1 := [.int 0]) (by rfl) ?_
  refine z_if_le (tgt := 34) B dX12_isKnown_6 rfl (fun c_1 => ?_) (fun h9 => absurd (by decide) h9)
  refine z_iconst (v := 0) B dX12_isKnown_34 rfl ?_
  exact z_ret_z B dX12_isKnown_35 (by decide) ⟨rfl, rfl, (fun b9 => rfl)⟩

set_option maxHeartbeats 4000000 in
set_option maxRecDepth 100000 in
theorem m_isKnown_3 (G : EnvG) (l : Launch) (Φ : Hm) (sz : Nat) (y : Nat) (hc0_ : Φ y = some (o_ 14 [.int 0, .ref (y + 1), .ref (y + 2), .int 0, .int 1, .int 1, .int 0, .int 0, .ref (y + 3), .ref (y + 4), .int 0, .long 0, .ref (y + 5), .int 0, .int 0, .long 0, .long 0, .long 0, .long 0, .ref (y + 6), .ref (y + 7), .int 0, .ref (y + 8), .int 0, .ref (y + 9), .ref (y + 10), .int 0, .ref (y + 11), .ref (y + 12), .ref (y + 13), .ref (y + 14), .ref (y + 15), .ref (y + 16), .int 0, .long (-1), .ref (y + 17), .ref (y + 18), .ref (y + 19), .ref (y + 20), .ref (y + 21), .ref (y + 22), .int 0, .ref (y + 23), .ref (y + 24), .int 0, .ref (y + 25), .int 0, .int 0, .int 0, .int (-1), .int 0, .int 0, .int 0, .long 0])) (hc12_ : Φ (y + 12) = some (ai_ G 4 (upd (upd (upd (upd (fun _ => 0) (0 : Int32).toNatClampNeg 0) (1 : Int32).toNatClampNeg 0) (2 : Int32).toNatClampNeg 0) (3 : Int32).toNatClampNeg 0))) : Ct G l yX12_isKnown wsX12_isKnown ({ frames := 0, cells := 0, slots := 0, locals := 0 }) 0 0 [.ref y, .int 3] Φ sz (fun v Φ1 sz1 => v = some (.int 0) ∧ sz1 = sz ∧ (∀ b9 : Nat, Φ1 b9 = Φ b9)) := by
  refine Ct.of (cc := cX12_isKnown) (maxL := 2) (ret := (some .boolean)) (by decide) rfl (Nat.le_of_ble_eq_true rfl) ?_
  intro p9 e9 s9 m9 w9 t9 k9 B
  show Z p9 l e9 _ s9 m9 _ w9 t9 k9 _ G 2 0 [(0, .ref y), (1, .int 3)] [] Φ sz 0 0
  refine z_aload_n B dX12_isKnown_0 rfl 0 rfl ?_
  refine z_get (ref := "FlowExporterModel") (C := RX12) (T := TX12) (N := 54) (ci := 14) (v := .ref (y + 12)) B (by decide +kernel) rfl 28 (by decide) (by decide +kernel) rfl hc0_ rfl dX12_isKnown_1 ?_
  refine z_iload_n B dX12_isKnown_4 rfl 1 rfl ?_
  refine z_iald B hc12_ (vin rfl) dX12_isKnown_5 ?_
  refine z_top (st1 := [.int 0]) (by rfl) ?_
  refine z_if_le (tgt := 34) B dX12_isKnown_6 rfl (fun c_1 => ?_) (fun h9 => absurd (by decide) h9)
  refine z_iconst (v := 0) B dX12_isKnown_34 rfl ?_
  exact z_ret_z B dX12_isKnown_35 (by decide) ⟨rfl, rfl, (fun b9 => rfl)⟩

set_option maxHeartbeats 4000000 in
set_option maxRecDepth 100000 in
theorem m_X12_knownTemplates (G : EnvG) (l : Launch) (Φ : Hm) (sz : Nat) (y : Nat) (hc0_ : Φ y = some (o_ 14 [.int 0, .ref (y + 1), .ref (y + 2), .int 0, .int 1, .int 1, .int 0, .int 0, .ref (y + 3), .ref (y + 4), .int 0, .long 0, .ref (y + 5), .int 0, .int 0, .long 0, .long 0, .long 0, .long 0, .ref (y + 6), .ref (y + 7), .int 0, .ref (y + 8), .int 0, .ref (y + 9), .ref (y + 10), .int 0, .ref (y + 11), .ref (y + 12), .ref (y + 13), .ref (y + 14), .ref (y + 15), .ref (y + 16), .int 0, .long (-1), .ref (y + 17), .ref (y + 18), .ref (y + 19), .ref (y + 20), .ref (y + 21), .ref (y + 22), .int 0, .ref (y + 23), .ref (y + 24), .int 0, .ref (y + 25), .int 0, .int 0, .int 0, .int (-1), .int 0, .int 0, .int 0, .long 0])) (hc12_ : Φ (y + 12) = some (ai_ G 4 (upd (upd (upd (upd (fun _ => 0) (0 : Int32).toNatClampNeg 0) (1 : Int32).toNatClampNeg 0) (2 : Int32).toNatClampNeg 0) (3 : Int32).toNatClampNeg 0))) (hna : G.2.2.2 ≤ y) : Ct G l yX12_knownTemplates wsX12_knownTemplates ({ frames := 1, cells := 0, slots := 0, locals := 21 }) 0 0 [.ref y] Φ sz (fun v Φ1 sz1 => v = some (.int 0) ∧ (∃ fs : List Value, Φ1 y = some (o_ 14 fs) ∧ fs[0]? = some (.int 0)) ∧ ∀ b9 : Nat, y + 26 ≤ b9 → Φ1 b9 = Φ b9) := by
  refine Ct.of (cc := cX12_knownTemplates) (maxL := 3) (ret := (some .int)) (by decide) rfl (Nat.le_of_ble_eq_true rfl) ?_
  intro p9 e9 s9 m9 w9 t9 k9 B
  show Z p9 l e9 _ s9 m9 _ w9 t9 k9 _ G 3 0 [(0, .ref y)] [] Φ sz 0 0
  refine z_aload_n B dX12_knownTemplates_0 rfl 0 rfl ?_
  refine z_iconst (v := 0) B dX12_knownTemplates_1 rfl ?_
  refine z_put (ref := "FlowExporterModel") (C := RX12) (T := TX12) (N := 54) (ci := 14) (v := .int 0) B (by decide +kernel) tyX12 tyX12_ok nmX12 rfl 0 (by decide) (by decide +kernel) rfl (Or.inl rfl) hc0_ hna rfl rfl (Nat.le_of_ble_eq_true rfl) dX12_knownTemplates_2 (fun Φ1 hΦ1 => ?_)
  have h_1 : Φ1 y = some (o_ 14 [.int 0, .ref (y + 1), .ref (y + 2), .int 0, .int 1, .int 1, .int 0, .int 0, .ref (y + 3), .ref (y + 4), .int 0, .long 0, .ref (y + 5), .int 0, .int 0, .long 0, .long 0, .long 0, .long 0, .ref (y + 6), .ref (y + 7), .int 0, .ref (y + 8), .int 0, .ref (y + 9), .ref (y + 10), .int 0, .ref (y + 11), .ref (y + 12), .ref (y + 13), .ref (y + 14), .ref (y + 15), .ref (y + 16), .int 0, .long (-1), .ref (y + 17), .ref (y + 18), .ref (y + 19), .ref (y + 20), .ref (y + 21), .ref (y + 22), .int 0, .ref (y + 23), .ref (y + 24), .int 0, .ref (y + 25), .int 0, .int 0, .int 0, .int (-1), .int 0, .int 0, .int 0, .long 0]) := fset_at hΦ1
  refine z_iconst (v := 0) B dX12_knownTemplates_5 rfl ?_
  refine z_istore_n (lv' := [(1, .int 0), (0, .ref y)]) B dX12_knownTemplates_6 rfl (Nat.le_of_ble_eq_true rfl) rfl ?_
  refine z_iconst (v := 0) B dX12_knownTemplates_7 rfl ?_
  refine z_istore_n (lv' := [(2, .int 0), (1, .int 0), (0, .ref y)]) B dX12_knownTemplates_8 rfl (Nat.le_of_ble_eq_true rfl) rfl ?_
  refine z_iload_n B dX12_knownTemplates_9 rfl 0 rfl ?_
  refine z_iconst (v := 4) B dX12_knownTemplates_10 rfl ?_
  refine z_icmp_ge (tgt := 38) B dX12_knownTemplates_11 rfl (fun h9 => absurd h9 (by decide)) (fun c_1 => ?_)
  refine z_iload_n B dX12_knownTemplates_14 rfl 1 rfl ?_
  refine z_aload_n B dX12_knownTemplates_15 rfl 2 rfl ?_
  refine z_iload_n B dX12_knownTemplates_16 rfl 0 rfl ?_
  have h_2 : Φ1 (y + 12) = some (ai_ G 4 (upd (upd (upd (upd (fun _ => 0) (0 : Int32).toNatClampNeg 0) (1 : Int32).toNatClampNeg 0) (2 : Int32).toNatClampNeg 0) (3 : Int32).toNatClampNeg 0)) := ((fset_fr hΦ1 (ne_off (x := y) (i := 12) (j := 0) rfl)).trans hc12_)
  refine z_callV (As := [.int 0]) (rest := [.int 0]) B (m_isKnown_0 G l Φ1 sz y h_1 h_2) (cwV 1 B.1.2.2.2.2 gX12_knownTemplates_X12_isKnown rfl rfl rfl (by decide +kernel) ⟨Nat.le_of_ble_eq_true rfl, Nat.le_of_ble_eq_true rfl⟩) h_1 rfl rfl rfl rfl (Nat.le_of_ble_eq_true rfl) dX12_knownTemplates_17 ⟨Nat.le_of_ble_eq_true rfl, Nat.le_of_ble_eq_true rfl⟩ (fun v1 Φ2 sz1 st1 hp1 hs1 => ?_)
  obtain ⟨rfl, hq1, fr1⟩ := hp1
  replace hq1 : sz1 = sz := hq1
  subst sz1
  replace hs1 : st1 = [.int 0, .int 0] := hs1
  subst st1
  refine z_if_eq (tgt := 29) B dX12_knownTemplates_20 rfl (fun c_2 => ?_) (fun h9 => absurd (by decide) h9)
  refine z_iconst (v := 0) B dX12_knownTemplates_29 rfl ?_
  refine z_ior B dX12_knownTemplates_30 ?_
  refine z_top (st1 := [.int 0]) (congrArg (fun w9 : Int32 => ([.int w9] : List Value)) (show (0 ||| 0 : Int32) = 0 by decide +kernel)) ?_
  refine z_istore_n (lv' := [(1, .int 0), (2, .int 0), (0, .ref y)]) B dX12_knownTemplates_31 rfl (Nat.le_of_ble_eq_true rfl) rfl ?_
  refine z_iinc (k := 1) (v := 1) (lv' := [(2, .int 1), (1, .int 0), (0, .ref y)]) B dX12_knownTemplates_32 rfl rfl (Nat.le_of_ble_eq_true rfl) rfl ?_
  refine z_goto (tgt := 9) B dX12_knownTemplates_35 rfl ?_
  refine z_iload_n B dX12_knownTemplates_9 rfl 0 rfl ?_
  refine z_iconst (v := 4) B dX12_knownTemplates_10 rfl ?_
  refine z_icmp_ge (tgt := 38) B dX12_knownTemplates_11 rfl (fun h9 => absurd h9 (by decide)) (fun c_3 => ?_)
  refine z_iload_n B dX12_knownTemplates_14 rfl 1 rfl ?_
  refine z_aload_n B dX12_knownTemplates_15 rfl 2 rfl ?_
  refine z_iload_n B dX12_knownTemplates_16 rfl 0 rfl ?_
  have h_3 : Φ2 y = some (o_ 14 [.int 0, .ref (y + 1), .ref (y + 2), .int 0, .int 1, .int 1, .int 0, .int 0, .ref (y + 3), .ref (y + 4), .int 0, .long 0, .ref (y + 5), .int 0, .int 0, .long 0, .long 0, .long 0, .long 0, .ref (y + 6), .ref (y + 7), .int 0, .ref (y + 8), .int 0, .ref (y + 9), .ref (y + 10), .int 0, .ref (y + 11), .ref (y + 12), .ref (y + 13), .ref (y + 14), .ref (y + 15), .ref (y + 16), .int 0, .long (-1), .ref (y + 17), .ref (y + 18), .ref (y + 19), .ref (y + 20), .ref (y + 21), .ref (y + 22), .int 0, .ref (y + 23), .ref (y + 24), .int 0, .ref (y + 25), .int 0, .int 0, .int 0, .int (-1), .int 0, .int 0, .int 0, .long 0]) := ((fr1 y).trans h_1)
  have h_4 : Φ2 (y + 12) = some (ai_ G 4 (upd (upd (upd (upd (fun _ => 0) (0 : Int32).toNatClampNeg 0) (1 : Int32).toNatClampNeg 0) (2 : Int32).toNatClampNeg 0) (3 : Int32).toNatClampNeg 0)) := ((fr1 (y + 12)).trans h_2)
  refine z_callV (As := [.int 1]) (rest := [.int 0]) B (m_isKnown_1 G l Φ2 sz y h_3 h_4) (cwV 1 B.1.2.2.2.2 gX12_knownTemplates_X12_isKnown rfl rfl rfl (by decide +kernel) ⟨Nat.le_of_ble_eq_true rfl, Nat.le_of_ble_eq_true rfl⟩) h_3 rfl rfl rfl rfl (Nat.le_of_ble_eq_true rfl) dX12_knownTemplates_17 ⟨Nat.le_of_ble_eq_true rfl, Nat.le_of_ble_eq_true rfl⟩ (fun v2 Φ3 sz2 st2 hp2 hs2 => ?_)
  obtain ⟨rfl, hq2, fr2⟩ := hp2
  replace hq2 : sz2 = sz := hq2
  subst sz2
  replace hs2 : st2 = [.int 0, .int 0] := hs2
  subst st2
  refine z_if_eq (tgt := 29) B dX12_knownTemplates_20 rfl (fun c_4 => ?_) (fun h9 => absurd (by decide) h9)
  refine z_iconst (v := 0) B dX12_knownTemplates_29 rfl ?_
  refine z_ior B dX12_knownTemplates_30 ?_
  refine z_top (st1 := [.int 0]) (congrArg (fun w9 : Int32 => ([.int w9] : List Value)) (show (0 ||| 0 : Int32) = 0 by decide +kernel)) ?_
  refine z_istore_n (lv' := [(1, .int 0), (2, .int 1), (0, .ref y)]) B dX12_knownTemplates_31 rfl (Nat.le_of_ble_eq_true rfl) rfl ?_
  refine z_iinc (k := 1) (v := 2) (lv' := [(2, .int 2), (1, .int 0), (0, .ref y)]) B dX12_knownTemplates_32 rfl rfl (Nat.le_of_ble_eq_true rfl) rfl ?_
  refine z_goto (tgt := 9) B dX12_knownTemplates_35 rfl ?_
  refine z_iload_n B dX12_knownTemplates_9 rfl 0 rfl ?_
  refine z_iconst (v := 4) B dX12_knownTemplates_10 rfl ?_
  refine z_icmp_ge (tgt := 38) B dX12_knownTemplates_11 rfl (fun h9 => absurd h9 (by decide)) (fun c_5 => ?_)
  refine z_iload_n B dX12_knownTemplates_14 rfl 1 rfl ?_
  refine z_aload_n B dX12_knownTemplates_15 rfl 2 rfl ?_
  refine z_iload_n B dX12_knownTemplates_16 rfl 0 rfl ?_
  have h_5 : Φ3 y = some (o_ 14 [.int 0, .ref (y + 1), .ref (y + 2), .int 0, .int 1, .int 1, .int 0, .int 0, .ref (y + 3), .ref (y + 4), .int 0, .long 0, .ref (y + 5), .int 0, .int 0, .long 0, .long 0, .long 0, .long 0, .ref (y + 6), .ref (y + 7), .int 0, .ref (y + 8), .int 0, .ref (y + 9), .ref (y + 10), .int 0, .ref (y + 11), .ref (y + 12), .ref (y + 13), .ref (y + 14), .ref (y + 15), .ref (y + 16), .int 0, .long (-1), .ref (y + 17), .ref (y + 18), .ref (y + 19), .ref (y + 20), .ref (y + 21), .ref (y + 22), .int 0, .ref (y + 23), .ref (y + 24), .int 0, .ref (y + 25), .int 0, .int 0, .int 0, .int (-1), .int 0, .int 0, .int 0, .long 0]) := ((fr2 y).trans h_3)
  have h_6 : Φ3 (y + 12) = some (ai_ G 4 (upd (upd (upd (upd (fun _ => 0) (0 : Int32).toNatClampNeg 0) (1 : Int32).toNatClampNeg 0) (2 : Int32).toNatClampNeg 0) (3 : Int32).toNatClampNeg 0)) := ((fr2 (y + 12)).trans h_4)
  refine z_callV (As := [.int 2]) (rest := [.int 0]) B (m_isKnown_2 G l Φ3 sz y h_5 h_6) (cwV 1 B.1.2.2.2.2 gX12_knownTemplates_X12_isKnown rfl rfl rfl (by decide +kernel) ⟨Nat.le_of_ble_eq_true rfl, Nat.le_of_ble_eq_true rfl⟩) h_5 rfl rfl rfl rfl (Nat.le_of_ble_eq_true rfl) dX12_knownTemplates_17 ⟨Nat.le_of_ble_eq_true rfl, Nat.le_of_ble_eq_true rfl⟩ (fun v3 Φ4 sz3 st3 hp3 hs3 => ?_)
  obtain ⟨rfl, hq3, fr3⟩ := hp3
  replace hq3 : sz3 = sz := hq3
  subst sz3
  replace hs3 : st3 = [.int 0, .int 0] := hs3
  subst st3
  refine z_if_eq (tgt := 29) B dX12_knownTemplates_20 rfl (fun c_6 => ?_) (fun h9 => absurd (by decide) h9)
  refine z_iconst (v := 0) B dX12_knownTemplates_29 rfl ?_
  refine z_ior B dX12_knownTemplates_30 ?_
  refine z_top (st1 := [.int 0]) (congrArg (fun w9 : Int32 => ([.int w9] : List Value)) (show (0 ||| 0 : Int32) = 0 by decide +kernel)) ?_
  refine z_istore_n (lv' := [(1, .int 0), (2, .int 2), (0, .ref y)]) B dX12_knownTemplates_31 rfl (Nat.le_of_ble_eq_true rfl) rfl ?_
  refine z_iinc (k := 1) (v := 3) (lv' := [(2, .int 3), (1, .int 0), (0, .ref y)]) B dX12_knownTemplates_32 rfl rfl (Nat.le_of_ble_eq_true rfl) rfl ?_
  refine z_goto (tgt := 9) B dX12_knownTemplates_35 rfl ?_
  refine z_iload_n B dX12_knownTemplates_9 rfl 0 rfl ?_
  refine z_iconst (v := 4) B dX12_knownTemplates_10 rfl ?_
  refine z_icmp_ge (tgt := 38) B dX12_knownTemplates_11 rfl (fun h9 => absurd h9 (by decide)) (fun c_7 => ?_)
  refine z_iload_n B dX12_knownTemplates_14 rfl 1 rfl ?_
  refine z_aload_n B dX12_knownTemplates_15 rfl 2 rfl ?_
  refine z_iload_n B dX12_knownTemplates_16 rfl 0 rfl ?_
  have h_7 : Φ4 y = some (o_ 14 [.int 0, .ref (y + 1), .ref (y + 2), .int 0, .int 1, .int 1, .int 0, .int 0, .ref (y + 3), .ref (y + 4), .int 0, .long 0, .ref (y + 5), .int 0, .int 0, .long 0, .long 0, .long 0, .long 0, .ref (y + 6), .ref (y + 7), .int 0, .ref (y + 8), .int 0, .ref (y + 9), .ref (y + 10), .int 0, .ref (y + 11), .ref (y + 12), .ref (y + 13), .ref (y + 14), .ref (y + 15), .ref (y + 16), .int 0, .long (-1), .ref (y + 17), .ref (y + 18), .ref (y + 19), .ref (y + 20), .ref (y + 21), .ref (y + 22), .int 0, .ref (y + 23), .ref (y + 24), .int 0, .ref (y + 25), .int 0, .int 0, .int 0, .int (-1), .int 0, .int 0, .int 0, .long 0]) := ((fr3 y).trans h_5)
  have h_8 : Φ4 (y + 12) = some (ai_ G 4 (upd (upd (upd (upd (fun _ => 0) (0 : Int32).toNatClampNeg 0) (1 : Int32).toNatClampNeg 0) (2 : Int32).toNatClampNeg 0) (3 : Int32).toNatClampNeg 0)) := ((fr3 (y + 12)).trans h_6)
  refine z_callV (As := [.int 3]) (rest := [.int 0]) B (m_isKnown_3 G l Φ4 sz y h_7 h_8) (cwV 1 B.1.2.2.2.2 gX12_knownTemplates_X12_isKnown rfl rfl rfl (by decide +kernel) ⟨Nat.le_of_ble_eq_true rfl, Nat.le_of_ble_eq_true rfl⟩) h_7 rfl rfl rfl rfl (Nat.le_of_ble_eq_true rfl) dX12_knownTemplates_17 ⟨Nat.le_of_ble_eq_true rfl, Nat.le_of_ble_eq_true rfl⟩ (fun v4 Φ5 sz4 st4 hp4 hs4 => ?_)
  obtain ⟨rfl, hq4, fr4⟩ := hp4
  replace hq4 : sz4 = sz := hq4
  subst sz4
  replace hs4 : st4 = [.int 0, .int 0] := hs4
  subst st4
  refine z_if_eq (tgt := 29) B dX12_knownTemplates_20 rfl (fun c_8 => ?_) (fun h9 => absurd (by decide) h9)
  refine z_iconst (v := 0) B dX12_knownTemplates_29 rfl ?_
  refine z_ior B dX12_knownTemplates_30 ?_
  refine z_top (st1 := [.int 0]) (congrArg (fun w9 : Int32 => ([.int w9] : List Value)) (show (0 ||| 0 : Int32) = 0 by decide +kernel)) ?_
  refine z_istore_n (lv' := [(1, .int 0), (2, .int 3), (0, .ref y)]) B dX12_knownTemplates_31 rfl (Nat.le_of_ble_eq_true rfl) rfl ?_
  refine z_iinc (k := 1) (v := 4) (lv' := [(2, .int 4), (1, .int 0), (0, .ref y)]) B dX12_knownTemplates_32 rfl rfl (Nat.le_of_ble_eq_true rfl) rfl ?_
  refine z_goto (tgt := 9) B dX12_knownTemplates_35 rfl ?_
  refine z_iload_n B dX12_knownTemplates_9 rfl 0 rfl ?_
  refine z_iconst (v := 4) B dX12_knownTemplates_10 rfl ?_
  refine z_icmp_ge (tgt := 38) B dX12_knownTemplates_11 rfl (fun c_9 => ?_) (fun h9 => absurd (by decide) h9)
  refine z_iload_n B dX12_knownTemplates_38 rfl 1 rfl ?_
  have h_9 : Φ5 y = some (o_ 14 [.int 0, .ref (y + 1), .ref (y + 2), .int 0, .int 1, .int 1, .int 0, .int 0, .ref (y + 3), .ref (y + 4), .int 0, .long 0, .ref (y + 5), .int 0, .int 0, .long 0, .long 0, .long 0, .long 0, .ref (y + 6), .ref (y + 7), .int 0, .ref (y + 8), .int 0, .ref (y + 9), .ref (y + 10), .int 0, .ref (y + 11), .ref (y + 12), .ref (y + 13), .ref (y + 14), .ref (y + 15), .ref (y + 16), .int 0, .long (-1), .ref (y + 17), .ref (y + 18), .ref (y + 19), .ref (y + 20), .ref (y + 21), .ref (y + 22), .int 0, .ref (y + 23), .ref (y + 24), .int 0, .ref (y + 25), .int 0, .int 0, .int 0, .int (-1), .int 0, .int 0, .int 0, .long 0]) := ((fr4 y).trans h_7)
  exact z_ret_i B dX12_knownTemplates_39 ⟨rfl, ⟨_, h_9, rfl⟩, fun b9 h9 => ((fr4 b9).trans ((fr3 b9).trans ((fr2 b9).trans ((fr1 b9).trans ((fset_fr hΦ1 (Nat.ne_of_gt (Nat.lt_of_lt_of_le (lt_off (x := y) (i := 0) (j := 26) rfl) h9))).trans rfl)))))⟩

set_option maxHeartbeats 4000000 in
set_option maxRecDepth 100000 in
theorem m_accept (G : EnvG) (l : Launch) (Φ : Hm) (sz : Nat) (y : Nat) (hc0_ : Φ y = some (o_ 14 [.int 0, .ref (y + 1), .ref (y + 2), .int 0, .int 1, .int 1, .int 0, .int 0, .ref (y + 3), .ref (y + 4), .int 0, .long 0, .ref (y + 5), .int 0, .int 0, .long 0, .long 0, .long 0, .long 0, .ref (y + 6), .ref (y + 7), .int 0, .ref (y + 8), .int 0, .ref (y + 9), .ref (y + 10), .int 0, .ref (y + 11), .ref (y + 12), .ref (y + 13), .ref (y + 14), .ref (y + 15), .ref (y + 16), .int 0, .long (-1), .ref (y + 17), .ref (y + 18), .ref (y + 19), .ref (y + 20), .ref (y + 21), .ref (y + 22), .int 0, .ref (y + 23), .ref (y + 24), .int 0, .ref (y + 25), .int 0, .int 0, .int 0, .int (-1), .int 0, .int 0, .int 0, .long 0])) (hc11_ : Φ (y + 11) = some (al_ G 9 (vp_updL (vp_updL (vp_updL (vp_updL (vp_updL (vp_updL (vp_updL (vp_updL (vp_updL (fun _ => 0) (0 : Int32).toNatClampNeg 0) (1 : Int32).toNatClampNeg 0) (2 : Int32).toNatClampNeg 0) (3 : Int32).toNatClampNeg 0) (4 : Int32).toNatClampNeg 0) (5 : Int32).toNatClampNeg 0) (6 : Int32).toNatClampNeg 0) (7 : Int32).toNatClampNeg 0) (8 : Int32).toNatClampNeg 0))) (hna : G.2.2.2 ≤ y) : Ct G l yX12_accept wsX12_accept ({ frames := 0, cells := 0, slots := 0, locals := 0 }) 0 0 [.ref y] Φ sz (fun v Φ1 sz1 => v = some (.int 0) ∧ sz1 = sz ∧ (∀ b9 : Nat, b9 ≠ y + 11 → Φ1 b9 = Φ b9) ∧ Φ1 (y + 11) = some (al_ G 9 (vp_updL (vp_updL (vp_updL (vp_updL (vp_updL (vp_updL (vp_updL (vp_updL (vp_updL (vp_updL (vp_updL (fun _ => 0) (0 : Int32).toNatClampNeg 0) (1 : Int32).toNatClampNeg 0) (2 : Int32).toNatClampNeg 0) (3 : Int32).toNatClampNeg 0) (4 : Int32).toNatClampNeg 0) (5 : Int32).toNatClampNeg 0) (6 : Int32).toNatClampNeg 0) (7 : Int32).toNatClampNeg 0) (8 : Int32).toNatClampNeg 0) (8 : Int32).toNatClampNeg 1) (4 : Int32).toNatClampNeg 1))) := by
  refine Ct.of (cc := cX12_accept) (maxL := 7) (ret := (some .int)) (by decide) rfl (Nat.le_of_ble_eq_true rfl) ?_
  intro p9 e9 s9 m9 w9 t9 k9 B
  show Z p9 l e9 _ s9 m9 _ w9 t9 k9 _ G 7 0 [(0, .ref y)] [] Φ sz 0 0
  refine z_aload_n B dX12_accept_0 rfl 0 rfl ?_
  refine z_get (ref := "FlowExporterModel") (C := RX12) (T := TX12) (N := 54) (ci := 14) (v := .ref (y + 11)) B (by decide +kernel) rfl 27 (by decide) (by decide +kernel) rfl hc0_ rfl dX12_accept_1 ?_
  refine z_bipush (v := 8) B dX12_accept_4 rfl ?_
  refine z_dup2_11 B dX12_accept_6 rfl rfl ?_
  refine z_lald B hc11_ (vin rfl) dX12_accept_7 ?_
  refine z_top (st1 := [.long 0, .int 8, .ref (y + 11)]) (by rfl) ?_
  refine z_lconst (v := 1) B dX12_accept_8 rfl ?_
  refine z_ladd B dX12_accept_9 ?_
  refine z_top (st1 := [.long 1, .int 8, .ref (y + 11)]) (congrArg (fun w9 : Int64 => ([.long w9, .int 8, .ref (y + 11)] : List Value)) (show (0 + 1 : Int64) = 1 by decide +kernel)) ?_
  refine z_last B hc11_ (Nat.le_trans hna (Nat.le_add_right y 11)) (vin rfl) dX12_accept_10 (fun Φ1 hΦ1 => ?_)
  have h_1 : Φ1 (y + 11) = some (al_ G 9 (vp_updL (vp_updL (vp_updL (vp_updL (vp_updL (vp_updL (vp_updL (vp_updL (vp_updL (vp_updL (fun _ => 0) (0 : Int32).toNatClampNeg 0) (1 : Int32).toNatClampNeg 0) (2 : Int32).toNatClampNeg 0) (3 : Int32).toNatClampNeg 0) (4 : Int32).toNatClampNeg 0) (5 : Int32).toNatClampNeg 0) (6 : Int32).toNatClampNeg 0) (7 : Int32).toNatClampNeg 0) (8 : Int32).toNatClampNeg 0) (8 : Int32).toNatClampNeg 1)) := fset_at hΦ1
  refine z_aload_n B dX12_accept_11 rfl 0 rfl ?_
  have h_2 : Φ1 y = some (o_ 14 [.int 0, .ref (y + 1), .ref (y + 2), .int 0, .int 1, .int 1, .int 0, .int 0, .ref (y + 3), .ref (y + 4), .int 0, .long 0, .ref (y + 5), .int 0, .int 0, .long 0, .long 0, .long 0, .long 0, .ref (y + 6), .ref (y + 7), .int 0, .ref (y + 8), .int 0, .ref (y + 9), .ref (y + 10), .int 0, .ref (y + 11), .ref (y + 12), .ref (y + 13), .ref (y + 14), .ref (y + 15), .ref (y + 16), .int 0, .long (-1), .ref (y + 17), .ref (y + 18), .ref (y + 19), .ref (y + 20), .ref (y + 21), .ref (y + 22), .int 0, .ref (y + 23), .ref (y + 24), .int 0, .ref (y + 25), .int 0, .int 0, .int 0, .int (-1), .int 0, .int 0, .int 0, .long 0]) := ((fset_fr hΦ1 (ne_off (x := y) (i := 0) (j := 11) rfl)).trans hc0_)
  refine z_get (ref := "FlowExporterModel") (C := RX12) (T := TX12) (N := 54) (ci := 14) (v := .int 0) B (by decide +kernel) rfl 23 (by decide) (by decide +kernel) rfl h_2 rfl dX12_accept_12 ?_
  refine z_bipush (v := 16) B dX12_accept_15 rfl ?_
  refine z_icmp_lt (tgt := 48) B dX12_accept_17 rfl (fun c_1 => ?_) (fun h9 => absurd (by decide) h9)
  refine z_aload_n B dX12_accept_48 rfl 0 rfl ?_
  refine z_get (ref := "FlowExporterModel") (C := RX12) (T := TX12) (N := 54) (ci := 14) (v := .ref (y + 11)) B (by decide +kernel) rfl 27 (by decide) (by decide +kernel) rfl h_2 rfl dX12_accept_49 ?_
  refine z_iconst (v := 4) B dX12_accept_52 rfl ?_
  refine z_dup2_11 B dX12_accept_53 rfl rfl ?_
  refine z_lald B h_1 (vin rfl) dX12_accept_54 ?_
  refine z_top (st1 := [.long 0, .int 4, .ref (y + 11)]) (by rfl) ?_
  refine z_lconst (v := 1) B dX12_accept_55 rfl ?_
  refine z_ladd B dX12_accept_56 ?_
  refine z_top (st1 := [.long 1, .int 4, .ref (y + 11)]) (congrArg (fun w9 : Int64 => ([.long w9, .int 4, .ref (y + 11)] : List Value)) (show (0 + 1 : Int64) = 1 by decide +kernel)) ?_
  refine z_last B h_1 (Nat.le_trans hna (Nat.le_add_right y 11)) (vin rfl) dX12_accept_57 (fun Φ2 hΦ2 => ?_)
  have h_3 : Φ2 (y + 11) = some (al_ G 9 (vp_updL (vp_updL (vp_updL (vp_updL (vp_updL (vp_updL (vp_updL (vp_updL (vp_updL (vp_updL (vp_updL (fun _ => 0) (0 : Int32).toNatClampNeg 0) (1 : Int32).toNatClampNeg 0) (2 : Int32).toNatClampNeg 0) (3 : Int32).toNatClampNeg 0) (4 : Int32).toNatClampNeg 0) (5 : Int32).toNatClampNeg 0) (6 : Int32).toNatClampNeg 0) (7 : Int32).toNatClampNeg 0) (8 : Int32).toNatClampNeg 0) (8 : Int32).toNatClampNeg 1) (4 : Int32).toNatClampNeg 1)) := fset_at hΦ2
  refine z_iconst (v := 0) B dX12_accept_58 rfl ?_
  exact z_ret_i B dX12_accept_59 ⟨rfl, rfl, (fun b9 h9a => ((fset_fr hΦ2 h9a).trans ((fset_fr hΦ1 h9a).trans rfl))), h_3⟩

set_option maxHeartbeats 4000000 in
set_option maxRecDepth 100000 in
theorem m_X12_receive (G : EnvG) (l : Launch) (Φ : Hm) (sz : Nat) (y : Nat) (hc0_ : Φ y = some (o_ 14 [.int 0, .ref (y + 1), .ref (y + 2), .int 0, .int 1, .int 1, .int 0, .int 0, .ref (y + 3), .ref (y + 4), .int 0, .long 0, .ref (y + 5), .int 0, .int 0, .long 0, .long 0, .long 0, .long 0, .ref (y + 6), .ref (y + 7), .int 0, .ref (y + 8), .int 0, .ref (y + 9), .ref (y + 10), .int 0, .ref (y + 11), .ref (y + 12), .ref (y + 13), .ref (y + 14), .ref (y + 15), .ref (y + 16), .int 0, .long (-1), .ref (y + 17), .ref (y + 18), .ref (y + 19), .ref (y + 20), .ref (y + 21), .ref (y + 22), .int 0, .ref (y + 23), .ref (y + 24), .int 0, .ref (y + 25), .int 0, .int 0, .int 0, .int (-1), .int 0, .int 0, .int 0, .long 0])) (hc11_ : Φ (y + 11) = some (al_ G 9 (vp_updL (vp_updL (vp_updL (vp_updL (vp_updL (vp_updL (vp_updL (vp_updL (vp_updL (fun _ => 0) (0 : Int32).toNatClampNeg 0) (1 : Int32).toNatClampNeg 0) (2 : Int32).toNatClampNeg 0) (3 : Int32).toNatClampNeg 0) (4 : Int32).toNatClampNeg 0) (5 : Int32).toNatClampNeg 0) (6 : Int32).toNatClampNeg 0) (7 : Int32).toNatClampNeg 0) (8 : Int32).toNatClampNeg 0))) (hna : G.2.2.2 ≤ y) : Ct G l yX12_receive wsX12_receive ({ frames := 1, cells := 0, slots := 0, locals := 26 }) 0 0 [.ref y] Φ sz (fun v Φ1 sz1 => v = some (.int 0) ∧ (∃ fs : List Value, Φ1 y = some (o_ 14 fs) ∧ fs[0]? = some (.int 0)) ∧ ∀ b9 : Nat, y + 26 ≤ b9 → Φ1 b9 = Φ b9) := by
  refine Ct.of (cc := cX12_receive) (maxL := 2) (ret := (some .int)) (by decide) rfl (Nat.le_of_ble_eq_true rfl) ?_
  intro p9 e9 s9 m9 w9 t9 k9 B
  show Z p9 l e9 _ s9 m9 _ w9 t9 k9 _ G 2 0 [(0, .ref y)] [] Φ sz 0 0
  refine z_aload_n B dX12_receive_0 rfl 0 rfl ?_
  refine z_iconst (v := 0) B dX12_receive_1 rfl ?_
  refine z_put (ref := "FlowExporterModel") (C := RX12) (T := TX12) (N := 54) (ci := 14) (v := .int 0) B (by decide +kernel) tyX12 tyX12_ok nmX12 rfl 0 (by decide) (by decide +kernel) rfl (Or.inl rfl) hc0_ hna rfl rfl (Nat.le_of_ble_eq_true rfl) dX12_receive_2 (fun Φ1 hΦ1 => ?_)
  have h_1 : Φ1 y = some (o_ 14 [.int 0, .ref (y + 1), .ref (y + 2), .int 0, .int 1, .int 1, .int 0, .int 0, .ref (y + 3), .ref (y + 4), .int 0, .long 0, .ref (y + 5), .int 0, .int 0, .long 0, .long 0, .long 0, .long 0, .ref (y + 6), .ref (y + 7), .int 0, .ref (y + 8), .int 0, .ref (y + 9), .ref (y + 10), .int 0, .ref (y + 11), .ref (y + 12), .ref (y + 13), .ref (y + 14), .ref (y + 15), .ref (y + 16), .int 0, .long (-1), .ref (y + 17), .ref (y + 18), .ref (y + 19), .ref (y + 20), .ref (y + 21), .ref (y + 22), .int 0, .ref (y + 23), .ref (y + 24), .int 0, .ref (y + 25), .int 0, .int 0, .int 0, .int (-1), .int 0, .int 0, .int 0, .long 0]) := fset_at hΦ1
  refine z_aload_n B dX12_receive_5 rfl 0 rfl ?_
  refine z_aload_n B dX12_receive_6 rfl 0 rfl ?_
  refine z_get (ref := "FlowExporterModel") (C := RX12) (T := TX12) (N := 54) (ci := 14) (v := .int 0) B (by decide +kernel) rfl 46 (by decide) (by decide +kernel) rfl h_1 rfl dX12_receive_7 ?_
  refine z_put (ref := "FlowExporterModel") (C := RX12) (T := TX12) (N := 54) (ci := 14) (v := .int 0) B (by decide +kernel) tyX12 tyX12_ok nmX12 rfl 23 (by decide) (by decide +kernel) rfl (Or.inl rfl) h_1 hna rfl rfl (Nat.le_of_ble_eq_true rfl) dX12_receive_10 (fun Φ2 hΦ2 => ?_)
  have h_2 : Φ2 y = some (o_ 14 [.int 0, .ref (y + 1), .ref (y + 2), .int 0, .int 1, .int 1, .int 0, .int 0, .ref (y + 3), .ref (y + 4), .int 0, .long 0, .ref (y + 5), .int 0, .int 0, .long 0, .long 0, .long 0, .long 0, .ref (y + 6), .ref (y + 7), .int 0, .ref (y + 8), .int 0, .ref (y + 9), .ref (y + 10), .int 0, .ref (y + 11), .ref (y + 12), .ref (y + 13), .ref (y + 14), .ref (y + 15), .ref (y + 16), .int 0, .long (-1), .ref (y + 17), .ref (y + 18), .ref (y + 19), .ref (y + 20), .ref (y + 21), .ref (y + 22), .int 0, .ref (y + 23), .ref (y + 24), .int 0, .ref (y + 25), .int 0, .int 0, .int 0, .int (-1), .int 0, .int 0, .int 0, .long 0]) := fset_at hΦ2
  refine z_iconst (v := 0) B dX12_receive_13 rfl ?_
  refine z_istore_n (lv' := [(1, .int 0), (0, .ref y)]) B dX12_receive_14 rfl (Nat.le_of_ble_eq_true rfl) rfl ?_
  refine z_iload_n B dX12_receive_15 rfl 0 rfl ?_
  refine z_aload_n B dX12_receive_16 rfl 1 rfl ?_
  refine z_get (ref := "FlowExporterModel") (C := RX12) (T := TX12) (N := 54) (ci := 14) (v := .int 0) B (by decide +kernel) rfl 23 (by decide) (by decide +kernel) rfl h_2 rfl dX12_receive_17 ?_
  refine z_icmp_ge (tgt := 45) B dX12_receive_20 rfl (fun c_1 => ?_) (fun h9 => absurd (by decide) h9)
  refine z_aload_n B dX12_receive_45 rfl 1 rfl ?_
  refine z_iconst (v := 0) B dX12_receive_46 rfl ?_
  refine z_put (ref := "FlowExporterModel") (C := RX12) (T := TX12) (N := 54) (ci := 14) (v := .int 0) B (by decide +kernel) tyX12 tyX12_ok nmX12 rfl 46 (by decide) (by decide +kernel) rfl (Or.inl rfl) h_2 hna rfl rfl (Nat.le_of_ble_eq_true rfl) dX12_receive_47 (fun Φ3 hΦ3 => ?_)
  have h_3 : Φ3 y = some (o_ 14 [.int 0, .ref (y + 1), .ref (y + 2), .int 0, .int 1, .int 1, .int 0, .int 0, .ref (y + 3), .ref (y + 4), .int 0, .long 0, .ref (y + 5), .int 0, .int 0, .long 0, .long 0, .long 0, .long 0, .ref (y + 6), .ref (y + 7), .int 0, .ref (y + 8), .int 0, .ref (y + 9), .ref (y + 10), .int 0, .ref (y + 11), .ref (y + 12), .ref (y + 13), .ref (y + 14), .ref (y + 15), .ref (y + 16), .int 0, .long (-1), .ref (y + 17), .ref (y + 18), .ref (y + 19), .ref (y + 20), .ref (y + 21), .ref (y + 22), .int 0, .ref (y + 23), .ref (y + 24), .int 0, .ref (y + 25), .int 0, .int 0, .int 0, .int (-1), .int 0, .int 0, .int 0, .long 0]) := fset_at hΦ3
  refine z_aload_n B dX12_receive_50 rfl 1 rfl ?_
  have h_4 : Φ3 (y + 11) = some (al_ G 9 (vp_updL (vp_updL (vp_updL (vp_updL (vp_updL (vp_updL (vp_updL (vp_updL (vp_updL (fun _ => 0) (0 : Int32).toNatClampNeg 0) (1 : Int32).toNatClampNeg 0) (2 : Int32).toNatClampNeg 0) (3 : Int32).toNatClampNeg 0) (4 : Int32).toNatClampNeg 0) (5 : Int32).toNatClampNeg 0) (6 : Int32).toNatClampNeg 0) (7 : Int32).toNatClampNeg 0) (8 : Int32).toNatClampNeg 0)) := ((fset_fr hΦ3 (ne_off (x := y) (i := 11) (j := 0) rfl)).trans ((fset_fr hΦ2 (ne_off (x := y) (i := 11) (j := 0) rfl)).trans ((fset_fr hΦ1 (ne_off (x := y) (i := 11) (j := 0) rfl)).trans hc11_)))
  refine z_callV (As := []) (rest := []) B (m_accept G l Φ3 sz y h_3 h_4 hna) (cwV 0 B.1.2.2.2.2 gX12_receive_X12_accept rfl rfl rfl (by decide +kernel) ⟨Nat.le_of_ble_eq_true rfl, Nat.le_of_ble_eq_true rfl⟩) h_3 rfl rfl rfl rfl (Nat.le_of_ble_eq_true rfl) dX12_receive_51 ⟨Nat.le_of_ble_eq_true rfl, Nat.le_of_ble_eq_true rfl⟩ (fun v1 Φ4 sz1 st1 hp1 hs1 => ?_)
  obtain ⟨rfl, hq1, fr1, h_5⟩ := hp1
  replace hq1 : sz1 = sz := hq1
  subst sz1
  replace hs1 : st1 = [.int 0] := hs1
  subst st1
  have h_6 : Φ4 (y + 11) = some (al_ G 9 (vp_updL (vp_updL (vp_updL (vp_updL (vp_updL (vp_updL (vp_updL (vp_updL (vp_updL (vp_updL (vp_updL (fun _ => 0) (0 : Int32).toNatClampNeg 0) (1 : Int32).toNatClampNeg 0) (2 : Int32).toNatClampNeg 0) (3 : Int32).toNatClampNeg 0) (4 : Int32).toNatClampNeg 0) (5 : Int32).toNatClampNeg 0) (6 : Int32).toNatClampNeg 0) (7 : Int32).toNatClampNeg 0) (8 : Int32).toNatClampNeg 0) (8 : Int32).toNatClampNeg 1) (4 : Int32).toNatClampNeg 1)) := h_5
  have h_7 : Φ4 y = some (o_ 14 [.int 0, .ref (y + 1), .ref (y + 2), .int 0, .int 1, .int 1, .int 0, .int 0, .ref (y + 3), .ref (y + 4), .int 0, .long 0, .ref (y + 5), .int 0, .int 0, .long 0, .long 0, .long 0, .long 0, .ref (y + 6), .ref (y + 7), .int 0, .ref (y + 8), .int 0, .ref (y + 9), .ref (y + 10), .int 0, .ref (y + 11), .ref (y + 12), .ref (y + 13), .ref (y + 14), .ref (y + 15), .ref (y + 16), .int 0, .long (-1), .ref (y + 17), .ref (y + 18), .ref (y + 19), .ref (y + 20), .ref (y + 21), .ref (y + 22), .int 0, .ref (y + 23), .ref (y + 24), .int 0, .ref (y + 25), .int 0, .int 0, .int 0, .int (-1), .int 0, .int 0, .int 0, .long 0]) := ((fr1 y (ne_off (x := y) (i := 0) (j := 11) rfl)).trans h_3)
  exact z_ret_i B dX12_receive_54 ⟨rfl, ⟨_, h_7, rfl⟩, fun b9 h9 => ((fr1 b9 (Nat.ne_of_gt (Nat.lt_of_lt_of_le (lt_off (x := y) (i := 11) (j := 26) rfl) h9))).trans ((fset_fr hΦ3 (Nat.ne_of_gt (Nat.lt_of_lt_of_le (lt_off (x := y) (i := 0) (j := 26) rfl) h9))).trans ((fset_fr hΦ2 (Nat.ne_of_gt (Nat.lt_of_lt_of_le (lt_off (x := y) (i := 0) (j := 26) rfl) h9))).trans ((fset_fr hΦ1 (Nat.ne_of_gt (Nat.lt_of_lt_of_le (lt_off (x := y) (i := 0) (j := 26) rfl) h9))).trans rfl))))⟩

set_option maxHeartbeats 4000000 in
set_option maxRecDepth 100000 in
theorem m_X12_truncateInput_n (G : EnvG) (l : Launch) (Φ : Hm) (sz : Nat) (y : Nat) (a : Int32) (hc0_ : Φ y = some (o_ 14 [.int 0, .ref (y + 1), .ref (y + 2), .int 0, .int 1, .int 1, .int 0, .int 0, .ref (y + 3), .ref (y + 4), .int 0, .long 0, .ref (y + 5), .int 0, .int 0, .long 0, .long 0, .long 0, .long 0, .ref (y + 6), .ref (y + 7), .int 0, .ref (y + 8), .int 0, .ref (y + 9), .ref (y + 10), .int 0, .ref (y + 11), .ref (y + 12), .ref (y + 13), .ref (y + 14), .ref (y + 15), .ref (y + 16), .int 0, .long (-1), .ref (y + 17), .ref (y + 18), .ref (y + 19), .ref (y + 20), .ref (y + 21), .ref (y + 22), .int 0, .ref (y + 23), .ref (y + 24), .int 0, .ref (y + 25), .int 0, .int 0, .int 0, .int (-1), .int 0, .int 0, .int 0, .long 0])) (hna : G.2.2.2 ≤ y) (hp : ¬ inP a.toInt64 0 0) : Ct G l yX12_truncateInput wsX12_truncateInput ({ frames := 1, cells := 0, slots := 0, locals := 25 }) 0 0 [.ref y, .int a] Φ sz (fun v Φ1 sz1 => v = some (.int (-1)) ∧ (∃ fs : List Value, Φ1 y = some (o_ 14 fs) ∧ fs[0]? = some (.int 0)) ∧ ∀ b9 : Nat, y + 26 ≤ b9 → Φ1 b9 = Φ b9) := by
  refine Ct.of (cc := cX12_truncateInput) (maxL := 2) (ret := (some .int)) (by decide) rfl (Nat.le_of_ble_eq_true rfl) ?_
  intro p9 e9 s9 m9 w9 t9 k9 B
  show Z p9 l e9 _ s9 m9 _ w9 t9 k9 _ G 2 0 [(0, .ref y), (1, .int a)] [] Φ sz 0 0
  refine z_aload_n B dX12_truncateInput_0 rfl 0 rfl ?_
  refine z_iconst (v := 0) B dX12_truncateInput_1 rfl ?_
  refine z_put (ref := "FlowExporterModel") (C := RX12) (T := TX12) (N := 54) (ci := 14) (v := .int 0) B (by decide +kernel) tyX12 tyX12_ok nmX12 rfl 0 (by decide) (by decide +kernel) rfl (Or.inl rfl) hc0_ hna rfl rfl (Nat.le_of_ble_eq_true rfl) dX12_truncateInput_2 (fun Φ1 hΦ1 => ?_)
  have h_1 : Φ1 y = some (o_ 14 [.int 0, .ref (y + 1), .ref (y + 2), .int 0, .int 1, .int 1, .int 0, .int 0, .ref (y + 3), .ref (y + 4), .int 0, .long 0, .ref (y + 5), .int 0, .int 0, .long 0, .long 0, .long 0, .long 0, .ref (y + 6), .ref (y + 7), .int 0, .ref (y + 8), .int 0, .ref (y + 9), .ref (y + 10), .int 0, .ref (y + 11), .ref (y + 12), .ref (y + 13), .ref (y + 14), .ref (y + 15), .ref (y + 16), .int 0, .long (-1), .ref (y + 17), .ref (y + 18), .ref (y + 19), .ref (y + 20), .ref (y + 21), .ref (y + 22), .int 0, .ref (y + 23), .ref (y + 24), .int 0, .ref (y + 25), .int 0, .int 0, .int 0, .int (-1), .int 0, .int 0, .int 0, .long 0]) := fset_at hΦ1
  refine z_iload_n B dX12_truncateInput_5 rfl 1 rfl ?_
  refine z_i2l (v := a.toInt64) B dX12_truncateInput_6 rfl ?_
  refine z_lconst (v := 0) B dX12_truncateInput_7 rfl ?_
  refine z_aload_n B dX12_truncateInput_8 rfl 0 rfl ?_
  refine z_get (ref := "FlowExporterModel") (C := RX12) (T := TX12) (N := 54) (ci := 14) (v := .int 0) B (by decide +kernel) rfl 46 (by decide) (by decide +kernel) rfl h_1 rfl dX12_truncateInput_9 ?_
  refine z_i2l (v := 0) B dX12_truncateInput_12 (by decide +kernel) ?_
  refine z_callS (As := [.long a.toInt64, .long 0, .long 0]) (rest := []) B (c_X12_inRange_0 G l Φ1 sz a.toInt64 0 0 hp) (va_cwS 3 B.1.2.2.2.2 gX12_truncateInput_X12_inRange rfl rfl rfl (by decide +kernel) ⟨Nat.le_of_ble_eq_true rfl, Nat.le_of_ble_eq_true rfl⟩) rfl rfl (Nat.le_of_ble_eq_true rfl) dX12_truncateInput_13 ⟨Nat.le_of_ble_eq_true rfl, Nat.le_of_ble_eq_true rfl⟩ (fun v1 Φ2 sz1 st1 hp1 hs1 => ?_)
  obtain ⟨rfl, hq1, fr1⟩ := hp1
  replace hq1 : sz1 = sz := hq1
  subst sz1
  replace hs1 : st1 = [.int 0] := hs1
  subst st1
  refine z_if_ne (tgt := 21) B dX12_truncateInput_16 rfl (fun h9 => absurd (by decide) h9) (fun c_1 => ?_)
  refine z_iconst (v := (-1)) B dX12_truncateInput_19 rfl ?_
  have h_2 : Φ2 y = some (o_ 14 [.int 0, .ref (y + 1), .ref (y + 2), .int 0, .int 1, .int 1, .int 0, .int 0, .ref (y + 3), .ref (y + 4), .int 0, .long 0, .ref (y + 5), .int 0, .int 0, .long 0, .long 0, .long 0, .long 0, .ref (y + 6), .ref (y + 7), .int 0, .ref (y + 8), .int 0, .ref (y + 9), .ref (y + 10), .int 0, .ref (y + 11), .ref (y + 12), .ref (y + 13), .ref (y + 14), .ref (y + 15), .ref (y + 16), .int 0, .long (-1), .ref (y + 17), .ref (y + 18), .ref (y + 19), .ref (y + 20), .ref (y + 21), .ref (y + 22), .int 0, .ref (y + 23), .ref (y + 24), .int 0, .ref (y + 25), .int 0, .int 0, .int 0, .int (-1), .int 0, .int 0, .int 0, .long 0]) := ((fr1 y).trans h_1)
  exact z_ret_i B dX12_truncateInput_20 ⟨rfl, ⟨_, h_2, rfl⟩, fun b9 h9 => ((fr1 b9).trans ((fset_fr hΦ1 (Nat.ne_of_gt (Nat.lt_of_lt_of_le (lt_off (x := y) (i := 0) (j := 26) rfl) h9))).trans rfl))⟩

set_option maxHeartbeats 4000000 in
set_option maxRecDepth 100000 in
theorem m_X12_truncateInput_0 (G : EnvG) (l : Launch) (Φ : Hm) (sz : Nat) (y : Nat) (hc0_ : Φ y = some (o_ 14 [.int 0, .ref (y + 1), .ref (y + 2), .int 0, .int 1, .int 1, .int 0, .int 0, .ref (y + 3), .ref (y + 4), .int 0, .long 0, .ref (y + 5), .int 0, .int 0, .long 0, .long 0, .long 0, .long 0, .ref (y + 6), .ref (y + 7), .int 0, .ref (y + 8), .int 0, .ref (y + 9), .ref (y + 10), .int 0, .ref (y + 11), .ref (y + 12), .ref (y + 13), .ref (y + 14), .ref (y + 15), .ref (y + 16), .int 0, .long (-1), .ref (y + 17), .ref (y + 18), .ref (y + 19), .ref (y + 20), .ref (y + 21), .ref (y + 22), .int 0, .ref (y + 23), .ref (y + 24), .int 0, .ref (y + 25), .int 0, .int 0, .int 0, .int (-1), .int 0, .int 0, .int 0, .long 0])) (hna : G.2.2.2 ≤ y) : Ct G l yX12_truncateInput wsX12_truncateInput ({ frames := 1, cells := 0, slots := 0, locals := 25 }) 0 0 [.ref y, .int 0] Φ sz (fun v Φ1 sz1 => v = some (.int 0) ∧ (∃ fs : List Value, Φ1 y = some (o_ 14 fs) ∧ fs[0]? = some (.int 0)) ∧ ∀ b9 : Nat, y + 26 ≤ b9 → Φ1 b9 = Φ b9) := by
  refine Ct.of (cc := cX12_truncateInput) (maxL := 2) (ret := (some .int)) (by decide) rfl (Nat.le_of_ble_eq_true rfl) ?_
  intro p9 e9 s9 m9 w9 t9 k9 B
  show Z p9 l e9 _ s9 m9 _ w9 t9 k9 _ G 2 0 [(0, .ref y), (1, .int 0)] [] Φ sz 0 0
  refine z_aload_n B dX12_truncateInput_0 rfl 0 rfl ?_
  refine z_iconst (v := 0) B dX12_truncateInput_1 rfl ?_
  refine z_put (ref := "FlowExporterModel") (C := RX12) (T := TX12) (N := 54) (ci := 14) (v := .int 0) B (by decide +kernel) tyX12 tyX12_ok nmX12 rfl 0 (by decide) (by decide +kernel) rfl (Or.inl rfl) hc0_ hna rfl rfl (Nat.le_of_ble_eq_true rfl) dX12_truncateInput_2 (fun Φ1 hΦ1 => ?_)
  have h_1 : Φ1 y = some (o_ 14 [.int 0, .ref (y + 1), .ref (y + 2), .int 0, .int 1, .int 1, .int 0, .int 0, .ref (y + 3), .ref (y + 4), .int 0, .long 0, .ref (y + 5), .int 0, .int 0, .long 0, .long 0, .long 0, .long 0, .ref (y + 6), .ref (y + 7), .int 0, .ref (y + 8), .int 0, .ref (y + 9), .ref (y + 10), .int 0, .ref (y + 11), .ref (y + 12), .ref (y + 13), .ref (y + 14), .ref (y + 15), .ref (y + 16), .int 0, .long (-1), .ref (y + 17), .ref (y + 18), .ref (y + 19), .ref (y + 20), .ref (y + 21), .ref (y + 22), .int 0, .ref (y + 23), .ref (y + 24), .int 0, .ref (y + 25), .int 0, .int 0, .int 0, .int (-1), .int 0, .int 0, .int 0, .long 0]) := fset_at hΦ1
  refine z_iload_n B dX12_truncateInput_5 rfl 1 rfl ?_
  refine z_i2l (v := 0) B dX12_truncateInput_6 (by decide +kernel) ?_
  refine z_lconst (v := 0) B dX12_truncateInput_7 rfl ?_
  refine z_aload_n B dX12_truncateInput_8 rfl 0 rfl ?_
  refine z_get (ref := "FlowExporterModel") (C := RX12) (T := TX12) (N := 54) (ci := 14) (v := .int 0) B (by decide +kernel) rfl 46 (by decide) (by decide +kernel) rfl h_1 rfl dX12_truncateInput_9 ?_
  refine z_i2l (v := 0) B dX12_truncateInput_12 (by decide +kernel) ?_
  refine z_callS (As := [.long 0, .long 0, .long 0]) (rest := []) B (c_X12_inRange_1 G l Φ1 sz 0 0 0 ⟨by decide +kernel, by decide +kernel⟩) (va_cwS 3 B.1.2.2.2.2 gX12_truncateInput_X12_inRange rfl rfl rfl (by decide +kernel) ⟨Nat.le_of_ble_eq_true rfl, Nat.le_of_ble_eq_true rfl⟩) rfl rfl (Nat.le_of_ble_eq_true rfl) dX12_truncateInput_13 ⟨Nat.le_of_ble_eq_true rfl, Nat.le_of_ble_eq_true rfl⟩ (fun v1 Φ2 sz1 st1 hp1 hs1 => ?_)
  obtain ⟨rfl, hq1, fr1⟩ := hp1
  replace hq1 : sz1 = sz := hq1
  subst sz1
  replace hs1 : st1 = [.int 1] := hs1
  subst st1
  refine z_if_ne (tgt := 21) B dX12_truncateInput_16 rfl (fun c_1 => ?_) (fun h9 => absurd h9 (by decide))
  refine z_aload_n B dX12_truncateInput_21 rfl 0 rfl ?_
  refine z_iload_n B dX12_truncateInput_22 rfl 1 rfl ?_
  have h_2 : Φ2 y = some (o_ 14 [.int 0, .ref (y + 1), .ref (y + 2), .int 0, .int 1, .int 1, .int 0, .int 0, .ref (y + 3), .ref (y + 4), .int 0, .long 0, .ref (y + 5), .int 0, .int 0, .long 0, .long 0, .long 0, .long 0, .ref (y + 6), .ref (y + 7), .int 0, .ref (y + 8), .int 0, .ref (y + 9), .ref (y + 10), .int 0, .ref (y + 11), .ref (y + 12), .ref (y + 13), .ref (y + 14), .ref (y + 15), .ref (y + 16), .int 0, .long (-1), .ref (y + 17), .ref (y + 18), .ref (y + 19), .ref (y + 20), .ref (y + 21), .ref (y + 22), .int 0, .ref (y + 23), .ref (y + 24), .int 0, .ref (y + 25), .int 0, .int 0, .int 0, .int (-1), .int 0, .int 0, .int 0, .long 0]) := ((fr1 y).trans h_1)
  refine z_put (ref := "FlowExporterModel") (C := RX12) (T := TX12) (N := 54) (ci := 14) (v := .int 0) B (by decide +kernel) tyX12 tyX12_ok nmX12 rfl 46 (by decide) (by decide +kernel) rfl (Or.inl rfl) h_2 hna rfl rfl (Nat.le_of_ble_eq_true rfl) dX12_truncateInput_23 (fun Φ3 hΦ2 => ?_)
  have h_3 : Φ3 y = some (o_ 14 [.int 0, .ref (y + 1), .ref (y + 2), .int 0, .int 1, .int 1, .int 0, .int 0, .ref (y + 3), .ref (y + 4), .int 0, .long 0, .ref (y + 5), .int 0, .int 0, .long 0, .long 0, .long 0, .long 0, .ref (y + 6), .ref (y + 7), .int 0, .ref (y + 8), .int 0, .ref (y + 9), .ref (y + 10), .int 0, .ref (y + 11), .ref (y + 12), .ref (y + 13), .ref (y + 14), .ref (y + 15), .ref (y + 16), .int 0, .long (-1), .ref (y + 17), .ref (y + 18), .ref (y + 19), .ref (y + 20), .ref (y + 21), .ref (y + 22), .int 0, .ref (y + 23), .ref (y + 24), .int 0, .ref (y + 25), .int 0, .int 0, .int 0, .int (-1), .int 0, .int 0, .int 0, .long 0]) := fset_at hΦ2
  refine z_iload_n B dX12_truncateInput_26 rfl 1 rfl ?_
  exact z_ret_i B dX12_truncateInput_27 ⟨rfl, ⟨_, h_3, rfl⟩, fun b9 h9 => ((fset_fr hΦ2 (Nat.ne_of_gt (Nat.lt_of_lt_of_le (lt_off (x := y) (i := 0) (j := 26) rfl) h9))).trans ((fr1 b9).trans ((fset_fr hΦ1 (Nat.ne_of_gt (Nat.lt_of_lt_of_le (lt_off (x := y) (i := 0) (j := 26) rfl) h9))).trans rfl)))⟩

set_option maxHeartbeats 4000000 in
set_option maxRecDepth 100000 in
theorem c_X12_appendBytes_0 (G : EnvG) (l : Launch) (Φ : Hm) (sz : Nat) (y : Nat) (z_thrown : Int32) (z_time : Int32) (z_random : Int32) (z_rate : Int32) (z_exportedHere : Int32) (z_adaptive : Int32) (z_messages : Int32) (z_sequence : Int64) (z_flows : Int32) (z_dropped : Int32) (z_observed : Int64) (z_sampled : Int64) (z_sent : Int64) (z_unsent : Int64) (z_pending : Int32) (z_length : Int32) (z_queue : Int32) (z_lastCount : Int32) (z_expected : Int64) (z_keys : Int32) (z_trueKeys : Int32) (z_next : Int32) (z_errorCode : Int32) (z_errorPosition : Int32) (z_kind : Int32) (z_start : Int32) (z_number : Int32) (z_value : Int64) (g : Nat → Int32) (wd : Int32) (hc0 : Φ y = some (o_ 14 [.int z_thrown, .ref (y + 1), .ref (y + 2), .int z_time, .int z_random, .int z_rate, .int z_exportedHere, .int z_adaptive, .ref (y + 3), .ref (y + 4), .int z_messages, .long z_sequence, .ref (y + 5), .int z_flows, .int z_dropped, .long z_observed, .long z_sampled, .long z_sent, .long z_unsent, .ref (y + 6), .ref (y + 7), .int z_pending, .ref (y + 8), .int z_length, .ref (y + 9), .ref (y + 10), .int z_queue, .ref (y + 11), .ref (y + 12), .ref (y + 13), .ref (y + 14), .ref (y + 15), .ref (y + 16), .int z_lastCount, .long z_expected, .ref (y + 17), .ref (y + 18), .ref (y + 19), .ref (y + 20), .ref (y + 21), .ref (y + 22), .int z_keys, .ref (y + 23), .ref (y + 24), .int z_trueKeys, .ref (y + 25), .int 0, .int z_next, .int z_errorCode, .int z_errorPosition, .int z_kind, .int z_start, .int z_number, .long z_value])) (hc1 : Φ (y + 25) = some (ab_ G 700 g)) (hna_y : G.2.2.2 ≤ y) : Ct G l yX12_appendBytes wsX12_appendBytes ({ frames := 0, cells := 0, slots := 0, locals := 0 }) 0 0 [.ref y, .int wd] Φ sz (fun v Φ1 sz1 => v = none ∧ sz1 = sz ∧ (∀ b9 : Nat, b9 ≠ y → b9 ≠ y + 25 → Φ1 b9 = Φ b9) ∧ Φ1 y = some (o_ 14 [.int z_thrown, .ref (y + 1), .ref (y + 2), .int z_time, .int z_random, .int z_rate, .int z_exportedHere, .int z_adaptive, .ref (y + 3), .ref (y + 4), .int z_messages, .long z_sequence, .ref (y + 5), .int z_flows, .int z_dropped, .long z_observed, .long z_sampled, .long z_sent, .long z_unsent, .ref (y + 6), .ref (y + 7), .int z_pending, .ref (y + 8), .int z_length, .ref (y + 9), .ref (y + 10), .int z_queue, .ref (y + 11), .ref (y + 12), .ref (y + 13), .ref (y + 14), .ref (y + 15), .ref (y + 16), .int z_lastCount, .long z_expected, .ref (y + 17), .ref (y + 18), .ref (y + 19), .ref (y + 20), .ref (y + 21), .ref (y + 22), .int z_keys, .ref (y + 23), .ref (y + 24), .int z_trueKeys, .ref (y + 25), .int 4, .int z_next, .int z_errorCode, .int z_errorPosition, .int z_kind, .int z_start, .int z_number, .long z_value]) ∧ Φ1 (y + 25) = some (ab_ G 700 (upd (upd (upd (upd g (0 : Int32).toNatClampNeg (vp_nar .byte ((wd >>> (24 &&& 31)).toInt8.toInt32))) (1 : Int32).toNatClampNeg (vp_nar .byte ((wd >>> (16 &&& 31)).toInt8.toInt32))) (2 : Int32).toNatClampNeg (vp_nar .byte ((wd >>> (8 &&& 31)).toInt8.toInt32))) (3 : Int32).toNatClampNeg (vp_nar .byte ((wd >>> (0 &&& 31)).toInt8.toInt32))))) := by
  refine Ct.of (cc := cX12_appendBytes) (maxL := 3) (ret := none) (by decide) rfl (Nat.le_of_ble_eq_true rfl) ?_
  intro p9 e9 s9 m9 w9 t9 k9 B
  show Z p9 l e9 _ s9 m9 _ w9 t9 k9 _ G 3 0 [(0, .ref y), (1, .int wd)] [] Φ (sz) 0 0
  refine z_bipush (v := 24) B dX12_appendBytes_0 rfl ?_
  refine z_istore_n (lv' := [(2, .int 24), (0, .ref y), (1, .int wd)]) B dX12_appendBytes_2 rfl (Nat.le_of_ble_eq_true rfl) rfl ?_
  refine z_iload_n B dX12_appendBytes_3 rfl 0 rfl ?_
  refine z_if_lt (tgt := 36) B dX12_appendBytes_4 rfl (fun h9 => absurd h9 (by decide)) (fun c_1 => ?_)
  refine z_aload_n B dX12_appendBytes_7 rfl 1 rfl ?_
  refine z_get (ref := "FlowExporterModel") (C := RX12) (T := TX12) (N := 54) (ci := 14) (v := .ref (y + 25)) B (by decide +kernel) rfl 45 (by decide) (by decide +kernel) rfl hc0 rfl dX12_appendBytes_8 ?_
  refine z_aload_n B dX12_appendBytes_11 rfl 1 rfl ?_
  refine z_get (ref := "FlowExporterModel") (C := RX12) (T := TX12) (N := 54) (ci := 14) (v := .int 0) B (by decide +kernel) rfl 46 (by decide) (by decide +kernel) rfl hc0 rfl dX12_appendBytes_12 ?_
  refine z_iload_n B dX12_appendBytes_15 rfl 2 rfl ?_
  refine z_iload_n B dX12_appendBytes_16 rfl 0 rfl ?_
  refine z_ishr B dX12_appendBytes_17 ?_
  refine z_i2b (v := (wd >>> (24 &&& 31)).toInt8.toInt32) B dX12_appendBytes_18 rfl ?_
  refine z_bast B hc1 (Nat.le_trans hna_y (Nat.le_add_right y 25)) (vin rfl) dX12_appendBytes_19 (fun Φ1 hΦ1 => ?_)
  have h_1 : Φ1 (y + 25) = some (ab_ G 700 (upd g (0 : Int32).toNatClampNeg (vp_nar .byte ((wd >>> (24 &&& 31)).toInt8.toInt32)))) := fset_at hΦ1
  refine z_aload_n B dX12_appendBytes_20 rfl 1 rfl ?_
  refine z_dup B dX12_appendBytes_21 rfl ?_
  have h_2 : Φ1 y = some (o_ 14 [.int z_thrown, .ref (y + 1), .ref (y + 2), .int z_time, .int z_random, .int z_rate, .int z_exportedHere, .int z_adaptive, .ref (y + 3), .ref (y + 4), .int z_messages, .long z_sequence, .ref (y + 5), .int z_flows, .int z_dropped, .long z_observed, .long z_sampled, .long z_sent, .long z_unsent, .ref (y + 6), .ref (y + 7), .int z_pending, .ref (y + 8), .int z_length, .ref (y + 9), .ref (y + 10), .int z_queue, .ref (y + 11), .ref (y + 12), .ref (y + 13), .ref (y + 14), .ref (y + 15), .ref (y + 16), .int z_lastCount, .long z_expected, .ref (y + 17), .ref (y + 18), .ref (y + 19), .ref (y + 20), .ref (y + 21), .ref (y + 22), .int z_keys, .ref (y + 23), .ref (y + 24), .int z_trueKeys, .ref (y + 25), .int 0, .int z_next, .int z_errorCode, .int z_errorPosition, .int z_kind, .int z_start, .int z_number, .long z_value]) := ((fset_fr hΦ1 (ne_off (x := y) (i := 0) (j := 25) rfl)).trans hc0)
  refine z_get (ref := "FlowExporterModel") (C := RX12) (T := TX12) (N := 54) (ci := 14) (v := .int 0) B (by decide +kernel) rfl 46 (by decide) (by decide +kernel) rfl h_2 rfl dX12_appendBytes_22 ?_
  refine z_iconst (v := 1) B dX12_appendBytes_25 rfl ?_
  refine z_iadd B dX12_appendBytes_26 ?_
  refine z_top (st1 := [.int 1, .ref y]) (congrArg (fun w9 : Int32 => ([.int w9, .ref y] : List Value)) (show (0 + 1 : Int32) = 1 by decide +kernel)) ?_
  refine z_put (ref := "FlowExporterModel") (C := RX12) (T := TX12) (N := 54) (ci := 14) (v := .int 1) B (by decide +kernel) tyX12 tyX12_ok nmX12 rfl 46 (by decide) (by decide +kernel) rfl (Or.inl rfl) h_2 hna_y rfl rfl (Nat.le_of_ble_eq_true rfl) dX12_appendBytes_27 (fun Φ2 hΦ2 => ?_)
  have h_3 : Φ2 y = some (o_ 14 [.int z_thrown, .ref (y + 1), .ref (y + 2), .int z_time, .int z_random, .int z_rate, .int z_exportedHere, .int z_adaptive, .ref (y + 3), .ref (y + 4), .int z_messages, .long z_sequence, .ref (y + 5), .int z_flows, .int z_dropped, .long z_observed, .long z_sampled, .long z_sent, .long z_unsent, .ref (y + 6), .ref (y + 7), .int z_pending, .ref (y + 8), .int z_length, .ref (y + 9), .ref (y + 10), .int z_queue, .ref (y + 11), .ref (y + 12), .ref (y + 13), .ref (y + 14), .ref (y + 15), .ref (y + 16), .int z_lastCount, .long z_expected, .ref (y + 17), .ref (y + 18), .ref (y + 19), .ref (y + 20), .ref (y + 21), .ref (y + 22), .int z_keys, .ref (y + 23), .ref (y + 24), .int z_trueKeys, .ref (y + 25), .int 1, .int z_next, .int z_errorCode, .int z_errorPosition, .int z_kind, .int z_start, .int z_number, .long z_value]) := fset_at hΦ2
  refine z_iinc (k := 0) (v := 16) (lv' := [(2, .int 16), (0, .ref y), (1, .int wd)]) B dX12_appendBytes_30 rfl rfl (Nat.le_of_ble_eq_true rfl) rfl ?_
  refine z_goto (tgt := 3) B dX12_appendBytes_33 rfl ?_
  refine z_iload_n B dX12_appendBytes_3 rfl 0 rfl ?_
  refine z_if_lt (tgt := 36) B dX12_appendBytes_4 rfl (fun h9 => absurd h9 (by decide)) (fun c_2 => ?_)
  refine z_aload_n B dX12_appendBytes_7 rfl 1 rfl ?_
  refine z_get (ref := "FlowExporterModel") (C := RX12) (T := TX12) (N := 54) (ci := 14) (v := .ref (y + 25)) B (by decide +kernel) rfl 45 (by decide) (by decide +kernel) rfl h_3 rfl dX12_appendBytes_8 ?_
  refine z_aload_n B dX12_appendBytes_11 rfl 1 rfl ?_
  refine z_get (ref := "FlowExporterModel") (C := RX12) (T := TX12) (N := 54) (ci := 14) (v := .int 1) B (by decide +kernel) rfl 46 (by decide) (by decide +kernel) rfl h_3 rfl dX12_appendBytes_12 ?_
  refine z_iload_n B dX12_appendBytes_15 rfl 2 rfl ?_
  refine z_iload_n B dX12_appendBytes_16 rfl 0 rfl ?_
  refine z_ishr B dX12_appendBytes_17 ?_
  refine z_i2b (v := (wd >>> (16 &&& 31)).toInt8.toInt32) B dX12_appendBytes_18 rfl ?_
  have h_4 : Φ2 (y + 25) = some (ab_ G 700 (upd g (0 : Int32).toNatClampNeg (vp_nar .byte ((wd >>> (24 &&& 31)).toInt8.toInt32)))) := ((fset_fr hΦ2 (ne_off (x := y) (i := 25) (j := 0) rfl)).trans h_1)
  refine z_bast B h_4 (Nat.le_trans hna_y (Nat.le_add_right y 25)) (vin rfl) dX12_appendBytes_19 (fun Φ3 hΦ3 => ?_)
  have h_5 : Φ3 (y + 25) = some (ab_ G 700 (upd (upd g (0 : Int32).toNatClampNeg (vp_nar .byte ((wd >>> (24 &&& 31)).toInt8.toInt32))) (1 : Int32).toNatClampNeg (vp_nar .byte ((wd >>> (16 &&& 31)).toInt8.toInt32)))) := fset_at hΦ3
  refine z_aload_n B dX12_appendBytes_20 rfl 1 rfl ?_
  refine z_dup B dX12_appendBytes_21 rfl ?_
  have h_6 : Φ3 y = some (o_ 14 [.int z_thrown, .ref (y + 1), .ref (y + 2), .int z_time, .int z_random, .int z_rate, .int z_exportedHere, .int z_adaptive, .ref (y + 3), .ref (y + 4), .int z_messages, .long z_sequence, .ref (y + 5), .int z_flows, .int z_dropped, .long z_observed, .long z_sampled, .long z_sent, .long z_unsent, .ref (y + 6), .ref (y + 7), .int z_pending, .ref (y + 8), .int z_length, .ref (y + 9), .ref (y + 10), .int z_queue, .ref (y + 11), .ref (y + 12), .ref (y + 13), .ref (y + 14), .ref (y + 15), .ref (y + 16), .int z_lastCount, .long z_expected, .ref (y + 17), .ref (y + 18), .ref (y + 19), .ref (y + 20), .ref (y + 21), .ref (y + 22), .int z_keys, .ref (y + 23), .ref (y + 24), .int z_trueKeys, .ref (y + 25), .int 1, .int z_next, .int z_errorCode, .int z_errorPosition, .int z_kind, .int z_start, .int z_number, .long z_value]) := ((fset_fr hΦ3 (ne_off (x := y) (i := 0) (j := 25) rfl)).trans h_3)
  refine z_get (ref := "FlowExporterModel") (C := RX12) (T := TX12) (N := 54) (ci := 14) (v := .int 1) B (by decide +kernel) rfl 46 (by decide) (by decide +kernel) rfl h_6 rfl dX12_appendBytes_22 ?_
  refine z_iconst (v := 1) B dX12_appendBytes_25 rfl ?_
  refine z_iadd B dX12_appendBytes_26 ?_
  refine z_top (st1 := [.int 2, .ref y]) (congrArg (fun w9 : Int32 => ([.int w9, .ref y] : List Value)) (show (1 + 1 : Int32) = 2 by decide +kernel)) ?_
  refine z_put (ref := "FlowExporterModel") (C := RX12) (T := TX12) (N := 54) (ci := 14) (v := .int 2) B (by decide +kernel) tyX12 tyX12_ok nmX12 rfl 46 (by decide) (by decide +kernel) rfl (Or.inl rfl) h_6 hna_y rfl rfl (Nat.le_of_ble_eq_true rfl) dX12_appendBytes_27 (fun Φ4 hΦ4 => ?_)
  have h_7 : Φ4 y = some (o_ 14 [.int z_thrown, .ref (y + 1), .ref (y + 2), .int z_time, .int z_random, .int z_rate, .int z_exportedHere, .int z_adaptive, .ref (y + 3), .ref (y + 4), .int z_messages, .long z_sequence, .ref (y + 5), .int z_flows, .int z_dropped, .long z_observed, .long z_sampled, .long z_sent, .long z_unsent, .ref (y + 6), .ref (y + 7), .int z_pending, .ref (y + 8), .int z_length, .ref (y + 9), .ref (y + 10), .int z_queue, .ref (y + 11), .ref (y + 12), .ref (y + 13), .ref (y + 14), .ref (y + 15), .ref (y + 16), .int z_lastCount, .long z_expected, .ref (y + 17), .ref (y + 18), .ref (y + 19), .ref (y + 20), .ref (y + 21), .ref (y + 22), .int z_keys, .ref (y + 23), .ref (y + 24), .int z_trueKeys, .ref (y + 25), .int 2, .int z_next, .int z_errorCode, .int z_errorPosition, .int z_kind, .int z_start, .int z_number, .long z_value]) := fset_at hΦ4
  refine z_iinc (k := 0) (v := 8) (lv' := [(2, .int 8), (0, .ref y), (1, .int wd)]) B dX12_appendBytes_30 rfl rfl (Nat.le_of_ble_eq_true rfl) rfl ?_
  refine z_goto (tgt := 3) B dX12_appendBytes_33 rfl ?_
  refine z_iload_n B dX12_appendBytes_3 rfl 0 rfl ?_
  refine z_if_lt (tgt := 36) B dX12_appendBytes_4 rfl (fun h9 => absurd h9 (by decide)) (fun c_3 => ?_)
  refine z_aload_n B dX12_appendBytes_7 rfl 1 rfl ?_
  refine z_get (ref := "FlowExporterModel") (C := RX12) (T := TX12) (N := 54) (ci := 14) (v := .ref (y + 25)) B (by decide +kernel) rfl 45 (by decide) (by decide +kernel) rfl h_7 rfl dX12_appendBytes_8 ?_
  refine z_aload_n B dX12_appendBytes_11 rfl 1 rfl ?_
  refine z_get (ref := "FlowExporterModel") (C := RX12) (T := TX12) (N := 54) (ci := 14) (v := .int 2) B (by decide +kernel) rfl 46 (by decide) (by decide +kernel) rfl h_7 rfl dX12_appendBytes_12 ?_
  refine z_iload_n B dX12_appendBytes_15 rfl 2 rfl ?_
  refine z_iload_n B dX12_appendBytes_16 rfl 0 rfl ?_
  refine z_ishr B dX12_appendBytes_17 ?_
  refine z_i2b (v := (wd >>> (8 &&& 31)).toInt8.toInt32) B dX12_appendBytes_18 rfl ?_
  have h_8 : Φ4 (y + 25) = some (ab_ G 700 (upd (upd g (0 : Int32).toNatClampNeg (vp_nar .byte ((wd >>> (24 &&& 31)).toInt8.toInt32))) (1 : Int32).toNatClampNeg (vp_nar .byte ((wd >>> (16 &&& 31)).toInt8.toInt32)))) := ((fset_fr hΦ4 (ne_off (x := y) (i := 25) (j := 0) rfl)).trans h_5)
  refine z_bast B h_8 (Nat.le_trans hna_y (Nat.le_add_right y 25)) (vin rfl) dX12_appendBytes_19 (fun Φ5 hΦ5 => ?_)
  have h_9 : Φ5 (y + 25) = some (ab_ G 700 (upd (upd (upd g (0 : Int32).toNatClampNeg (vp_nar .byte ((wd >>> (24 &&& 31)).toInt8.toInt32))) (1 : Int32).toNatClampNeg (vp_nar .byte ((wd >>> (16 &&& 31)).toInt8.toInt32))) (2 : Int32).toNatClampNeg (vp_nar .byte ((wd >>> (8 &&& 31)).toInt8.toInt32)))) := fset_at hΦ5
  refine z_aload_n B dX12_appendBytes_20 rfl 1 rfl ?_
  refine z_dup B dX12_appendBytes_21 rfl ?_
  have h_10 : Φ5 y = some (o_ 14 [.int z_thrown, .ref (y + 1), .ref (y + 2), .int z_time, .int z_random, .int z_rate, .int z_exportedHere, .int z_adaptive, .ref (y + 3), .ref (y + 4), .int z_messages, .long z_sequence, .ref (y + 5), .int z_flows, .int z_dropped, .long z_observed, .long z_sampled, .long z_sent, .long z_unsent, .ref (y + 6), .ref (y + 7), .int z_pending, .ref (y + 8), .int z_length, .ref (y + 9), .ref (y + 10), .int z_queue, .ref (y + 11), .ref (y + 12), .ref (y + 13), .ref (y + 14), .ref (y + 15), .ref (y + 16), .int z_lastCount, .long z_expected, .ref (y + 17), .ref (y + 18), .ref (y + 19), .ref (y + 20), .ref (y + 21), .ref (y + 22), .int z_keys, .ref (y + 23), .ref (y + 24), .int z_trueKeys, .ref (y + 25), .int 2, .int z_next, .int z_errorCode, .int z_errorPosition, .int z_kind, .int z_start, .int z_number, .long z_value]) := ((fset_fr hΦ5 (ne_off (x := y) (i := 0) (j := 25) rfl)).trans h_7)
  refine z_get (ref := "FlowExporterModel") (C := RX12) (T := TX12) (N := 54) (ci := 14) (v := .int 2) B (by decide +kernel) rfl 46 (by decide) (by decide +kernel) rfl h_10 rfl dX12_appendBytes_22 ?_
  refine z_iconst (v := 1) B dX12_appendBytes_25 rfl ?_
  refine z_iadd B dX12_appendBytes_26 ?_
  refine z_top (st1 := [.int 3, .ref y]) (congrArg (fun w9 : Int32 => ([.int w9, .ref y] : List Value)) (show (2 + 1 : Int32) = 3 by decide +kernel)) ?_
  refine z_put (ref := "FlowExporterModel") (C := RX12) (T := TX12) (N := 54) (ci := 14) (v := .int 3) B (by decide +kernel) tyX12 tyX12_ok nmX12 rfl 46 (by decide) (by decide +kernel) rfl (Or.inl rfl) h_10 hna_y rfl rfl (Nat.le_of_ble_eq_true rfl) dX12_appendBytes_27 (fun Φ6 hΦ6 => ?_)
  have h_11 : Φ6 y = some (o_ 14 [.int z_thrown, .ref (y + 1), .ref (y + 2), .int z_time, .int z_random, .int z_rate, .int z_exportedHere, .int z_adaptive, .ref (y + 3), .ref (y + 4), .int z_messages, .long z_sequence, .ref (y + 5), .int z_flows, .int z_dropped, .long z_observed, .long z_sampled, .long z_sent, .long z_unsent, .ref (y + 6), .ref (y + 7), .int z_pending, .ref (y + 8), .int z_length, .ref (y + 9), .ref (y + 10), .int z_queue, .ref (y + 11), .ref (y + 12), .ref (y + 13), .ref (y + 14), .ref (y + 15), .ref (y + 16), .int z_lastCount, .long z_expected, .ref (y + 17), .ref (y + 18), .ref (y + 19), .ref (y + 20), .ref (y + 21), .ref (y + 22), .int z_keys, .ref (y + 23), .ref (y + 24), .int z_trueKeys, .ref (y + 25), .int 3, .int z_next, .int z_errorCode, .int z_errorPosition, .int z_kind, .int z_start, .int z_number, .long z_value]) := fset_at hΦ6
  refine z_iinc (k := 0) (v := 0) (lv' := [(2, .int 0), (0, .ref y), (1, .int wd)]) B dX12_appendBytes_30 rfl rfl (Nat.le_of_ble_eq_true rfl) rfl ?_
  refine z_goto (tgt := 3) B dX12_appendBytes_33 rfl ?_
  refine z_iload_n B dX12_appendBytes_3 rfl 0 rfl ?_
  refine z_if_lt (tgt := 36) B dX12_appendBytes_4 rfl (fun h9 => absurd h9 (by decide)) (fun c_4 => ?_)
  refine z_aload_n B dX12_appendBytes_7 rfl 1 rfl ?_
  refine z_get (ref := "FlowExporterModel") (C := RX12) (T := TX12) (N := 54) (ci := 14) (v := .ref (y + 25)) B (by decide +kernel) rfl 45 (by decide) (by decide +kernel) rfl h_11 rfl dX12_appendBytes_8 ?_
  refine z_aload_n B dX12_appendBytes_11 rfl 1 rfl ?_
  refine z_get (ref := "FlowExporterModel") (C := RX12) (T := TX12) (N := 54) (ci := 14) (v := .int 3) B (by decide +kernel) rfl 46 (by decide) (by decide +kernel) rfl h_11 rfl dX12_appendBytes_12 ?_
  refine z_iload_n B dX12_appendBytes_15 rfl 2 rfl ?_
  refine z_iload_n B dX12_appendBytes_16 rfl 0 rfl ?_
  refine z_ishr B dX12_appendBytes_17 ?_
  refine z_i2b (v := (wd >>> (0 &&& 31)).toInt8.toInt32) B dX12_appendBytes_18 rfl ?_
  have h_12 : Φ6 (y + 25) = some (ab_ G 700 (upd (upd (upd g (0 : Int32).toNatClampNeg (vp_nar .byte ((wd >>> (24 &&& 31)).toInt8.toInt32))) (1 : Int32).toNatClampNeg (vp_nar .byte ((wd >>> (16 &&& 31)).toInt8.toInt32))) (2 : Int32).toNatClampNeg (vp_nar .byte ((wd >>> (8 &&& 31)).toInt8.toInt32)))) := ((fset_fr hΦ6 (ne_off (x := y) (i := 25) (j := 0) rfl)).trans h_9)
  refine z_bast B h_12 (Nat.le_trans hna_y (Nat.le_add_right y 25)) (vin rfl) dX12_appendBytes_19 (fun Φ7 hΦ7 => ?_)
  have h_13 : Φ7 (y + 25) = some (ab_ G 700 (upd (upd (upd (upd g (0 : Int32).toNatClampNeg (vp_nar .byte ((wd >>> (24 &&& 31)).toInt8.toInt32))) (1 : Int32).toNatClampNeg (vp_nar .byte ((wd >>> (16 &&& 31)).toInt8.toInt32))) (2 : Int32).toNatClampNeg (vp_nar .byte ((wd >>> (8 &&& 31)).toInt8.toInt32))) (3 : Int32).toNatClampNeg (vp_nar .byte ((wd >>> (0 &&& 31)).toInt8.toInt32)))) := fset_at hΦ7
  refine z_aload_n B dX12_appendBytes_20 rfl 1 rfl ?_
  refine z_dup B dX12_appendBytes_21 rfl ?_
  have h_14 : Φ7 y = some (o_ 14 [.int z_thrown, .ref (y + 1), .ref (y + 2), .int z_time, .int z_random, .int z_rate, .int z_exportedHere, .int z_adaptive, .ref (y + 3), .ref (y + 4), .int z_messages, .long z_sequence, .ref (y + 5), .int z_flows, .int z_dropped, .long z_observed, .long z_sampled, .long z_sent, .long z_unsent, .ref (y + 6), .ref (y + 7), .int z_pending, .ref (y + 8), .int z_length, .ref (y + 9), .ref (y + 10), .int z_queue, .ref (y + 11), .ref (y + 12), .ref (y + 13), .ref (y + 14), .ref (y + 15), .ref (y + 16), .int z_lastCount, .long z_expected, .ref (y + 17), .ref (y + 18), .ref (y + 19), .ref (y + 20), .ref (y + 21), .ref (y + 22), .int z_keys, .ref (y + 23), .ref (y + 24), .int z_trueKeys, .ref (y + 25), .int 3, .int z_next, .int z_errorCode, .int z_errorPosition, .int z_kind, .int z_start, .int z_number, .long z_value]) := ((fset_fr hΦ7 (ne_off (x := y) (i := 0) (j := 25) rfl)).trans h_11)
  refine z_get (ref := "FlowExporterModel") (C := RX12) (T := TX12) (N := 54) (ci := 14) (v := .int 3) B (by decide +kernel) rfl 46 (by decide) (by decide +kernel) rfl h_14 rfl dX12_appendBytes_22 ?_
  refine z_iconst (v := 1) B dX12_appendBytes_25 rfl ?_
  refine z_iadd B dX12_appendBytes_26 ?_
  refine z_top (st1 := [.int 4, .ref y]) (congrArg (fun w9 : Int32 => ([.int w9, .ref y] : List Value)) (show (3 + 1 : Int32) = 4 by decide +kernel)) ?_
  refine z_put (ref := "FlowExporterModel") (C := RX12) (T := TX12) (N := 54) (ci := 14) (v := .int 4) B (by decide +kernel) tyX12 tyX12_ok nmX12 rfl 46 (by decide) (by decide +kernel) rfl (Or.inl rfl) h_14 hna_y rfl rfl (Nat.le_of_ble_eq_true rfl) dX12_appendBytes_27 (fun Φ8 hΦ8 => ?_)
  have h_15 : Φ8 y = some (o_ 14 [.int z_thrown, .ref (y + 1), .ref (y + 2), .int z_time, .int z_random, .int z_rate, .int z_exportedHere, .int z_adaptive, .ref (y + 3), .ref (y + 4), .int z_messages, .long z_sequence, .ref (y + 5), .int z_flows, .int z_dropped, .long z_observed, .long z_sampled, .long z_sent, .long z_unsent, .ref (y + 6), .ref (y + 7), .int z_pending, .ref (y + 8), .int z_length, .ref (y + 9), .ref (y + 10), .int z_queue, .ref (y + 11), .ref (y + 12), .ref (y + 13), .ref (y + 14), .ref (y + 15), .ref (y + 16), .int z_lastCount, .long z_expected, .ref (y + 17), .ref (y + 18), .ref (y + 19), .ref (y + 20), .ref (y + 21), .ref (y + 22), .int z_keys, .ref (y + 23), .ref (y + 24), .int z_trueKeys, .ref (y + 25), .int 4, .int z_next, .int z_errorCode, .int z_errorPosition, .int z_kind, .int z_start, .int z_number, .long z_value]) := fset_at hΦ8
  refine z_iinc (k := 0) (v := (-8)) (lv' := [(2, .int (-8)), (0, .ref y), (1, .int wd)]) B dX12_appendBytes_30 rfl rfl (Nat.le_of_ble_eq_true rfl) rfl ?_
  refine z_goto (tgt := 3) B dX12_appendBytes_33 rfl ?_
  refine z_iload_n B dX12_appendBytes_3 rfl 0 rfl ?_
  refine z_if_lt (tgt := 36) B dX12_appendBytes_4 rfl (fun c_5 => ?_) (fun h9 => absurd (by decide) h9)
  have h_16 : Φ8 (y + 25) = some (ab_ G 700 (upd (upd (upd (upd g (0 : Int32).toNatClampNeg (vp_nar .byte ((wd >>> (24 &&& 31)).toInt8.toInt32))) (1 : Int32).toNatClampNeg (vp_nar .byte ((wd >>> (16 &&& 31)).toInt8.toInt32))) (2 : Int32).toNatClampNeg (vp_nar .byte ((wd >>> (8 &&& 31)).toInt8.toInt32))) (3 : Int32).toNatClampNeg (vp_nar .byte ((wd >>> (0 &&& 31)).toInt8.toInt32)))) := ((fset_fr hΦ8 (ne_off (x := y) (i := 25) (j := 0) rfl)).trans h_13)
  exact z_ret_v B dX12_appendBytes_36 ⟨rfl, rfl, (fun b9 h9a h9b => ((fset_fr hΦ8 h9a).trans ((fset_fr hΦ7 h9b).trans ((fset_fr hΦ6 h9a).trans ((fset_fr hΦ5 h9b).trans ((fset_fr hΦ4 h9a).trans ((fset_fr hΦ3 h9b).trans ((fset_fr hΦ2 h9a).trans ((fset_fr hΦ1 h9b).trans rfl))))))))), h_15, h_16⟩

set_option maxHeartbeats 4000000 in
set_option maxRecDepth 100000 in
theorem c_X12_appendBytes_4 (G : EnvG) (l : Launch) (Φ : Hm) (sz : Nat) (y : Nat) (z_thrown : Int32) (z_time : Int32) (z_random : Int32) (z_rate : Int32) (z_exportedHere : Int32) (z_adaptive : Int32) (z_messages : Int32) (z_sequence : Int64) (z_flows : Int32) (z_dropped : Int32) (z_observed : Int64) (z_sampled : Int64) (z_sent : Int64) (z_unsent : Int64) (z_pending : Int32) (z_length : Int32) (z_queue : Int32) (z_lastCount : Int32) (z_expected : Int64) (z_keys : Int32) (z_trueKeys : Int32) (z_next : Int32) (z_errorCode : Int32) (z_errorPosition : Int32) (z_kind : Int32) (z_start : Int32) (z_number : Int32) (z_value : Int64) (g : Nat → Int32) (wd : Int32) (hc0 : Φ y = some (o_ 14 [.int z_thrown, .ref (y + 1), .ref (y + 2), .int z_time, .int z_random, .int z_rate, .int z_exportedHere, .int z_adaptive, .ref (y + 3), .ref (y + 4), .int z_messages, .long z_sequence, .ref (y + 5), .int z_flows, .int z_dropped, .long z_observed, .long z_sampled, .long z_sent, .long z_unsent, .ref (y + 6), .ref (y + 7), .int z_pending, .ref (y + 8), .int z_length, .ref (y + 9), .ref (y + 10), .int z_queue, .ref (y + 11), .ref (y + 12), .ref (y + 13), .ref (y + 14), .ref (y + 15), .ref (y + 16), .int z_lastCount, .long z_expected, .ref (y + 17), .ref (y + 18), .ref (y + 19), .ref (y + 20), .ref (y + 21), .ref (y + 22), .int z_keys, .ref (y + 23), .ref (y + 24), .int z_trueKeys, .ref (y + 25), .int 4, .int z_next, .int z_errorCode, .int z_errorPosition, .int z_kind, .int z_start, .int z_number, .long z_value])) (hc1 : Φ (y + 25) = some (ab_ G 700 g)) (hna_y : G.2.2.2 ≤ y) : Ct G l yX12_appendBytes wsX12_appendBytes ({ frames := 0, cells := 0, slots := 0, locals := 0 }) 0 0 [.ref y, .int wd] Φ sz (fun v Φ1 sz1 => v = none ∧ sz1 = sz ∧ (∀ b9 : Nat, b9 ≠ y → b9 ≠ y + 25 → Φ1 b9 = Φ b9) ∧ Φ1 y = some (o_ 14 [.int z_thrown, .ref (y + 1), .ref (y + 2), .int z_time, .int z_random, .int z_rate, .int z_exportedHere, .int z_adaptive, .ref (y + 3), .ref (y + 4), .int z_messages, .long z_sequence, .ref (y + 5), .int z_flows, .int z_dropped, .long z_observed, .long z_sampled, .long z_sent, .long z_unsent, .ref (y + 6), .ref (y + 7), .int z_pending, .ref (y + 8), .int z_length, .ref (y + 9), .ref (y + 10), .int z_queue, .ref (y + 11), .ref (y + 12), .ref (y + 13), .ref (y + 14), .ref (y + 15), .ref (y + 16), .int z_lastCount, .long z_expected, .ref (y + 17), .ref (y + 18), .ref (y + 19), .ref (y + 20), .ref (y + 21), .ref (y + 22), .int z_keys, .ref (y + 23), .ref (y + 24), .int z_trueKeys, .ref (y + 25), .int 8, .int z_next, .int z_errorCode, .int z_errorPosition, .int z_kind, .int z_start, .int z_number, .long z_value]) ∧ Φ1 (y + 25) = some (ab_ G 700 (upd (upd (upd (upd g (4 : Int32).toNatClampNeg (vp_nar .byte ((wd >>> (24 &&& 31)).toInt8.toInt32))) (5 : Int32).toNatClampNeg (vp_nar .byte ((wd >>> (16 &&& 31)).toInt8.toInt32))) (6 : Int32).toNatClampNeg (vp_nar .byte ((wd >>> (8 &&& 31)).toInt8.toInt32))) (7 : Int32).toNatClampNeg (vp_nar .byte ((wd >>> (0 &&& 31)).toInt8.toInt32))))) := by
  refine Ct.of (cc := cX12_appendBytes) (maxL := 3) (ret := none) (by decide) rfl (Nat.le_of_ble_eq_true rfl) ?_
  intro p9 e9 s9 m9 w9 t9 k9 B
  show Z p9 l e9 _ s9 m9 _ w9 t9 k9 _ G 3 0 [(0, .ref y), (1, .int wd)] [] Φ (sz) 0 0
  refine z_bipush (v := 24) B dX12_appendBytes_0 rfl ?_
  refine z_istore_n (lv' := [(2, .int 24), (0, .ref y), (1, .int wd)]) B dX12_appendBytes_2 rfl (Nat.le_of_ble_eq_true rfl) rfl ?_
  refine z_iload_n B dX12_appendBytes_3 rfl 0 rfl ?_
  refine z_if_lt (tgt := 36) B dX12_appendBytes_4 rfl (fun h9 => absurd h9 (by decide)) (fun c_1 => ?_)
  refine z_aload_n B dX12_appendBytes_7 rfl 1 rfl ?_
  refine z_get (ref := "FlowExporterModel") (C := RX12) (T := TX12) (N := 54) (ci := 14) (v := .ref (y + 25)) B (by decide +kernel) rfl 45 (by decide) (by decide +kernel) rfl hc0 rfl dX12_appendBytes_8 ?_
  refine z_aload_n B dX12_appendBytes_11 rfl 1 rfl ?_
  refine z_get (ref := "FlowExporterModel") (C := RX12) (T := TX12) (N := 54) (ci := 14) (v := .int 4) B (by decide +kernel) rfl 46 (by decide) (by decide +kernel) rfl hc0 rfl dX12_appendBytes_12 ?_
  refine z_iload_n B dX12_appendBytes_15 rfl 2 rfl ?_
  refine z_iload_n B dX12_appendBytes_16 rfl 0 rfl ?_
  refine z_ishr B dX12_appendBytes_17 ?_
  refine z_i2b (v := (wd >>> (24 &&& 31)).toInt8.toInt32) B dX12_appendBytes_18 rfl ?_
  refine z_bast B hc1 (Nat.le_trans hna_y (Nat.le_add_right y 25)) (vin rfl) dX12_appendBytes_19 (fun Φ1 hΦ1 => ?_)
  have h_1 : Φ1 (y + 25) = some (ab_ G 700 (upd g (4 : Int32).toNatClampNeg (vp_nar .byte ((wd >>> (24 &&& 31)).toInt8.toInt32)))) := fset_at hΦ1
  refine z_aload_n B dX12_appendBytes_20 rfl 1 rfl ?_
  refine z_dup B dX12_appendBytes_21 rfl ?_
  have h_2 : Φ1 y = some (o_ 14 [.int z_thrown, .ref (y + 1), .ref (y + 2), .int z_time, .int z_random, .int z_rate, .int z_exportedHere, .int z_adaptive, .ref (y + 3), .ref (y + 4), .int z_messages, .long z_sequence, .ref (y + 5), .int z_flows, .int z_dropped, .long z_observed, .long z_sampled, .long z_sent, .long z_unsent, .ref (y + 6), .ref (y + 7), .int z_pending, .ref (y + 8), .int z_length, .ref (y + 9), .ref (y + 10), .int z_queue, .ref (y + 11), .ref (y + 12), .ref (y + 13), .ref (y + 14), .ref (y + 15), .ref (y + 16), .int z_lastCount, .long z_expected, .ref (y + 17), .ref (y + 18), .ref (y + 19), .ref (y + 20), .ref (y + 21), .ref (y + 22), .int z_keys, .ref (y + 23), .ref (y + 24), .int z_trueKeys, .ref (y + 25), .int 4, .int z_next, .int z_errorCode, .int z_errorPosition, .int z_kind, .int z_start, .int z_number, .long z_value]) := ((fset_fr hΦ1 (ne_off (x := y) (i := 0) (j := 25) rfl)).trans hc0)
  refine z_get (ref := "FlowExporterModel") (C := RX12) (T := TX12) (N := 54) (ci := 14) (v := .int 4) B (by decide +kernel) rfl 46 (by decide) (by decide +kernel) rfl h_2 rfl dX12_appendBytes_22 ?_
  refine z_iconst (v := 1) B dX12_appendBytes_25 rfl ?_
  refine z_iadd B dX12_appendBytes_26 ?_
  refine z_top (st1 := [.int 5, .ref y]) (congrArg (fun w9 : Int32 => ([.int w9, .ref y] : List Value)) (show (4 + 1 : Int32) = 5 by decide +kernel)) ?_
  refine z_put (ref := "FlowExporterModel") (C := RX12) (T := TX12) (N := 54) (ci := 14) (v := .int 5) B (by decide +kernel) tyX12 tyX12_ok nmX12 rfl 46 (by decide) (by decide +kernel) rfl (Or.inl rfl) h_2 hna_y rfl rfl (Nat.le_of_ble_eq_true rfl) dX12_appendBytes_27 (fun Φ2 hΦ2 => ?_)
  have h_3 : Φ2 y = some (o_ 14 [.int z_thrown, .ref (y + 1), .ref (y + 2), .int z_time, .int z_random, .int z_rate, .int z_exportedHere, .int z_adaptive, .ref (y + 3), .ref (y + 4), .int z_messages, .long z_sequence, .ref (y + 5), .int z_flows, .int z_dropped, .long z_observed, .long z_sampled, .long z_sent, .long z_unsent, .ref (y + 6), .ref (y + 7), .int z_pending, .ref (y + 8), .int z_length, .ref (y + 9), .ref (y + 10), .int z_queue, .ref (y + 11), .ref (y + 12), .ref (y + 13), .ref (y + 14), .ref (y + 15), .ref (y + 16), .int z_lastCount, .long z_expected, .ref (y + 17), .ref (y + 18), .ref (y + 19), .ref (y + 20), .ref (y + 21), .ref (y + 22), .int z_keys, .ref (y + 23), .ref (y + 24), .int z_trueKeys, .ref (y + 25), .int 5, .int z_next, .int z_errorCode, .int z_errorPosition, .int z_kind, .int z_start, .int z_number, .long z_value]) := fset_at hΦ2
  refine z_iinc (k := 0) (v := 16) (lv' := [(2, .int 16), (0, .ref y), (1, .int wd)]) B dX12_appendBytes_30 rfl rfl (Nat.le_of_ble_eq_true rfl) rfl ?_
  refine z_goto (tgt := 3) B dX12_appendBytes_33 rfl ?_
  refine z_iload_n B dX12_appendBytes_3 rfl 0 rfl ?_
  refine z_if_lt (tgt := 36) B dX12_appendBytes_4 rfl (fun h9 => absurd h9 (by decide)) (fun c_2 => ?_)
  refine z_aload_n B dX12_appendBytes_7 rfl 1 rfl ?_
  refine z_get (ref := "FlowExporterModel") (C := RX12) (T := TX12) (N := 54) (ci := 14) (v := .ref (y + 25)) B (by decide +kernel) rfl 45 (by decide) (by decide +kernel) rfl h_3 rfl dX12_appendBytes_8 ?_
  refine z_aload_n B dX12_appendBytes_11 rfl 1 rfl ?_
  refine z_get (ref := "FlowExporterModel") (C := RX12) (T := TX12) (N := 54) (ci := 14) (v := .int 5) B (by decide +kernel) rfl 46 (by decide) (by decide +kernel) rfl h_3 rfl dX12_appendBytes_12 ?_
  refine z_iload_n B dX12_appendBytes_15 rfl 2 rfl ?_
  refine z_iload_n B dX12_appendBytes_16 rfl 0 rfl ?_
  refine z_ishr B dX12_appendBytes_17 ?_
  refine z_i2b (v := (wd >>> (16 &&& 31)).toInt8.toInt32) B dX12_appendBytes_18 rfl ?_
  have h_4 : Φ2 (y + 25) = some (ab_ G 700 (upd g (4 : Int32).toNatClampNeg (vp_nar .byte ((wd >>> (24 &&& 31)).toInt8.toInt32)))) := ((fset_fr hΦ2 (ne_off (x := y) (i := 25) (j := 0) rfl)).trans h_1)
  refine z_bast B h_4 (Nat.le_trans hna_y (Nat.le_add_right y 25)) (vin rfl) dX12_appendBytes_19 (fun Φ3 hΦ3 => ?_)
  have h_5 : Φ3 (y + 25) = some (ab_ G 700 (upd (upd g (4 : Int32).toNatClampNeg (vp_nar .byte ((wd >>> (24 &&& 31)).toInt8.toInt32))) (5 : Int32).toNatClampNeg (vp_nar .byte ((wd >>> (16 &&& 31)).toInt8.toInt32)))) := fset_at hΦ3
  refine z_aload_n B dX12_appendBytes_20 rfl 1 rfl ?_
  refine z_dup B dX12_appendBytes_21 rfl ?_
  have h_6 : Φ3 y = some (o_ 14 [.int z_thrown, .ref (y + 1), .ref (y + 2), .int z_time, .int z_random, .int z_rate, .int z_exportedHere, .int z_adaptive, .ref (y + 3), .ref (y + 4), .int z_messages, .long z_sequence, .ref (y + 5), .int z_flows, .int z_dropped, .long z_observed, .long z_sampled, .long z_sent, .long z_unsent, .ref (y + 6), .ref (y + 7), .int z_pending, .ref (y + 8), .int z_length, .ref (y + 9), .ref (y + 10), .int z_queue, .ref (y + 11), .ref (y + 12), .ref (y + 13), .ref (y + 14), .ref (y + 15), .ref (y + 16), .int z_lastCount, .long z_expected, .ref (y + 17), .ref (y + 18), .ref (y + 19), .ref (y + 20), .ref (y + 21), .ref (y + 22), .int z_keys, .ref (y + 23), .ref (y + 24), .int z_trueKeys, .ref (y + 25), .int 5, .int z_next, .int z_errorCode, .int z_errorPosition, .int z_kind, .int z_start, .int z_number, .long z_value]) := ((fset_fr hΦ3 (ne_off (x := y) (i := 0) (j := 25) rfl)).trans h_3)
  refine z_get (ref := "FlowExporterModel") (C := RX12) (T := TX12) (N := 54) (ci := 14) (v := .int 5) B (by decide +kernel) rfl 46 (by decide) (by decide +kernel) rfl h_6 rfl dX12_appendBytes_22 ?_
  refine z_iconst (v := 1) B dX12_appendBytes_25 rfl ?_
  refine z_iadd B dX12_appendBytes_26 ?_
  refine z_top (st1 := [.int 6, .ref y]) (congrArg (fun w9 : Int32 => ([.int w9, .ref y] : List Value)) (show (5 + 1 : Int32) = 6 by decide +kernel)) ?_
  refine z_put (ref := "FlowExporterModel") (C := RX12) (T := TX12) (N := 54) (ci := 14) (v := .int 6) B (by decide +kernel) tyX12 tyX12_ok nmX12 rfl 46 (by decide) (by decide +kernel) rfl (Or.inl rfl) h_6 hna_y rfl rfl (Nat.le_of_ble_eq_true rfl) dX12_appendBytes_27 (fun Φ4 hΦ4 => ?_)
  have h_7 : Φ4 y = some (o_ 14 [.int z_thrown, .ref (y + 1), .ref (y + 2), .int z_time, .int z_random, .int z_rate, .int z_exportedHere, .int z_adaptive, .ref (y + 3), .ref (y + 4), .int z_messages, .long z_sequence, .ref (y + 5), .int z_flows, .int z_dropped, .long z_observed, .long z_sampled, .long z_sent, .long z_unsent, .ref (y + 6), .ref (y + 7), .int z_pending, .ref (y + 8), .int z_length, .ref (y + 9), .ref (y + 10), .int z_queue, .ref (y + 11), .ref (y + 12), .ref (y + 13), .ref (y + 14), .ref (y + 15), .ref (y + 16), .int z_lastCount, .long z_expected, .ref (y + 17), .ref (y + 18), .ref (y + 19), .ref (y + 20), .ref (y + 21), .ref (y + 22), .int z_keys, .ref (y + 23), .ref (y + 24), .int z_trueKeys, .ref (y + 25), .int 6, .int z_next, .int z_errorCode, .int z_errorPosition, .int z_kind, .int z_start, .int z_number, .long z_value]) := fset_at hΦ4
  refine z_iinc (k := 0) (v := 8) (lv' := [(2, .int 8), (0, .ref y), (1, .int wd)]) B dX12_appendBytes_30 rfl rfl (Nat.le_of_ble_eq_true rfl) rfl ?_
  refine z_goto (tgt := 3) B dX12_appendBytes_33 rfl ?_
  refine z_iload_n B dX12_appendBytes_3 rfl 0 rfl ?_
  refine z_if_lt (tgt := 36) B dX12_appendBytes_4 rfl (fun h9 => absurd h9 (by decide)) (fun c_3 => ?_)
  refine z_aload_n B dX12_appendBytes_7 rfl 1 rfl ?_
  refine z_get (ref := "FlowExporterModel") (C := RX12) (T := TX12) (N := 54) (ci := 14) (v := .ref (y + 25)) B (by decide +kernel) rfl 45 (by decide) (by decide +kernel) rfl h_7 rfl dX12_appendBytes_8 ?_
  refine z_aload_n B dX12_appendBytes_11 rfl 1 rfl ?_
  refine z_get (ref := "FlowExporterModel") (C := RX12) (T := TX12) (N := 54) (ci := 14) (v := .int 6) B (by decide +kernel) rfl 46 (by decide) (by decide +kernel) rfl h_7 rfl dX12_appendBytes_12 ?_
  refine z_iload_n B dX12_appendBytes_15 rfl 2 rfl ?_
  refine z_iload_n B dX12_appendBytes_16 rfl 0 rfl ?_
  refine z_ishr B dX12_appendBytes_17 ?_
  refine z_i2b (v := (wd >>> (8 &&& 31)).toInt8.toInt32) B dX12_appendBytes_18 rfl ?_
  have h_8 : Φ4 (y + 25) = some (ab_ G 700 (upd (upd g (4 : Int32).toNatClampNeg (vp_nar .byte ((wd >>> (24 &&& 31)).toInt8.toInt32))) (5 : Int32).toNatClampNeg (vp_nar .byte ((wd >>> (16 &&& 31)).toInt8.toInt32)))) := ((fset_fr hΦ4 (ne_off (x := y) (i := 25) (j := 0) rfl)).trans h_5)
  refine z_bast B h_8 (Nat.le_trans hna_y (Nat.le_add_right y 25)) (vin rfl) dX12_appendBytes_19 (fun Φ5 hΦ5 => ?_)
  have h_9 : Φ5 (y + 25) = some (ab_ G 700 (upd (upd (upd g (4 : Int32).toNatClampNeg (vp_nar .byte ((wd >>> (24 &&& 31)).toInt8.toInt32))) (5 : Int32).toNatClampNeg (vp_nar .byte ((wd >>> (16 &&& 31)).toInt8.toInt32))) (6 : Int32).toNatClampNeg (vp_nar .byte ((wd >>> (8 &&& 31)).toInt8.toInt32)))) := fset_at hΦ5
  refine z_aload_n B dX12_appendBytes_20 rfl 1 rfl ?_
  refine z_dup B dX12_appendBytes_21 rfl ?_
  have h_10 : Φ5 y = some (o_ 14 [.int z_thrown, .ref (y + 1), .ref (y + 2), .int z_time, .int z_random, .int z_rate, .int z_exportedHere, .int z_adaptive, .ref (y + 3), .ref (y + 4), .int z_messages, .long z_sequence, .ref (y + 5), .int z_flows, .int z_dropped, .long z_observed, .long z_sampled, .long z_sent, .long z_unsent, .ref (y + 6), .ref (y + 7), .int z_pending, .ref (y + 8), .int z_length, .ref (y + 9), .ref (y + 10), .int z_queue, .ref (y + 11), .ref (y + 12), .ref (y + 13), .ref (y + 14), .ref (y + 15), .ref (y + 16), .int z_lastCount, .long z_expected, .ref (y + 17), .ref (y + 18), .ref (y + 19), .ref (y + 20), .ref (y + 21), .ref (y + 22), .int z_keys, .ref (y + 23), .ref (y + 24), .int z_trueKeys, .ref (y + 25), .int 6, .int z_next, .int z_errorCode, .int z_errorPosition, .int z_kind, .int z_start, .int z_number, .long z_value]) := ((fset_fr hΦ5 (ne_off (x := y) (i := 0) (j := 25) rfl)).trans h_7)
  refine z_get (ref := "FlowExporterModel") (C := RX12) (T := TX12) (N := 54) (ci := 14) (v := .int 6) B (by decide +kernel) rfl 46 (by decide) (by decide +kernel) rfl h_10 rfl dX12_appendBytes_22 ?_
  refine z_iconst (v := 1) B dX12_appendBytes_25 rfl ?_
  refine z_iadd B dX12_appendBytes_26 ?_
  refine z_top (st1 := [.int 7, .ref y]) (congrArg (fun w9 : Int32 => ([.int w9, .ref y] : List Value)) (show (6 + 1 : Int32) = 7 by decide +kernel)) ?_
  refine z_put (ref := "FlowExporterModel") (C := RX12) (T := TX12) (N := 54) (ci := 14) (v := .int 7) B (by decide +kernel) tyX12 tyX12_ok nmX12 rfl 46 (by decide) (by decide +kernel) rfl (Or.inl rfl) h_10 hna_y rfl rfl (Nat.le_of_ble_eq_true rfl) dX12_appendBytes_27 (fun Φ6 hΦ6 => ?_)
  have h_11 : Φ6 y = some (o_ 14 [.int z_thrown, .ref (y + 1), .ref (y + 2), .int z_time, .int z_random, .int z_rate, .int z_exportedHere, .int z_adaptive, .ref (y + 3), .ref (y + 4), .int z_messages, .long z_sequence, .ref (y + 5), .int z_flows, .int z_dropped, .long z_observed, .long z_sampled, .long z_sent, .long z_unsent, .ref (y + 6), .ref (y + 7), .int z_pending, .ref (y + 8), .int z_length, .ref (y + 9), .ref (y + 10), .int z_queue, .ref (y + 11), .ref (y + 12), .ref (y + 13), .ref (y + 14), .ref (y + 15), .ref (y + 16), .int z_lastCount, .long z_expected, .ref (y + 17), .ref (y + 18), .ref (y + 19), .ref (y + 20), .ref (y + 21), .ref (y + 22), .int z_keys, .ref (y + 23), .ref (y + 24), .int z_trueKeys, .ref (y + 25), .int 7, .int z_next, .int z_errorCode, .int z_errorPosition, .int z_kind, .int z_start, .int z_number, .long z_value]) := fset_at hΦ6
  refine z_iinc (k := 0) (v := 0) (lv' := [(2, .int 0), (0, .ref y), (1, .int wd)]) B dX12_appendBytes_30 rfl rfl (Nat.le_of_ble_eq_true rfl) rfl ?_
  refine z_goto (tgt := 3) B dX12_appendBytes_33 rfl ?_
  refine z_iload_n B dX12_appendBytes_3 rfl 0 rfl ?_
  refine z_if_lt (tgt := 36) B dX12_appendBytes_4 rfl (fun h9 => absurd h9 (by decide)) (fun c_4 => ?_)
  refine z_aload_n B dX12_appendBytes_7 rfl 1 rfl ?_
  refine z_get (ref := "FlowExporterModel") (C := RX12) (T := TX12) (N := 54) (ci := 14) (v := .ref (y + 25)) B (by decide +kernel) rfl 45 (by decide) (by decide +kernel) rfl h_11 rfl dX12_appendBytes_8 ?_
  refine z_aload_n B dX12_appendBytes_11 rfl 1 rfl ?_
  refine z_get (ref := "FlowExporterModel") (C := RX12) (T := TX12) (N := 54) (ci := 14) (v := .int 7) B (by decide +kernel) rfl 46 (by decide) (by decide +kernel) rfl h_11 rfl dX12_appendBytes_12 ?_
  refine z_iload_n B dX12_appendBytes_15 rfl 2 rfl ?_
  refine z_iload_n B dX12_appendBytes_16 rfl 0 rfl ?_
  refine z_ishr B dX12_appendBytes_17 ?_
  refine z_i2b (v := (wd >>> (0 &&& 31)).toInt8.toInt32) B dX12_appendBytes_18 rfl ?_
  have h_12 : Φ6 (y + 25) = some (ab_ G 700 (upd (upd (upd g (4 : Int32).toNatClampNeg (vp_nar .byte ((wd >>> (24 &&& 31)).toInt8.toInt32))) (5 : Int32).toNatClampNeg (vp_nar .byte ((wd >>> (16 &&& 31)).toInt8.toInt32))) (6 : Int32).toNatClampNeg (vp_nar .byte ((wd >>> (8 &&& 31)).toInt8.toInt32)))) := ((fset_fr hΦ6 (ne_off (x := y) (i := 25) (j := 0) rfl)).trans h_9)
  refine z_bast B h_12 (Nat.le_trans hna_y (Nat.le_add_right y 25)) (vin rfl) dX12_appendBytes_19 (fun Φ7 hΦ7 => ?_)
  have h_13 : Φ7 (y + 25) = some (ab_ G 700 (upd (upd (upd (upd g (4 : Int32).toNatClampNeg (vp_nar .byte ((wd >>> (24 &&& 31)).toInt8.toInt32))) (5 : Int32).toNatClampNeg (vp_nar .byte ((wd >>> (16 &&& 31)).toInt8.toInt32))) (6 : Int32).toNatClampNeg (vp_nar .byte ((wd >>> (8 &&& 31)).toInt8.toInt32))) (7 : Int32).toNatClampNeg (vp_nar .byte ((wd >>> (0 &&& 31)).toInt8.toInt32)))) := fset_at hΦ7
  refine z_aload_n B dX12_appendBytes_20 rfl 1 rfl ?_
  refine z_dup B dX12_appendBytes_21 rfl ?_
  have h_14 : Φ7 y = some (o_ 14 [.int z_thrown, .ref (y + 1), .ref (y + 2), .int z_time, .int z_random, .int z_rate, .int z_exportedHere, .int z_adaptive, .ref (y + 3), .ref (y + 4), .int z_messages, .long z_sequence, .ref (y + 5), .int z_flows, .int z_dropped, .long z_observed, .long z_sampled, .long z_sent, .long z_unsent, .ref (y + 6), .ref (y + 7), .int z_pending, .ref (y + 8), .int z_length, .ref (y + 9), .ref (y + 10), .int z_queue, .ref (y + 11), .ref (y + 12), .ref (y + 13), .ref (y + 14), .ref (y + 15), .ref (y + 16), .int z_lastCount, .long z_expected, .ref (y + 17), .ref (y + 18), .ref (y + 19), .ref (y + 20), .ref (y + 21), .ref (y + 22), .int z_keys, .ref (y + 23), .ref (y + 24), .int z_trueKeys, .ref (y + 25), .int 7, .int z_next, .int z_errorCode, .int z_errorPosition, .int z_kind, .int z_start, .int z_number, .long z_value]) := ((fset_fr hΦ7 (ne_off (x := y) (i := 0) (j := 25) rfl)).trans h_11)
  refine z_get (ref := "FlowExporterModel") (C := RX12) (T := TX12) (N := 54) (ci := 14) (v := .int 7) B (by decide +kernel) rfl 46 (by decide) (by decide +kernel) rfl h_14 rfl dX12_appendBytes_22 ?_
  refine z_iconst (v := 1) B dX12_appendBytes_25 rfl ?_
  refine z_iadd B dX12_appendBytes_26 ?_
  refine z_top (st1 := [.int 8, .ref y]) (congrArg (fun w9 : Int32 => ([.int w9, .ref y] : List Value)) (show (7 + 1 : Int32) = 8 by decide +kernel)) ?_
  refine z_put (ref := "FlowExporterModel") (C := RX12) (T := TX12) (N := 54) (ci := 14) (v := .int 8) B (by decide +kernel) tyX12 tyX12_ok nmX12 rfl 46 (by decide) (by decide +kernel) rfl (Or.inl rfl) h_14 hna_y rfl rfl (Nat.le_of_ble_eq_true rfl) dX12_appendBytes_27 (fun Φ8 hΦ8 => ?_)
  have h_15 : Φ8 y = some (o_ 14 [.int z_thrown, .ref (y + 1), .ref (y + 2), .int z_time, .int z_random, .int z_rate, .int z_exportedHere, .int z_adaptive, .ref (y + 3), .ref (y + 4), .int z_messages, .long z_sequence, .ref (y + 5), .int z_flows, .int z_dropped, .long z_observed, .long z_sampled, .long z_sent, .long z_unsent, .ref (y + 6), .ref (y + 7), .int z_pending, .ref (y + 8), .int z_length, .ref (y + 9), .ref (y + 10), .int z_queue, .ref (y + 11), .ref (y + 12), .ref (y + 13), .ref (y + 14), .ref (y + 15), .ref (y + 16), .int z_lastCount, .long z_expected, .ref (y + 17), .ref (y + 18), .ref (y + 19), .ref (y + 20), .ref (y + 21), .ref (y + 22), .int z_keys, .ref (y + 23), .ref (y + 24), .int z_trueKeys, .ref (y + 25), .int 8, .int z_next, .int z_errorCode, .int z_errorPosition, .int z_kind, .int z_start, .int z_number, .long z_value]) := fset_at hΦ8
  refine z_iinc (k := 0) (v := (-8)) (lv' := [(2, .int (-8)), (0, .ref y), (1, .int wd)]) B dX12_appendBytes_30 rfl rfl (Nat.le_of_ble_eq_true rfl) rfl ?_
  refine z_goto (tgt := 3) B dX12_appendBytes_33 rfl ?_
  refine z_iload_n B dX12_appendBytes_3 rfl 0 rfl ?_
  refine z_if_lt (tgt := 36) B dX12_appendBytes_4 rfl (fun c_5 => ?_) (fun h9 => absurd (by decide) h9)
  have h_16 : Φ8 (y + 25) = some (ab_ G 700 (upd (upd (upd (upd g (4 : Int32).toNatClampNeg (vp_nar .byte ((wd >>> (24 &&& 31)).toInt8.toInt32))) (5 : Int32).toNatClampNeg (vp_nar .byte ((wd >>> (16 &&& 31)).toInt8.toInt32))) (6 : Int32).toNatClampNeg (vp_nar .byte ((wd >>> (8 &&& 31)).toInt8.toInt32))) (7 : Int32).toNatClampNeg (vp_nar .byte ((wd >>> (0 &&& 31)).toInt8.toInt32)))) := ((fset_fr hΦ8 (ne_off (x := y) (i := 25) (j := 0) rfl)).trans h_13)
  exact z_ret_v B dX12_appendBytes_36 ⟨rfl, rfl, (fun b9 h9a h9b => ((fset_fr hΦ8 h9a).trans ((fset_fr hΦ7 h9b).trans ((fset_fr hΦ6 h9a).trans ((fset_fr hΦ5 h9b).trans ((fset_fr hΦ4 h9a).trans ((fset_fr hΦ3 h9b).trans ((fset_fr hΦ2 h9a).trans ((fset_fr hΦ1 h9b).trans rfl))))))))), h_15, h_16⟩

set_option maxHeartbeats 4000000 in
set_option maxRecDepth 100000 in
theorem c_X12_appendBytes_8 (G : EnvG) (l : Launch) (Φ : Hm) (sz : Nat) (y : Nat) (z_thrown : Int32) (z_time : Int32) (z_random : Int32) (z_rate : Int32) (z_exportedHere : Int32) (z_adaptive : Int32) (z_messages : Int32) (z_sequence : Int64) (z_flows : Int32) (z_dropped : Int32) (z_observed : Int64) (z_sampled : Int64) (z_sent : Int64) (z_unsent : Int64) (z_pending : Int32) (z_length : Int32) (z_queue : Int32) (z_lastCount : Int32) (z_expected : Int64) (z_keys : Int32) (z_trueKeys : Int32) (z_next : Int32) (z_errorCode : Int32) (z_errorPosition : Int32) (z_kind : Int32) (z_start : Int32) (z_number : Int32) (z_value : Int64) (g : Nat → Int32) (wd : Int32) (hc0 : Φ y = some (o_ 14 [.int z_thrown, .ref (y + 1), .ref (y + 2), .int z_time, .int z_random, .int z_rate, .int z_exportedHere, .int z_adaptive, .ref (y + 3), .ref (y + 4), .int z_messages, .long z_sequence, .ref (y + 5), .int z_flows, .int z_dropped, .long z_observed, .long z_sampled, .long z_sent, .long z_unsent, .ref (y + 6), .ref (y + 7), .int z_pending, .ref (y + 8), .int z_length, .ref (y + 9), .ref (y + 10), .int z_queue, .ref (y + 11), .ref (y + 12), .ref (y + 13), .ref (y + 14), .ref (y + 15), .ref (y + 16), .int z_lastCount, .long z_expected, .ref (y + 17), .ref (y + 18), .ref (y + 19), .ref (y + 20), .ref (y + 21), .ref (y + 22), .int z_keys, .ref (y + 23), .ref (y + 24), .int z_trueKeys, .ref (y + 25), .int 8, .int z_next, .int z_errorCode, .int z_errorPosition, .int z_kind, .int z_start, .int z_number, .long z_value])) (hc1 : Φ (y + 25) = some (ab_ G 700 g)) (hna_y : G.2.2.2 ≤ y) : Ct G l yX12_appendBytes wsX12_appendBytes ({ frames := 0, cells := 0, slots := 0, locals := 0 }) 0 0 [.ref y, .int wd] Φ sz (fun v Φ1 sz1 => v = none ∧ sz1 = sz ∧ (∀ b9 : Nat, b9 ≠ y → b9 ≠ y + 25 → Φ1 b9 = Φ b9) ∧ Φ1 y = some (o_ 14 [.int z_thrown, .ref (y + 1), .ref (y + 2), .int z_time, .int z_random, .int z_rate, .int z_exportedHere, .int z_adaptive, .ref (y + 3), .ref (y + 4), .int z_messages, .long z_sequence, .ref (y + 5), .int z_flows, .int z_dropped, .long z_observed, .long z_sampled, .long z_sent, .long z_unsent, .ref (y + 6), .ref (y + 7), .int z_pending, .ref (y + 8), .int z_length, .ref (y + 9), .ref (y + 10), .int z_queue, .ref (y + 11), .ref (y + 12), .ref (y + 13), .ref (y + 14), .ref (y + 15), .ref (y + 16), .int z_lastCount, .long z_expected, .ref (y + 17), .ref (y + 18), .ref (y + 19), .ref (y + 20), .ref (y + 21), .ref (y + 22), .int z_keys, .ref (y + 23), .ref (y + 24), .int z_trueKeys, .ref (y + 25), .int 12, .int z_next, .int z_errorCode, .int z_errorPosition, .int z_kind, .int z_start, .int z_number, .long z_value]) ∧ Φ1 (y + 25) = some (ab_ G 700 (upd (upd (upd (upd g (8 : Int32).toNatClampNeg (vp_nar .byte ((wd >>> (24 &&& 31)).toInt8.toInt32))) (9 : Int32).toNatClampNeg (vp_nar .byte ((wd >>> (16 &&& 31)).toInt8.toInt32))) (10 : Int32).toNatClampNeg (vp_nar .byte ((wd >>> (8 &&& 31)).toInt8.toInt32))) (11 : Int32).toNatClampNeg (vp_nar .byte ((wd >>> (0 &&& 31)).toInt8.toInt32))))) := by
  refine Ct.of (cc := cX12_appendBytes) (maxL := 3) (ret := none) (by decide) rfl (Nat.le_of_ble_eq_true rfl) ?_
  intro p9 e9 s9 m9 w9 t9 k9 B
  show Z p9 l e9 _ s9 m9 _ w9 t9 k9 _ G 3 0 [(0, .ref y), (1, .int wd)] [] Φ (sz) 0 0
  refine z_bipush (v := 24) B dX12_appendBytes_0 rfl ?_
  refine z_istore_n (lv' := [(2, .int 24), (0, .ref y), (1, .int wd)]) B dX12_appendBytes_2 rfl (Nat.le_of_ble_eq_true rfl) rfl ?_
  refine z_iload_n B dX12_appendBytes_3 rfl 0 rfl ?_
  refine z_if_lt (tgt := 36) B dX12_appendBytes_4 rfl (fun h9 => absurd h9 (by decide)) (fun c_1 => ?_)
  refine z_aload_n B dX12_appendBytes_7 rfl 1 rfl ?_
  refine z_get (ref := "FlowExporterModel") (C := RX12) (T := TX12) (N := 54) (ci := 14) (v := .ref (y + 25)) B (by decide +kernel) rfl 45 (by decide) (by decide +kernel) rfl hc0 rfl dX12_appendBytes_8 ?_
  refine z_aload_n B dX12_appendBytes_11 rfl 1 rfl ?_
  refine z_get (ref := "FlowExporterModel") (C := RX12) (T := TX12) (N := 54) (ci := 14) (v := .int 8) B (by decide +kernel) rfl 46 (by decide) (by decide +kernel) rfl hc0 rfl dX12_appendBytes_12 ?_
  refine z_iload_n B dX12_appendBytes_15 rfl 2 rfl ?_
  refine z_iload_n B dX12_appendBytes_16 rfl 0 rfl ?_
  refine z_ishr B dX12_appendBytes_17 ?_
  refine z_i2b (v := (wd >>> (24 &&& 31)).toInt8.toInt32) B dX12_appendBytes_18 rfl ?_
  refine z_bast B hc1 (Nat.le_trans hna_y (Nat.le_add_right y 25)) (vin rfl) dX12_appendBytes_19 (fun Φ1 hΦ1 => ?_)
  have h_1 : Φ1 (y + 25) = some (ab_ G 700 (upd g (8 : Int32).toNatClampNeg (vp_nar .byte ((wd >>> (24 &&& 31)).toInt8.toInt32)))) := fset_at hΦ1
  refine z_aload_n B dX12_appendBytes_20 rfl 1 rfl ?_
  refine z_dup B dX12_appendBytes_21 rfl ?_
  have h_2 : Φ1 y = some (o_ 14 [.int z_thrown, .ref (y + 1), .ref (y + 2), .int z_time, .int z_random, .int z_rate, .int z_exportedHere, .int z_adaptive, .ref (y + 3), .ref (y + 4), .int z_messages, .long z_sequence, .ref (y + 5), .int z_flows, .int z_dropped, .long z_observed, .long z_sampled, .long z_sent, .long z_unsent, .ref (y + 6), .ref (y + 7), .int z_pending, .ref (y + 8), .int z_length, .ref (y + 9), .ref (y + 10), .int z_queue, .ref (y + 11), .ref (y + 12), .ref (y + 13), .ref (y + 14), .ref (y + 15), .ref (y + 16), .int z_lastCount, .long z_expected, .ref (y + 17), .ref (y + 18), .ref (y + 19), .ref (y + 20), .ref (y + 21), .ref (y + 22), .int z_keys, .ref (y + 23), .ref (y + 24), .int z_trueKeys, .ref (y + 25), .int 8, .int z_next, .int z_errorCode, .int z_errorPosition, .int z_kind, .int z_start, .int z_number, .long z_value]) := ((fset_fr hΦ1 (ne_off (x := y) (i := 0) (j := 25) rfl)).trans hc0)
  refine z_get (ref := "FlowExporterModel") (C := RX12) (T := TX12) (N := 54) (ci := 14) (v := .int 8) B (by decide +kernel) rfl 46 (by decide) (by decide +kernel) rfl h_2 rfl dX12_appendBytes_22 ?_
  refine z_iconst (v := 1) B dX12_appendBytes_25 rfl ?_
  refine z_iadd B dX12_appendBytes_26 ?_
  refine z_top (st1 := [.int 9, .ref y]) (congrArg (fun w9 : Int32 => ([.int w9, .ref y] : List Value)) (show (8 + 1 : Int32) = 9 by decide +kernel)) ?_
  refine z_put (ref := "FlowExporterModel") (C := RX12) (T := TX12) (N := 54) (ci := 14) (v := .int 9) B (by decide +kernel) tyX12 tyX12_ok nmX12 rfl 46 (by decide) (by decide +kernel) rfl (Or.inl rfl) h_2 hna_y rfl rfl (Nat.le_of_ble_eq_true rfl) dX12_appendBytes_27 (fun Φ2 hΦ2 => ?_)
  have h_3 : Φ2 y = some (o_ 14 [.int z_thrown, .ref (y + 1), .ref (y + 2), .int z_time, .int z_random, .int z_rate, .int z_exportedHere, .int z_adaptive, .ref (y + 3), .ref (y + 4), .int z_messages, .long z_sequence, .ref (y + 5), .int z_flows, .int z_dropped, .long z_observed, .long z_sampled, .long z_sent, .long z_unsent, .ref (y + 6), .ref (y + 7), .int z_pending, .ref (y + 8), .int z_length, .ref (y + 9), .ref (y + 10), .int z_queue, .ref (y + 11), .ref (y + 12), .ref (y + 13), .ref (y + 14), .ref (y + 15), .ref (y + 16), .int z_lastCount, .long z_expected, .ref (y + 17), .ref (y + 18), .ref (y + 19), .ref (y + 20), .ref (y + 21), .ref (y + 22), .int z_keys, .ref (y + 23), .ref (y + 24), .int z_trueKeys, .ref (y + 25), .int 9, .int z_next, .int z_errorCode, .int z_errorPosition, .int z_kind, .int z_start, .int z_number, .long z_value]) := fset_at hΦ2
  refine z_iinc (k := 0) (v := 16) (lv' := [(2, .int 16), (0, .ref y), (1, .int wd)]) B dX12_appendBytes_30 rfl rfl (Nat.le_of_ble_eq_true rfl) rfl ?_
  refine z_goto (tgt := 3) B dX12_appendBytes_33 rfl ?_
  refine z_iload_n B dX12_appendBytes_3 rfl 0 rfl ?_
  refine z_if_lt (tgt := 36) B dX12_appendBytes_4 rfl (fun h9 => absurd h9 (by decide)) (fun c_2 => ?_)
  refine z_aload_n B dX12_appendBytes_7 rfl 1 rfl ?_
  refine z_get (ref := "FlowExporterModel") (C := RX12) (T := TX12) (N := 54) (ci := 14) (v := .ref (y + 25)) B (by decide +kernel) rfl 45 (by decide) (by decide +kernel) rfl h_3 rfl dX12_appendBytes_8 ?_
  refine z_aload_n B dX12_appendBytes_11 rfl 1 rfl ?_
  refine z_get (ref := "FlowExporterModel") (C := RX12) (T := TX12) (N := 54) (ci := 14) (v := .int 9) B (by decide +kernel) rfl 46 (by decide) (by decide +kernel) rfl h_3 rfl dX12_appendBytes_12 ?_
  refine z_iload_n B dX12_appendBytes_15 rfl 2 rfl ?_
  refine z_iload_n B dX12_appendBytes_16 rfl 0 rfl ?_
  refine z_ishr B dX12_appendBytes_17 ?_
  refine z_i2b (v := (wd >>> (16 &&& 31)).toInt8.toInt32) B dX12_appendBytes_18 rfl ?_
  have h_4 : Φ2 (y + 25) = some (ab_ G 700 (upd g (8 : Int32).toNatClampNeg (vp_nar .byte ((wd >>> (24 &&& 31)).toInt8.toInt32)))) := ((fset_fr hΦ2 (ne_off (x := y) (i := 25) (j := 0) rfl)).trans h_1)
  refine z_bast B h_4 (Nat.le_trans hna_y (Nat.le_add_right y 25)) (vin rfl) dX12_appendBytes_19 (fun Φ3 hΦ3 => ?_)
  have h_5 : Φ3 (y + 25) = some (ab_ G 700 (upd (upd g (8 : Int32).toNatClampNeg (vp_nar .byte ((wd >>> (24 &&& 31)).toInt8.toInt32))) (9 : Int32).toNatClampNeg (vp_nar .byte ((wd >>> (16 &&& 31)).toInt8.toInt32)))) := fset_at hΦ3
  refine z_aload_n B dX12_appendBytes_20 rfl 1 rfl ?_
  refine z_dup B dX12_appendBytes_21 rfl ?_
  have h_6 : Φ3 y = some (o_ 14 [.int z_thrown, .ref (y + 1), .ref (y + 2), .int z_time, .int z_random, .int z_rate, .int z_exportedHere, .int z_adaptive, .ref (y + 3), .ref (y + 4), .int z_messages, .long z_sequence, .ref (y + 5), .int z_flows, .int z_dropped, .long z_observed, .long z_sampled, .long z_sent, .long z_unsent, .ref (y + 6), .ref (y + 7), .int z_pending, .ref (y + 8), .int z_length, .ref (y + 9), .ref (y + 10), .int z_queue, .ref (y + 11), .ref (y + 12), .ref (y + 13), .ref (y + 14), .ref (y + 15), .ref (y + 16), .int z_lastCount, .long z_expected, .ref (y + 17), .ref (y + 18), .ref (y + 19), .ref (y + 20), .ref (y + 21), .ref (y + 22), .int z_keys, .ref (y + 23), .ref (y + 24), .int z_trueKeys, .ref (y + 25), .int 9, .int z_next, .int z_errorCode, .int z_errorPosition, .int z_kind, .int z_start, .int z_number, .long z_value]) := ((fset_fr hΦ3 (ne_off (x := y) (i := 0) (j := 25) rfl)).trans h_3)
  refine z_get (ref := "FlowExporterModel") (C := RX12) (T := TX12) (N := 54) (ci := 14) (v := .int 9) B (by decide +kernel) rfl 46 (by decide) (by decide +kernel) rfl h_6 rfl dX12_appendBytes_22 ?_
  refine z_iconst (v := 1) B dX12_appendBytes_25 rfl ?_
  refine z_iadd B dX12_appendBytes_26 ?_
  refine z_top (st1 := [.int 10, .ref y]) (congrArg (fun w9 : Int32 => ([.int w9, .ref y] : List Value)) (show (9 + 1 : Int32) = 10 by decide +kernel)) ?_
  refine z_put (ref := "FlowExporterModel") (C := RX12) (T := TX12) (N := 54) (ci := 14) (v := .int 10) B (by decide +kernel) tyX12 tyX12_ok nmX12 rfl 46 (by decide) (by decide +kernel) rfl (Or.inl rfl) h_6 hna_y rfl rfl (Nat.le_of_ble_eq_true rfl) dX12_appendBytes_27 (fun Φ4 hΦ4 => ?_)
  have h_7 : Φ4 y = some (o_ 14 [.int z_thrown, .ref (y + 1), .ref (y + 2), .int z_time, .int z_random, .int z_rate, .int z_exportedHere, .int z_adaptive, .ref (y + 3), .ref (y + 4), .int z_messages, .long z_sequence, .ref (y + 5), .int z_flows, .int z_dropped, .long z_observed, .long z_sampled, .long z_sent, .long z_unsent, .ref (y + 6), .ref (y + 7), .int z_pending, .ref (y + 8), .int z_length, .ref (y + 9), .ref (y + 10), .int z_queue, .ref (y + 11), .ref (y + 12), .ref (y + 13), .ref (y + 14), .ref (y + 15), .ref (y + 16), .int z_lastCount, .long z_expected, .ref (y + 17), .ref (y + 18), .ref (y + 19), .ref (y + 20), .ref (y + 21), .ref (y + 22), .int z_keys, .ref (y + 23), .ref (y + 24), .int z_trueKeys, .ref (y + 25), .int 10, .int z_next, .int z_errorCode, .int z_errorPosition, .int z_kind, .int z_start, .int z_number, .long z_value]) := fset_at hΦ4
  refine z_iinc (k := 0) (v := 8) (lv' := [(2, .int 8), (0, .ref y), (1, .int wd)]) B dX12_appendBytes_30 rfl rfl (Nat.le_of_ble_eq_true rfl) rfl ?_
  refine z_goto (tgt := 3) B dX12_appendBytes_33 rfl ?_
  refine z_iload_n B dX12_appendBytes_3 rfl 0 rfl ?_
  refine z_if_lt (tgt := 36) B dX12_appendBytes_4 rfl (fun h9 => absurd h9 (by decide)) (fun c_3 => ?_)
  refine z_aload_n B dX12_appendBytes_7 rfl 1 rfl ?_
  refine z_get (ref := "FlowExporterModel") (C := RX12) (T := TX12) (N := 54) (ci := 14) (v := .ref (y + 25)) B (by decide +kernel) rfl 45 (by decide) (by decide +kernel) rfl h_7 rfl dX12_appendBytes_8 ?_
  refine z_aload_n B dX12_appendBytes_11 rfl 1 rfl ?_
  refine z_get (ref := "FlowExporterModel") (C := RX12) (T := TX12) (N := 54) (ci := 14) (v := .int 10) B (by decide +kernel) rfl 46 (by decide) (by decide +kernel) rfl h_7 rfl dX12_appendBytes_12 ?_
  refine z_iload_n B dX12_appendBytes_15 rfl 2 rfl ?_
  refine z_iload_n B dX12_appendBytes_16 rfl 0 rfl ?_
  refine z_ishr B dX12_appendBytes_17 ?_
  refine z_i2b (v := (wd >>> (8 &&& 31)).toInt8.toInt32) B dX12_appendBytes_18 rfl ?_
  have h_8 : Φ4 (y + 25) = some (ab_ G 700 (upd (upd g (8 : Int32).toNatClampNeg (vp_nar .byte ((wd >>> (24 &&& 31)).toInt8.toInt32))) (9 : Int32).toNatClampNeg (vp_nar .byte ((wd >>> (16 &&& 31)).toInt8.toInt32)))) := ((fset_fr hΦ4 (ne_off (x := y) (i := 25) (j := 0) rfl)).trans h_5)
  refine z_bast B h_8 (Nat.le_trans hna_y (Nat.le_add_right y 25)) (vin rfl) dX12_appendBytes_19 (fun Φ5 hΦ5 => ?_)
  have h_9 : Φ5 (y + 25) = some (ab_ G 700 (upd (upd (upd g (8 : Int32).toNatClampNeg (vp_nar .byte ((wd >>> (24 &&& 31)).toInt8.toInt32))) (9 : Int32).toNatClampNeg (vp_nar .byte ((wd >>> (16 &&& 31)).toInt8.toInt32))) (10 : Int32).toNatClampNeg (vp_nar .byte ((wd >>> (8 &&& 31)).toInt8.toInt32)))) := fset_at hΦ5
  refine z_aload_n B dX12_appendBytes_20 rfl 1 rfl ?_
  refine z_dup B dX12_appendBytes_21 rfl ?_
  have h_10 : Φ5 y = some (o_ 14 [.int z_thrown, .ref (y + 1), .ref (y + 2), .int z_time, .int z_random, .int z_rate, .int z_exportedHere, .int z_adaptive, .ref (y + 3), .ref (y + 4), .int z_messages, .long z_sequence, .ref (y + 5), .int z_flows, .int z_dropped, .long z_observed, .long z_sampled, .long z_sent, .long z_unsent, .ref (y + 6), .ref (y + 7), .int z_pending, .ref (y + 8), .int z_length, .ref (y + 9), .ref (y + 10), .int z_queue, .ref (y + 11), .ref (y + 12), .ref (y + 13), .ref (y + 14), .ref (y + 15), .ref (y + 16), .int z_lastCount, .long z_expected, .ref (y + 17), .ref (y + 18), .ref (y + 19), .ref (y + 20), .ref (y + 21), .ref (y + 22), .int z_keys, .ref (y + 23), .ref (y + 24), .int z_trueKeys, .ref (y + 25), .int 10, .int z_next, .int z_errorCode, .int z_errorPosition, .int z_kind, .int z_start, .int z_number, .long z_value]) := ((fset_fr hΦ5 (ne_off (x := y) (i := 0) (j := 25) rfl)).trans h_7)
  refine z_get (ref := "FlowExporterModel") (C := RX12) (T := TX12) (N := 54) (ci := 14) (v := .int 10) B (by decide +kernel) rfl 46 (by decide) (by decide +kernel) rfl h_10 rfl dX12_appendBytes_22 ?_
  refine z_iconst (v := 1) B dX12_appendBytes_25 rfl ?_
  refine z_iadd B dX12_appendBytes_26 ?_
  refine z_top (st1 := [.int 11, .ref y]) (congrArg (fun w9 : Int32 => ([.int w9, .ref y] : List Value)) (show (10 + 1 : Int32) = 11 by decide +kernel)) ?_
  refine z_put (ref := "FlowExporterModel") (C := RX12) (T := TX12) (N := 54) (ci := 14) (v := .int 11) B (by decide +kernel) tyX12 tyX12_ok nmX12 rfl 46 (by decide) (by decide +kernel) rfl (Or.inl rfl) h_10 hna_y rfl rfl (Nat.le_of_ble_eq_true rfl) dX12_appendBytes_27 (fun Φ6 hΦ6 => ?_)
  have h_11 : Φ6 y = some (o_ 14 [.int z_thrown, .ref (y + 1), .ref (y + 2), .int z_time, .int z_random, .int z_rate, .int z_exportedHere, .int z_adaptive, .ref (y + 3), .ref (y + 4), .int z_messages, .long z_sequence, .ref (y + 5), .int z_flows, .int z_dropped, .long z_observed, .long z_sampled, .long z_sent, .long z_unsent, .ref (y + 6), .ref (y + 7), .int z_pending, .ref (y + 8), .int z_length, .ref (y + 9), .ref (y + 10), .int z_queue, .ref (y + 11), .ref (y + 12), .ref (y + 13), .ref (y + 14), .ref (y + 15), .ref (y + 16), .int z_lastCount, .long z_expected, .ref (y + 17), .ref (y + 18), .ref (y + 19), .ref (y + 20), .ref (y + 21), .ref (y + 22), .int z_keys, .ref (y + 23), .ref (y + 24), .int z_trueKeys, .ref (y + 25), .int 11, .int z_next, .int z_errorCode, .int z_errorPosition, .int z_kind, .int z_start, .int z_number, .long z_value]) := fset_at hΦ6
  refine z_iinc (k := 0) (v := 0) (lv' := [(2, .int 0), (0, .ref y), (1, .int wd)]) B dX12_appendBytes_30 rfl rfl (Nat.le_of_ble_eq_true rfl) rfl ?_
  refine z_goto (tgt := 3) B dX12_appendBytes_33 rfl ?_
  refine z_iload_n B dX12_appendBytes_3 rfl 0 rfl ?_
  refine z_if_lt (tgt := 36) B dX12_appendBytes_4 rfl (fun h9 => absurd h9 (by decide)) (fun c_4 => ?_)
  refine z_aload_n B dX12_appendBytes_7 rfl 1 rfl ?_
  refine z_get (ref := "FlowExporterModel") (C := RX12) (T := TX12) (N := 54) (ci := 14) (v := .ref (y + 25)) B (by decide +kernel) rfl 45 (by decide) (by decide +kernel) rfl h_11 rfl dX12_appendBytes_8 ?_
  refine z_aload_n B dX12_appendBytes_11 rfl 1 rfl ?_
  refine z_get (ref := "FlowExporterModel") (C := RX12) (T := TX12) (N := 54) (ci := 14) (v := .int 11) B (by decide +kernel) rfl 46 (by decide) (by decide +kernel) rfl h_11 rfl dX12_appendBytes_12 ?_
  refine z_iload_n B dX12_appendBytes_15 rfl 2 rfl ?_
  refine z_iload_n B dX12_appendBytes_16 rfl 0 rfl ?_
  refine z_ishr B dX12_appendBytes_17 ?_
  refine z_i2b (v := (wd >>> (0 &&& 31)).toInt8.toInt32) B dX12_appendBytes_18 rfl ?_
  have h_12 : Φ6 (y + 25) = some (ab_ G 700 (upd (upd (upd g (8 : Int32).toNatClampNeg (vp_nar .byte ((wd >>> (24 &&& 31)).toInt8.toInt32))) (9 : Int32).toNatClampNeg (vp_nar .byte ((wd >>> (16 &&& 31)).toInt8.toInt32))) (10 : Int32).toNatClampNeg (vp_nar .byte ((wd >>> (8 &&& 31)).toInt8.toInt32)))) := ((fset_fr hΦ6 (ne_off (x := y) (i := 25) (j := 0) rfl)).trans h_9)
  refine z_bast B h_12 (Nat.le_trans hna_y (Nat.le_add_right y 25)) (vin rfl) dX12_appendBytes_19 (fun Φ7 hΦ7 => ?_)
  have h_13 : Φ7 (y + 25) = some (ab_ G 700 (upd (upd (upd (upd g (8 : Int32).toNatClampNeg (vp_nar .byte ((wd >>> (24 &&& 31)).toInt8.toInt32))) (9 : Int32).toNatClampNeg (vp_nar .byte ((wd >>> (16 &&& 31)).toInt8.toInt32))) (10 : Int32).toNatClampNeg (vp_nar .byte ((wd >>> (8 &&& 31)).toInt8.toInt32))) (11 : Int32).toNatClampNeg (vp_nar .byte ((wd >>> (0 &&& 31)).toInt8.toInt32)))) := fset_at hΦ7
  refine z_aload_n B dX12_appendBytes_20 rfl 1 rfl ?_
  refine z_dup B dX12_appendBytes_21 rfl ?_
  have h_14 : Φ7 y = some (o_ 14 [.int z_thrown, .ref (y + 1), .ref (y + 2), .int z_time, .int z_random, .int z_rate, .int z_exportedHere, .int z_adaptive, .ref (y + 3), .ref (y + 4), .int z_messages, .long z_sequence, .ref (y + 5), .int z_flows, .int z_dropped, .long z_observed, .long z_sampled, .long z_sent, .long z_unsent, .ref (y + 6), .ref (y + 7), .int z_pending, .ref (y + 8), .int z_length, .ref (y + 9), .ref (y + 10), .int z_queue, .ref (y + 11), .ref (y + 12), .ref (y + 13), .ref (y + 14), .ref (y + 15), .ref (y + 16), .int z_lastCount, .long z_expected, .ref (y + 17), .ref (y + 18), .ref (y + 19), .ref (y + 20), .ref (y + 21), .ref (y + 22), .int z_keys, .ref (y + 23), .ref (y + 24), .int z_trueKeys, .ref (y + 25), .int 11, .int z_next, .int z_errorCode, .int z_errorPosition, .int z_kind, .int z_start, .int z_number, .long z_value]) := ((fset_fr hΦ7 (ne_off (x := y) (i := 0) (j := 25) rfl)).trans h_11)
  refine z_get (ref := "FlowExporterModel") (C := RX12) (T := TX12) (N := 54) (ci := 14) (v := .int 11) B (by decide +kernel) rfl 46 (by decide) (by decide +kernel) rfl h_14 rfl dX12_appendBytes_22 ?_
  refine z_iconst (v := 1) B dX12_appendBytes_25 rfl ?_
  refine z_iadd B dX12_appendBytes_26 ?_
  refine z_top (st1 := [.int 12, .ref y]) (congrArg (fun w9 : Int32 => ([.int w9, .ref y] : List Value)) (show (11 + 1 : Int32) = 12 by decide +kernel)) ?_
  refine z_put (ref := "FlowExporterModel") (C := RX12) (T := TX12) (N := 54) (ci := 14) (v := .int 12) B (by decide +kernel) tyX12 tyX12_ok nmX12 rfl 46 (by decide) (by decide +kernel) rfl (Or.inl rfl) h_14 hna_y rfl rfl (Nat.le_of_ble_eq_true rfl) dX12_appendBytes_27 (fun Φ8 hΦ8 => ?_)
  have h_15 : Φ8 y = some (o_ 14 [.int z_thrown, .ref (y + 1), .ref (y + 2), .int z_time, .int z_random, .int z_rate, .int z_exportedHere, .int z_adaptive, .ref (y + 3), .ref (y + 4), .int z_messages, .long z_sequence, .ref (y + 5), .int z_flows, .int z_dropped, .long z_observed, .long z_sampled, .long z_sent, .long z_unsent, .ref (y + 6), .ref (y + 7), .int z_pending, .ref (y + 8), .int z_length, .ref (y + 9), .ref (y + 10), .int z_queue, .ref (y + 11), .ref (y + 12), .ref (y + 13), .ref (y + 14), .ref (y + 15), .ref (y + 16), .int z_lastCount, .long z_expected, .ref (y + 17), .ref (y + 18), .ref (y + 19), .ref (y + 20), .ref (y + 21), .ref (y + 22), .int z_keys, .ref (y + 23), .ref (y + 24), .int z_trueKeys, .ref (y + 25), .int 12, .int z_next, .int z_errorCode, .int z_errorPosition, .int z_kind, .int z_start, .int z_number, .long z_value]) := fset_at hΦ8
  refine z_iinc (k := 0) (v := (-8)) (lv' := [(2, .int (-8)), (0, .ref y), (1, .int wd)]) B dX12_appendBytes_30 rfl rfl (Nat.le_of_ble_eq_true rfl) rfl ?_
  refine z_goto (tgt := 3) B dX12_appendBytes_33 rfl ?_
  refine z_iload_n B dX12_appendBytes_3 rfl 0 rfl ?_
  refine z_if_lt (tgt := 36) B dX12_appendBytes_4 rfl (fun c_5 => ?_) (fun h9 => absurd (by decide) h9)
  have h_16 : Φ8 (y + 25) = some (ab_ G 700 (upd (upd (upd (upd g (8 : Int32).toNatClampNeg (vp_nar .byte ((wd >>> (24 &&& 31)).toInt8.toInt32))) (9 : Int32).toNatClampNeg (vp_nar .byte ((wd >>> (16 &&& 31)).toInt8.toInt32))) (10 : Int32).toNatClampNeg (vp_nar .byte ((wd >>> (8 &&& 31)).toInt8.toInt32))) (11 : Int32).toNatClampNeg (vp_nar .byte ((wd >>> (0 &&& 31)).toInt8.toInt32)))) := ((fset_fr hΦ8 (ne_off (x := y) (i := 25) (j := 0) rfl)).trans h_13)
  exact z_ret_v B dX12_appendBytes_36 ⟨rfl, rfl, (fun b9 h9a h9b => ((fset_fr hΦ8 h9a).trans ((fset_fr hΦ7 h9b).trans ((fset_fr hΦ6 h9a).trans ((fset_fr hΦ5 h9b).trans ((fset_fr hΦ4 h9a).trans ((fset_fr hΦ3 h9b).trans ((fset_fr hΦ2 h9a).trans ((fset_fr hΦ1 h9b).trans rfl))))))))), h_15, h_16⟩

set_option maxHeartbeats 4000000 in
set_option maxRecDepth 100000 in
theorem c_X12_appendBytes_12 (G : EnvG) (l : Launch) (Φ : Hm) (sz : Nat) (y : Nat) (z_thrown : Int32) (z_time : Int32) (z_random : Int32) (z_rate : Int32) (z_exportedHere : Int32) (z_adaptive : Int32) (z_messages : Int32) (z_sequence : Int64) (z_flows : Int32) (z_dropped : Int32) (z_observed : Int64) (z_sampled : Int64) (z_sent : Int64) (z_unsent : Int64) (z_pending : Int32) (z_length : Int32) (z_queue : Int32) (z_lastCount : Int32) (z_expected : Int64) (z_keys : Int32) (z_trueKeys : Int32) (z_next : Int32) (z_errorCode : Int32) (z_errorPosition : Int32) (z_kind : Int32) (z_start : Int32) (z_number : Int32) (z_value : Int64) (g : Nat → Int32) (wd : Int32) (hc0 : Φ y = some (o_ 14 [.int z_thrown, .ref (y + 1), .ref (y + 2), .int z_time, .int z_random, .int z_rate, .int z_exportedHere, .int z_adaptive, .ref (y + 3), .ref (y + 4), .int z_messages, .long z_sequence, .ref (y + 5), .int z_flows, .int z_dropped, .long z_observed, .long z_sampled, .long z_sent, .long z_unsent, .ref (y + 6), .ref (y + 7), .int z_pending, .ref (y + 8), .int z_length, .ref (y + 9), .ref (y + 10), .int z_queue, .ref (y + 11), .ref (y + 12), .ref (y + 13), .ref (y + 14), .ref (y + 15), .ref (y + 16), .int z_lastCount, .long z_expected, .ref (y + 17), .ref (y + 18), .ref (y + 19), .ref (y + 20), .ref (y + 21), .ref (y + 22), .int z_keys, .ref (y + 23), .ref (y + 24), .int z_trueKeys, .ref (y + 25), .int 12, .int z_next, .int z_errorCode, .int z_errorPosition, .int z_kind, .int z_start, .int z_number, .long z_value])) (hc1 : Φ (y + 25) = some (ab_ G 700 g)) (hna_y : G.2.2.2 ≤ y) : Ct G l yX12_appendBytes wsX12_appendBytes ({ frames := 0, cells := 0, slots := 0, locals := 0 }) 0 0 [.ref y, .int wd] Φ sz (fun v Φ1 sz1 => v = none ∧ sz1 = sz ∧ (∀ b9 : Nat, b9 ≠ y → b9 ≠ y + 25 → Φ1 b9 = Φ b9) ∧ Φ1 y = some (o_ 14 [.int z_thrown, .ref (y + 1), .ref (y + 2), .int z_time, .int z_random, .int z_rate, .int z_exportedHere, .int z_adaptive, .ref (y + 3), .ref (y + 4), .int z_messages, .long z_sequence, .ref (y + 5), .int z_flows, .int z_dropped, .long z_observed, .long z_sampled, .long z_sent, .long z_unsent, .ref (y + 6), .ref (y + 7), .int z_pending, .ref (y + 8), .int z_length, .ref (y + 9), .ref (y + 10), .int z_queue, .ref (y + 11), .ref (y + 12), .ref (y + 13), .ref (y + 14), .ref (y + 15), .ref (y + 16), .int z_lastCount, .long z_expected, .ref (y + 17), .ref (y + 18), .ref (y + 19), .ref (y + 20), .ref (y + 21), .ref (y + 22), .int z_keys, .ref (y + 23), .ref (y + 24), .int z_trueKeys, .ref (y + 25), .int 16, .int z_next, .int z_errorCode, .int z_errorPosition, .int z_kind, .int z_start, .int z_number, .long z_value]) ∧ Φ1 (y + 25) = some (ab_ G 700 (upd (upd (upd (upd g (12 : Int32).toNatClampNeg (vp_nar .byte ((wd >>> (24 &&& 31)).toInt8.toInt32))) (13 : Int32).toNatClampNeg (vp_nar .byte ((wd >>> (16 &&& 31)).toInt8.toInt32))) (14 : Int32).toNatClampNeg (vp_nar .byte ((wd >>> (8 &&& 31)).toInt8.toInt32))) (15 : Int32).toNatClampNeg (vp_nar .byte ((wd >>> (0 &&& 31)).toInt8.toInt32))))) := by
  refine Ct.of (cc := cX12_appendBytes) (maxL := 3) (ret := none) (by decide) rfl (Nat.le_of_ble_eq_true rfl) ?_
  intro p9 e9 s9 m9 w9 t9 k9 B
  show Z p9 l e9 _ s9 m9 _ w9 t9 k9 _ G 3 0 [(0, .ref y), (1, .int wd)] [] Φ (sz) 0 0
  refine z_bipush (v := 24) B dX12_appendBytes_0 rfl ?_
  refine z_istore_n (lv' := [(2, .int 24), (0, .ref y), (1, .int wd)]) B dX12_appendBytes_2 rfl (Nat.le_of_ble_eq_true rfl) rfl ?_
  refine z_iload_n B dX12_appendBytes_3 rfl 0 rfl ?_
  refine z_if_lt (tgt := 36) B dX12_appendBytes_4 rfl (fun h9 => absurd h9 (by decide)) (fun c_1 => ?_)
  refine z_aload_n B dX12_appendBytes_7 rfl 1 rfl ?_
  refine z_get (ref := "FlowExporterModel") (C := RX12) (T := TX12) (N := 54) (ci := 14) (v := .ref (y + 25)) B (by decide +kernel) rfl 45 (by decide) (by decide +kernel) rfl hc0 rfl dX12_appendBytes_8 ?_
  refine z_aload_n B dX12_appendBytes_11 rfl 1 rfl ?_
  refine z_get (ref := "FlowExporterModel") (C := RX12) (T := TX12) (N := 54) (ci := 14) (v := .int 12) B (by decide +kernel) rfl 46 (by decide) (by decide +kernel) rfl hc0 rfl dX12_appendBytes_12 ?_
  refine z_iload_n B dX12_appendBytes_15 rfl 2 rfl ?_
  refine z_iload_n B dX12_appendBytes_16 rfl 0 rfl ?_
  refine z_ishr B dX12_appendBytes_17 ?_
  refine z_i2b (v := (wd >>> (24 &&& 31)).toInt8.toInt32) B dX12_appendBytes_18 rfl ?_
  refine z_bast B hc1 (Nat.le_trans hna_y (Nat.le_add_right y 25)) (vin rfl) dX12_appendBytes_19 (fun Φ1 hΦ1 => ?_)
  have h_1 : Φ1 (y + 25) = some (ab_ G 700 (upd g (12 : Int32).toNatClampNeg (vp_nar .byte ((wd >>> (24 &&& 31)).toInt8.toInt32)))) := fset_at hΦ1
  refine z_aload_n B dX12_appendBytes_20 rfl 1 rfl ?_
  refine z_dup B dX12_appendBytes_21 rfl ?_
  have h_2 : Φ1 y = some (o_ 14 [.int z_thrown, .ref (y + 1), .ref (y + 2), .int z_time, .int z_random, .int z_rate, .int z_exportedHere, .int z_adaptive, .ref (y + 3), .ref (y + 4), .int z_messages, .long z_sequence, .ref (y + 5), .int z_flows, .int z_dropped, .long z_observed, .long z_sampled, .long z_sent, .long z_unsent, .ref (y + 6), .ref (y + 7), .int z_pending, .ref (y + 8), .int z_length, .ref (y + 9), .ref (y + 10), .int z_queue, .ref (y + 11), .ref (y + 12), .ref (y + 13), .ref (y + 14), .ref (y + 15), .ref (y + 16), .int z_lastCount, .long z_expected, .ref (y + 17), .ref (y + 18), .ref (y + 19), .ref (y + 20), .ref (y + 21), .ref (y + 22), .int z_keys, .ref (y + 23), .ref (y + 24), .int z_trueKeys, .ref (y + 25), .int 12, .int z_next, .int z_errorCode, .int z_errorPosition, .int z_kind, .int z_start, .int z_number, .long z_value]) := ((fset_fr hΦ1 (ne_off (x := y) (i := 0) (j := 25) rfl)).trans hc0)
  refine z_get (ref := "FlowExporterModel") (C := RX12) (T := TX12) (N := 54) (ci := 14) (v := .int 12) B (by decide +kernel) rfl 46 (by decide) (by decide +kernel) rfl h_2 rfl dX12_appendBytes_22 ?_
  refine z_iconst (v := 1) B dX12_appendBytes_25 rfl ?_
  refine z_iadd B dX12_appendBytes_26 ?_
  refine z_top (st1 := [.int 13, .ref y]) (congrArg (fun w9 : Int32 => ([.int w9, .ref y] : List Value)) (show (12 + 1 : Int32) = 13 by decide +kernel)) ?_
  refine z_put (ref := "FlowExporterModel") (C := RX12) (T := TX12) (N := 54) (ci := 14) (v := .int 13) B (by decide +kernel) tyX12 tyX12_ok nmX12 rfl 46 (by decide) (by decide +kernel) rfl (Or.inl rfl) h_2 hna_y rfl rfl (Nat.le_of_ble_eq_true rfl) dX12_appendBytes_27 (fun Φ2 hΦ2 => ?_)
  have h_3 : Φ2 y = some (o_ 14 [.int z_thrown, .ref (y + 1), .ref (y + 2), .int z_time, .int z_random, .int z_rate, .int z_exportedHere, .int z_adaptive, .ref (y + 3), .ref (y + 4), .int z_messages, .long z_sequence, .ref (y + 5), .int z_flows, .int z_dropped, .long z_observed, .long z_sampled, .long z_sent, .long z_unsent, .ref (y + 6), .ref (y + 7), .int z_pending, .ref (y + 8), .int z_length, .ref (y + 9), .ref (y + 10), .int z_queue, .ref (y + 11), .ref (y + 12), .ref (y + 13), .ref (y + 14), .ref (y + 15), .ref (y + 16), .int z_lastCount, .long z_expected, .ref (y + 17), .ref (y + 18), .ref (y + 19), .ref (y + 20), .ref (y + 21), .ref (y + 22), .int z_keys, .ref (y + 23), .ref (y + 24), .int z_trueKeys, .ref (y + 25), .int 13, .int z_next, .int z_errorCode, .int z_errorPosition, .int z_kind, .int z_start, .int z_number, .long z_value]) := fset_at hΦ2
  refine z_iinc (k := 0) (v := 16) (lv' := [(2, .int 16), (0, .ref y), (1, .int wd)]) B dX12_appendBytes_30 rfl rfl (Nat.le_of_ble_eq_true rfl) rfl ?_
  refine z_goto (tgt := 3) B dX12_appendBytes_33 rfl ?_
  refine z_iload_n B dX12_appendBytes_3 rfl 0 rfl ?_
  refine z_if_lt (tgt := 36) B dX12_appendBytes_4 rfl (fun h9 => absurd h9 (by decide)) (fun c_2 => ?_)
  refine z_aload_n B dX12_appendBytes_7 rfl 1 rfl ?_
  refine z_get (ref := "FlowExporterModel") (C := RX12) (T := TX12) (N := 54) (ci := 14) (v := .ref (y + 25)) B (by decide +kernel) rfl 45 (by decide) (by decide +kernel) rfl h_3 rfl dX12_appendBytes_8 ?_
  refine z_aload_n B dX12_appendBytes_11 rfl 1 rfl ?_
  refine z_get (ref := "FlowExporterModel") (C := RX12) (T := TX12) (N := 54) (ci := 14) (v := .int 13) B (by decide +kernel) rfl 46 (by decide) (by decide +kernel) rfl h_3 rfl dX12_appendBytes_12 ?_
  refine z_iload_n B dX12_appendBytes_15 rfl 2 rfl ?_
  refine z_iload_n B dX12_appendBytes_16 rfl 0 rfl ?_
  refine z_ishr B dX12_appendBytes_17 ?_
  refine z_i2b (v := (wd >>> (16 &&& 31)).toInt8.toInt32) B dX12_appendBytes_18 rfl ?_
  have h_4 : Φ2 (y + 25) = some (ab_ G 700 (upd g (12 : Int32).toNatClampNeg (vp_nar .byte ((wd >>> (24 &&& 31)).toInt8.toInt32)))) := ((fset_fr hΦ2 (ne_off (x := y) (i := 25) (j := 0) rfl)).trans h_1)
  refine z_bast B h_4 (Nat.le_trans hna_y (Nat.le_add_right y 25)) (vin rfl) dX12_appendBytes_19 (fun Φ3 hΦ3 => ?_)
  have h_5 : Φ3 (y + 25) = some (ab_ G 700 (upd (upd g (12 : Int32).toNatClampNeg (vp_nar .byte ((wd >>> (24 &&& 31)).toInt8.toInt32))) (13 : Int32).toNatClampNeg (vp_nar .byte ((wd >>> (16 &&& 31)).toInt8.toInt32)))) := fset_at hΦ3
  refine z_aload_n B dX12_appendBytes_20 rfl 1 rfl ?_
  refine z_dup B dX12_appendBytes_21 rfl ?_
  have h_6 : Φ3 y = some (o_ 14 [.int z_thrown, .ref (y + 1), .ref (y + 2), .int z_time, .int z_random, .int z_rate, .int z_exportedHere, .int z_adaptive, .ref (y + 3), .ref (y + 4), .int z_messages, .long z_sequence, .ref (y + 5), .int z_flows, .int z_dropped, .long z_observed, .long z_sampled, .long z_sent, .long z_unsent, .ref (y + 6), .ref (y + 7), .int z_pending, .ref (y + 8), .int z_length, .ref (y + 9), .ref (y + 10), .int z_queue, .ref (y + 11), .ref (y + 12), .ref (y + 13), .ref (y + 14), .ref (y + 15), .ref (y + 16), .int z_lastCount, .long z_expected, .ref (y + 17), .ref (y + 18), .ref (y + 19), .ref (y + 20), .ref (y + 21), .ref (y + 22), .int z_keys, .ref (y + 23), .ref (y + 24), .int z_trueKeys, .ref (y + 25), .int 13, .int z_next, .int z_errorCode, .int z_errorPosition, .int z_kind, .int z_start, .int z_number, .long z_value]) := ((fset_fr hΦ3 (ne_off (x := y) (i := 0) (j := 25) rfl)).trans h_3)
  refine z_get (ref := "FlowExporterModel") (C := RX12) (T := TX12) (N := 54) (ci := 14) (v := .int 13) B (by decide +kernel) rfl 46 (by decide) (by decide +kernel) rfl h_6 rfl dX12_appendBytes_22 ?_
  refine z_iconst (v := 1) B dX12_appendBytes_25 rfl ?_
  refine z_iadd B dX12_appendBytes_26 ?_
  refine z_top (st1 := [.int 14, .ref y]) (congrArg (fun w9 : Int32 => ([.int w9, .ref y] : List Value)) (show (13 + 1 : Int32) = 14 by decide +kernel)) ?_
  refine z_put (ref := "FlowExporterModel") (C := RX12) (T := TX12) (N := 54) (ci := 14) (v := .int 14) B (by decide +kernel) tyX12 tyX12_ok nmX12 rfl 46 (by decide) (by decide +kernel) rfl (Or.inl rfl) h_6 hna_y rfl rfl (Nat.le_of_ble_eq_true rfl) dX12_appendBytes_27 (fun Φ4 hΦ4 => ?_)
  have h_7 : Φ4 y = some (o_ 14 [.int z_thrown, .ref (y + 1), .ref (y + 2), .int z_time, .int z_random, .int z_rate, .int z_exportedHere, .int z_adaptive, .ref (y + 3), .ref (y + 4), .int z_messages, .long z_sequence, .ref (y + 5), .int z_flows, .int z_dropped, .long z_observed, .long z_sampled, .long z_sent, .long z_unsent, .ref (y + 6), .ref (y + 7), .int z_pending, .ref (y + 8), .int z_length, .ref (y + 9), .ref (y + 10), .int z_queue, .ref (y + 11), .ref (y + 12), .ref (y + 13), .ref (y + 14), .ref (y + 15), .ref (y + 16), .int z_lastCount, .long z_expected, .ref (y + 17), .ref (y + 18), .ref (y + 19), .ref (y + 20), .ref (y + 21), .ref (y + 22), .int z_keys, .ref (y + 23), .ref (y + 24), .int z_trueKeys, .ref (y + 25), .int 14, .int z_next, .int z_errorCode, .int z_errorPosition, .int z_kind, .int z_start, .int z_number, .long z_value]) := fset_at hΦ4
  refine z_iinc (k := 0) (v := 8) (lv' := [(2, .int 8), (0, .ref y), (1, .int wd)]) B dX12_appendBytes_30 rfl rfl (Nat.le_of_ble_eq_true rfl) rfl ?_
  refine z_goto (tgt := 3) B dX12_appendBytes_33 rfl ?_
  refine z_iload_n B dX12_appendBytes_3 rfl 0 rfl ?_
  refine z_if_lt (tgt := 36) B dX12_appendBytes_4 rfl (fun h9 => absurd h9 (by decide)) (fun c_3 => ?_)
  refine z_aload_n B dX12_appendBytes_7 rfl 1 rfl ?_
  refine z_get (ref := "FlowExporterModel") (C := RX12) (T := TX12) (N := 54) (ci := 14) (v := .ref (y + 25)) B (by decide +kernel) rfl 45 (by decide) (by decide +kernel) rfl h_7 rfl dX12_appendBytes_8 ?_
  refine z_aload_n B dX12_appendBytes_11 rfl 1 rfl ?_
  refine z_get (ref := "FlowExporterModel") (C := RX12) (T := TX12) (N := 54) (ci := 14) (v := .int 14) B (by decide +kernel) rfl 46 (by decide) (by decide +kernel) rfl h_7 rfl dX12_appendBytes_12 ?_
  refine z_iload_n B dX12_appendBytes_15 rfl 2 rfl ?_
  refine z_iload_n B dX12_appendBytes_16 rfl 0 rfl ?_
  refine z_ishr B dX12_appendBytes_17 ?_
  refine z_i2b (v := (wd >>> (8 &&& 31)).toInt8.toInt32) B dX12_appendBytes_18 rfl ?_
  have h_8 : Φ4 (y + 25) = some (ab_ G 700 (upd (upd g (12 : Int32).toNatClampNeg (vp_nar .byte ((wd >>> (24 &&& 31)).toInt8.toInt32))) (13 : Int32).toNatClampNeg (vp_nar .byte ((wd >>> (16 &&& 31)).toInt8.toInt32)))) := ((fset_fr hΦ4 (ne_off (x := y) (i := 25) (j := 0) rfl)).trans h_5)
  refine z_bast B h_8 (Nat.le_trans hna_y (Nat.le_add_right y 25)) (vin rfl) dX12_appendBytes_19 (fun Φ5 hΦ5 => ?_)
  have h_9 : Φ5 (y + 25) = some (ab_ G 700 (upd (upd (upd g (12 : Int32).toNatClampNeg (vp_nar .byte ((wd >>> (24 &&& 31)).toInt8.toInt32))) (13 : Int32).toNatClampNeg (vp_nar .byte ((wd >>> (16 &&& 31)).toInt8.toInt32))) (14 : Int32).toNatClampNeg (vp_nar .byte ((wd >>> (8 &&& 31)).toInt8.toInt32)))) := fset_at hΦ5
  refine z_aload_n B dX12_appendBytes_20 rfl 1 rfl ?_
  refine z_dup B dX12_appendBytes_21 rfl ?_
  have h_10 : Φ5 y = some (o_ 14 [.int z_thrown, .ref (y + 1), .ref (y + 2), .int z_time, .int z_random, .int z_rate, .int z_exportedHere, .int z_adaptive, .ref (y + 3), .ref (y + 4), .int z_messages, .long z_sequence, .ref (y + 5), .int z_flows, .int z_dropped, .long z_observed, .long z_sampled, .long z_sent, .long z_unsent, .ref (y + 6), .ref (y + 7), .int z_pending, .ref (y + 8), .int z_length, .ref (y + 9), .ref (y + 10), .int z_queue, .ref (y + 11), .ref (y + 12), .ref (y + 13), .ref (y + 14), .ref (y + 15), .ref (y + 16), .int z_lastCount, .long z_expected, .ref (y + 17), .ref (y + 18), .ref (y + 19), .ref (y + 20), .ref (y + 21), .ref (y + 22), .int z_keys, .ref (y + 23), .ref (y + 24), .int z_trueKeys, .ref (y + 25), .int 14, .int z_next, .int z_errorCode, .int z_errorPosition, .int z_kind, .int z_start, .int z_number, .long z_value]) := ((fset_fr hΦ5 (ne_off (x := y) (i := 0) (j := 25) rfl)).trans h_7)
  refine z_get (ref := "FlowExporterModel") (C := RX12) (T := TX12) (N := 54) (ci := 14) (v := .int 14) B (by decide +kernel) rfl 46 (by decide) (by decide +kernel) rfl h_10 rfl dX12_appendBytes_22 ?_
  refine z_iconst (v := 1) B dX12_appendBytes_25 rfl ?_
  refine z_iadd B dX12_appendBytes_26 ?_
  refine z_top (st1 := [.int 15, .ref y]) (congrArg (fun w9 : Int32 => ([.int w9, .ref y] : List Value)) (show (14 + 1 : Int32) = 15 by decide +kernel)) ?_
  refine z_put (ref := "FlowExporterModel") (C := RX12) (T := TX12) (N := 54) (ci := 14) (v := .int 15) B (by decide +kernel) tyX12 tyX12_ok nmX12 rfl 46 (by decide) (by decide +kernel) rfl (Or.inl rfl) h_10 hna_y rfl rfl (Nat.le_of_ble_eq_true rfl) dX12_appendBytes_27 (fun Φ6 hΦ6 => ?_)
  have h_11 : Φ6 y = some (o_ 14 [.int z_thrown, .ref (y + 1), .ref (y + 2), .int z_time, .int z_random, .int z_rate, .int z_exportedHere, .int z_adaptive, .ref (y + 3), .ref (y + 4), .int z_messages, .long z_sequence, .ref (y + 5), .int z_flows, .int z_dropped, .long z_observed, .long z_sampled, .long z_sent, .long z_unsent, .ref (y + 6), .ref (y + 7), .int z_pending, .ref (y + 8), .int z_length, .ref (y + 9), .ref (y + 10), .int z_queue, .ref (y + 11), .ref (y + 12), .ref (y + 13), .ref (y + 14), .ref (y + 15), .ref (y + 16), .int z_lastCount, .long z_expected, .ref (y + 17), .ref (y + 18), .ref (y + 19), .ref (y + 20), .ref (y + 21), .ref (y + 22), .int z_keys, .ref (y + 23), .ref (y + 24), .int z_trueKeys, .ref (y + 25), .int 15, .int z_next, .int z_errorCode, .int z_errorPosition, .int z_kind, .int z_start, .int z_number, .long z_value]) := fset_at hΦ6
  refine z_iinc (k := 0) (v := 0) (lv' := [(2, .int 0), (0, .ref y), (1, .int wd)]) B dX12_appendBytes_30 rfl rfl (Nat.le_of_ble_eq_true rfl) rfl ?_
  refine z_goto (tgt := 3) B dX12_appendBytes_33 rfl ?_
  refine z_iload_n B dX12_appendBytes_3 rfl 0 rfl ?_
  refine z_if_lt (tgt := 36) B dX12_appendBytes_4 rfl (fun h9 => absurd h9 (by decide)) (fun c_4 => ?_)
  refine z_aload_n B dX12_appendBytes_7 rfl 1 rfl ?_
  refine z_get (ref := "FlowExporterModel") (C := RX12) (T := TX12) (N := 54) (ci := 14) (v := .ref (y + 25)) B (by decide +kernel) rfl 45 (by decide) (by decide +kernel) rfl h_11 rfl dX12_appendBytes_8 ?_
  refine z_aload_n B dX12_appendBytes_11 rfl 1 rfl ?_
  refine z_get (ref := "FlowExporterModel") (C := RX12) (T := TX12) (N := 54) (ci := 14) (v := .int 15) B (by decide +kernel) rfl 46 (by decide) (by decide +kernel) rfl h_11 rfl dX12_appendBytes_12 ?_
  refine z_iload_n B dX12_appendBytes_15 rfl 2 rfl ?_
  refine z_iload_n B dX12_appendBytes_16 rfl 0 rfl ?_
  refine z_ishr B dX12_appendBytes_17 ?_
  refine z_i2b (v := (wd >>> (0 &&& 31)).toInt8.toInt32) B dX12_appendBytes_18 rfl ?_
  have h_12 : Φ6 (y + 25) = some (ab_ G 700 (upd (upd (upd g (12 : Int32).toNatClampNeg (vp_nar .byte ((wd >>> (24 &&& 31)).toInt8.toInt32))) (13 : Int32).toNatClampNeg (vp_nar .byte ((wd >>> (16 &&& 31)).toInt8.toInt32))) (14 : Int32).toNatClampNeg (vp_nar .byte ((wd >>> (8 &&& 31)).toInt8.toInt32)))) := ((fset_fr hΦ6 (ne_off (x := y) (i := 25) (j := 0) rfl)).trans h_9)
  refine z_bast B h_12 (Nat.le_trans hna_y (Nat.le_add_right y 25)) (vin rfl) dX12_appendBytes_19 (fun Φ7 hΦ7 => ?_)
  have h_13 : Φ7 (y + 25) = some (ab_ G 700 (upd (upd (upd (upd g (12 : Int32).toNatClampNeg (vp_nar .byte ((wd >>> (24 &&& 31)).toInt8.toInt32))) (13 : Int32).toNatClampNeg (vp_nar .byte ((wd >>> (16 &&& 31)).toInt8.toInt32))) (14 : Int32).toNatClampNeg (vp_nar .byte ((wd >>> (8 &&& 31)).toInt8.toInt32))) (15 : Int32).toNatClampNeg (vp_nar .byte ((wd >>> (0 &&& 31)).toInt8.toInt32)))) := fset_at hΦ7
  refine z_aload_n B dX12_appendBytes_20 rfl 1 rfl ?_
  refine z_dup B dX12_appendBytes_21 rfl ?_
  have h_14 : Φ7 y = some (o_ 14 [.int z_thrown, .ref (y + 1), .ref (y + 2), .int z_time, .int z_random, .int z_rate, .int z_exportedHere, .int z_adaptive, .ref (y + 3), .ref (y + 4), .int z_messages, .long z_sequence, .ref (y + 5), .int z_flows, .int z_dropped, .long z_observed, .long z_sampled, .long z_sent, .long z_unsent, .ref (y + 6), .ref (y + 7), .int z_pending, .ref (y + 8), .int z_length, .ref (y + 9), .ref (y + 10), .int z_queue, .ref (y + 11), .ref (y + 12), .ref (y + 13), .ref (y + 14), .ref (y + 15), .ref (y + 16), .int z_lastCount, .long z_expected, .ref (y + 17), .ref (y + 18), .ref (y + 19), .ref (y + 20), .ref (y + 21), .ref (y + 22), .int z_keys, .ref (y + 23), .ref (y + 24), .int z_trueKeys, .ref (y + 25), .int 15, .int z_next, .int z_errorCode, .int z_errorPosition, .int z_kind, .int z_start, .int z_number, .long z_value]) := ((fset_fr hΦ7 (ne_off (x := y) (i := 0) (j := 25) rfl)).trans h_11)
  refine z_get (ref := "FlowExporterModel") (C := RX12) (T := TX12) (N := 54) (ci := 14) (v := .int 15) B (by decide +kernel) rfl 46 (by decide) (by decide +kernel) rfl h_14 rfl dX12_appendBytes_22 ?_
  refine z_iconst (v := 1) B dX12_appendBytes_25 rfl ?_
  refine z_iadd B dX12_appendBytes_26 ?_
  refine z_top (st1 := [.int 16, .ref y]) (congrArg (fun w9 : Int32 => ([.int w9, .ref y] : List Value)) (show (15 + 1 : Int32) = 16 by decide +kernel)) ?_
  refine z_put (ref := "FlowExporterModel") (C := RX12) (T := TX12) (N := 54) (ci := 14) (v := .int 16) B (by decide +kernel) tyX12 tyX12_ok nmX12 rfl 46 (by decide) (by decide +kernel) rfl (Or.inl rfl) h_14 hna_y rfl rfl (Nat.le_of_ble_eq_true rfl) dX12_appendBytes_27 (fun Φ8 hΦ8 => ?_)
  have h_15 : Φ8 y = some (o_ 14 [.int z_thrown, .ref (y + 1), .ref (y + 2), .int z_time, .int z_random, .int z_rate, .int z_exportedHere, .int z_adaptive, .ref (y + 3), .ref (y + 4), .int z_messages, .long z_sequence, .ref (y + 5), .int z_flows, .int z_dropped, .long z_observed, .long z_sampled, .long z_sent, .long z_unsent, .ref (y + 6), .ref (y + 7), .int z_pending, .ref (y + 8), .int z_length, .ref (y + 9), .ref (y + 10), .int z_queue, .ref (y + 11), .ref (y + 12), .ref (y + 13), .ref (y + 14), .ref (y + 15), .ref (y + 16), .int z_lastCount, .long z_expected, .ref (y + 17), .ref (y + 18), .ref (y + 19), .ref (y + 20), .ref (y + 21), .ref (y + 22), .int z_keys, .ref (y + 23), .ref (y + 24), .int z_trueKeys, .ref (y + 25), .int 16, .int z_next, .int z_errorCode, .int z_errorPosition, .int z_kind, .int z_start, .int z_number, .long z_value]) := fset_at hΦ8
  refine z_iinc (k := 0) (v := (-8)) (lv' := [(2, .int (-8)), (0, .ref y), (1, .int wd)]) B dX12_appendBytes_30 rfl rfl (Nat.le_of_ble_eq_true rfl) rfl ?_
  refine z_goto (tgt := 3) B dX12_appendBytes_33 rfl ?_
  refine z_iload_n B dX12_appendBytes_3 rfl 0 rfl ?_
  refine z_if_lt (tgt := 36) B dX12_appendBytes_4 rfl (fun c_5 => ?_) (fun h9 => absurd (by decide) h9)
  have h_16 : Φ8 (y + 25) = some (ab_ G 700 (upd (upd (upd (upd g (12 : Int32).toNatClampNeg (vp_nar .byte ((wd >>> (24 &&& 31)).toInt8.toInt32))) (13 : Int32).toNatClampNeg (vp_nar .byte ((wd >>> (16 &&& 31)).toInt8.toInt32))) (14 : Int32).toNatClampNeg (vp_nar .byte ((wd >>> (8 &&& 31)).toInt8.toInt32))) (15 : Int32).toNatClampNeg (vp_nar .byte ((wd >>> (0 &&& 31)).toInt8.toInt32)))) := ((fset_fr hΦ8 (ne_off (x := y) (i := 25) (j := 0) rfl)).trans h_13)
  exact z_ret_v B dX12_appendBytes_36 ⟨rfl, rfl, (fun b9 h9a h9b => ((fset_fr hΦ8 h9a).trans ((fset_fr hΦ7 h9b).trans ((fset_fr hΦ6 h9a).trans ((fset_fr hΦ5 h9b).trans ((fset_fr hΦ4 h9a).trans ((fset_fr hΦ3 h9b).trans ((fset_fr hΦ2 h9a).trans ((fset_fr hΦ1 h9b).trans rfl))))))))), h_15, h_16⟩

set_option maxHeartbeats 4000000 in
set_option maxRecDepth 100000 in
theorem c_X12_appendBytes_16 (G : EnvG) (l : Launch) (Φ : Hm) (sz : Nat) (y : Nat) (z_thrown : Int32) (z_time : Int32) (z_random : Int32) (z_rate : Int32) (z_exportedHere : Int32) (z_adaptive : Int32) (z_messages : Int32) (z_sequence : Int64) (z_flows : Int32) (z_dropped : Int32) (z_observed : Int64) (z_sampled : Int64) (z_sent : Int64) (z_unsent : Int64) (z_pending : Int32) (z_length : Int32) (z_queue : Int32) (z_lastCount : Int32) (z_expected : Int64) (z_keys : Int32) (z_trueKeys : Int32) (z_next : Int32) (z_errorCode : Int32) (z_errorPosition : Int32) (z_kind : Int32) (z_start : Int32) (z_number : Int32) (z_value : Int64) (g : Nat → Int32) (wd : Int32) (hc0 : Φ y = some (o_ 14 [.int z_thrown, .ref (y + 1), .ref (y + 2), .int z_time, .int z_random, .int z_rate, .int z_exportedHere, .int z_adaptive, .ref (y + 3), .ref (y + 4), .int z_messages, .long z_sequence, .ref (y + 5), .int z_flows, .int z_dropped, .long z_observed, .long z_sampled, .long z_sent, .long z_unsent, .ref (y + 6), .ref (y + 7), .int z_pending, .ref (y + 8), .int z_length, .ref (y + 9), .ref (y + 10), .int z_queue, .ref (y + 11), .ref (y + 12), .ref (y + 13), .ref (y + 14), .ref (y + 15), .ref (y + 16), .int z_lastCount, .long z_expected, .ref (y + 17), .ref (y + 18), .ref (y + 19), .ref (y + 20), .ref (y + 21), .ref (y + 22), .int z_keys, .ref (y + 23), .ref (y + 24), .int z_trueKeys, .ref (y + 25), .int 16, .int z_next, .int z_errorCode, .int z_errorPosition, .int z_kind, .int z_start, .int z_number, .long z_value])) (hc1 : Φ (y + 25) = some (ab_ G 700 g)) (hna_y : G.2.2.2 ≤ y) : Ct G l yX12_appendBytes wsX12_appendBytes ({ frames := 0, cells := 0, slots := 0, locals := 0 }) 0 0 [.ref y, .int wd] Φ sz (fun v Φ1 sz1 => v = none ∧ sz1 = sz ∧ (∀ b9 : Nat, b9 ≠ y → b9 ≠ y + 25 → Φ1 b9 = Φ b9) ∧ Φ1 y = some (o_ 14 [.int z_thrown, .ref (y + 1), .ref (y + 2), .int z_time, .int z_random, .int z_rate, .int z_exportedHere, .int z_adaptive, .ref (y + 3), .ref (y + 4), .int z_messages, .long z_sequence, .ref (y + 5), .int z_flows, .int z_dropped, .long z_observed, .long z_sampled, .long z_sent, .long z_unsent, .ref (y + 6), .ref (y + 7), .int z_pending, .ref (y + 8), .int z_length, .ref (y + 9), .ref (y + 10), .int z_queue, .ref (y + 11), .ref (y + 12), .ref (y + 13), .ref (y + 14), .ref (y + 15), .ref (y + 16), .int z_lastCount, .long z_expected, .ref (y + 17), .ref (y + 18), .ref (y + 19), .ref (y + 20), .ref (y + 21), .ref (y + 22), .int z_keys, .ref (y + 23), .ref (y + 24), .int z_trueKeys, .ref (y + 25), .int 20, .int z_next, .int z_errorCode, .int z_errorPosition, .int z_kind, .int z_start, .int z_number, .long z_value]) ∧ Φ1 (y + 25) = some (ab_ G 700 (upd (upd (upd (upd g (16 : Int32).toNatClampNeg (vp_nar .byte ((wd >>> (24 &&& 31)).toInt8.toInt32))) (17 : Int32).toNatClampNeg (vp_nar .byte ((wd >>> (16 &&& 31)).toInt8.toInt32))) (18 : Int32).toNatClampNeg (vp_nar .byte ((wd >>> (8 &&& 31)).toInt8.toInt32))) (19 : Int32).toNatClampNeg (vp_nar .byte ((wd >>> (0 &&& 31)).toInt8.toInt32))))) := by
  refine Ct.of (cc := cX12_appendBytes) (maxL := 3) (ret := none) (by decide) rfl (Nat.le_of_ble_eq_true rfl) ?_
  intro p9 e9 s9 m9 w9 t9 k9 B
  show Z p9 l e9 _ s9 m9 _ w9 t9 k9 _ G 3 0 [(0, .ref y), (1, .int wd)] [] Φ (sz) 0 0
  refine z_bipush (v := 24) B dX12_appendBytes_0 rfl ?_
  refine z_istore_n (lv' := [(2, .int 24), (0, .ref y), (1, .int wd)]) B dX12_appendBytes_2 rfl (Nat.le_of_ble_eq_true rfl) rfl ?_
  refine z_iload_n B dX12_appendBytes_3 rfl 0 rfl ?_
  refine z_if_lt (tgt := 36) B dX12_appendBytes_4 rfl (fun h9 => absurd h9 (by decide)) (fun c_1 => ?_)
  refine z_aload_n B dX12_appendBytes_7 rfl 1 rfl ?_
  refine z_get (ref := "FlowExporterModel") (C := RX12) (T := TX12) (N := 54) (ci := 14) (v := .ref (y + 25)) B (by decide +kernel) rfl 45 (by decide) (by decide +kernel) rfl hc0 rfl dX12_appendBytes_8 ?_
  refine z_aload_n B dX12_appendBytes_11 rfl 1 rfl ?_
  refine z_get (ref := "FlowExporterModel") (C := RX12) (T := TX12) (N := 54) (ci := 14) (v := .int 16) B (by decide +kernel) rfl 46 (by decide) (by decide +kernel) rfl hc0 rfl dX12_appendBytes_12 ?_
  refine z_iload_n B dX12_appendBytes_15 rfl 2 rfl ?_
  refine z_iload_n B dX12_appendBytes_16 rfl 0 rfl ?_
  refine z_ishr B dX12_appendBytes_17 ?_
  refine z_i2b (v := (wd >>> (24 &&& 31)).toInt8.toInt32) B dX12_appendBytes_18 rfl ?_
  refine z_bast B hc1 (Nat.le_trans hna_y (Nat.le_add_right y 25)) (vin rfl) dX12_appendBytes_19 (fun Φ1 hΦ1 => ?_)
  have h_1 : Φ1 (y + 25) = some (ab_ G 700 (upd g (16 : Int32).toNatClampNeg (vp_nar .byte ((wd >>> (24 &&& 31)).toInt8.toInt32)))) := fset_at hΦ1
  refine z_aload_n B dX12_appendBytes_20 rfl 1 rfl ?_
  refine z_dup B dX12_appendBytes_21 rfl ?_
  have h_2 : Φ1 y = some (o_ 14 [.int z_thrown, .ref (y + 1), .ref (y + 2), .int z_time, .int z_random, .int z_rate, .int z_exportedHere, .int z_adaptive, .ref (y + 3), .ref (y + 4), .int z_messages, .long z_sequence, .ref (y + 5), .int z_flows, .int z_dropped, .long z_observed, .long z_sampled, .long z_sent, .long z_unsent, .ref (y + 6), .ref (y + 7), .int z_pending, .ref (y + 8), .int z_length, .ref (y + 9), .ref (y + 10), .int z_queue, .ref (y + 11), .ref (y + 12), .ref (y + 13), .ref (y + 14), .ref (y + 15), .ref (y + 16), .int z_lastCount, .long z_expected, .ref (y + 17), .ref (y + 18), .ref (y + 19), .ref (y + 20), .ref (y + 21), .ref (y + 22), .int z_keys, .ref (y + 23), .ref (y + 24), .int z_trueKeys, .ref (y + 25), .int 16, .int z_next, .int z_errorCode, .int z_errorPosition, .int z_kind, .int z_start, .int z_number, .long z_value]) := ((fset_fr hΦ1 (ne_off (x := y) (i := 0) (j := 25) rfl)).trans hc0)
  refine z_get (ref := "FlowExporterModel") (C := RX12) (T := TX12) (N := 54) (ci := 14) (v := .int 16) B (by decide +kernel) rfl 46 (by decide) (by decide +kernel) rfl h_2 rfl dX12_appendBytes_22 ?_
  refine z_iconst (v := 1) B dX12_appendBytes_25 rfl ?_
  refine z_iadd B dX12_appendBytes_26 ?_
  refine z_top (st1 := [.int 17, .ref y]) (congrArg (fun w9 : Int32 => ([.int w9, .ref y] : List Value)) (show (16 + 1 : Int32) = 17 by decide +kernel)) ?_
  refine z_put (ref := "FlowExporterModel") (C := RX12) (T := TX12) (N := 54) (ci := 14) (v := .int 17) B (by decide +kernel) tyX12 tyX12_ok nmX12 rfl 46 (by decide) (by decide +kernel) rfl (Or.inl rfl) h_2 hna_y rfl rfl (Nat.le_of_ble_eq_true rfl) dX12_appendBytes_27 (fun Φ2 hΦ2 => ?_)
  have h_3 : Φ2 y = some (o_ 14 [.int z_thrown, .ref (y + 1), .ref (y + 2), .int z_time, .int z_random, .int z_rate, .int z_exportedHere, .int z_adaptive, .ref (y + 3), .ref (y + 4), .int z_messages, .long z_sequence, .ref (y + 5), .int z_flows, .int z_dropped, .long z_observed, .long z_sampled, .long z_sent, .long z_unsent, .ref (y + 6), .ref (y + 7), .int z_pending, .ref (y + 8), .int z_length, .ref (y + 9), .ref (y + 10), .int z_queue, .ref (y + 11), .ref (y + 12), .ref (y + 13), .ref (y + 14), .ref (y + 15), .ref (y + 16), .int z_lastCount, .long z_expected, .ref (y + 17), .ref (y + 18), .ref (y + 19), .ref (y + 20), .ref (y + 21), .ref (y + 22), .int z_keys, .ref (y + 23), .ref (y + 24), .int z_trueKeys, .ref (y + 25), .int 17, .int z_next, .int z_errorCode, .int z_errorPosition, .int z_kind, .int z_start, .int z_number, .long z_value]) := fset_at hΦ2
  refine z_iinc (k := 0) (v := 16) (lv' := [(2, .int 16), (0, .ref y), (1, .int wd)]) B dX12_appendBytes_30 rfl rfl (Nat.le_of_ble_eq_true rfl) rfl ?_
  refine z_goto (tgt := 3) B dX12_appendBytes_33 rfl ?_
  refine z_iload_n B dX12_appendBytes_3 rfl 0 rfl ?_
  refine z_if_lt (tgt := 36) B dX12_appendBytes_4 rfl (fun h9 => absurd h9 (by decide)) (fun c_2 => ?_)
  refine z_aload_n B dX12_appendBytes_7 rfl 1 rfl ?_
  refine z_get (ref := "FlowExporterModel") (C := RX12) (T := TX12) (N := 54) (ci := 14) (v := .ref (y + 25)) B (by decide +kernel) rfl 45 (by decide) (by decide +kernel) rfl h_3 rfl dX12_appendBytes_8 ?_
  refine z_aload_n B dX12_appendBytes_11 rfl 1 rfl ?_
  refine z_get (ref := "FlowExporterModel") (C := RX12) (T := TX12) (N := 54) (ci := 14) (v := .int 17) B (by decide +kernel) rfl 46 (by decide) (by decide +kernel) rfl h_3 rfl dX12_appendBytes_12 ?_
  refine z_iload_n B dX12_appendBytes_15 rfl 2 rfl ?_
  refine z_iload_n B dX12_appendBytes_16 rfl 0 rfl ?_
  refine z_ishr B dX12_appendBytes_17 ?_
  refine z_i2b (v := (wd >>> (16 &&& 31)).toInt8.toInt32) B dX12_appendBytes_18 rfl ?_
  have h_4 : Φ2 (y + 25) = some (ab_ G 700 (upd g (16 : Int32).toNatClampNeg (vp_nar .byte ((wd >>> (24 &&& 31)).toInt8.toInt32)))) := ((fset_fr hΦ2 (ne_off (x := y) (i := 25) (j := 0) rfl)).trans h_1)
  refine z_bast B h_4 (Nat.le_trans hna_y (Nat.le_add_right y 25)) (vin rfl) dX12_appendBytes_19 (fun Φ3 hΦ3 => ?_)
  have h_5 : Φ3 (y + 25) = some (ab_ G 700 (upd (upd g (16 : Int32).toNatClampNeg (vp_nar .byte ((wd >>> (24 &&& 31)).toInt8.toInt32))) (17 : Int32).toNatClampNeg (vp_nar .byte ((wd >>> (16 &&& 31)).toInt8.toInt32)))) := fset_at hΦ3
  refine z_aload_n B dX12_appendBytes_20 rfl 1 rfl ?_
  refine z_dup B dX12_appendBytes_21 rfl ?_
  have h_6 : Φ3 y = some (o_ 14 [.int z_thrown, .ref (y + 1), .ref (y + 2), .int z_time, .int z_random, .int z_rate, .int z_exportedHere, .int z_adaptive, .ref (y + 3), .ref (y + 4), .int z_messages, .long z_sequence, .ref (y + 5), .int z_flows, .int z_dropped, .long z_observed, .long z_sampled, .long z_sent, .long z_unsent, .ref (y + 6), .ref (y + 7), .int z_pending, .ref (y + 8), .int z_length, .ref (y + 9), .ref (y + 10), .int z_queue, .ref (y + 11), .ref (y + 12), .ref (y + 13), .ref (y + 14), .ref (y + 15), .ref (y + 16), .int z_lastCount, .long z_expected, .ref (y + 17), .ref (y + 18), .ref (y + 19), .ref (y + 20), .ref (y + 21), .ref (y + 22), .int z_keys, .ref (y + 23), .ref (y + 24), .int z_trueKeys, .ref (y + 25), .int 17, .int z_next, .int z_errorCode, .int z_errorPosition, .int z_kind, .int z_start, .int z_number, .long z_value]) := ((fset_fr hΦ3 (ne_off (x := y) (i := 0) (j := 25) rfl)).trans h_3)
  refine z_get (ref := "FlowExporterModel") (C := RX12) (T := TX12) (N := 54) (ci := 14) (v := .int 17) B (by decide +kernel) rfl 46 (by decide) (by decide +kernel) rfl h_6 rfl dX12_appendBytes_22 ?_
  refine z_iconst (v := 1) B dX12_appendBytes_25 rfl ?_
  refine z_iadd B dX12_appendBytes_26 ?_
  refine z_top (st1 := [.int 18, .ref y]) (congrArg (fun w9 : Int32 => ([.int w9, .ref y] : List Value)) (show (17 + 1 : Int32) = 18 by decide +kernel)) ?_
  refine z_put (ref := "FlowExporterModel") (C := RX12) (T := TX12) (N := 54) (ci := 14) (v := .int 18) B (by decide +kernel) tyX12 tyX12_ok nmX12 rfl 46 (by decide) (by decide +kernel) rfl (Or.inl rfl) h_6 hna_y rfl rfl (Nat.le_of_ble_eq_true rfl) dX12_appendBytes_27 (fun Φ4 hΦ4 => ?_)
  have h_7 : Φ4 y = some (o_ 14 [.int z_thrown, .ref (y + 1), .ref (y + 2), .int z_time, .int z_random, .int z_rate, .int z_exportedHere, .int z_adaptive, .ref (y + 3), .ref (y + 4), .int z_messages, .long z_sequence, .ref (y + 5), .int z_flows, .int z_dropped, .long z_observed, .long z_sampled, .long z_sent, .long z_unsent, .ref (y + 6), .ref (y + 7), .int z_pending, .ref (y + 8), .int z_length, .ref (y + 9), .ref (y + 10), .int z_queue, .ref (y + 11), .ref (y + 12), .ref (y + 13), .ref (y + 14), .ref (y + 15), .ref (y + 16), .int z_lastCount, .long z_expected, .ref (y + 17), .ref (y + 18), .ref (y + 19), .ref (y + 20), .ref (y + 21), .ref (y + 22), .int z_keys, .ref (y + 23), .ref (y + 24), .int z_trueKeys, .ref (y + 25), .int 18, .int z_next, .int z_errorCode, .int z_errorPosition, .int z_kind, .int z_start, .int z_number, .long z_value]) := fset_at hΦ4
  refine z_iinc (k := 0) (v := 8) (lv' := [(2, .int 8), (0, .ref y), (1, .int wd)]) B dX12_appendBytes_30 rfl rfl (Nat.le_of_ble_eq_true rfl) rfl ?_
  refine z_goto (tgt := 3) B dX12_appendBytes_33 rfl ?_
  refine z_iload_n B dX12_appendBytes_3 rfl 0 rfl ?_
  refine z_if_lt (tgt := 36) B dX12_appendBytes_4 rfl (fun h9 => absurd h9 (by decide)) (fun c_3 => ?_)
  refine z_aload_n B dX12_appendBytes_7 rfl 1 rfl ?_
  refine z_get (ref := "FlowExporterModel") (C := RX12) (T := TX12) (N := 54) (ci := 14) (v := .ref (y + 25)) B (by decide +kernel) rfl 45 (by decide) (by decide +kernel) rfl h_7 rfl dX12_appendBytes_8 ?_
  refine z_aload_n B dX12_appendBytes_11 rfl 1 rfl ?_
  refine z_get (ref := "FlowExporterModel") (C := RX12) (T := TX12) (N := 54) (ci := 14) (v := .int 18) B (by decide +kernel) rfl 46 (by decide) (by decide +kernel) rfl h_7 rfl dX12_appendBytes_12 ?_
  refine z_iload_n B dX12_appendBytes_15 rfl 2 rfl ?_
  refine z_iload_n B dX12_appendBytes_16 rfl 0 rfl ?_
  refine z_ishr B dX12_appendBytes_17 ?_
  refine z_i2b (v := (wd >>> (8 &&& 31)).toInt8.toInt32) B dX12_appendBytes_18 rfl ?_
  have h_8 : Φ4 (y + 25) = some (ab_ G 700 (upd (upd g (16 : Int32).toNatClampNeg (vp_nar .byte ((wd >>> (24 &&& 31)).toInt8.toInt32))) (17 : Int32).toNatClampNeg (vp_nar .byte ((wd >>> (16 &&& 31)).toInt8.toInt32)))) := ((fset_fr hΦ4 (ne_off (x := y) (i := 25) (j := 0) rfl)).trans h_5)
  refine z_bast B h_8 (Nat.le_trans hna_y (Nat.le_add_right y 25)) (vin rfl) dX12_appendBytes_19 (fun Φ5 hΦ5 => ?_)
  have h_9 : Φ5 (y + 25) = some (ab_ G 700 (upd (upd (upd g (16 : Int32).toNatClampNeg (vp_nar .byte ((wd >>> (24 &&& 31)).toInt8.toInt32))) (17 : Int32).toNatClampNeg (vp_nar .byte ((wd >>> (16 &&& 31)).toInt8.toInt32))) (18 : Int32).toNatClampNeg (vp_nar .byte ((wd >>> (8 &&& 31)).toInt8.toInt32)))) := fset_at hΦ5
  refine z_aload_n B dX12_appendBytes_20 rfl 1 rfl ?_
  refine z_dup B dX12_appendBytes_21 rfl ?_
  have h_10 : Φ5 y = some (o_ 14 [.int z_thrown, .ref (y + 1), .ref (y + 2), .int z_time, .int z_random, .int z_rate, .int z_exportedHere, .int z_adaptive, .ref (y + 3), .ref (y + 4), .int z_messages, .long z_sequence, .ref (y + 5), .int z_flows, .int z_dropped, .long z_observed, .long z_sampled, .long z_sent, .long z_unsent, .ref (y + 6), .ref (y + 7), .int z_pending, .ref (y + 8), .int z_length, .ref (y + 9), .ref (y + 10), .int z_queue, .ref (y + 11), .ref (y + 12), .ref (y + 13), .ref (y + 14), .ref (y + 15), .ref (y + 16), .int z_lastCount, .long z_expected, .ref (y + 17), .ref (y + 18), .ref (y + 19), .ref (y + 20), .ref (y + 21), .ref (y + 22), .int z_keys, .ref (y + 23), .ref (y + 24), .int z_trueKeys, .ref (y + 25), .int 18, .int z_next, .int z_errorCode, .int z_errorPosition, .int z_kind, .int z_start, .int z_number, .long z_value]) := ((fset_fr hΦ5 (ne_off (x := y) (i := 0) (j := 25) rfl)).trans h_7)
  refine z_get (ref := "FlowExporterModel") (C := RX12) (T := TX12) (N := 54) (ci := 14) (v := .int 18) B (by decide +kernel) rfl 46 (by decide) (by decide +kernel) rfl h_10 rfl dX12_appendBytes_22 ?_
  refine z_iconst (v := 1) B dX12_appendBytes_25 rfl ?_
  refine z_iadd B dX12_appendBytes_26 ?_
  refine z_top (st1 := [.int 19, .ref y]) (congrArg (fun w9 : Int32 => ([.int w9, .ref y] : List Value)) (show (18 + 1 : Int32) = 19 by decide +kernel)) ?_
  refine z_put (ref := "FlowExporterModel") (C := RX12) (T := TX12) (N := 54) (ci := 14) (v := .int 19) B (by decide +kernel) tyX12 tyX12_ok nmX12 rfl 46 (by decide) (by decide +kernel) rfl (Or.inl rfl) h_10 hna_y rfl rfl (Nat.le_of_ble_eq_true rfl) dX12_appendBytes_27 (fun Φ6 hΦ6 => ?_)
  have h_11 : Φ6 y = some (o_ 14 [.int z_thrown, .ref (y + 1), .ref (y + 2), .int z_time, .int z_random, .int z_rate, .int z_exportedHere, .int z_adaptive, .ref (y + 3), .ref (y + 4), .int z_messages, .long z_sequence, .ref (y + 5), .int z_flows, .int z_dropped, .long z_observed, .long z_sampled, .long z_sent, .long z_unsent, .ref (y + 6), .ref (y + 7), .int z_pending, .ref (y + 8), .int z_length, .ref (y + 9), .ref (y + 10), .int z_queue, .ref (y + 11), .ref (y + 12), .ref (y + 13), .ref (y + 14), .ref (y + 15), .ref (y + 16), .int z_lastCount, .long z_expected, .ref (y + 17), .ref (y + 18), .ref (y + 19), .ref (y + 20), .ref (y + 21), .ref (y + 22), .int z_keys, .ref (y + 23), .ref (y + 24), .int z_trueKeys, .ref (y + 25), .int 19, .int z_next, .int z_errorCode, .int z_errorPosition, .int z_kind, .int z_start, .int z_number, .long z_value]) := fset_at hΦ6
  refine z_iinc (k := 0) (v := 0) (lv' := [(2, .int 0), (0, .ref y), (1, .int wd)]) B dX12_appendBytes_30 rfl rfl (Nat.le_of_ble_eq_true rfl) rfl ?_
  refine z_goto (tgt := 3) B dX12_appendBytes_33 rfl ?_
  refine z_iload_n B dX12_appendBytes_3 rfl 0 rfl ?_
  refine z_if_lt (tgt := 36) B dX12_appendBytes_4 rfl (fun h9 => absurd h9 (by decide)) (fun c_4 => ?_)
  refine z_aload_n B dX12_appendBytes_7 rfl 1 rfl ?_
  refine z_get (ref := "FlowExporterModel") (C := RX12) (T := TX12) (N := 54) (ci := 14) (v := .ref (y + 25)) B (by decide +kernel) rfl 45 (by decide) (by decide +kernel) rfl h_11 rfl dX12_appendBytes_8 ?_
  refine z_aload_n B dX12_appendBytes_11 rfl 1 rfl ?_
  refine z_get (ref := "FlowExporterModel") (C := RX12) (T := TX12) (N := 54) (ci := 14) (v := .int 19) B (by decide +kernel) rfl 46 (by decide) (by decide +kernel) rfl h_11 rfl dX12_appendBytes_12 ?_
  refine z_iload_n B dX12_appendBytes_15 rfl 2 rfl ?_
  refine z_iload_n B dX12_appendBytes_16 rfl 0 rfl ?_
  refine z_ishr B dX12_appendBytes_17 ?_
  refine z_i2b (v := (wd >>> (0 &&& 31)).toInt8.toInt32) B dX12_appendBytes_18 rfl ?_
  have h_12 : Φ6 (y + 25) = some (ab_ G 700 (upd (upd (upd g (16 : Int32).toNatClampNeg (vp_nar .byte ((wd >>> (24 &&& 31)).toInt8.toInt32))) (17 : Int32).toNatClampNeg (vp_nar .byte ((wd >>> (16 &&& 31)).toInt8.toInt32))) (18 : Int32).toNatClampNeg (vp_nar .byte ((wd >>> (8 &&& 31)).toInt8.toInt32)))) := ((fset_fr hΦ6 (ne_off (x := y) (i := 25) (j := 0) rfl)).trans h_9)
  refine z_bast B h_12 (Nat.le_trans hna_y (Nat.le_add_right y 25)) (vin rfl) dX12_appendBytes_19 (fun Φ7 hΦ7 => ?_)
  have h_13 : Φ7 (y + 25) = some (ab_ G 700 (upd (upd (upd (upd g (16 : Int32).toNatClampNeg (vp_nar .byte ((wd >>> (24 &&& 31)).toInt8.toInt32))) (17 : Int32).toNatClampNeg (vp_nar .byte ((wd >>> (16 &&& 31)).toInt8.toInt32))) (18 : Int32).toNatClampNeg (vp_nar .byte ((wd >>> (8 &&& 31)).toInt8.toInt32))) (19 : Int32).toNatClampNeg (vp_nar .byte ((wd >>> (0 &&& 31)).toInt8.toInt32)))) := fset_at hΦ7
  refine z_aload_n B dX12_appendBytes_20 rfl 1 rfl ?_
  refine z_dup B dX12_appendBytes_21 rfl ?_
  have h_14 : Φ7 y = some (o_ 14 [.int z_thrown, .ref (y + 1), .ref (y + 2), .int z_time, .int z_random, .int z_rate, .int z_exportedHere, .int z_adaptive, .ref (y + 3), .ref (y + 4), .int z_messages, .long z_sequence, .ref (y + 5), .int z_flows, .int z_dropped, .long z_observed, .long z_sampled, .long z_sent, .long z_unsent, .ref (y + 6), .ref (y + 7), .int z_pending, .ref (y + 8), .int z_length, .ref (y + 9), .ref (y + 10), .int z_queue, .ref (y + 11), .ref (y + 12), .ref (y + 13), .ref (y + 14), .ref (y + 15), .ref (y + 16), .int z_lastCount, .long z_expected, .ref (y + 17), .ref (y + 18), .ref (y + 19), .ref (y + 20), .ref (y + 21), .ref (y + 22), .int z_keys, .ref (y + 23), .ref (y + 24), .int z_trueKeys, .ref (y + 25), .int 19, .int z_next, .int z_errorCode, .int z_errorPosition, .int z_kind, .int z_start, .int z_number, .long z_value]) := ((fset_fr hΦ7 (ne_off (x := y) (i := 0) (j := 25) rfl)).trans h_11)
  refine z_get (ref := "FlowExporterModel") (C := RX12) (T := TX12) (N := 54) (ci := 14) (v := .int 19) B (by decide +kernel) rfl 46 (by decide) (by decide +kernel) rfl h_14 rfl dX12_appendBytes_22 ?_
  refine z_iconst (v := 1) B dX12_appendBytes_25 rfl ?_
  refine z_iadd B dX12_appendBytes_26 ?_
  refine z_top (st1 := [.int 20, .ref y]) (congrArg (fun w9 : Int32 => ([.int w9, .ref y] : List Value)) (show (19 + 1 : Int32) = 20 by decide +kernel)) ?_
  refine z_put (ref := "FlowExporterModel") (C := RX12) (T := TX12) (N := 54) (ci := 14) (v := .int 20) B (by decide +kernel) tyX12 tyX12_ok nmX12 rfl 46 (by decide) (by decide +kernel) rfl (Or.inl rfl) h_14 hna_y rfl rfl (Nat.le_of_ble_eq_true rfl) dX12_appendBytes_27 (fun Φ8 hΦ8 => ?_)
  have h_15 : Φ8 y = some (o_ 14 [.int z_thrown, .ref (y + 1), .ref (y + 2), .int z_time, .int z_random, .int z_rate, .int z_exportedHere, .int z_adaptive, .ref (y + 3), .ref (y + 4), .int z_messages, .long z_sequence, .ref (y + 5), .int z_flows, .int z_dropped, .long z_observed, .long z_sampled, .long z_sent, .long z_unsent, .ref (y + 6), .ref (y + 7), .int z_pending, .ref (y + 8), .int z_length, .ref (y + 9), .ref (y + 10), .int z_queue, .ref (y + 11), .ref (y + 12), .ref (y + 13), .ref (y + 14), .ref (y + 15), .ref (y + 16), .int z_lastCount, .long z_expected, .ref (y + 17), .ref (y + 18), .ref (y + 19), .ref (y + 20), .ref (y + 21), .ref (y + 22), .int z_keys, .ref (y + 23), .ref (y + 24), .int z_trueKeys, .ref (y + 25), .int 20, .int z_next, .int z_errorCode, .int z_errorPosition, .int z_kind, .int z_start, .int z_number, .long z_value]) := fset_at hΦ8
  refine z_iinc (k := 0) (v := (-8)) (lv' := [(2, .int (-8)), (0, .ref y), (1, .int wd)]) B dX12_appendBytes_30 rfl rfl (Nat.le_of_ble_eq_true rfl) rfl ?_
  refine z_goto (tgt := 3) B dX12_appendBytes_33 rfl ?_
  refine z_iload_n B dX12_appendBytes_3 rfl 0 rfl ?_
  refine z_if_lt (tgt := 36) B dX12_appendBytes_4 rfl (fun c_5 => ?_) (fun h9 => absurd (by decide) h9)
  have h_16 : Φ8 (y + 25) = some (ab_ G 700 (upd (upd (upd (upd g (16 : Int32).toNatClampNeg (vp_nar .byte ((wd >>> (24 &&& 31)).toInt8.toInt32))) (17 : Int32).toNatClampNeg (vp_nar .byte ((wd >>> (16 &&& 31)).toInt8.toInt32))) (18 : Int32).toNatClampNeg (vp_nar .byte ((wd >>> (8 &&& 31)).toInt8.toInt32))) (19 : Int32).toNatClampNeg (vp_nar .byte ((wd >>> (0 &&& 31)).toInt8.toInt32)))) := ((fset_fr hΦ8 (ne_off (x := y) (i := 25) (j := 0) rfl)).trans h_13)
  exact z_ret_v B dX12_appendBytes_36 ⟨rfl, rfl, (fun b9 h9a h9b => ((fset_fr hΦ8 h9a).trans ((fset_fr hΦ7 h9b).trans ((fset_fr hΦ6 h9a).trans ((fset_fr hΦ5 h9b).trans ((fset_fr hΦ4 h9a).trans ((fset_fr hΦ3 h9b).trans ((fset_fr hΦ2 h9a).trans ((fset_fr hΦ1 h9b).trans rfl))))))))), h_15, h_16⟩

set_option maxHeartbeats 4000000 in
set_option maxRecDepth 100000 in
theorem m_X12_appendInput (G : EnvG) (l : Launch) (Φ : Hm) (sz : Nat) (y : Nat) (a : Int32) (b : Int32) (d : Int32) (f : Int32) (g : Int32) (hc0_ : Φ y = some (o_ 14 [.int 0, .ref (y + 1), .ref (y + 2), .int 0, .int 1, .int 1, .int 0, .int 0, .ref (y + 3), .ref (y + 4), .int 0, .long 0, .ref (y + 5), .int 0, .int 0, .long 0, .long 0, .long 0, .long 0, .ref (y + 6), .ref (y + 7), .int 0, .ref (y + 8), .int 0, .ref (y + 9), .ref (y + 10), .int 0, .ref (y + 11), .ref (y + 12), .ref (y + 13), .ref (y + 14), .ref (y + 15), .ref (y + 16), .int 0, .long (-1), .ref (y + 17), .ref (y + 18), .ref (y + 19), .ref (y + 20), .ref (y + 21), .ref (y + 22), .int 0, .ref (y + 23), .ref (y + 24), .int 0, .ref (y + 25), .int 0, .int 0, .int 0, .int (-1), .int 0, .int 0, .int 0, .long 0])) (hc25_ : Φ (y + 25) = some (ab_ G 700 (fun _ => 0))) (hna : G.2.2.2 ≤ y) : Ct G l yX12_appendInput wsX12_appendInput ({ frames := 1, cells := 0, slots := 0, locals := 22 }) 0 0 [.ref y, .int a, .int b, .int d, .int f, .int g] Φ sz (fun v Φ1 sz1 => v = some (.int 20) ∧ (∃ fs : List Value, Φ1 y = some (o_ 14 fs) ∧ fs[0]? = some (.int 0)) ∧ ∀ b9 : Nat, y + 26 ≤ b9 → Φ1 b9 = Φ b9) := by
  refine Ct.of (cc := cX12_appendInput) (maxL := 6) (ret := (some .int)) (by decide) rfl (Nat.le_of_ble_eq_true rfl) ?_
  intro p9 e9 s9 m9 w9 t9 k9 B
  show Z p9 l e9 _ s9 m9 _ w9 t9 k9 _ G 6 0 [(0, .ref y), (1, .int a), (2, .int b), (3, .int d), (4, .int f), (5, .int g)] [] Φ sz 0 0
  refine z_aload_n B dX12_appendInput_0 rfl 0 rfl ?_
  refine z_iconst (v := 0) B dX12_appendInput_1 rfl ?_
  refine z_put (ref := "FlowExporterModel") (C := RX12) (T := TX12) (N := 54) (ci := 14) (v := .int 0) B (by decide +kernel) tyX12 tyX12_ok nmX12 rfl 0 (by decide) (by decide +kernel) rfl (Or.inl rfl) hc0_ hna rfl rfl (Nat.le_of_ble_eq_true rfl) dX12_appendInput_2 (fun Φ1 hΦ1 => ?_)
  have h_1 : Φ1 y = some (o_ 14 [.int 0, .ref (y + 1), .ref (y + 2), .int 0, .int 1, .int 1, .int 0, .int 0, .ref (y + 3), .ref (y + 4), .int 0, .long 0, .ref (y + 5), .int 0, .int 0, .long 0, .long 0, .long 0, .long 0, .ref (y + 6), .ref (y + 7), .int 0, .ref (y + 8), .int 0, .ref (y + 9), .ref (y + 10), .int 0, .ref (y + 11), .ref (y + 12), .ref (y + 13), .ref (y + 14), .ref (y + 15), .ref (y + 16), .int 0, .long (-1), .ref (y + 17), .ref (y + 18), .ref (y + 19), .ref (y + 20), .ref (y + 21), .ref (y + 22), .int 0, .ref (y + 23), .ref (y + 24), .int 0, .ref (y + 25), .int 0, .int 0, .int 0, .int (-1), .int 0, .int 0, .int 0, .long 0]) := fset_at hΦ1
  refine z_aload_n B dX12_appendInput_5 rfl 0 rfl ?_
  refine z_get (ref := "FlowExporterModel") (C := RX12) (T := TX12) (N := 54) (ci := 14) (v := .int 0) B (by decide +kernel) rfl 46 (by decide) (by decide +kernel) rfl h_1 rfl dX12_appendInput_6 ?_
  refine z_bipush (v := 20) B dX12_appendInput_9 rfl ?_
  refine z_iadd B dX12_appendInput_11 ?_
  refine z_top (st1 := [.int 20]) (congrArg (fun w9 : Int32 => ([.int w9] : List Value)) (show (0 + 20 : Int32) = 20 by decide +kernel)) ?_
  refine z_sipush (v := 700) B dX12_appendInput_12 rfl ?_
  refine z_icmp_le (tgt := 20) B dX12_appendInput_15 rfl (fun c_1 => ?_) (fun h9 => absurd (by decide) h9)
  refine z_aload_n B dX12_appendInput_20 rfl 0 rfl ?_
  refine z_iload_n B dX12_appendInput_21 rfl 1 rfl ?_
  have h_2 : Φ1 (y + 25) = some (ab_ G 700 (fun _ => 0)) := ((fset_fr hΦ1 (ne_off (x := y) (i := 25) (j := 0) rfl)).trans hc25_)
  refine z_callV (As := [.int a]) (rest := []) B (c_X12_appendBytes_0 G l Φ1 sz y 0 0 1 1 0 0 0 0 0 0 0 0 0 0 0 0 0 0 (-1) 0 0 0 0 (-1) 0 0 0 0 (fun _ => 0) a h_1 h_2 hna) (cwV 1 B.1.2.2.2.2 gX12_appendInput_X12_appendBytes rfl rfl rfl (by decide +kernel) ⟨Nat.le_of_ble_eq_true rfl, Nat.le_of_ble_eq_true rfl⟩) h_1 rfl rfl rfl rfl (Nat.le_of_ble_eq_true rfl) dX12_appendInput_22 ⟨Nat.le_of_ble_eq_true rfl, Nat.le_of_ble_eq_true rfl⟩ (fun v1 Φ2 sz1 st1 hp1 hs1 => ?_)
  obtain ⟨rfl, hq1, fr1, h_3, h_4⟩ := hp1
  replace hq1 : sz1 = sz := hq1
  subst sz1
  replace hs1 : st1 = [] := hs1
  subst st1
  have h_5 : Φ2 y = some (o_ 14 [.int 0, .ref (y + 1), .ref (y + 2), .int 0, .int 1, .int 1, .int 0, .int 0, .ref (y + 3), .ref (y + 4), .int 0, .long 0, .ref (y + 5), .int 0, .int 0, .long 0, .long 0, .long 0, .long 0, .ref (y + 6), .ref (y + 7), .int 0, .ref (y + 8), .int 0, .ref (y + 9), .ref (y + 10), .int 0, .ref (y + 11), .ref (y + 12), .ref (y + 13), .ref (y + 14), .ref (y + 15), .ref (y + 16), .int 0, .long (-1), .ref (y + 17), .ref (y + 18), .ref (y + 19), .ref (y + 20), .ref (y + 21), .ref (y + 22), .int 0, .ref (y + 23), .ref (y + 24), .int 0, .ref (y + 25), .int 4, .int 0, .int 0, .int (-1), .int 0, .int 0, .int 0, .long 0]) := h_3
  have h_6 : Φ2 (y + 25) = some (ab_ G 700 (upd (upd (upd (upd (fun _ => 0) (0 : Int32).toNatClampNeg (vp_nar .byte ((a >>> (24 &&& 31)).toInt8.toInt32))) (1 : Int32).toNatClampNeg (vp_nar .byte ((a >>> (16 &&& 31)).toInt8.toInt32))) (2 : Int32).toNatClampNeg (vp_nar .byte ((a >>> (8 &&& 31)).toInt8.toInt32))) (3 : Int32).toNatClampNeg (vp_nar .byte ((a >>> (0 &&& 31)).toInt8.toInt32)))) := h_4
  refine z_aload_n B dX12_appendInput_25 rfl 0 rfl ?_
  refine z_iload_n B dX12_appendInput_26 rfl 2 rfl ?_
  refine z_callV (As := [.int b]) (rest := []) B (c_X12_appendBytes_4 G l Φ2 sz y 0 0 1 1 0 0 0 0 0 0 0 0 0 0 0 0 0 0 (-1) 0 0 0 0 (-1) 0 0 0 0 (upd (upd (upd (upd (fun _ => 0) (0 : Int32).toNatClampNeg (vp_nar .byte ((a >>> (24 &&& 31)).toInt8.toInt32))) (1 : Int32).toNatClampNeg (vp_nar .byte ((a >>> (16 &&& 31)).toInt8.toInt32))) (2 : Int32).toNatClampNeg (vp_nar .byte ((a >>> (8 &&& 31)).toInt8.toInt32))) (3 : Int32).toNatClampNeg (vp_nar .byte ((a >>> (0 &&& 31)).toInt8.toInt32))) b h_5 h_6 hna) (cwV 1 B.1.2.2.2.2 gX12_appendInput_X12_appendBytes rfl rfl rfl (by decide +kernel) ⟨Nat.le_of_ble_eq_true rfl, Nat.le_of_ble_eq_true rfl⟩) h_5 rfl rfl rfl rfl (Nat.le_of_ble_eq_true rfl) dX12_appendInput_27 ⟨Nat.le_of_ble_eq_true rfl, Nat.le_of_ble_eq_true rfl⟩ (fun v2 Φ3 sz2 st2 hp2 hs2 => ?_)
  obtain ⟨rfl, hq2, fr2, h_7, h_8⟩ := hp2
  replace hq2 : sz2 = sz := hq2
  subst sz2
  replace hs2 : st2 = [] := hs2
  subst st2
  have h_9 : Φ3 y = some (o_ 14 [.int 0, .ref (y + 1), .ref (y + 2), .int 0, .int 1, .int 1, .int 0, .int 0, .ref (y + 3), .ref (y + 4), .int 0, .long 0, .ref (y + 5), .int 0, .int 0, .long 0, .long 0, .long 0, .long 0, .ref (y + 6), .ref (y + 7), .int 0, .ref (y + 8), .int 0, .ref (y + 9), .ref (y + 10), .int 0, .ref (y + 11), .ref (y + 12), .ref (y + 13), .ref (y + 14), .ref (y + 15), .ref (y + 16), .int 0, .long (-1), .ref (y + 17), .ref (y + 18), .ref (y + 19), .ref (y + 20), .ref (y + 21), .ref (y + 22), .int 0, .ref (y + 23), .ref (y + 24), .int 0, .ref (y + 25), .int 8, .int 0, .int 0, .int (-1), .int 0, .int 0, .int 0, .long 0]) := h_7
  have h_10 : Φ3 (y + 25) = some (ab_ G 700 (upd (upd (upd (upd (upd (upd (upd (upd (fun _ => 0) (0 : Int32).toNatClampNeg (vp_nar .byte ((a >>> (24 &&& 31)).toInt8.toInt32))) (1 : Int32).toNatClampNeg (vp_nar .byte ((a >>> (16 &&& 31)).toInt8.toInt32))) (2 : Int32).toNatClampNeg (vp_nar .byte ((a >>> (8 &&& 31)).toInt8.toInt32))) (3 : Int32).toNatClampNeg (vp_nar .byte ((a >>> (0 &&& 31)).toInt8.toInt32))) (4 : Int32).toNatClampNeg (vp_nar .byte ((b >>> (24 &&& 31)).toInt8.toInt32))) (5 : Int32).toNatClampNeg (vp_nar .byte ((b >>> (16 &&& 31)).toInt8.toInt32))) (6 : Int32).toNatClampNeg (vp_nar .byte ((b >>> (8 &&& 31)).toInt8.toInt32))) (7 : Int32).toNatClampNeg (vp_nar .byte ((b >>> (0 &&& 31)).toInt8.toInt32)))) := h_8
  refine z_aload_n B dX12_appendInput_30 rfl 0 rfl ?_
  refine z_iload_n B dX12_appendInput_31 rfl 3 rfl ?_
  refine z_callV (As := [.int d]) (rest := []) B (c_X12_appendBytes_8 G l Φ3 sz y 0 0 1 1 0 0 0 0 0 0 0 0 0 0 0 0 0 0 (-1) 0 0 0 0 (-1) 0 0 0 0 (upd (upd (upd (upd (upd (upd (upd (upd (fun _ => 0) (0 : Int32).toNatClampNeg (vp_nar .byte ((a >>> (24 &&& 31)).toInt8.toInt32))) (1 : Int32).toNatClampNeg (vp_nar .byte ((a >>> (16 &&& 31)).toInt8.toInt32))) (2 : Int32).toNatClampNeg (vp_nar .byte ((a >>> (8 &&& 31)).toInt8.toInt32))) (3 : Int32).toNatClampNeg (vp_nar .byte ((a >>> (0 &&& 31)).toInt8.toInt32))) (4 : Int32).toNatClampNeg (vp_nar .byte ((b >>> (24 &&& 31)).toInt8.toInt32))) (5 : Int32).toNatClampNeg (vp_nar .byte ((b >>> (16 &&& 31)).toInt8.toInt32))) (6 : Int32).toNatClampNeg (vp_nar .byte ((b >>> (8 &&& 31)).toInt8.toInt32))) (7 : Int32).toNatClampNeg (vp_nar .byte ((b >>> (0 &&& 31)).toInt8.toInt32))) d h_9 h_10 hna) (cwV 1 B.1.2.2.2.2 gX12_appendInput_X12_appendBytes rfl rfl rfl (by decide +kernel) ⟨Nat.le_of_ble_eq_true rfl, Nat.le_of_ble_eq_true rfl⟩) h_9 rfl rfl rfl rfl (Nat.le_of_ble_eq_true rfl) dX12_appendInput_32 ⟨Nat.le_of_ble_eq_true rfl, Nat.le_of_ble_eq_true rfl⟩ (fun v3 Φ4 sz3 st3 hp3 hs3 => ?_)
  obtain ⟨rfl, hq3, fr3, h_11, h_12⟩ := hp3
  replace hq3 : sz3 = sz := hq3
  subst sz3
  replace hs3 : st3 = [] := hs3
  subst st3
  have h_13 : Φ4 y = some (o_ 14 [.int 0, .ref (y + 1), .ref (y + 2), .int 0, .int 1, .int 1, .int 0, .int 0, .ref (y + 3), .ref (y + 4), .int 0, .long 0, .ref (y + 5), .int 0, .int 0, .long 0, .long 0, .long 0, .long 0, .ref (y + 6), .ref (y + 7), .int 0, .ref (y + 8), .int 0, .ref (y + 9), .ref (y + 10), .int 0, .ref (y + 11), .ref (y + 12), .ref (y + 13), .ref (y + 14), .ref (y + 15), .ref (y + 16), .int 0, .long (-1), .ref (y + 17), .ref (y + 18), .ref (y + 19), .ref (y + 20), .ref (y + 21), .ref (y + 22), .int 0, .ref (y + 23), .ref (y + 24), .int 0, .ref (y + 25), .int 12, .int 0, .int 0, .int (-1), .int 0, .int 0, .int 0, .long 0]) := h_11
  have h_14 : Φ4 (y + 25) = some (ab_ G 700 (upd (upd (upd (upd (upd (upd (upd (upd (upd (upd (upd (upd (fun _ => 0) (0 : Int32).toNatClampNeg (vp_nar .byte ((a >>> (24 &&& 31)).toInt8.toInt32))) (1 : Int32).toNatClampNeg (vp_nar .byte ((a >>> (16 &&& 31)).toInt8.toInt32))) (2 : Int32).toNatClampNeg (vp_nar .byte ((a >>> (8 &&& 31)).toInt8.toInt32))) (3 : Int32).toNatClampNeg (vp_nar .byte ((a >>> (0 &&& 31)).toInt8.toInt32))) (4 : Int32).toNatClampNeg (vp_nar .byte ((b >>> (24 &&& 31)).toInt8.toInt32))) (5 : Int32).toNatClampNeg (vp_nar .byte ((b >>> (16 &&& 31)).toInt8.toInt32))) (6 : Int32).toNatClampNeg (vp_nar .byte ((b >>> (8 &&& 31)).toInt8.toInt32))) (7 : Int32).toNatClampNeg (vp_nar .byte ((b >>> (0 &&& 31)).toInt8.toInt32))) (8 : Int32).toNatClampNeg (vp_nar .byte ((d >>> (24 &&& 31)).toInt8.toInt32))) (9 : Int32).toNatClampNeg (vp_nar .byte ((d >>> (16 &&& 31)).toInt8.toInt32))) (10 : Int32).toNatClampNeg (vp_nar .byte ((d >>> (8 &&& 31)).toInt8.toInt32))) (11 : Int32).toNatClampNeg (vp_nar .byte ((d >>> (0 &&& 31)).toInt8.toInt32)))) := h_12
  refine z_aload_n B dX12_appendInput_35 rfl 0 rfl ?_
  refine z_iload B dX12_appendInput_36 4 rfl ?_
  refine z_callV (As := [.int f]) (rest := []) B (c_X12_appendBytes_12 G l Φ4 sz y 0 0 1 1 0 0 0 0 0 0 0 0 0 0 0 0 0 0 (-1) 0 0 0 0 (-1) 0 0 0 0 (upd (upd (upd (upd (upd (upd (upd (upd (upd (upd (upd (upd (fun _ => 0) (0 : Int32).toNatClampNeg (vp_nar .byte ((a >>> (24 &&& 31)).toInt8.toInt32))) (1 : Int32).toNatClampNeg (vp_nar .byte ((a >>> (16 &&& 31)).toInt8.toInt32))) (2 : Int32).toNatClampNeg (vp_nar .byte ((a >>> (8 &&& 31)).toInt8.toInt32))) (3 : Int32).toNatClampNeg (vp_nar .byte ((a >>> (0 &&& 31)).toInt8.toInt32))) (4 : Int32).toNatClampNeg (vp_nar .byte ((b >>> (24 &&& 31)).toInt8.toInt32))) (5 : Int32).toNatClampNeg (vp_nar .byte ((b >>> (16 &&& 31)).toInt8.toInt32))) (6 : Int32).toNatClampNeg (vp_nar .byte ((b >>> (8 &&& 31)).toInt8.toInt32))) (7 : Int32).toNatClampNeg (vp_nar .byte ((b >>> (0 &&& 31)).toInt8.toInt32))) (8 : Int32).toNatClampNeg (vp_nar .byte ((d >>> (24 &&& 31)).toInt8.toInt32))) (9 : Int32).toNatClampNeg (vp_nar .byte ((d >>> (16 &&& 31)).toInt8.toInt32))) (10 : Int32).toNatClampNeg (vp_nar .byte ((d >>> (8 &&& 31)).toInt8.toInt32))) (11 : Int32).toNatClampNeg (vp_nar .byte ((d >>> (0 &&& 31)).toInt8.toInt32))) f h_13 h_14 hna) (cwV 1 B.1.2.2.2.2 gX12_appendInput_X12_appendBytes rfl rfl rfl (by decide +kernel) ⟨Nat.le_of_ble_eq_true rfl, Nat.le_of_ble_eq_true rfl⟩) h_13 rfl rfl rfl rfl (Nat.le_of_ble_eq_true rfl) dX12_appendInput_38 ⟨Nat.le_of_ble_eq_true rfl, Nat.le_of_ble_eq_true rfl⟩ (fun v4 Φ5 sz4 st4 hp4 hs4 => ?_)
  obtain ⟨rfl, hq4, fr4, h_15, h_16⟩ := hp4
  replace hq4 : sz4 = sz := hq4
  subst sz4
  replace hs4 : st4 = [] := hs4
  subst st4
  have h_17 : Φ5 y = some (o_ 14 [.int 0, .ref (y + 1), .ref (y + 2), .int 0, .int 1, .int 1, .int 0, .int 0, .ref (y + 3), .ref (y + 4), .int 0, .long 0, .ref (y + 5), .int 0, .int 0, .long 0, .long 0, .long 0, .long 0, .ref (y + 6), .ref (y + 7), .int 0, .ref (y + 8), .int 0, .ref (y + 9), .ref (y + 10), .int 0, .ref (y + 11), .ref (y + 12), .ref (y + 13), .ref (y + 14), .ref (y + 15), .ref (y + 16), .int 0, .long (-1), .ref (y + 17), .ref (y + 18), .ref (y + 19), .ref (y + 20), .ref (y + 21), .ref (y + 22), .int 0, .ref (y + 23), .ref (y + 24), .int 0, .ref (y + 25), .int 16, .int 0, .int 0, .int (-1), .int 0, .int 0, .int 0, .long 0]) := h_15
  have h_18 : Φ5 (y + 25) = some (ab_ G 700 (upd (upd (upd (upd (upd (upd (upd (upd (upd (upd (upd (upd (upd (upd (upd (upd (fun _ => 0) (0 : Int32).toNatClampNeg (vp_nar .byte ((a >>> (24 &&& 31)).toInt8.toInt32))) (1 : Int32).toNatClampNeg (vp_nar .byte ((a >>> (16 &&& 31)).toInt8.toInt32))) (2 : Int32).toNatClampNeg (vp_nar .byte ((a >>> (8 &&& 31)).toInt8.toInt32))) (3 : Int32).toNatClampNeg (vp_nar .byte ((a >>> (0 &&& 31)).toInt8.toInt32))) (4 : Int32).toNatClampNeg (vp_nar .byte ((b >>> (24 &&& 31)).toInt8.toInt32))) (5 : Int32).toNatClampNeg (vp_nar .byte ((b >>> (16 &&& 31)).toInt8.toInt32))) (6 : Int32).toNatClampNeg (vp_nar .byte ((b >>> (8 &&& 31)).toInt8.toInt32))) (7 : Int32).toNatClampNeg (vp_nar .byte ((b >>> (0 &&& 31)).toInt8.toInt32))) (8 : Int32).toNatClampNeg (vp_nar .byte ((d >>> (24 &&& 31)).toInt8.toInt32))) (9 : Int32).toNatClampNeg (vp_nar .byte ((d >>> (16 &&& 31)).toInt8.toInt32))) (10 : Int32).toNatClampNeg (vp_nar .byte ((d >>> (8 &&& 31)).toInt8.toInt32))) (11 : Int32).toNatClampNeg (vp_nar .byte ((d >>> (0 &&& 31)).toInt8.toInt32))) (12 : Int32).toNatClampNeg (vp_nar .byte ((f >>> (24 &&& 31)).toInt8.toInt32))) (13 : Int32).toNatClampNeg (vp_nar .byte ((f >>> (16 &&& 31)).toInt8.toInt32))) (14 : Int32).toNatClampNeg (vp_nar .byte ((f >>> (8 &&& 31)).toInt8.toInt32))) (15 : Int32).toNatClampNeg (vp_nar .byte ((f >>> (0 &&& 31)).toInt8.toInt32)))) := h_16
  refine z_aload_n B dX12_appendInput_41 rfl 0 rfl ?_
  refine z_iload B dX12_appendInput_42 5 rfl ?_
  refine z_callV (As := [.int g]) (rest := []) B (c_X12_appendBytes_16 G l Φ5 sz y 0 0 1 1 0 0 0 0 0 0 0 0 0 0 0 0 0 0 (-1) 0 0 0 0 (-1) 0 0 0 0 (upd (upd (upd (upd (upd (upd (upd (upd (upd (upd (upd (upd (upd (upd (upd (upd (fun _ => 0) (0 : Int32).toNatClampNeg (vp_nar .byte ((a >>> (24 &&& 31)).toInt8.toInt32))) (1 : Int32).toNatClampNeg (vp_nar .byte ((a >>> (16 &&& 31)).toInt8.toInt32))) (2 : Int32).toNatClampNeg (vp_nar .byte ((a >>> (8 &&& 31)).toInt8.toInt32))) (3 : Int32).toNatClampNeg (vp_nar .byte ((a >>> (0 &&& 31)).toInt8.toInt32))) (4 : Int32).toNatClampNeg (vp_nar .byte ((b >>> (24 &&& 31)).toInt8.toInt32))) (5 : Int32).toNatClampNeg (vp_nar .byte ((b >>> (16 &&& 31)).toInt8.toInt32))) (6 : Int32).toNatClampNeg (vp_nar .byte ((b >>> (8 &&& 31)).toInt8.toInt32))) (7 : Int32).toNatClampNeg (vp_nar .byte ((b >>> (0 &&& 31)).toInt8.toInt32))) (8 : Int32).toNatClampNeg (vp_nar .byte ((d >>> (24 &&& 31)).toInt8.toInt32))) (9 : Int32).toNatClampNeg (vp_nar .byte ((d >>> (16 &&& 31)).toInt8.toInt32))) (10 : Int32).toNatClampNeg (vp_nar .byte ((d >>> (8 &&& 31)).toInt8.toInt32))) (11 : Int32).toNatClampNeg (vp_nar .byte ((d >>> (0 &&& 31)).toInt8.toInt32))) (12 : Int32).toNatClampNeg (vp_nar .byte ((f >>> (24 &&& 31)).toInt8.toInt32))) (13 : Int32).toNatClampNeg (vp_nar .byte ((f >>> (16 &&& 31)).toInt8.toInt32))) (14 : Int32).toNatClampNeg (vp_nar .byte ((f >>> (8 &&& 31)).toInt8.toInt32))) (15 : Int32).toNatClampNeg (vp_nar .byte ((f >>> (0 &&& 31)).toInt8.toInt32))) g h_17 h_18 hna) (cwV 1 B.1.2.2.2.2 gX12_appendInput_X12_appendBytes rfl rfl rfl (by decide +kernel) ⟨Nat.le_of_ble_eq_true rfl, Nat.le_of_ble_eq_true rfl⟩) h_17 rfl rfl rfl rfl (Nat.le_of_ble_eq_true rfl) dX12_appendInput_44 ⟨Nat.le_of_ble_eq_true rfl, Nat.le_of_ble_eq_true rfl⟩ (fun v5 Φ6 sz5 st5 hp5 hs5 => ?_)
  obtain ⟨rfl, hq5, fr5, h_19, h_20⟩ := hp5
  replace hq5 : sz5 = sz := hq5
  subst sz5
  replace hs5 : st5 = [] := hs5
  subst st5
  have h_21 : Φ6 y = some (o_ 14 [.int 0, .ref (y + 1), .ref (y + 2), .int 0, .int 1, .int 1, .int 0, .int 0, .ref (y + 3), .ref (y + 4), .int 0, .long 0, .ref (y + 5), .int 0, .int 0, .long 0, .long 0, .long 0, .long 0, .ref (y + 6), .ref (y + 7), .int 0, .ref (y + 8), .int 0, .ref (y + 9), .ref (y + 10), .int 0, .ref (y + 11), .ref (y + 12), .ref (y + 13), .ref (y + 14), .ref (y + 15), .ref (y + 16), .int 0, .long (-1), .ref (y + 17), .ref (y + 18), .ref (y + 19), .ref (y + 20), .ref (y + 21), .ref (y + 22), .int 0, .ref (y + 23), .ref (y + 24), .int 0, .ref (y + 25), .int 20, .int 0, .int 0, .int (-1), .int 0, .int 0, .int 0, .long 0]) := h_19
  have h_22 : Φ6 (y + 25) = some (ab_ G 700 (upd (upd (upd (upd (upd (upd (upd (upd (upd (upd (upd (upd (upd (upd (upd (upd (upd (upd (upd (upd (fun _ => 0) (0 : Int32).toNatClampNeg (vp_nar .byte ((a >>> (24 &&& 31)).toInt8.toInt32))) (1 : Int32).toNatClampNeg (vp_nar .byte ((a >>> (16 &&& 31)).toInt8.toInt32))) (2 : Int32).toNatClampNeg (vp_nar .byte ((a >>> (8 &&& 31)).toInt8.toInt32))) (3 : Int32).toNatClampNeg (vp_nar .byte ((a >>> (0 &&& 31)).toInt8.toInt32))) (4 : Int32).toNatClampNeg (vp_nar .byte ((b >>> (24 &&& 31)).toInt8.toInt32))) (5 : Int32).toNatClampNeg (vp_nar .byte ((b >>> (16 &&& 31)).toInt8.toInt32))) (6 : Int32).toNatClampNeg (vp_nar .byte ((b >>> (8 &&& 31)).toInt8.toInt32))) (7 : Int32).toNatClampNeg (vp_nar .byte ((b >>> (0 &&& 31)).toInt8.toInt32))) (8 : Int32).toNatClampNeg (vp_nar .byte ((d >>> (24 &&& 31)).toInt8.toInt32))) (9 : Int32).toNatClampNeg (vp_nar .byte ((d >>> (16 &&& 31)).toInt8.toInt32))) (10 : Int32).toNatClampNeg (vp_nar .byte ((d >>> (8 &&& 31)).toInt8.toInt32))) (11 : Int32).toNatClampNeg (vp_nar .byte ((d >>> (0 &&& 31)).toInt8.toInt32))) (12 : Int32).toNatClampNeg (vp_nar .byte ((f >>> (24 &&& 31)).toInt8.toInt32))) (13 : Int32).toNatClampNeg (vp_nar .byte ((f >>> (16 &&& 31)).toInt8.toInt32))) (14 : Int32).toNatClampNeg (vp_nar .byte ((f >>> (8 &&& 31)).toInt8.toInt32))) (15 : Int32).toNatClampNeg (vp_nar .byte ((f >>> (0 &&& 31)).toInt8.toInt32))) (16 : Int32).toNatClampNeg (vp_nar .byte ((g >>> (24 &&& 31)).toInt8.toInt32))) (17 : Int32).toNatClampNeg (vp_nar .byte ((g >>> (16 &&& 31)).toInt8.toInt32))) (18 : Int32).toNatClampNeg (vp_nar .byte ((g >>> (8 &&& 31)).toInt8.toInt32))) (19 : Int32).toNatClampNeg (vp_nar .byte ((g >>> (0 &&& 31)).toInt8.toInt32)))) := h_20
  refine z_aload_n B dX12_appendInput_47 rfl 0 rfl ?_
  refine z_get (ref := "FlowExporterModel") (C := RX12) (T := TX12) (N := 54) (ci := 14) (v := .int 20) B (by decide +kernel) rfl 46 (by decide) (by decide +kernel) rfl h_21 rfl dX12_appendInput_48 ?_
  exact z_ret_i B dX12_appendInput_51 ⟨rfl, ⟨_, h_21, rfl⟩, fun b9 h9 => ((fr5 b9 (Nat.ne_of_gt (Nat.lt_of_lt_of_le (lt_off (x := y) (i := 0) (j := 26) rfl) h9)) (Nat.ne_of_gt (Nat.lt_of_lt_of_le (lt_off (x := y) (i := 25) (j := 26) rfl) h9))).trans ((fr4 b9 (Nat.ne_of_gt (Nat.lt_of_lt_of_le (lt_off (x := y) (i := 0) (j := 26) rfl) h9)) (Nat.ne_of_gt (Nat.lt_of_lt_of_le (lt_off (x := y) (i := 25) (j := 26) rfl) h9))).trans ((fr3 b9 (Nat.ne_of_gt (Nat.lt_of_lt_of_le (lt_off (x := y) (i := 0) (j := 26) rfl) h9)) (Nat.ne_of_gt (Nat.lt_of_lt_of_le (lt_off (x := y) (i := 25) (j := 26) rfl) h9))).trans ((fr2 b9 (Nat.ne_of_gt (Nat.lt_of_lt_of_le (lt_off (x := y) (i := 0) (j := 26) rfl) h9)) (Nat.ne_of_gt (Nat.lt_of_lt_of_le (lt_off (x := y) (i := 25) (j := 26) rfl) h9))).trans ((fr1 b9 (Nat.ne_of_gt (Nat.lt_of_lt_of_le (lt_off (x := y) (i := 0) (j := 26) rfl) h9)) (Nat.ne_of_gt (Nat.lt_of_lt_of_le (lt_off (x := y) (i := 25) (j := 26) rfl) h9))).trans ((fset_fr hΦ1 (Nat.ne_of_gt (Nat.lt_of_lt_of_le (lt_off (x := y) (i := 0) (j := 26) rfl) h9))).trans rfl))))))⟩

set_option maxHeartbeats 4000000 in
set_option maxRecDepth 100000 in
theorem m_byteAt_0 (G : EnvG) (l : Launch) (Φ : Hm) (sz : Nat) (y : Nat) (hc0_ : Φ y = some (o_ 14 [.int 0, .ref (y + 1), .ref (y + 2), .int 0, .int 1, .int 1, .int 0, .int 0, .ref (y + 3), .ref (y + 4), .int 0, .long 0, .ref (y + 5), .int 0, .int 0, .long 0, .long 0, .long 0, .long 0, .ref (y + 6), .ref (y + 7), .int 0, .ref (y + 8), .int 0, .ref (y + 9), .ref (y + 10), .int 0, .ref (y + 11), .ref (y + 12), .ref (y + 13), .ref (y + 14), .ref (y + 15), .ref (y + 16), .int 0, .long (-1), .ref (y + 17), .ref (y + 18), .ref (y + 19), .ref (y + 20), .ref (y + 21), .ref (y + 22), .int 0, .ref (y + 23), .ref (y + 24), .int 0, .ref (y + 25), .int 0, .int 0, .int 0, .int (-1), .int 0, .int 0, .int 0, .long 0])) : Ct G l yX12_byteAt wsX12_byteAt ({ frames := 0, cells := 0, slots := 0, locals := 0 }) 0 0 [.ref y, .int 0] Φ sz (fun v Φ1 sz1 => v = some (.int (-1)) ∧ sz1 = sz ∧ (∀ b9 : Nat, Φ1 b9 = Φ b9)) := by
  refine Ct.of (cc := cX12_byteAt) (maxL := 2) (ret := (some .int)) (by decide) rfl (Nat.le_of_ble_eq_true rfl) ?_
  intro p9 e9 s9 m9 w9 t9 k9 B
  show Z p9 l e9 _ s9 m9 _ w9 t9 k9 _ G 2 0 [(0, .ref y), (1, .int 0)] [] Φ sz 0 0
  refine z_iload_n B dX12_byteAt_0 rfl 1 rfl ?_
  refine z_aload_n B dX12_byteAt_1 rfl 0 rfl ?_
  refine z_get (ref := "FlowExporterModel") (C := RX12) (T := TX12) (N := 54) (ci := 14) (v := .int 0) B (by decide +kernel) rfl 46 (by decide) (by decide +kernel) rfl hc0_ rfl dX12_byteAt_2 ?_
  refine z_icmp_ge (tgt := 21) B dX12_byteAt_5 rfl (fun c_1 => ?_) (fun h9 => absurd (by decide) h9)
  refine z_iconst (v := (-1)) B dX12_byteAt_21 rfl ?_
  exact z_ret_i B dX12_byteAt_22 ⟨rfl, rfl, (fun b9 => rfl)⟩

set_option maxHeartbeats 4000000 in
set_option maxRecDepth 100000 in
theorem m_advanceToken (G : EnvG) (l : Launch) (Φ : Hm) (sz : Nat) (y : Nat) (hc0_ : Φ y = some (o_ 14 [.int 0, .ref (y + 1), .ref (y + 2), .int 0, .int 1, .int 1, .int 0, .int 0, .ref (y + 3), .ref (y + 4), .int 0, .long 0, .ref (y + 5), .int 0, .int 0, .long 0, .long 0, .long 0, .long 0, .ref (y + 6), .ref (y + 7), .int 0, .ref (y + 8), .int 0, .ref (y + 9), .ref (y + 10), .int 0, .ref (y + 11), .ref (y + 12), .ref (y + 13), .ref (y + 14), .ref (y + 15), .ref (y + 16), .int 0, .long (-1), .ref (y + 17), .ref (y + 18), .ref (y + 19), .ref (y + 20), .ref (y + 21), .ref (y + 22), .int 0, .ref (y + 23), .ref (y + 24), .int 0, .ref (y + 25), .int 0, .int 0, .int 0, .int (-1), .int 0, .int 0, .int 0, .long 0])) (hna : G.2.2.2 ≤ y) : Ct G l yX12_advanceToken wsX12_advanceToken ({ frames := 1, cells := 0, slots := 0, locals := 21 }) 0 0 [.ref y] Φ sz (fun v Φ1 sz1 => v = none ∧ sz1 = sz ∧ (∀ b9 : Nat, b9 ≠ y → Φ1 b9 = Φ b9) ∧ Φ1 y = some (o_ 14 [.int 0, .ref (y + 1), .ref (y + 2), .int 0, .int 1, .int 1, .int 0, .int 0, .ref (y + 3), .ref (y + 4), .int 0, .long 0, .ref (y + 5), .int 0, .int 0, .long 0, .long 0, .long 0, .long 0, .ref (y + 6), .ref (y + 7), .int 0, .ref (y + 8), .int 0, .ref (y + 9), .ref (y + 10), .int 0, .ref (y + 11), .ref (y + 12), .ref (y + 13), .ref (y + 14), .ref (y + 15), .ref (y + 16), .int 0, .long (-1), .ref (y + 17), .ref (y + 18), .ref (y + 19), .ref (y + 20), .ref (y + 21), .ref (y + 22), .int 0, .ref (y + 23), .ref (y + 24), .int 0, .ref (y + 25), .int 0, .int 0, .int 0, .int (-1), .int 0, .int 0, .int 0, .long 0])) := by
  refine Ct.of (cc := cX12_advanceToken) (maxL := 2) (ret := none) (by decide) rfl (Nat.le_of_ble_eq_true rfl) ?_
  intro p9 e9 s9 m9 w9 t9 k9 B
  show Z p9 l e9 _ s9 m9 _ w9 t9 k9 _ G 2 0 [(0, .ref y)] [] Φ sz 0 0
  refine z_aload_n B dX12_advanceToken_0 rfl 0 rfl ?_
  refine z_aload_n B dX12_advanceToken_1 rfl 0 rfl ?_
  refine z_get (ref := "FlowExporterModel") (C := RX12) (T := TX12) (N := 54) (ci := 14) (v := .int 0) B (by decide +kernel) rfl 47 (by decide) (by decide +kernel) rfl hc0_ rfl dX12_advanceToken_2 ?_
  refine z_callV (As := [.int 0]) (rest := []) B (m_byteAt_0 G l Φ sz y hc0_) (cwV 1 B.1.2.2.2.2 gX12_advanceToken_X12_byteAt rfl rfl rfl (by decide +kernel) ⟨Nat.le_of_ble_eq_true rfl, Nat.le_of_ble_eq_true rfl⟩) hc0_ rfl rfl rfl rfl (Nat.le_of_ble_eq_true rfl) dX12_advanceToken_5 ⟨Nat.le_of_ble_eq_true rfl, Nat.le_of_ble_eq_true rfl⟩ (fun v1 Φ1 sz1 st1 hp1 hs1 => ?_)
  obtain ⟨rfl, hq1, fr1⟩ := hp1
  replace hq1 : sz1 = sz := hq1
  subst sz1
  replace hs1 : st1 = [.int (-1)] := hs1
  subst st1
  refine z_bipush (v := 32) B dX12_advanceToken_8 rfl ?_
  refine z_icmp_eq (tgt := 26) B dX12_advanceToken_10 rfl (fun h9 => absurd h9 (by decide)) (fun c_1 => ?_)
  refine z_aload_n B dX12_advanceToken_13 rfl 0 rfl ?_
  refine z_aload_n B dX12_advanceToken_14 rfl 0 rfl ?_
  have h_1 : Φ1 y = some (o_ 14 [.int 0, .ref (y + 1), .ref (y + 2), .int 0, .int 1, .int 1, .int 0, .int 0, .ref (y + 3), .ref (y + 4), .int 0, .long 0, .ref (y + 5), .int 0, .int 0, .long 0, .long 0, .long 0, .long 0, .ref (y + 6), .ref (y + 7), .int 0, .ref (y + 8), .int 0, .ref (y + 9), .ref (y + 10), .int 0, .ref (y + 11), .ref (y + 12), .ref (y + 13), .ref (y + 14), .ref (y + 15), .ref (y + 16), .int 0, .long (-1), .ref (y + 17), .ref (y + 18), .ref (y + 19), .ref (y + 20), .ref (y + 21), .ref (y + 22), .int 0, .ref (y + 23), .ref (y + 24), .int 0, .ref (y + 25), .int 0, .int 0, .int 0, .int (-1), .int 0, .int 0, .int 0, .long 0]) := ((fr1 y).trans hc0_)
  refine z_get (ref := "FlowExporterModel") (C := RX12) (T := TX12) (N := 54) (ci := 14) (v := .int 0) B (by decide +kernel) rfl 47 (by decide) (by decide +kernel) rfl h_1 rfl dX12_advanceToken_15 ?_
  refine z_callV (As := [.int 0]) (rest := []) B (m_byteAt_0 G l Φ1 sz y h_1) (cwV 1 B.1.2.2.2.2 gX12_advanceToken_X12_byteAt rfl rfl rfl (by decide +kernel) ⟨Nat.le_of_ble_eq_true rfl, Nat.le_of_ble_eq_true rfl⟩) h_1 rfl rfl rfl rfl (Nat.le_of_ble_eq_true rfl) dX12_advanceToken_18 ⟨Nat.le_of_ble_eq_true rfl, Nat.le_of_ble_eq_true rfl⟩ (fun v2 Φ2 sz2 st2 hp2 hs2 => ?_)
  obtain ⟨rfl, hq2, fr2⟩ := hp2
  replace hq2 : sz2 = sz := hq2
  subst sz2
  replace hs2 : st2 = [.int (-1)] := hs2
  subst st2
  refine z_bipush (v := 10) B dX12_advanceToken_21 rfl ?_
  refine z_icmp_ne (tgt := 39) B dX12_advanceToken_23 rfl (fun c_2 => ?_) (fun h9 => absurd h9 (by decide))
  refine z_aload_n B dX12_advanceToken_39 rfl 0 rfl ?_
  refine z_aload_n B dX12_advanceToken_40 rfl 0 rfl ?_
  have h_2 : Φ2 y = some (o_ 14 [.int 0, .ref (y + 1), .ref (y + 2), .int 0, .int 1, .int 1, .int 0, .int 0, .ref (y + 3), .ref (y + 4), .int 0, .long 0, .ref (y + 5), .int 0, .int 0, .long 0, .long 0, .long 0, .long 0, .ref (y + 6), .ref (y + 7), .int 0, .ref (y + 8), .int 0, .ref (y + 9), .ref (y + 10), .int 0, .ref (y + 11), .ref (y + 12), .ref (y + 13), .ref (y + 14), .ref (y + 15), .ref (y + 16), .int 0, .long (-1), .ref (y + 17), .ref (y + 18), .ref (y + 19), .ref (y + 20), .ref (y + 21), .ref (y + 22), .int 0, .ref (y + 23), .ref (y + 24), .int 0, .ref (y + 25), .int 0, .int 0, .int 0, .int (-1), .int 0, .int 0, .int 0, .long 0]) := ((fr2 y).trans h_1)
  refine z_get (ref := "FlowExporterModel") (C := RX12) (T := TX12) (N := 54) (ci := 14) (v := .int 0) B (by decide +kernel) rfl 47 (by decide) (by decide +kernel) rfl h_2 rfl dX12_advanceToken_41 ?_
  refine z_put (ref := "FlowExporterModel") (C := RX12) (T := TX12) (N := 54) (ci := 14) (v := .int 0) B (by decide +kernel) tyX12 tyX12_ok nmX12 rfl 51 (by decide) (by decide +kernel) rfl (Or.inl rfl) h_2 hna rfl rfl (Nat.le_of_ble_eq_true rfl) dX12_advanceToken_44 (fun Φ3 hΦ1 => ?_)
  have h_3 : Φ3 y = some (o_ 14 [.int 0, .ref (y + 1), .ref (y + 2), .int 0, .int 1, .int 1, .int 0, .int 0, .ref (y + 3), .ref (y + 4), .int 0, .long 0, .ref (y + 5), .int 0, .int 0, .long 0, .long 0, .long 0, .long 0, .ref (y + 6), .ref (y + 7), .int 0, .ref (y + 8), .int 0, .ref (y + 9), .ref (y + 10), .int 0, .ref (y + 11), .ref (y + 12), .ref (y + 13), .ref (y + 14), .ref (y + 15), .ref (y + 16), .int 0, .long (-1), .ref (y + 17), .ref (y + 18), .ref (y + 19), .ref (y + 20), .ref (y + 21), .ref (y + 22), .int 0, .ref (y + 23), .ref (y + 24), .int 0, .ref (y + 25), .int 0, .int 0, .int 0, .int (-1), .int 0, .int 0, .int 0, .long 0]) := fset_at hΦ1
  refine z_aload_n B dX12_advanceToken_47 rfl 0 rfl ?_
  refine z_lconst (v := 0) B dX12_advanceToken_48 rfl ?_
  refine z_put (ref := "FlowExporterModel") (C := RX12) (T := TX12) (N := 54) (ci := 14) (v := .long 0) B (by decide +kernel) tyX12 tyX12_ok nmX12 rfl 53 (by decide) (by decide +kernel) rfl (Or.inl rfl) h_3 hna rfl rfl (Nat.le_of_ble_eq_true rfl) dX12_advanceToken_49 (fun Φ4 hΦ2 => ?_)
  have h_4 : Φ4 y = some (o_ 14 [.int 0, .ref (y + 1), .ref (y + 2), .int 0, .int 1, .int 1, .int 0, .int 0, .ref (y + 3), .ref (y + 4), .int 0, .long 0, .ref (y + 5), .int 0, .int 0, .long 0, .long 0, .long 0, .long 0, .ref (y + 6), .ref (y + 7), .int 0, .ref (y + 8), .int 0, .ref (y + 9), .ref (y + 10), .int 0, .ref (y + 11), .ref (y + 12), .ref (y + 13), .ref (y + 14), .ref (y + 15), .ref (y + 16), .int 0, .long (-1), .ref (y + 17), .ref (y + 18), .ref (y + 19), .ref (y + 20), .ref (y + 21), .ref (y + 22), .int 0, .ref (y + 23), .ref (y + 24), .int 0, .ref (y + 25), .int 0, .int 0, .int 0, .int (-1), .int 0, .int 0, .int 0, .long 0]) := fset_at hΦ2
  refine z_aload_n B dX12_advanceToken_52 rfl 0 rfl ?_
  refine z_aload_n B dX12_advanceToken_53 rfl 0 rfl ?_
  refine z_get (ref := "FlowExporterModel") (C := RX12) (T := TX12) (N := 54) (ci := 14) (v := .int 0) B (by decide +kernel) rfl 51 (by decide) (by decide +kernel) rfl h_4 rfl dX12_advanceToken_54 ?_
  refine z_callV (As := [.int 0]) (rest := []) B (m_byteAt_0 G l Φ4 sz y h_4) (cwV 1 B.1.2.2.2.2 gX12_advanceToken_X12_byteAt rfl rfl rfl (by decide +kernel) ⟨Nat.le_of_ble_eq_true rfl, Nat.le_of_ble_eq_true rfl⟩) h_4 rfl rfl rfl rfl (Nat.le_of_ble_eq_true rfl) dX12_advanceToken_57 ⟨Nat.le_of_ble_eq_true rfl, Nat.le_of_ble_eq_true rfl⟩ (fun v3 Φ5 sz3 st3 hp3 hs3 => ?_)
  obtain ⟨rfl, hq3, fr3⟩ := hp3
  replace hq3 : sz3 = sz := hq3
  subst sz3
  replace hs3 : st3 = [.int (-1)] := hs3
  subst st3
  refine z_istore_n (lv' := [(1, .int (-1)), (0, .ref y)]) B dX12_advanceToken_60 rfl (Nat.le_of_ble_eq_true rfl) rfl ?_
  refine z_aload_n B dX12_advanceToken_61 rfl 1 rfl ?_
  refine z_iload_n B dX12_advanceToken_62 rfl 0 rfl ?_
  refine z_iconst (v := (-1)) B dX12_advanceToken_63 rfl ?_
  refine z_icmp_ne (tgt := 71) B dX12_advanceToken_64 rfl (fun h9 => absurd (by decide) h9) (fun c_3 => ?_)
  refine z_iconst (v := 0) B dX12_advanceToken_67 rfl ?_
  refine z_goto (tgt := 104) B dX12_advanceToken_68 rfl ?_
  have h_5 : Φ5 y = some (o_ 14 [.int 0, .ref (y + 1), .ref (y + 2), .int 0, .int 1, .int 1, .int 0, .int 0, .ref (y + 3), .ref (y + 4), .int 0, .long 0, .ref (y + 5), .int 0, .int 0, .long 0, .long 0, .long 0, .long 0, .ref (y + 6), .ref (y + 7), .int 0, .ref (y + 8), .int 0, .ref (y + 9), .ref (y + 10), .int 0, .ref (y + 11), .ref (y + 12), .ref (y + 13), .ref (y + 14), .ref (y + 15), .ref (y + 16), .int 0, .long (-1), .ref (y + 17), .ref (y + 18), .ref (y + 19), .ref (y + 20), .ref (y + 21), .ref (y + 22), .int 0, .ref (y + 23), .ref (y + 24), .int 0, .ref (y + 25), .int 0, .int 0, .int 0, .int (-1), .int 0, .int 0, .int 0, .long 0]) := ((fr3 y).trans h_4)
  refine z_put (ref := "FlowExporterModel") (C := RX12) (T := TX12) (N := 54) (ci := 14) (v := .int 0) B (by decide +kernel) tyX12 tyX12_ok nmX12 rfl 50 (by decide) (by decide +kernel) rfl (Or.inl rfl) h_5 hna rfl rfl (Nat.le_of_ble_eq_true rfl) dX12_advanceToken_104 (fun Φ6 hΦ3 => ?_)
  have h_6 : Φ6 y = some (o_ 14 [.int 0, .ref (y + 1), .ref (y + 2), .int 0, .int 1, .int 1, .int 0, .int 0, .ref (y + 3), .ref (y + 4), .int 0, .long 0, .ref (y + 5), .int 0, .int 0, .long 0, .long 0, .long 0, .long 0, .ref (y + 6), .ref (y + 7), .int 0, .ref (y + 8), .int 0, .ref (y + 9), .ref (y + 10), .int 0, .ref (y + 11), .ref (y + 12), .ref (y + 13), .ref (y + 14), .ref (y + 15), .ref (y + 16), .int 0, .long (-1), .ref (y + 17), .ref (y + 18), .ref (y + 19), .ref (y + 20), .ref (y + 21), .ref (y + 22), .int 0, .ref (y + 23), .ref (y + 24), .int 0, .ref (y + 25), .int 0, .int 0, .int 0, .int (-1), .int 0, .int 0, .int 0, .long 0]) := fset_at hΦ3
  refine z_aload_n B dX12_advanceToken_107 rfl 1 rfl ?_
  refine z_get (ref := "FlowExporterModel") (C := RX12) (T := TX12) (N := 54) (ci := 14) (v := .int 0) B (by decide +kernel) rfl 50 (by decide) (by decide +kernel) rfl h_6 rfl dX12_advanceToken_108 ?_
  refine z_iconst (v := 3) B dX12_advanceToken_111 rfl ?_
  refine z_icmp_eq (tgt := 123) B dX12_advanceToken_112 rfl (fun h9 => absurd h9 (by decide)) (fun c_4 => ?_)
  refine z_aload_n B dX12_advanceToken_115 rfl 1 rfl ?_
  refine z_get (ref := "FlowExporterModel") (C := RX12) (T := TX12) (N := 54) (ci := 14) (v := .int 0) B (by decide +kernel) rfl 50 (by decide) (by decide +kernel) rfl h_6 rfl dX12_advanceToken_116 ?_
  refine z_iconst (v := 4) B dX12_advanceToken_119 rfl ?_
  refine z_icmp_ne (tgt := 133) B dX12_advanceToken_120 rfl (fun c_5 => ?_) (fun h9 => absurd h9 (by decide))
  refine z_aload_n B dX12_advanceToken_133 rfl 1 rfl ?_
  refine z_get (ref := "FlowExporterModel") (C := RX12) (T := TX12) (N := 54) (ci := 14) (v := .int 0) B (by decide +kernel) rfl 50 (by decide) (by decide +kernel) rfl h_6 rfl dX12_advanceToken_134 ?_
  refine z_iconst (v := 1) B dX12_advanceToken_137 rfl ?_
  refine z_icmp_ne (tgt := 208) B dX12_advanceToken_138 rfl (fun c_6 => ?_) (fun h9 => absurd h9 (by decide))
  refine z_aload_n B dX12_advanceToken_208 rfl 1 rfl ?_
  refine z_get (ref := "FlowExporterModel") (C := RX12) (T := TX12) (N := 54) (ci := 14) (v := .int 0) B (by decide +kernel) rfl 50 (by decide) (by decide +kernel) rfl h_6 rfl dX12_advanceToken_209 ?_
  refine z_iconst (v := 2) B dX12_advanceToken_212 rfl ?_
  refine z_icmp_ne (tgt := 283) B dX12_advanceToken_213 rfl (fun c_7 => ?_) (fun h9 => absurd h9 (by decide))
  refine z_aload_n B dX12_advanceToken_283 rfl 1 rfl ?_
  refine z_get (ref := "FlowExporterModel") (C := RX12) (T := TX12) (N := 54) (ci := 14) (v := .int 0) B (by decide +kernel) rfl 50 (by decide) (by decide +kernel) rfl h_6 rfl dX12_advanceToken_284 ?_
  refine z_iconst (v := 1) B dX12_advanceToken_287 rfl ?_
  refine z_icmp_ne (tgt := 305) B dX12_advanceToken_288 rfl (fun c_8 => ?_) (fun h9 => absurd h9 (by decide))
  refine z_aload_n B dX12_advanceToken_305 rfl 1 rfl ?_
  refine z_get (ref := "FlowExporterModel") (C := RX12) (T := TX12) (N := 54) (ci := 14) (v := .int 0) B (by decide +kernel) rfl 50 (by decide) (by decide +kernel) rfl h_6 rfl dX12_advanceToken_306 ?_
  refine z_iconst (v := 2) B dX12_advanceToken_309 rfl ?_
  refine z_icmp_ne (tgt := 332) B dX12_advanceToken_310 rfl (fun c_9 => ?_) (fun h9 => absurd h9 (by decide))
  exact z_ret_v B dX12_advanceToken_332 ⟨rfl, rfl, (fun b9 h9a => ((fset_fr hΦ3 h9a).trans ((fr3 b9).trans ((fset_fr hΦ2 h9a).trans ((fset_fr hΦ1 h9a).trans ((fr2 b9).trans ((fr1 b9).trans rfl))))))), h_6⟩

set_option maxHeartbeats 4000000 in
set_option maxRecDepth 100000 in
theorem m_X12_load (G : EnvG) (l : Launch) (Φ : Hm) (sz : Nat) (y : Nat) (hc0_ : Φ y = some (o_ 14 [.int 0, .ref (y + 1), .ref (y + 2), .int 0, .int 1, .int 1, .int 0, .int 0, .ref (y + 3), .ref (y + 4), .int 0, .long 0, .ref (y + 5), .int 0, .int 0, .long 0, .long 0, .long 0, .long 0, .ref (y + 6), .ref (y + 7), .int 0, .ref (y + 8), .int 0, .ref (y + 9), .ref (y + 10), .int 0, .ref (y + 11), .ref (y + 12), .ref (y + 13), .ref (y + 14), .ref (y + 15), .ref (y + 16), .int 0, .long (-1), .ref (y + 17), .ref (y + 18), .ref (y + 19), .ref (y + 20), .ref (y + 21), .ref (y + 22), .int 0, .ref (y + 23), .ref (y + 24), .int 0, .ref (y + 25), .int 0, .int 0, .int 0, .int (-1), .int 0, .int 0, .int 0, .long 0])) (hc1_ : Φ (y + 1) = some (ai_ G 307 (upd (upd (upd (upd (upd (upd (upd (upd (upd (upd (upd (upd (upd (upd (upd (upd (upd (upd (upd (upd (upd (fun _ => 0) (0 : Int32).toNatClampNeg 1) (1 : Int32).toNatClampNeg 100) (2 : Int32).toNatClampNeg 1000) (3 : Int32).toNatClampNeg 100) (4 : Int32).toNatClampNeg 20) (5 : Int32).toNatClampNeg 1000) (6 : Int32).toNatClampNeg 5000) (7 : Int32).toNatClampNeg 512) (8 : Int32).toNatClampNeg 1) (9 : Int32).toNatClampNeg 511) (10 : Int32).toNatClampNeg 1) (11 : Int32).toNatClampNeg 9) (15 : Int32).toNatClampNeg 0) (16 : Int32).toNatClampNeg 1) (17 : Int32).toNatClampNeg 2) (18 : Int32).toNatClampNeg 3) (19 : Int32).toNatClampNeg 4) (20 : Int32).toNatClampNeg 5) (21 : Int32).toNatClampNeg 6) (22 : Int32).toNatClampNeg 7) (23 : Int32).toNatClampNeg 8))) (hc2_ : Φ (y + 2) = some (ai_ G 307 (upd (upd (upd (upd (upd (upd (upd (upd (upd (upd (upd (upd (upd (upd (upd (upd (upd (upd (upd (upd (upd (fun _ => 0) (0 : Int32).toNatClampNeg 1) (1 : Int32).toNatClampNeg 100) (2 : Int32).toNatClampNeg 1000) (3 : Int32).toNatClampNeg 100) (4 : Int32).toNatClampNeg 20) (5 : Int32).toNatClampNeg 1000) (6 : Int32).toNatClampNeg 5000) (7 : Int32).toNatClampNeg 512) (8 : Int32).toNatClampNeg 1) (9 : Int32).toNatClampNeg 511) (10 : Int32).toNatClampNeg 1) (11 : Int32).toNatClampNeg 9) (15 : Int32).toNatClampNeg 0) (16 : Int32).toNatClampNeg 1) (17 : Int32).toNatClampNeg 2) (18 : Int32).toNatClampNeg 3) (19 : Int32).toNatClampNeg 4) (20 : Int32).toNatClampNeg 5) (21 : Int32).toNatClampNeg 6) (22 : Int32).toNatClampNeg 7) (23 : Int32).toNatClampNeg 8))) (hc3_ : Φ (y + 3) = some (ai_ G 4 (upd (upd (upd (upd (fun _ => 0) (0 : Int32).toNatClampNeg (-1)) (1 : Int32).toNatClampNeg (-1)) (2 : Int32).toNatClampNeg (-1)) (3 : Int32).toNatClampNeg (-1)))) (hc11_ : Φ (y + 11) = some (al_ G 9 (vp_updL (vp_updL (vp_updL (vp_updL (vp_updL (vp_updL (vp_updL (vp_updL (vp_updL (fun _ => 0) (0 : Int32).toNatClampNeg 0) (1 : Int32).toNatClampNeg 0) (2 : Int32).toNatClampNeg 0) (3 : Int32).toNatClampNeg 0) (4 : Int32).toNatClampNeg 0) (5 : Int32).toNatClampNeg 0) (6 : Int32).toNatClampNeg 0) (7 : Int32).toNatClampNeg 0) (8 : Int32).toNatClampNeg 0))) (hc12_ : Φ (y + 12) = some (ai_ G 4 (upd (upd (upd (upd (fun _ => 0) (0 : Int32).toNatClampNeg 0) (1 : Int32).toNatClampNeg 0) (2 : Int32).toNatClampNeg 0) (3 : Int32).toNatClampNeg 0))) (hna : G.2.2.2 ≤ y) : Ct G l yX12_load wsX12_load ({ frames := 2, cells := 0, slots := 0, locals := 42 }) 0 0 [.ref y] Φ sz (fun v Φ1 sz1 => v = some (.int 0) ∧ (∃ fs : List Value, Φ1 y = some (o_ 14 fs) ∧ fs[0]? = some (.int 0)) ∧ ∀ b9 : Nat, y + 26 ≤ b9 → Φ1 b9 = Φ b9) := by
  refine Ct.of (cc := cX12_load) (maxL := 2) (ret := (some .int)) (by decide) rfl (Nat.le_of_ble_eq_true rfl) ?_
  intro p9 e9 s9 m9 w9 t9 k9 B
  show Z p9 l e9 _ s9 m9 _ w9 t9 k9 _ G 2 0 [(0, .ref y)] [] Φ sz 0 0
  refine z_aload_n B dX12_load_0 rfl 0 rfl ?_
  refine z_iconst (v := 0) B dX12_load_1 rfl ?_
  refine z_put (ref := "FlowExporterModel") (C := RX12) (T := TX12) (N := 54) (ci := 14) (v := .int 0) B (by decide +kernel) tyX12 tyX12_ok nmX12 rfl 0 (by decide) (by decide +kernel) rfl (Or.inl rfl) hc0_ hna rfl rfl (Nat.le_of_ble_eq_true rfl) dX12_load_2 (fun Φ1 hΦ1 => ?_)
  have h_1 : Φ1 y = some (o_ 14 [.int 0, .ref (y + 1), .ref (y + 2), .int 0, .int 1, .int 1, .int 0, .int 0, .ref (y + 3), .ref (y + 4), .int 0, .long 0, .ref (y + 5), .int 0, .int 0, .long 0, .long 0, .long 0, .long 0, .ref (y + 6), .ref (y + 7), .int 0, .ref (y + 8), .int 0, .ref (y + 9), .ref (y + 10), .int 0, .ref (y + 11), .ref (y + 12), .ref (y + 13), .ref (y + 14), .ref (y + 15), .ref (y + 16), .int 0, .long (-1), .ref (y + 17), .ref (y + 18), .ref (y + 19), .ref (y + 20), .ref (y + 21), .ref (y + 22), .int 0, .ref (y + 23), .ref (y + 24), .int 0, .ref (y + 25), .int 0, .int 0, .int 0, .int (-1), .int 0, .int 0, .int 0, .long 0]) := fset_at hΦ1
  refine z_aload_n B dX12_load_5 rfl 0 rfl ?_
  have h_2 : Φ1 (y + 1) = some (ai_ G 307 (upd (upd (upd (upd (upd (upd (upd (upd (upd (upd (upd (upd (upd (upd (upd (upd (upd (upd (upd (upd (upd (fun _ => 0) (0 : Int32).toNatClampNeg 1) (1 : Int32).toNatClampNeg 100) (2 : Int32).toNatClampNeg 1000) (3 : Int32).toNatClampNeg 100) (4 : Int32).toNatClampNeg 20) (5 : Int32).toNatClampNeg 1000) (6 : Int32).toNatClampNeg 5000) (7 : Int32).toNatClampNeg 512) (8 : Int32).toNatClampNeg 1) (9 : Int32).toNatClampNeg 511) (10 : Int32).toNatClampNeg 1) (11 : Int32).toNatClampNeg 9) (15 : Int32).toNatClampNeg 0) (16 : Int32).toNatClampNeg 1) (17 : Int32).toNatClampNeg 2) (18 : Int32).toNatClampNeg 3) (19 : Int32).toNatClampNeg 4) (20 : Int32).toNatClampNeg 5) (21 : Int32).toNatClampNeg 6) (22 : Int32).toNatClampNeg 7) (23 : Int32).toNatClampNeg 8)) := ((fset_fr hΦ1 (ne_off (x := y) (i := 1) (j := 0) rfl)).trans hc1_)
  refine z_callV (As := []) (rest := []) B (c_X12_beginConfiguration G l Φ1 sz y 0 0 1 1 0 0 0 0 0 0 0 0 0 0 0 0 0 0 (-1) 0 0 0 0 0 (-1) 0 0 0 0 (upd (upd (upd (upd (upd (upd (upd (upd (upd (upd (upd (upd (upd (upd (upd (upd (upd (upd (upd (upd (upd (fun _ => 0) (0 : Int32).toNatClampNeg 1) (1 : Int32).toNatClampNeg 100) (2 : Int32).toNatClampNeg 1000) (3 : Int32).toNatClampNeg 100) (4 : Int32).toNatClampNeg 20) (5 : Int32).toNatClampNeg 1000) (6 : Int32).toNatClampNeg 5000) (7 : Int32).toNatClampNeg 512) (8 : Int32).toNatClampNeg 1) (9 : Int32).toNatClampNeg 511) (10 : Int32).toNatClampNeg 1) (11 : Int32).toNatClampNeg 9) (15 : Int32).toNatClampNeg 0) (16 : Int32).toNatClampNeg 1) (17 : Int32).toNatClampNeg 2) (18 : Int32).toNatClampNeg 3) (19 : Int32).toNatClampNeg 4) (20 : Int32).toNatClampNeg 5) (21 : Int32).toNatClampNeg 6) (22 : Int32).toNatClampNeg 7) (23 : Int32).toNatClampNeg 8) h_1 h_2 hna) (cwV 0 B.1.2.2.2.2 gX12_load_X12_beginConfiguration rfl rfl rfl (by decide +kernel) ⟨Nat.le_of_ble_eq_true rfl, Nat.le_of_ble_eq_true rfl⟩) h_1 rfl rfl rfl rfl (Nat.le_of_ble_eq_true rfl) dX12_load_6 ⟨Nat.le_of_ble_eq_true rfl, Nat.le_of_ble_eq_true rfl⟩ (fun v1 Φ2 sz1 st1 hp1 hs1 => ?_)
  obtain ⟨rfl, hq1, fr1, h_3⟩ := hp1
  replace hq1 : sz1 = sz := hq1
  subst sz1
  replace hs1 : st1 = [] := hs1
  subst st1
  have h_4 : Φ2 (y + 1) = some (ai_ G 307 (upd (upd (upd (upd (upd (upd (upd (upd (upd (upd (fun _ => 0) (0 : Int32).toNatClampNeg 1) (1 : Int32).toNatClampNeg 100) (2 : Int32).toNatClampNeg 1000) (3 : Int32).toNatClampNeg 100) (4 : Int32).toNatClampNeg 20) (5 : Int32).toNatClampNeg 1000) (6 : Int32).toNatClampNeg 5000) (7 : Int32).toNatClampNeg 512) (8 : Int32).toNatClampNeg 1) (9 : Int32).toNatClampNeg 511)) := h_3
  refine z_aload_n B dX12_load_9 rfl 0 rfl ?_
  refine z_iconst (v := 0) B dX12_load_10 rfl ?_
  have h_5 : Φ2 y = some (o_ 14 [.int 0, .ref (y + 1), .ref (y + 2), .int 0, .int 1, .int 1, .int 0, .int 0, .ref (y + 3), .ref (y + 4), .int 0, .long 0, .ref (y + 5), .int 0, .int 0, .long 0, .long 0, .long 0, .long 0, .ref (y + 6), .ref (y + 7), .int 0, .ref (y + 8), .int 0, .ref (y + 9), .ref (y + 10), .int 0, .ref (y + 11), .ref (y + 12), .ref (y + 13), .ref (y + 14), .ref (y + 15), .ref (y + 16), .int 0, .long (-1), .ref (y + 17), .ref (y + 18), .ref (y + 19), .ref (y + 20), .ref (y + 21), .ref (y + 22), .int 0, .ref (y + 23), .ref (y + 24), .int 0, .ref (y + 25), .int 0, .int 0, .int 0, .int (-1), .int 0, .int 0, .int 0, .long 0]) := ((fr1 y (ne_off (x := y) (i := 0) (j := 1) rfl)).trans h_1)
  refine z_put (ref := "FlowExporterModel") (C := RX12) (T := TX12) (N := 54) (ci := 14) (v := .int 0) B (by decide +kernel) tyX12 tyX12_ok nmX12 rfl 48 (by decide) (by decide +kernel) rfl (Or.inl rfl) h_5 hna rfl rfl (Nat.le_of_ble_eq_true rfl) dX12_load_11 (fun Φ3 hΦ2 => ?_)
  have h_6 : Φ3 y = some (o_ 14 [.int 0, .ref (y + 1), .ref (y + 2), .int 0, .int 1, .int 1, .int 0, .int 0, .ref (y + 3), .ref (y + 4), .int 0, .long 0, .ref (y + 5), .int 0, .int 0, .long 0, .long 0, .long 0, .long 0, .ref (y + 6), .ref (y + 7), .int 0, .ref (y + 8), .int 0, .ref (y + 9), .ref (y + 10), .int 0, .ref (y + 11), .ref (y + 12), .ref (y + 13), .ref (y + 14), .ref (y + 15), .ref (y + 16), .int 0, .long (-1), .ref (y + 17), .ref (y + 18), .ref (y + 19), .ref (y + 20), .ref (y + 21), .ref (y + 22), .int 0, .ref (y + 23), .ref (y + 24), .int 0, .ref (y + 25), .int 0, .int 0, .int 0, .int (-1), .int 0, .int 0, .int 0, .long 0]) := fset_at hΦ2
  refine z_aload_n B dX12_load_14 rfl 0 rfl ?_
  refine z_iconst (v := (-1)) B dX12_load_15 rfl ?_
  refine z_put (ref := "FlowExporterModel") (C := RX12) (T := TX12) (N := 54) (ci := 14) (v := .int (-1)) B (by decide +kernel) tyX12 tyX12_ok nmX12 rfl 49 (by decide) (by decide +kernel) rfl (Or.inl rfl) h_6 hna rfl rfl (Nat.le_of_ble_eq_true rfl) dX12_load_16 (fun Φ4 hΦ3 => ?_)
  have h_7 : Φ4 y = some (o_ 14 [.int 0, .ref (y + 1), .ref (y + 2), .int 0, .int 1, .int 1, .int 0, .int 0, .ref (y + 3), .ref (y + 4), .int 0, .long 0, .ref (y + 5), .int 0, .int 0, .long 0, .long 0, .long 0, .long 0, .ref (y + 6), .ref (y + 7), .int 0, .ref (y + 8), .int 0, .ref (y + 9), .ref (y + 10), .int 0, .ref (y + 11), .ref (y + 12), .ref (y + 13), .ref (y + 14), .ref (y + 15), .ref (y + 16), .int 0, .long (-1), .ref (y + 17), .ref (y + 18), .ref (y + 19), .ref (y + 20), .ref (y + 21), .ref (y + 22), .int 0, .ref (y + 23), .ref (y + 24), .int 0, .ref (y + 25), .int 0, .int 0, .int 0, .int (-1), .int 0, .int 0, .int 0, .long 0]) := fset_at hΦ3
  refine z_aload_n B dX12_load_19 rfl 0 rfl ?_
  refine z_iconst (v := 0) B dX12_load_20 rfl ?_
  refine z_put (ref := "FlowExporterModel") (C := RX12) (T := TX12) (N := 54) (ci := 14) (v := .int 0) B (by decide +kernel) tyX12 tyX12_ok nmX12 rfl 47 (by decide) (by decide +kernel) rfl (Or.inl rfl) h_7 hna rfl rfl (Nat.le_of_ble_eq_true rfl) dX12_load_21 (fun Φ5 hΦ4 => ?_)
  have h_8 : Φ5 y = some (o_ 14 [.int 0, .ref (y + 1), .ref (y + 2), .int 0, .int 1, .int 1, .int 0, .int 0, .ref (y + 3), .ref (y + 4), .int 0, .long 0, .ref (y + 5), .int 0, .int 0, .long 0, .long 0, .long 0, .long 0, .ref (y + 6), .ref (y + 7), .int 0, .ref (y + 8), .int 0, .ref (y + 9), .ref (y + 10), .int 0, .ref (y + 11), .ref (y + 12), .ref (y + 13), .ref (y + 14), .ref (y + 15), .ref (y + 16), .int 0, .long (-1), .ref (y + 17), .ref (y + 18), .ref (y + 19), .ref (y + 20), .ref (y + 21), .ref (y + 22), .int 0, .ref (y + 23), .ref (y + 24), .int 0, .ref (y + 25), .int 0, .int 0, .int 0, .int (-1), .int 0, .int 0, .int 0, .long 0]) := fset_at hΦ4
  refine z_aload_n B dX12_load_24 rfl 0 rfl ?_
  refine z_callV (As := []) (rest := []) B (m_advanceToken G l Φ5 sz y h_8 hna) (cwV 0 B.1.2.2.2.2 gX12_load_X12_advanceToken rfl rfl rfl (by decide +kernel) ⟨Nat.le_of_ble_eq_true rfl, Nat.le_of_ble_eq_true rfl⟩) h_8 rfl rfl rfl rfl (Nat.le_of_ble_eq_true rfl) dX12_load_25 ⟨Nat.le_of_ble_eq_true rfl, Nat.le_of_ble_eq_true rfl⟩ (fun v2 Φ6 sz2 st2 hp2 hs2 => ?_)
  obtain ⟨rfl, hq2, fr2, h_9⟩ := hp2
  replace hq2 : sz2 = sz := hq2
  subst sz2
  replace hs2 : st2 = [] := hs2
  subst st2
  have h_10 : Φ6 y = some (o_ 14 [.int 0, .ref (y + 1), .ref (y + 2), .int 0, .int 1, .int 1, .int 0, .int 0, .ref (y + 3), .ref (y + 4), .int 0, .long 0, .ref (y + 5), .int 0, .int 0, .long 0, .long 0, .long 0, .long 0, .ref (y + 6), .ref (y + 7), .int 0, .ref (y + 8), .int 0, .ref (y + 9), .ref (y + 10), .int 0, .ref (y + 11), .ref (y + 12), .ref (y + 13), .ref (y + 14), .ref (y + 15), .ref (y + 16), .int 0, .long (-1), .ref (y + 17), .ref (y + 18), .ref (y + 19), .ref (y + 20), .ref (y + 21), .ref (y + 22), .int 0, .ref (y + 23), .ref (y + 24), .int 0, .ref (y + 25), .int 0, .int 0, .int 0, .int (-1), .int 0, .int 0, .int 0, .long 0]) := h_9
  refine z_iconst (v := 0) B dX12_load_28 rfl ?_
  refine z_istore_n (lv' := [(1, .int 0), (0, .ref y)]) B dX12_load_29 rfl (Nat.le_of_ble_eq_true rfl) rfl ?_
  refine z_aload_n B dX12_load_30 rfl 1 rfl ?_
  refine z_get (ref := "FlowExporterModel") (C := RX12) (T := TX12) (N := 54) (ci := 14) (v := .int 0) B (by decide +kernel) rfl 48 (by decide) (by decide +kernel) rfl h_10 rfl dX12_load_31 ?_
  refine z_if_ne (tgt := 57) B dX12_load_34 rfl (fun h9 => absurd (by decide) h9) (fun c_1 => ?_)
  refine z_aload_n B dX12_load_37 rfl 1 rfl ?_
  refine z_get (ref := "FlowExporterModel") (C := RX12) (T := TX12) (N := 54) (ci := 14) (v := .int 0) B (by decide +kernel) rfl 50 (by decide) (by decide +kernel) rfl h_10 rfl dX12_load_38 ?_
  refine z_if_eq (tgt := 57) B dX12_load_41 rfl (fun c_2 => ?_) (fun h9 => absurd (by decide) h9)
  refine z_aload_n B dX12_load_57 rfl 1 rfl ?_
  refine z_iconst (v := 0) B dX12_load_58 rfl ?_
  refine z_put (ref := "FlowExporterModel") (C := RX12) (T := TX12) (N := 54) (ci := 14) (v := .int 0) B (by decide +kernel) tyX12 tyX12_ok nmX12 rfl 46 (by decide) (by decide +kernel) rfl (Or.inl rfl) h_10 hna rfl rfl (Nat.le_of_ble_eq_true rfl) dX12_load_59 (fun Φ7 hΦ5 => ?_)
  have h_11 : Φ7 y = some (o_ 14 [.int 0, .ref (y + 1), .ref (y + 2), .int 0, .int 1, .int 1, .int 0, .int 0, .ref (y + 3), .ref (y + 4), .int 0, .long 0, .ref (y + 5), .int 0, .int 0, .long 0, .long 0, .long 0, .long 0, .ref (y + 6), .ref (y + 7), .int 0, .ref (y + 8), .int 0, .ref (y + 9), .ref (y + 10), .int 0, .ref (y + 11), .ref (y + 12), .ref (y + 13), .ref (y + 14), .ref (y + 15), .ref (y + 16), .int 0, .long (-1), .ref (y + 17), .ref (y + 18), .ref (y + 19), .ref (y + 20), .ref (y + 21), .ref (y + 22), .int 0, .ref (y + 23), .ref (y + 24), .int 0, .ref (y + 25), .int 0, .int 0, .int 0, .int (-1), .int 0, .int 0, .int 0, .long 0]) := fset_at hΦ5
  refine z_aload_n B dX12_load_62 rfl 1 rfl ?_
  refine z_get (ref := "FlowExporterModel") (C := RX12) (T := TX12) (N := 54) (ci := 14) (v := .int 0) B (by decide +kernel) rfl 48 (by decide) (by decide +kernel) rfl h_11 rfl dX12_load_63 ?_
  refine z_if_eq (tgt := 72) B dX12_load_66 rfl (fun c_3 => ?_) (fun h9 => absurd (by decide) h9)
  refine z_aload_n B dX12_load_72 rfl 1 rfl ?_
  have h_12 : Φ7 (y + 1) = some (ai_ G 307 (upd (upd (upd (upd (upd (upd (upd (upd (upd (upd (fun _ => 0) (0 : Int32).toNatClampNeg 1) (1 : Int32).toNatClampNeg 100) (2 : Int32).toNatClampNeg 1000) (3 : Int32).toNatClampNeg 100) (4 : Int32).toNatClampNeg 20) (5 : Int32).toNatClampNeg 1000) (6 : Int32).toNatClampNeg 5000) (7 : Int32).toNatClampNeg 512) (8 : Int32).toNatClampNeg 1) (9 : Int32).toNatClampNeg 511)) := ((fset_fr hΦ5 (ne_off (x := y) (i := 1) (j := 0) rfl)).trans ((fr2 (y + 1) (ne_off (x := y) (i := 1) (j := 0) rfl)).trans ((fset_fr hΦ4 (ne_off (x := y) (i := 1) (j := 0) rfl)).trans ((fset_fr hΦ3 (ne_off (x := y) (i := 1) (j := 0) rfl)).trans ((fset_fr hΦ2 (ne_off (x := y) (i := 1) (j := 0) rfl)).trans h_4)))))
  have h_13 : Φ7 (y + 2) = some (ai_ G 307 (upd (upd (upd (upd (upd (upd (upd (upd (upd (upd (upd (upd (upd (upd (upd (upd (upd (upd (upd (upd (upd (fun _ => 0) (0 : Int32).toNatClampNeg 1) (1 : Int32).toNatClampNeg 100) (2 : Int32).toNatClampNeg 1000) (3 : Int32).toNatClampNeg 100) (4 : Int32).toNatClampNeg 20) (5 : Int32).toNatClampNeg 1000) (6 : Int32).toNatClampNeg 5000) (7 : Int32).toNatClampNeg 512) (8 : Int32).toNatClampNeg 1) (9 : Int32).toNatClampNeg 511) (10 : Int32).toNatClampNeg 1) (11 : Int32).toNatClampNeg 9) (15 : Int32).toNatClampNeg 0) (16 : Int32).toNatClampNeg 1) (17 : Int32).toNatClampNeg 2) (18 : Int32).toNatClampNeg 3) (19 : Int32).toNatClampNeg 4) (20 : Int32).toNatClampNeg 5) (21 : Int32).toNatClampNeg 6) (22 : Int32).toNatClampNeg 7) (23 : Int32).toNatClampNeg 8)) := ((fset_fr hΦ5 (ne_off (x := y) (i := 2) (j := 0) rfl)).trans ((fr2 (y + 2) (ne_off (x := y) (i := 2) (j := 0) rfl)).trans ((fset_fr hΦ4 (ne_off (x := y) (i := 2) (j := 0) rfl)).trans ((fset_fr hΦ3 (ne_off (x := y) (i := 2) (j := 0) rfl)).trans ((fset_fr hΦ2 (ne_off (x := y) (i := 2) (j := 0) rfl)).trans ((fr1 (y + 2) (ne_off (x := y) (i := 2) (j := 1) rfl)).trans ((fset_fr hΦ1 (ne_off (x := y) (i := 2) (j := 0) rfl)).trans hc2_)))))))
  have h_14 : Φ7 (y + 11) = some (al_ G 9 (vp_updL (vp_updL (vp_updL (vp_updL (vp_updL (vp_updL (vp_updL (vp_updL (vp_updL (fun _ => 0) (0 : Int32).toNatClampNeg 0) (1 : Int32).toNatClampNeg 0) (2 : Int32).toNatClampNeg 0) (3 : Int32).toNatClampNeg 0) (4 : Int32).toNatClampNeg 0) (5 : Int32).toNatClampNeg 0) (6 : Int32).toNatClampNeg 0) (7 : Int32).toNatClampNeg 0) (8 : Int32).toNatClampNeg 0)) := ((fset_fr hΦ5 (ne_off (x := y) (i := 11) (j := 0) rfl)).trans ((fr2 (y + 11) (ne_off (x := y) (i := 11) (j := 0) rfl)).trans ((fset_fr hΦ4 (ne_off (x := y) (i := 11) (j := 0) rfl)).trans ((fset_fr hΦ3 (ne_off (x := y) (i := 11) (j := 0) rfl)).trans ((fset_fr hΦ2 (ne_off (x := y) (i := 11) (j := 0) rfl)).trans ((fr1 (y + 11) (ne_off (x := y) (i := 11) (j := 1) rfl)).trans ((fset_fr hΦ1 (ne_off (x := y) (i := 11) (j := 0) rfl)).trans hc11_)))))))
  have h_15 : Φ7 (y + 3) = some (ai_ G 4 (upd (upd (upd (upd (fun _ => 0) (0 : Int32).toNatClampNeg (-1)) (1 : Int32).toNatClampNeg (-1)) (2 : Int32).toNatClampNeg (-1)) (3 : Int32).toNatClampNeg (-1))) := ((fset_fr hΦ5 (ne_off (x := y) (i := 3) (j := 0) rfl)).trans ((fr2 (y + 3) (ne_off (x := y) (i := 3) (j := 0) rfl)).trans ((fset_fr hΦ4 (ne_off (x := y) (i := 3) (j := 0) rfl)).trans ((fset_fr hΦ3 (ne_off (x := y) (i := 3) (j := 0) rfl)).trans ((fset_fr hΦ2 (ne_off (x := y) (i := 3) (j := 0) rfl)).trans ((fr1 (y + 3) (ne_off (x := y) (i := 3) (j := 1) rfl)).trans ((fset_fr hΦ1 (ne_off (x := y) (i := 3) (j := 0) rfl)).trans hc3_)))))))
  have h_16 : Φ7 (y + 12) = some (ai_ G 4 (upd (upd (upd (upd (fun _ => 0) (0 : Int32).toNatClampNeg 0) (1 : Int32).toNatClampNeg 0) (2 : Int32).toNatClampNeg 0) (3 : Int32).toNatClampNeg 0)) := ((fset_fr hΦ5 (ne_off (x := y) (i := 12) (j := 0) rfl)).trans ((fr2 (y + 12) (ne_off (x := y) (i := 12) (j := 0) rfl)).trans ((fset_fr hΦ4 (ne_off (x := y) (i := 12) (j := 0) rfl)).trans ((fset_fr hΦ3 (ne_off (x := y) (i := 12) (j := 0) rfl)).trans ((fset_fr hΦ2 (ne_off (x := y) (i := 12) (j := 0) rfl)).trans ((fr1 (y + 12) (ne_off (x := y) (i := 12) (j := 1) rfl)).trans ((fset_fr hΦ1 (ne_off (x := y) (i := 12) (j := 0) rfl)).trans hc12_)))))))
  refine z_callV (As := []) (rest := []) B (c_X12_take G l Φ7 sz y 0 0 1 1 0 0 0 0 0 0 0 0 0 0 0 0 0 0 (-1) 0 0 0 0 0 (-1) 0 0 0 0 (upd (upd (upd (upd (upd (upd (upd (upd (upd (upd (upd (upd (upd (upd (upd (upd (upd (upd (upd (upd (upd (fun _ => 0) (0 : Int32).toNatClampNeg 1) (1 : Int32).toNatClampNeg 100) (2 : Int32).toNatClampNeg 1000) (3 : Int32).toNatClampNeg 100) (4 : Int32).toNatClampNeg 20) (5 : Int32).toNatClampNeg 1000) (6 : Int32).toNatClampNeg 5000) (7 : Int32).toNatClampNeg 512) (8 : Int32).toNatClampNeg 1) (9 : Int32).toNatClampNeg 511) (10 : Int32).toNatClampNeg 1) (11 : Int32).toNatClampNeg 9) (15 : Int32).toNatClampNeg 0) (16 : Int32).toNatClampNeg 1) (17 : Int32).toNatClampNeg 2) (18 : Int32).toNatClampNeg 3) (19 : Int32).toNatClampNeg 4) (20 : Int32).toNatClampNeg 5) (21 : Int32).toNatClampNeg 6) (22 : Int32).toNatClampNeg 7) (23 : Int32).toNatClampNeg 8) (vp_updL (vp_updL (vp_updL (vp_updL (vp_updL (vp_updL (vp_updL (vp_updL (vp_updL (fun _ => 0) (0 : Int32).toNatClampNeg 0) (1 : Int32).toNatClampNeg 0) (2 : Int32).toNatClampNeg 0) (3 : Int32).toNatClampNeg 0) (4 : Int32).toNatClampNeg 0) (5 : Int32).toNatClampNeg 0) (6 : Int32).toNatClampNeg 0) (7 : Int32).toNatClampNeg 0) (8 : Int32).toNatClampNeg 0) (upd (upd (upd (upd (fun _ => 0) (0 : Int32).toNatClampNeg (-1)) (1 : Int32).toNatClampNeg (-1)) (2 : Int32).toNatClampNeg (-1)) (3 : Int32).toNatClampNeg (-1)) (upd (upd (upd (upd (fun _ => 0) (0 : Int32).toNatClampNeg 0) (1 : Int32).toNatClampNeg 0) (2 : Int32).toNatClampNeg 0) (3 : Int32).toNatClampNeg 0) h_11 h_12 h_13 h_14 h_15 h_16 hna) (cwV 0 B.1.2.2.2.2 gX12_load_X12_take rfl rfl rfl (by decide +kernel) ⟨Nat.le_of_ble_eq_true rfl, Nat.le_of_ble_eq_true rfl⟩) h_11 rfl rfl rfl rfl (Nat.le_of_ble_eq_true rfl) dX12_load_73 ⟨Nat.le_of_ble_eq_true rfl, Nat.le_of_ble_eq_true rfl⟩ (fun v3 Φ8 sz3 st3 hp3 hs3 => ?_)
  obtain ⟨rfl, hq3, fr3, h_17, h_18, h_19, h_20, h_21, h_22⟩ := hp3
  replace hq3 : sz3 = sz := hq3
  subst sz3
  replace hs3 : st3 = [] := hs3
  subst st3
  have h_23 : Φ8 y = some (o_ 14 [.int 0, .ref (y + 1), .ref (y + 2), .int 0, .int 1, .int 1, .int 0, .int 0, .ref (y + 3), .ref (y + 4), .int 0, .long 0, .ref (y + 5), .int 0, .int 0, .long 0, .long 0, .long 0, .long 0, .ref (y + 6), .ref (y + 7), .int 0, .ref (y + 8), .int 0, .ref (y + 9), .ref (y + 10), .int 0, .ref (y + 11), .ref (y + 12), .ref (y + 13), .ref (y + 14), .ref (y + 15), .ref (y + 16), .int 0, .long (-1), .ref (y + 17), .ref (y + 18), .ref (y + 19), .ref (y + 20), .ref (y + 21), .ref (y + 22), .int 0, .ref (y + 23), .ref (y + 24), .int 0, .ref (y + 25), .int 0, .int 0, .int 0, .int (-1), .int 0, .int 0, .int 0, .long 0]) := h_17
  have h_24 : Φ8 (y + 1) = some (ai_ G 307 (upd (upd (upd (upd (upd (upd (upd (upd (upd (upd (upd (upd (upd (upd (upd (upd (upd (upd (upd (upd (upd (fun _ => 0) (0 : Int32).toNatClampNeg 1) (1 : Int32).toNatClampNeg 100) (2 : Int32).toNatClampNeg 1000) (3 : Int32).toNatClampNeg 100) (4 : Int32).toNatClampNeg 20) (5 : Int32).toNatClampNeg 1000) (6 : Int32).toNatClampNeg 5000) (7 : Int32).toNatClampNeg 512) (8 : Int32).toNatClampNeg 1) (9 : Int32).toNatClampNeg 511) (10 : Int32).toNatClampNeg 1) (11 : Int32).toNatClampNeg 9) (15 : Int32).toNatClampNeg 0) (16 : Int32).toNatClampNeg 1) (17 : Int32).toNatClampNeg 2) (18 : Int32).toNatClampNeg 3) (19 : Int32).toNatClampNeg 4) (20 : Int32).toNatClampNeg 5) (21 : Int32).toNatClampNeg 6) (22 : Int32).toNatClampNeg 7) (23 : Int32).toNatClampNeg 8)) := h_18
  have h_25 : Φ8 (y + 11) = some (al_ G 9 (vp_updL (vp_updL (vp_updL (vp_updL (vp_updL (vp_updL (vp_updL (vp_updL (vp_updL (vp_updL (vp_updL (vp_updL (vp_updL (vp_updL (vp_updL (vp_updL (vp_updL (vp_updL (fun _ => 0) (0 : Int32).toNatClampNeg 0) (1 : Int32).toNatClampNeg 0) (2 : Int32).toNatClampNeg 0) (3 : Int32).toNatClampNeg 0) (4 : Int32).toNatClampNeg 0) (5 : Int32).toNatClampNeg 0) (6 : Int32).toNatClampNeg 0) (7 : Int32).toNatClampNeg 0) (8 : Int32).toNatClampNeg 0) (0 : Int32).toNatClampNeg 0) (1 : Int32).toNatClampNeg 0) (2 : Int32).toNatClampNeg 0) (3 : Int32).toNatClampNeg 0) (4 : Int32).toNatClampNeg 0) (5 : Int32).toNatClampNeg 0) (6 : Int32).toNatClampNeg 0) (7 : Int32).toNatClampNeg 0) (8 : Int32).toNatClampNeg 0)) := h_19
  have h_26 : Φ8 (y + 12) = some (ai_ G 4 (upd (upd (upd (upd (upd (upd (upd (upd (fun _ => 0) (0 : Int32).toNatClampNeg 0) (1 : Int32).toNatClampNeg 0) (2 : Int32).toNatClampNeg 0) (3 : Int32).toNatClampNeg 0) (0 : Int32).toNatClampNeg 0) (1 : Int32).toNatClampNeg 0) (2 : Int32).toNatClampNeg 0) (3 : Int32).toNatClampNeg 0)) := h_20
  have h_27 : Φ8 (y + 2) = some (ai_ G 307 (upd (upd (upd (upd (upd (upd (upd (upd (upd (upd (upd (upd (upd (upd (upd (upd (upd (upd (upd (upd (upd (fun _ => 0) (0 : Int32).toNatClampNeg 1) (1 : Int32).toNatClampNeg 100) (2 : Int32).toNatClampNeg 1000) (3 : Int32).toNatClampNeg 100) (4 : Int32).toNatClampNeg 20) (5 : Int32).toNatClampNeg 1000) (6 : Int32).toNatClampNeg 5000) (7 : Int32).toNatClampNeg 512) (8 : Int32).toNatClampNeg 1) (9 : Int32).toNatClampNeg 511) (10 : Int32).toNatClampNeg 1) (11 : Int32).toNatClampNeg 9) (15 : Int32).toNatClampNeg 0) (16 : Int32).toNatClampNeg 1) (17 : Int32).toNatClampNeg 2) (18 : Int32).toNatClampNeg 3) (19 : Int32).toNatClampNeg 4) (20 : Int32).toNatClampNeg 5) (21 : Int32).toNatClampNeg 6) (22 : Int32).toNatClampNeg 7) (23 : Int32).toNatClampNeg 8)) := h_21
  have h_28 : Φ8 (y + 3) = some (ai_ G 4 (upd (upd (upd (upd (upd (upd (upd (upd (fun _ => 0) (0 : Int32).toNatClampNeg (-1)) (1 : Int32).toNatClampNeg (-1)) (2 : Int32).toNatClampNeg (-1)) (3 : Int32).toNatClampNeg (-1)) (0 : Int32).toNatClampNeg (-1)) (1 : Int32).toNatClampNeg (-1)) (2 : Int32).toNatClampNeg (-1)) (3 : Int32).toNatClampNeg (-1))) := h_22
  refine z_iload_n B dX12_load_76 rfl 0 rfl ?_
  exact z_ret_i B dX12_load_77 ⟨rfl, ⟨_, h_23, rfl⟩, fun b9 h9 => ((fr3 b9 (Nat.ne_of_gt (Nat.lt_of_lt_of_le (lt_off (x := y) (i := 0) (j := 26) rfl) h9)) (Nat.ne_of_gt (Nat.lt_of_lt_of_le (lt_off (x := y) (i := 1) (j := 26) rfl) h9)) (Nat.ne_of_gt (Nat.lt_of_lt_of_le (lt_off (x := y) (i := 11) (j := 26) rfl) h9)) (Nat.ne_of_gt (Nat.lt_of_lt_of_le (lt_off (x := y) (i := 12) (j := 26) rfl) h9)) (Nat.ne_of_gt (Nat.lt_of_lt_of_le (lt_off (x := y) (i := 2) (j := 26) rfl) h9)) (Nat.ne_of_gt (Nat.lt_of_lt_of_le (lt_off (x := y) (i := 3) (j := 26) rfl) h9))).trans ((fset_fr hΦ5 (Nat.ne_of_gt (Nat.lt_of_lt_of_le (lt_off (x := y) (i := 0) (j := 26) rfl) h9))).trans ((fr2 b9 (Nat.ne_of_gt (Nat.lt_of_lt_of_le (lt_off (x := y) (i := 0) (j := 26) rfl) h9))).trans ((fset_fr hΦ4 (Nat.ne_of_gt (Nat.lt_of_lt_of_le (lt_off (x := y) (i := 0) (j := 26) rfl) h9))).trans ((fset_fr hΦ3 (Nat.ne_of_gt (Nat.lt_of_lt_of_le (lt_off (x := y) (i := 0) (j := 26) rfl) h9))).trans ((fset_fr hΦ2 (Nat.ne_of_gt (Nat.lt_of_lt_of_le (lt_off (x := y) (i := 0) (j := 26) rfl) h9))).trans ((fr1 b9 (Nat.ne_of_gt (Nat.lt_of_lt_of_le (lt_off (x := y) (i := 1) (j := 26) rfl) h9))).trans ((fset_fr hΦ1 (Nat.ne_of_gt (Nat.lt_of_lt_of_le (lt_off (x := y) (i := 0) (j := 26) rfl) h9))).trans rfl))))))))⟩

set_option maxHeartbeats 4000000 in
set_option maxRecDepth 100000 in
theorem m_X12_fieldAt_0 (G : EnvG) (l : Launch) (Φ : Hm) (sz : Nat) (y : Nat) (hc0_ : Φ y = some (o_ 14 [.int 0, .ref (y + 1), .ref (y + 2), .int 0, .int 1, .int 1, .int 0, .int 0, .ref (y + 3), .ref (y + 4), .int 0, .long 0, .ref (y + 5), .int 0, .int 0, .long 0, .long 0, .long 0, .long 0, .ref (y + 6), .ref (y + 7), .int 0, .ref (y + 8), .int 0, .ref (y + 9), .ref (y + 10), .int 0, .ref (y + 11), .ref (y + 12), .ref (y + 13), .ref (y + 14), .ref (y + 15), .ref (y + 16), .int 0, .long (-1), .ref (y + 17), .ref (y + 18), .ref (y + 19), .ref (y + 20), .ref (y + 21), .ref (y + 22), .int 0, .ref (y + 23), .ref (y + 24), .int 0, .ref (y + 25), .int 0, .int 0, .int 0, .int (-1), .int 0, .int 0, .int 0, .long 0])) (hc2_ : Φ (y + 2) = some (ai_ G 307 (upd (upd (upd (upd (upd (upd (upd (upd (upd (upd (upd (upd (upd (upd (upd (upd (upd (upd (upd (upd (upd (fun _ => 0) (0 : Int32).toNatClampNeg 1) (1 : Int32).toNatClampNeg 100) (2 : Int32).toNatClampNeg 1000) (3 : Int32).toNatClampNeg 100) (4 : Int32).toNatClampNeg 20) (5 : Int32).toNatClampNeg 1000) (6 : Int32).toNatClampNeg 5000) (7 : Int32).toNatClampNeg 512) (8 : Int32).toNatClampNeg 1) (9 : Int32).toNatClampNeg 511) (10 : Int32).toNatClampNeg 1) (11 : Int32).toNatClampNeg 9) (15 : Int32).toNatClampNeg 0) (16 : Int32).toNatClampNeg 1) (17 : Int32).toNatClampNeg 2) (18 : Int32).toNatClampNeg 3) (19 : Int32).toNatClampNeg 4) (20 : Int32).toNatClampNeg 5) (21 : Int32).toNatClampNeg 6) (22 : Int32).toNatClampNeg 7) (23 : Int32).toNatClampNeg 8))) (hna : G.2.2.2 ≤ y) : Ct G l yX12_fieldAt wsX12_fieldAt ({ frames := 2, cells := 0, slots := 0, locals := 46 }) 0 0 [.ref y, .int 0, .int 0] Φ sz (fun v Φ1 sz1 => v = some (.int 0) ∧ (∃ fs : List Value, Φ1 y = some (o_ 14 fs) ∧ fs[0]? = some (.int 0)) ∧ ∀ b9 : Nat, y + 26 ≤ b9 → Φ1 b9 = Φ b9) := by
  refine Ct.of (cc := cX12_fieldAt) (maxL := 3) (ret := (some .int)) (by decide) rfl (Nat.le_of_ble_eq_true rfl) ?_
  intro p9 e9 s9 m9 w9 t9 k9 B
  show Z p9 l e9 _ s9 m9 _ w9 t9 k9 _ G 3 0 [(0, .ref y), (1, .int 0), (2, .int 0)] [] Φ sz 0 0
  refine z_aload_n B dX12_fieldAt_0 rfl 0 rfl ?_
  refine z_iconst (v := 0) B dX12_fieldAt_1 rfl ?_
  refine z_put (ref := "FlowExporterModel") (C := RX12) (T := TX12) (N := 54) (ci := 14) (v := .int 0) B (by decide +kernel) tyX12 tyX12_ok nmX12 rfl 0 (by decide) (by decide +kernel) rfl (Or.inl rfl) hc0_ hna rfl rfl (Nat.le_of_ble_eq_true rfl) dX12_fieldAt_2 (fun Φ1 hΦ1 => ?_)
  have h_1 : Φ1 y = some (o_ 14 [.int 0, .ref (y + 1), .ref (y + 2), .int 0, .int 1, .int 1, .int 0, .int 0, .ref (y + 3), .ref (y + 4), .int 0, .long 0, .ref (y + 5), .int 0, .int 0, .long 0, .long 0, .long 0, .long 0, .ref (y + 6), .ref (y + 7), .int 0, .ref (y + 8), .int 0, .ref (y + 9), .ref (y + 10), .int 0, .ref (y + 11), .ref (y + 12), .ref (y + 13), .ref (y + 14), .ref (y + 15), .ref (y + 16), .int 0, .long (-1), .ref (y + 17), .ref (y + 18), .ref (y + 19), .ref (y + 20), .ref (y + 21), .ref (y + 22), .int 0, .ref (y + 23), .ref (y + 24), .int 0, .ref (y + 25), .int 0, .int 0, .int 0, .int (-1), .int 0, .int 0, .int 0, .long 0]) := fset_at hΦ1
  refine z_aload_n B dX12_fieldAt_5 rfl 0 rfl ?_
  refine z_aload_n B dX12_fieldAt_6 rfl 0 rfl ?_
  refine z_iload_n B dX12_fieldAt_7 rfl 1 rfl ?_
  have h_2 : Φ1 (y + 2) = some (ai_ G 307 (upd (upd (upd (upd (upd (upd (upd (upd (upd (upd (upd (upd (upd (upd (upd (upd (upd (upd (upd (upd (upd (fun _ => 0) (0 : Int32).toNatClampNeg 1) (1 : Int32).toNatClampNeg 100) (2 : Int32).toNatClampNeg 1000) (3 : Int32).toNatClampNeg 100) (4 : Int32).toNatClampNeg 20) (5 : Int32).toNatClampNeg 1000) (6 : Int32).toNatClampNeg 5000) (7 : Int32).toNatClampNeg 512) (8 : Int32).toNatClampNeg 1) (9 : Int32).toNatClampNeg 511) (10 : Int32).toNatClampNeg 1) (11 : Int32).toNatClampNeg 9) (15 : Int32).toNatClampNeg 0) (16 : Int32).toNatClampNeg 1) (17 : Int32).toNatClampNeg 2) (18 : Int32).toNatClampNeg 3) (19 : Int32).toNatClampNeg 4) (20 : Int32).toNatClampNeg 5) (21 : Int32).toNatClampNeg 6) (22 : Int32).toNatClampNeg 7) (23 : Int32).toNatClampNeg 8)) := ((fset_fr hΦ1 (ne_off (x := y) (i := 2) (j := 0) rfl)).trans hc2_)
  refine z_callV (As := [.int 0]) (rest := [.ref y]) B (m_isTemplate_0 G l Φ1 sz y h_1 h_2) (cwV 1 B.1.2.2.2.2 gX12_fieldAt_X12_isTemplate rfl rfl rfl (by decide +kernel) ⟨Nat.le_of_ble_eq_true rfl, Nat.le_of_ble_eq_true rfl⟩) h_1 rfl rfl rfl rfl (Nat.le_of_ble_eq_true rfl) dX12_fieldAt_8 ⟨Nat.le_of_ble_eq_true rfl, Nat.le_of_ble_eq_true rfl⟩ (fun v1 Φ2 sz1 st1 hp1 hs1 => ?_)
  obtain ⟨rfl, hq1, fr1⟩ := hp1
  replace hq1 : sz1 = sz := hq1
  subst sz1
  replace hs1 : st1 = [.int 1, .ref y] := hs1
  subst st1
  refine z_if_ne (tgt := 18) B dX12_fieldAt_11 rfl (fun c_1 => ?_) (fun h9 => absurd h9 (by decide))
  refine z_iconst (v := 0) B dX12_fieldAt_18 rfl ?_
  refine z_iconst (v := 1) B dX12_fieldAt_19 rfl ?_
  have h_3 : Φ2 y = some (o_ 14 [.int 0, .ref (y + 1), .ref (y + 2), .int 0, .int 1, .int 1, .int 0, .int 0, .ref (y + 3), .ref (y + 4), .int 0, .long 0, .ref (y + 5), .int 0, .int 0, .long 0, .long 0, .long 0, .long 0, .ref (y + 6), .ref (y + 7), .int 0, .ref (y + 8), .int 0, .ref (y + 9), .ref (y + 10), .int 0, .ref (y + 11), .ref (y + 12), .ref (y + 13), .ref (y + 14), .ref (y + 15), .ref (y + 16), .int 0, .long (-1), .ref (y + 17), .ref (y + 18), .ref (y + 19), .ref (y + 20), .ref (y + 21), .ref (y + 22), .int 0, .ref (y + 23), .ref (y + 24), .int 0, .ref (y + 25), .int 0, .int 0, .int 0, .int (-1), .int 0, .int 0, .int 0, .long 0]) := ((fr1 y).trans h_1)
  refine z_callV (As := [.int 0, .int 1]) (rest := []) B (c_X12_throwsIf_0 G l Φ2 sz y 0 0 1 1 0 0 0 0 0 0 0 0 0 0 0 0 0 0 (-1) 0 0 0 0 0 (-1) 0 0 0 0 1 h_3 hna) (cwV 2 B.1.2.2.2.2 gX12_fieldAt_X12_throwsIf rfl rfl rfl (by decide +kernel) ⟨Nat.le_of_ble_eq_true rfl, Nat.le_of_ble_eq_true rfl⟩) h_3 rfl rfl rfl rfl (Nat.le_of_ble_eq_true rfl) dX12_fieldAt_20 ⟨Nat.le_of_ble_eq_true rfl, Nat.le_of_ble_eq_true rfl⟩ (fun v2 Φ3 sz2 st2 hp2 hs2 => ?_)
  obtain ⟨rfl, hq2, fr2⟩ := hp2
  replace hq2 : sz2 = sz := hq2
  subst sz2
  replace hs2 : st2 = [.int 0] := hs2
  subst st2
  refine z_if_eq (tgt := 30) B dX12_fieldAt_23 rfl (fun c_2 => ?_) (fun h9 => absurd (by decide) h9)
  refine z_iload_n B dX12_fieldAt_30 rfl 2 rfl ?_
  refine z_i2l (v := 0) B dX12_fieldAt_31 (by decide +kernel) ?_
  refine z_lconst (v := 0) B dX12_fieldAt_32 rfl ?_
  refine z_aload_n B dX12_fieldAt_33 rfl 0 rfl ?_
  refine z_iload_n B dX12_fieldAt_34 rfl 1 rfl ?_
  have h_4 : Φ3 y = some (o_ 14 [.int 0, .ref (y + 1), .ref (y + 2), .int 0, .int 1, .int 1, .int 0, .int 0, .ref (y + 3), .ref (y + 4), .int 0, .long 0, .ref (y + 5), .int 0, .int 0, .long 0, .long 0, .long 0, .long 0, .ref (y + 6), .ref (y + 7), .int 0, .ref (y + 8), .int 0, .ref (y + 9), .ref (y + 10), .int 0, .ref (y + 11), .ref (y + 12), .ref (y + 13), .ref (y + 14), .ref (y + 15), .ref (y + 16), .int 0, .long (-1), .ref (y + 17), .ref (y + 18), .ref (y + 19), .ref (y + 20), .ref (y + 21), .ref (y + 22), .int 0, .ref (y + 23), .ref (y + 24), .int 0, .ref (y + 25), .int 0, .int 0, .int 0, .int (-1), .int 0, .int 0, .int 0, .long 0]) := ((fr2 y).trans h_3)
  have h_5 : Φ3 (y + 2) = some (ai_ G 307 (upd (upd (upd (upd (upd (upd (upd (upd (upd (upd (upd (upd (upd (upd (upd (upd (upd (upd (upd (upd (upd (fun _ => 0) (0 : Int32).toNatClampNeg 1) (1 : Int32).toNatClampNeg 100) (2 : Int32).toNatClampNeg 1000) (3 : Int32).toNatClampNeg 100) (4 : Int32).toNatClampNeg 20) (5 : Int32).toNatClampNeg 1000) (6 : Int32).toNatClampNeg 5000) (7 : Int32).toNatClampNeg 512) (8 : Int32).toNatClampNeg 1) (9 : Int32).toNatClampNeg 511) (10 : Int32).toNatClampNeg 1) (11 : Int32).toNatClampNeg 9) (15 : Int32).toNatClampNeg 0) (16 : Int32).toNatClampNeg 1) (17 : Int32).toNatClampNeg 2) (18 : Int32).toNatClampNeg 3) (19 : Int32).toNatClampNeg 4) (20 : Int32).toNatClampNeg 5) (21 : Int32).toNatClampNeg 6) (22 : Int32).toNatClampNeg 7) (23 : Int32).toNatClampNeg 8)) := ((fr2 (y + 2)).trans ((fr1 (y + 2)).trans h_2))
  refine z_callV (As := [.int 0]) (rest := [.long 0, .long 0]) B (m_sizeOf_0 G l Φ3 sz y h_4 h_5) (cwV 1 B.1.2.2.2.2 gX12_fieldAt_X12_sizeOf rfl rfl rfl (by decide +kernel) ⟨Nat.le_of_ble_eq_true rfl, Nat.le_of_ble_eq_true rfl⟩) h_4 rfl rfl rfl rfl (Nat.le_of_ble_eq_true rfl) dX12_fieldAt_35 ⟨Nat.le_of_ble_eq_true rfl, Nat.le_of_ble_eq_true rfl⟩ (fun v3 Φ4 sz3 st3 hp3 hs3 => ?_)
  obtain ⟨rfl, hq3, fr3⟩ := hp3
  replace hq3 : sz3 = sz := hq3
  subst sz3
  replace hs3 : st3 = [.int 9, .long 0, .long 0] := hs3
  subst st3
  refine z_iconst (v := 1) B dX12_fieldAt_38 rfl ?_
  refine z_isub B dX12_fieldAt_39 ?_
  refine z_top (st1 := [.int 8, .long 0, .long 0]) (congrArg (fun w9 : Int32 => ([.int w9, .long 0, .long 0] : List Value)) (show (9 - 1 : Int32) = 8 by decide +kernel)) ?_
  refine z_i2l (v := 8) B dX12_fieldAt_40 (by decide +kernel) ?_
  refine z_callS (As := [.long 0, .long 0, .long 8]) (rest := []) B (c_X12_inRange_1 G l Φ4 sz 0 0 8 ⟨by decide +kernel, by decide +kernel⟩) (va_cwS 3 B.1.2.2.2.2 gX12_fieldAt_X12_inRange rfl rfl rfl (by decide +kernel) ⟨Nat.le_of_ble_eq_true rfl, Nat.le_of_ble_eq_true rfl⟩) rfl rfl (Nat.le_of_ble_eq_true rfl) dX12_fieldAt_41 ⟨Nat.le_of_ble_eq_true rfl, Nat.le_of_ble_eq_true rfl⟩ (fun v4 Φ5 sz4 st4 hp4 hs4 => ?_)
  obtain ⟨rfl, hq4, fr4⟩ := hp4
  replace hq4 : sz4 = sz := hq4
  subst sz4
  replace hs4 : st4 = [.int 1] := hs4
  subst st4
  refine z_if_eq (tgt := 56) B dX12_fieldAt_44 rfl (fun h9 => absurd h9 (by decide)) (fun c_3 => ?_)
  refine z_aload_n B dX12_fieldAt_47 rfl 0 rfl ?_
  refine z_iload_n B dX12_fieldAt_48 rfl 1 rfl ?_
  refine z_iload_n B dX12_fieldAt_49 rfl 2 rfl ?_
  have h_6 : Φ5 y = some (o_ 14 [.int 0, .ref (y + 1), .ref (y + 2), .int 0, .int 1, .int 1, .int 0, .int 0, .ref (y + 3), .ref (y + 4), .int 0, .long 0, .ref (y + 5), .int 0, .int 0, .long 0, .long 0, .long 0, .long 0, .ref (y + 6), .ref (y + 7), .int 0, .ref (y + 8), .int 0, .ref (y + 9), .ref (y + 10), .int 0, .ref (y + 11), .ref (y + 12), .ref (y + 13), .ref (y + 14), .ref (y + 15), .ref (y + 16), .int 0, .long (-1), .ref (y + 17), .ref (y + 18), .ref (y + 19), .ref (y + 20), .ref (y + 21), .ref (y + 22), .int 0, .ref (y + 23), .ref (y + 24), .int 0, .ref (y + 25), .int 0, .int 0, .int 0, .int (-1), .int 0, .int 0, .int 0, .long 0]) := ((fr4 y).trans ((fr3 y).trans h_4))
  have h_7 : Φ5 (y + 2) = some (ai_ G 307 (upd (upd (upd (upd (upd (upd (upd (upd (upd (upd (upd (upd (upd (upd (upd (upd (upd (upd (upd (upd (upd (fun _ => 0) (0 : Int32).toNatClampNeg 1) (1 : Int32).toNatClampNeg 100) (2 : Int32).toNatClampNeg 1000) (3 : Int32).toNatClampNeg 100) (4 : Int32).toNatClampNeg 20) (5 : Int32).toNatClampNeg 1000) (6 : Int32).toNatClampNeg 5000) (7 : Int32).toNatClampNeg 512) (8 : Int32).toNatClampNeg 1) (9 : Int32).toNatClampNeg 511) (10 : Int32).toNatClampNeg 1) (11 : Int32).toNatClampNeg 9) (15 : Int32).toNatClampNeg 0) (16 : Int32).toNatClampNeg 1) (17 : Int32).toNatClampNeg 2) (18 : Int32).toNatClampNeg 3) (19 : Int32).toNatClampNeg 4) (20 : Int32).toNatClampNeg 5) (21 : Int32).toNatClampNeg 6) (22 : Int32).toNatClampNeg 7) (23 : Int32).toNatClampNeg 8)) := ((fr4 (y + 2)).trans ((fr3 (y + 2)).trans h_5))
  refine z_callV (As := [.int 0, .int 0]) (rest := []) B (m_fieldOf_0 G l Φ5 sz y h_6 h_7) (cwV 2 B.1.2.2.2.2 gX12_fieldAt_X12_fieldOf rfl rfl rfl (by decide +kernel) ⟨Nat.le_of_ble_eq_true rfl, Nat.le_of_ble_eq_true rfl⟩) h_6 rfl rfl rfl rfl (Nat.le_of_ble_eq_true rfl) dX12_fieldAt_50 ⟨Nat.le_of_ble_eq_true rfl, Nat.le_of_ble_eq_true rfl⟩ (fun v5 Φ6 sz5 st5 hp5 hs5 => ?_)
  obtain ⟨rfl, hq5, fr5⟩ := hp5
  replace hq5 : sz5 = sz := hq5
  subst sz5
  replace hs5 : st5 = [.int 0] := hs5
  subst st5
  refine z_goto (tgt := 57) B dX12_fieldAt_53 rfl ?_
  have h_8 : Φ6 y = some (o_ 14 [.int 0, .ref (y + 1), .ref (y + 2), .int 0, .int 1, .int 1, .int 0, .int 0, .ref (y + 3), .ref (y + 4), .int 0, .long 0, .ref (y + 5), .int 0, .int 0, .long 0, .long 0, .long 0, .long 0, .ref (y + 6), .ref (y + 7), .int 0, .ref (y + 8), .int 0, .ref (y + 9), .ref (y + 10), .int 0, .ref (y + 11), .ref (y + 12), .ref (y + 13), .ref (y + 14), .ref (y + 15), .ref (y + 16), .int 0, .long (-1), .ref (y + 17), .ref (y + 18), .ref (y + 19), .ref (y + 20), .ref (y + 21), .ref (y + 22), .int 0, .ref (y + 23), .ref (y + 24), .int 0, .ref (y + 25), .int 0, .int 0, .int 0, .int (-1), .int 0, .int 0, .int 0, .long 0]) := ((fr5 y).trans h_6)
  exact z_ret_i B dX12_fieldAt_57 ⟨rfl, ⟨_, h_8, rfl⟩, fun b9 h9 => ((fr5 b9).trans ((fr4 b9).trans ((fr3 b9).trans ((fr2 b9).trans ((fr1 b9).trans ((fset_fr hΦ1 (Nat.ne_of_gt (Nat.lt_of_lt_of_le (lt_off (x := y) (i := 0) (j := 26) rfl) h9))).trans rfl))))))⟩

set_option maxHeartbeats 4000000 in
set_option maxRecDepth 100000 in
theorem m_X12_fieldAt_1 (G : EnvG) (l : Launch) (Φ : Hm) (sz : Nat) (y : Nat) (hc0_ : Φ y = some (o_ 14 [.int 0, .ref (y + 1), .ref (y + 2), .int 0, .int 1, .int 1, .int 0, .int 0, .ref (y + 3), .ref (y + 4), .int 0, .long 0, .ref (y + 5), .int 0, .int 0, .long 0, .long 0, .long 0, .long 0, .ref (y + 6), .ref (y + 7), .int 0, .ref (y + 8), .int 0, .ref (y + 9), .ref (y + 10), .int 0, .ref (y + 11), .ref (y + 12), .ref (y + 13), .ref (y + 14), .ref (y + 15), .ref (y + 16), .int 0, .long (-1), .ref (y + 17), .ref (y + 18), .ref (y + 19), .ref (y + 20), .ref (y + 21), .ref (y + 22), .int 0, .ref (y + 23), .ref (y + 24), .int 0, .ref (y + 25), .int 0, .int 0, .int 0, .int (-1), .int 0, .int 0, .int 0, .long 0])) (hc2_ : Φ (y + 2) = some (ai_ G 307 (upd (upd (upd (upd (upd (upd (upd (upd (upd (upd (upd (upd (upd (upd (upd (upd (upd (upd (upd (upd (upd (fun _ => 0) (0 : Int32).toNatClampNeg 1) (1 : Int32).toNatClampNeg 100) (2 : Int32).toNatClampNeg 1000) (3 : Int32).toNatClampNeg 100) (4 : Int32).toNatClampNeg 20) (5 : Int32).toNatClampNeg 1000) (6 : Int32).toNatClampNeg 5000) (7 : Int32).toNatClampNeg 512) (8 : Int32).toNatClampNeg 1) (9 : Int32).toNatClampNeg 511) (10 : Int32).toNatClampNeg 1) (11 : Int32).toNatClampNeg 9) (15 : Int32).toNatClampNeg 0) (16 : Int32).toNatClampNeg 1) (17 : Int32).toNatClampNeg 2) (18 : Int32).toNatClampNeg 3) (19 : Int32).toNatClampNeg 4) (20 : Int32).toNatClampNeg 5) (21 : Int32).toNatClampNeg 6) (22 : Int32).toNatClampNeg 7) (23 : Int32).toNatClampNeg 8))) (hna : G.2.2.2 ≤ y) : Ct G l yX12_fieldAt wsX12_fieldAt ({ frames := 2, cells := 0, slots := 0, locals := 46 }) 0 0 [.ref y, .int 0, .int 1] Φ sz (fun v Φ1 sz1 => v = some (.int 1) ∧ (∃ fs : List Value, Φ1 y = some (o_ 14 fs) ∧ fs[0]? = some (.int 0)) ∧ ∀ b9 : Nat, y + 26 ≤ b9 → Φ1 b9 = Φ b9) := by
  refine Ct.of (cc := cX12_fieldAt) (maxL := 3) (ret := (some .int)) (by decide) rfl (Nat.le_of_ble_eq_true rfl) ?_
  intro p9 e9 s9 m9 w9 t9 k9 B
  show Z p9 l e9 _ s9 m9 _ w9 t9 k9 _ G 3 0 [(0, .ref y), (1, .int 0), (2, .int 1)] [] Φ sz 0 0
  refine z_aload_n B dX12_fieldAt_0 rfl 0 rfl ?_
  refine z_iconst (v := 0) B dX12_fieldAt_1 rfl ?_
  refine z_put (ref := "FlowExporterModel") (C := RX12) (T := TX12) (N := 54) (ci := 14) (v := .int 0) B (by decide +kernel) tyX12 tyX12_ok nmX12 rfl 0 (by decide) (by decide +kernel) rfl (Or.inl rfl) hc0_ hna rfl rfl (Nat.le_of_ble_eq_true rfl) dX12_fieldAt_2 (fun Φ1 hΦ1 => ?_)
  have h_1 : Φ1 y = some (o_ 14 [.int 0, .ref (y + 1), .ref (y + 2), .int 0, .int 1, .int 1, .int 0, .int 0, .ref (y + 3), .ref (y + 4), .int 0, .long 0, .ref (y + 5), .int 0, .int 0, .long 0, .long 0, .long 0, .long 0, .ref (y + 6), .ref (y + 7), .int 0, .ref (y + 8), .int 0, .ref (y + 9), .ref (y + 10), .int 0, .ref (y + 11), .ref (y + 12), .ref (y + 13), .ref (y + 14), .ref (y + 15), .ref (y + 16), .int 0, .long (-1), .ref (y + 17), .ref (y + 18), .ref (y + 19), .ref (y + 20), .ref (y + 21), .ref (y + 22), .int 0, .ref (y + 23), .ref (y + 24), .int 0, .ref (y + 25), .int 0, .int 0, .int 0, .int (-1), .int 0, .int 0, .int 0, .long 0]) := fset_at hΦ1
  refine z_aload_n B dX12_fieldAt_5 rfl 0 rfl ?_
  refine z_aload_n B dX12_fieldAt_6 rfl 0 rfl ?_
  refine z_iload_n B dX12_fieldAt_7 rfl 1 rfl ?_
  have h_2 : Φ1 (y + 2) = some (ai_ G 307 (upd (upd (upd (upd (upd (upd (upd (upd (upd (upd (upd (upd (upd (upd (upd (upd (upd (upd (upd (upd (upd (fun _ => 0) (0 : Int32).toNatClampNeg 1) (1 : Int32).toNatClampNeg 100) (2 : Int32).toNatClampNeg 1000) (3 : Int32).toNatClampNeg 100) (4 : Int32).toNatClampNeg 20) (5 : Int32).toNatClampNeg 1000) (6 : Int32).toNatClampNeg 5000) (7 : Int32).toNatClampNeg 512) (8 : Int32).toNatClampNeg 1) (9 : Int32).toNatClampNeg 511) (10 : Int32).toNatClampNeg 1) (11 : Int32).toNatClampNeg 9) (15 : Int32).toNatClampNeg 0) (16 : Int32).toNatClampNeg 1) (17 : Int32).toNatClampNeg 2) (18 : Int32).toNatClampNeg 3) (19 : Int32).toNatClampNeg 4) (20 : Int32).toNatClampNeg 5) (21 : Int32).toNatClampNeg 6) (22 : Int32).toNatClampNeg 7) (23 : Int32).toNatClampNeg 8)) := ((fset_fr hΦ1 (ne_off (x := y) (i := 2) (j := 0) rfl)).trans hc2_)
  refine z_callV (As := [.int 0]) (rest := [.ref y]) B (m_isTemplate_0 G l Φ1 sz y h_1 h_2) (cwV 1 B.1.2.2.2.2 gX12_fieldAt_X12_isTemplate rfl rfl rfl (by decide +kernel) ⟨Nat.le_of_ble_eq_true rfl, Nat.le_of_ble_eq_true rfl⟩) h_1 rfl rfl rfl rfl (Nat.le_of_ble_eq_true rfl) dX12_fieldAt_8 ⟨Nat.le_of_ble_eq_true rfl, Nat.le_of_ble_eq_true rfl⟩ (fun v1 Φ2 sz1 st1 hp1 hs1 => ?_)
  obtain ⟨rfl, hq1, fr1⟩ := hp1
  replace hq1 : sz1 = sz := hq1
  subst sz1
  replace hs1 : st1 = [.int 1, .ref y] := hs1
  subst st1
  refine z_if_ne (tgt := 18) B dX12_fieldAt_11 rfl (fun c_1 => ?_) (fun h9 => absurd h9 (by decide))
  refine z_iconst (v := 0) B dX12_fieldAt_18 rfl ?_
  refine z_iconst (v := 1) B dX12_fieldAt_19 rfl ?_
  have h_3 : Φ2 y = some (o_ 14 [.int 0, .ref (y + 1), .ref (y + 2), .int 0, .int 1, .int 1, .int 0, .int 0, .ref (y + 3), .ref (y + 4), .int 0, .long 0, .ref (y + 5), .int 0, .int 0, .long 0, .long 0, .long 0, .long 0, .ref (y + 6), .ref (y + 7), .int 0, .ref (y + 8), .int 0, .ref (y + 9), .ref (y + 10), .int 0, .ref (y + 11), .ref (y + 12), .ref (y + 13), .ref (y + 14), .ref (y + 15), .ref (y + 16), .int 0, .long (-1), .ref (y + 17), .ref (y + 18), .ref (y + 19), .ref (y + 20), .ref (y + 21), .ref (y + 22), .int 0, .ref (y + 23), .ref (y + 24), .int 0, .ref (y + 25), .int 0, .int 0, .int 0, .int (-1), .int 0, .int 0, .int 0, .long 0]) := ((fr1 y).trans h_1)
  refine z_callV (As := [.int 0, .int 1]) (rest := []) B (c_X12_throwsIf_0 G l Φ2 sz y 0 0 1 1 0 0 0 0 0 0 0 0 0 0 0 0 0 0 (-1) 0 0 0 0 0 (-1) 0 0 0 0 1 h_3 hna) (cwV 2 B.1.2.2.2.2 gX12_fieldAt_X12_throwsIf rfl rfl rfl (by decide +kernel) ⟨Nat.le_of_ble_eq_true rfl, Nat.le_of_ble_eq_true rfl⟩) h_3 rfl rfl rfl rfl (Nat.le_of_ble_eq_true rfl) dX12_fieldAt_20 ⟨Nat.le_of_ble_eq_true rfl, Nat.le_of_ble_eq_true rfl⟩ (fun v2 Φ3 sz2 st2 hp2 hs2 => ?_)
  obtain ⟨rfl, hq2, fr2⟩ := hp2
  replace hq2 : sz2 = sz := hq2
  subst sz2
  replace hs2 : st2 = [.int 0] := hs2
  subst st2
  refine z_if_eq (tgt := 30) B dX12_fieldAt_23 rfl (fun c_2 => ?_) (fun h9 => absurd (by decide) h9)
  refine z_iload_n B dX12_fieldAt_30 rfl 2 rfl ?_
  refine z_i2l (v := 1) B dX12_fieldAt_31 (by decide +kernel) ?_
  refine z_lconst (v := 0) B dX12_fieldAt_32 rfl ?_
  refine z_aload_n B dX12_fieldAt_33 rfl 0 rfl ?_
  refine z_iload_n B dX12_fieldAt_34 rfl 1 rfl ?_
  have h_4 : Φ3 y = some (o_ 14 [.int 0, .ref (y + 1), .ref (y + 2), .int 0, .int 1, .int 1, .int 0, .int 0, .ref (y + 3), .ref (y + 4), .int 0, .long 0, .ref (y + 5), .int 0, .int 0, .long 0, .long 0, .long 0, .long 0, .ref (y + 6), .ref (y + 7), .int 0, .ref (y + 8), .int 0, .ref (y + 9), .ref (y + 10), .int 0, .ref (y + 11), .ref (y + 12), .ref (y + 13), .ref (y + 14), .ref (y + 15), .ref (y + 16), .int 0, .long (-1), .ref (y + 17), .ref (y + 18), .ref (y + 19), .ref (y + 20), .ref (y + 21), .ref (y + 22), .int 0, .ref (y + 23), .ref (y + 24), .int 0, .ref (y + 25), .int 0, .int 0, .int 0, .int (-1), .int 0, .int 0, .int 0, .long 0]) := ((fr2 y).trans h_3)
  have h_5 : Φ3 (y + 2) = some (ai_ G 307 (upd (upd (upd (upd (upd (upd (upd (upd (upd (upd (upd (upd (upd (upd (upd (upd (upd (upd (upd (upd (upd (fun _ => 0) (0 : Int32).toNatClampNeg 1) (1 : Int32).toNatClampNeg 100) (2 : Int32).toNatClampNeg 1000) (3 : Int32).toNatClampNeg 100) (4 : Int32).toNatClampNeg 20) (5 : Int32).toNatClampNeg 1000) (6 : Int32).toNatClampNeg 5000) (7 : Int32).toNatClampNeg 512) (8 : Int32).toNatClampNeg 1) (9 : Int32).toNatClampNeg 511) (10 : Int32).toNatClampNeg 1) (11 : Int32).toNatClampNeg 9) (15 : Int32).toNatClampNeg 0) (16 : Int32).toNatClampNeg 1) (17 : Int32).toNatClampNeg 2) (18 : Int32).toNatClampNeg 3) (19 : Int32).toNatClampNeg 4) (20 : Int32).toNatClampNeg 5) (21 : Int32).toNatClampNeg 6) (22 : Int32).toNatClampNeg 7) (23 : Int32).toNatClampNeg 8)) := ((fr2 (y + 2)).trans ((fr1 (y + 2)).trans h_2))
  refine z_callV (As := [.int 0]) (rest := [.long 0, .long 1]) B (m_sizeOf_0 G l Φ3 sz y h_4 h_5) (cwV 1 B.1.2.2.2.2 gX12_fieldAt_X12_sizeOf rfl rfl rfl (by decide +kernel) ⟨Nat.le_of_ble_eq_true rfl, Nat.le_of_ble_eq_true rfl⟩) h_4 rfl rfl rfl rfl (Nat.le_of_ble_eq_true rfl) dX12_fieldAt_35 ⟨Nat.le_of_ble_eq_true rfl, Nat.le_of_ble_eq_true rfl⟩ (fun v3 Φ4 sz3 st3 hp3 hs3 => ?_)
  obtain ⟨rfl, hq3, fr3⟩ := hp3
  replace hq3 : sz3 = sz := hq3
  subst sz3
  replace hs3 : st3 = [.int 9, .long 0, .long 1] := hs3
  subst st3
  refine z_iconst (v := 1) B dX12_fieldAt_38 rfl ?_
  refine z_isub B dX12_fieldAt_39 ?_
  refine z_top (st1 := [.int 8, .long 0, .long 1]) (congrArg (fun w9 : Int32 => ([.int w9, .long 0, .long 1] : List Value)) (show (9 - 1 : Int32) = 8 by decide +kernel)) ?_
  refine z_i2l (v := 8) B dX12_fieldAt_40 (by decide +kernel) ?_
  refine z_callS (As := [.long 1, .long 0, .long 8]) (rest := []) B (c_X12_inRange_1 G l Φ4 sz 1 0 8 ⟨by decide +kernel, by decide +kernel⟩) (va_cwS 3 B.1.2.2.2.2 gX12_fieldAt_X12_inRange rfl rfl rfl (by decide +kernel) ⟨Nat.le_of_ble_eq_true rfl, Nat.le_of_ble_eq_true rfl⟩) rfl rfl (Nat.le_of_ble_eq_true rfl) dX12_fieldAt_41 ⟨Nat.le_of_ble_eq_true rfl, Nat.le_of_ble_eq_true rfl⟩ (fun v4 Φ5 sz4 st4 hp4 hs4 => ?_)
  obtain ⟨rfl, hq4, fr4⟩ := hp4
  replace hq4 : sz4 = sz := hq4
  subst sz4
  replace hs4 : st4 = [.int 1] := hs4
  subst st4
  refine z_if_eq (tgt := 56) B dX12_fieldAt_44 rfl (fun h9 => absurd h9 (by decide)) (fun c_3 => ?_)
  refine z_aload_n B dX12_fieldAt_47 rfl 0 rfl ?_
  refine z_iload_n B dX12_fieldAt_48 rfl 1 rfl ?_
  refine z_iload_n B dX12_fieldAt_49 rfl 2 rfl ?_
  have h_6 : Φ5 y = some (o_ 14 [.int 0, .ref (y + 1), .ref (y + 2), .int 0, .int 1, .int 1, .int 0, .int 0, .ref (y + 3), .ref (y + 4), .int 0, .long 0, .ref (y + 5), .int 0, .int 0, .long 0, .long 0, .long 0, .long 0, .ref (y + 6), .ref (y + 7), .int 0, .ref (y + 8), .int 0, .ref (y + 9), .ref (y + 10), .int 0, .ref (y + 11), .ref (y + 12), .ref (y + 13), .ref (y + 14), .ref (y + 15), .ref (y + 16), .int 0, .long (-1), .ref (y + 17), .ref (y + 18), .ref (y + 19), .ref (y + 20), .ref (y + 21), .ref (y + 22), .int 0, .ref (y + 23), .ref (y + 24), .int 0, .ref (y + 25), .int 0, .int 0, .int 0, .int (-1), .int 0, .int 0, .int 0, .long 0]) := ((fr4 y).trans ((fr3 y).trans h_4))
  have h_7 : Φ5 (y + 2) = some (ai_ G 307 (upd (upd (upd (upd (upd (upd (upd (upd (upd (upd (upd (upd (upd (upd (upd (upd (upd (upd (upd (upd (upd (fun _ => 0) (0 : Int32).toNatClampNeg 1) (1 : Int32).toNatClampNeg 100) (2 : Int32).toNatClampNeg 1000) (3 : Int32).toNatClampNeg 100) (4 : Int32).toNatClampNeg 20) (5 : Int32).toNatClampNeg 1000) (6 : Int32).toNatClampNeg 5000) (7 : Int32).toNatClampNeg 512) (8 : Int32).toNatClampNeg 1) (9 : Int32).toNatClampNeg 511) (10 : Int32).toNatClampNeg 1) (11 : Int32).toNatClampNeg 9) (15 : Int32).toNatClampNeg 0) (16 : Int32).toNatClampNeg 1) (17 : Int32).toNatClampNeg 2) (18 : Int32).toNatClampNeg 3) (19 : Int32).toNatClampNeg 4) (20 : Int32).toNatClampNeg 5) (21 : Int32).toNatClampNeg 6) (22 : Int32).toNatClampNeg 7) (23 : Int32).toNatClampNeg 8)) := ((fr4 (y + 2)).trans ((fr3 (y + 2)).trans h_5))
  refine z_callV (As := [.int 0, .int 1]) (rest := []) B (m_fieldOf_1 G l Φ5 sz y h_6 h_7) (cwV 2 B.1.2.2.2.2 gX12_fieldAt_X12_fieldOf rfl rfl rfl (by decide +kernel) ⟨Nat.le_of_ble_eq_true rfl, Nat.le_of_ble_eq_true rfl⟩) h_6 rfl rfl rfl rfl (Nat.le_of_ble_eq_true rfl) dX12_fieldAt_50 ⟨Nat.le_of_ble_eq_true rfl, Nat.le_of_ble_eq_true rfl⟩ (fun v5 Φ6 sz5 st5 hp5 hs5 => ?_)
  obtain ⟨rfl, hq5, fr5⟩ := hp5
  replace hq5 : sz5 = sz := hq5
  subst sz5
  replace hs5 : st5 = [.int 1] := hs5
  subst st5
  refine z_goto (tgt := 57) B dX12_fieldAt_53 rfl ?_
  have h_8 : Φ6 y = some (o_ 14 [.int 0, .ref (y + 1), .ref (y + 2), .int 0, .int 1, .int 1, .int 0, .int 0, .ref (y + 3), .ref (y + 4), .int 0, .long 0, .ref (y + 5), .int 0, .int 0, .long 0, .long 0, .long 0, .long 0, .ref (y + 6), .ref (y + 7), .int 0, .ref (y + 8), .int 0, .ref (y + 9), .ref (y + 10), .int 0, .ref (y + 11), .ref (y + 12), .ref (y + 13), .ref (y + 14), .ref (y + 15), .ref (y + 16), .int 0, .long (-1), .ref (y + 17), .ref (y + 18), .ref (y + 19), .ref (y + 20), .ref (y + 21), .ref (y + 22), .int 0, .ref (y + 23), .ref (y + 24), .int 0, .ref (y + 25), .int 0, .int 0, .int 0, .int (-1), .int 0, .int 0, .int 0, .long 0]) := ((fr5 y).trans h_6)
  exact z_ret_i B dX12_fieldAt_57 ⟨rfl, ⟨_, h_8, rfl⟩, fun b9 h9 => ((fr5 b9).trans ((fr4 b9).trans ((fr3 b9).trans ((fr2 b9).trans ((fr1 b9).trans ((fset_fr hΦ1 (Nat.ne_of_gt (Nat.lt_of_lt_of_le (lt_off (x := y) (i := 0) (j := 26) rfl) h9))).trans rfl))))))⟩

set_option maxHeartbeats 4000000 in
set_option maxRecDepth 100000 in
theorem m_X12_fieldAt_2 (G : EnvG) (l : Launch) (Φ : Hm) (sz : Nat) (y : Nat) (hc0_ : Φ y = some (o_ 14 [.int 0, .ref (y + 1), .ref (y + 2), .int 0, .int 1, .int 1, .int 0, .int 0, .ref (y + 3), .ref (y + 4), .int 0, .long 0, .ref (y + 5), .int 0, .int 0, .long 0, .long 0, .long 0, .long 0, .ref (y + 6), .ref (y + 7), .int 0, .ref (y + 8), .int 0, .ref (y + 9), .ref (y + 10), .int 0, .ref (y + 11), .ref (y + 12), .ref (y + 13), .ref (y + 14), .ref (y + 15), .ref (y + 16), .int 0, .long (-1), .ref (y + 17), .ref (y + 18), .ref (y + 19), .ref (y + 20), .ref (y + 21), .ref (y + 22), .int 0, .ref (y + 23), .ref (y + 24), .int 0, .ref (y + 25), .int 0, .int 0, .int 0, .int (-1), .int 0, .int 0, .int 0, .long 0])) (hc2_ : Φ (y + 2) = some (ai_ G 307 (upd (upd (upd (upd (upd (upd (upd (upd (upd (upd (upd (upd (upd (upd (upd (upd (upd (upd (upd (upd (upd (fun _ => 0) (0 : Int32).toNatClampNeg 1) (1 : Int32).toNatClampNeg 100) (2 : Int32).toNatClampNeg 1000) (3 : Int32).toNatClampNeg 100) (4 : Int32).toNatClampNeg 20) (5 : Int32).toNatClampNeg 1000) (6 : Int32).toNatClampNeg 5000) (7 : Int32).toNatClampNeg 512) (8 : Int32).toNatClampNeg 1) (9 : Int32).toNatClampNeg 511) (10 : Int32).toNatClampNeg 1) (11 : Int32).toNatClampNeg 9) (15 : Int32).toNatClampNeg 0) (16 : Int32).toNatClampNeg 1) (17 : Int32).toNatClampNeg 2) (18 : Int32).toNatClampNeg 3) (19 : Int32).toNatClampNeg 4) (20 : Int32).toNatClampNeg 5) (21 : Int32).toNatClampNeg 6) (22 : Int32).toNatClampNeg 7) (23 : Int32).toNatClampNeg 8))) (hna : G.2.2.2 ≤ y) : Ct G l yX12_fieldAt wsX12_fieldAt ({ frames := 2, cells := 0, slots := 0, locals := 46 }) 0 0 [.ref y, .int 0, .int 2] Φ sz (fun v Φ1 sz1 => v = some (.int 2) ∧ (∃ fs : List Value, Φ1 y = some (o_ 14 fs) ∧ fs[0]? = some (.int 0)) ∧ ∀ b9 : Nat, y + 26 ≤ b9 → Φ1 b9 = Φ b9) := by
  refine Ct.of (cc := cX12_fieldAt) (maxL := 3) (ret := (some .int)) (by decide) rfl (Nat.le_of_ble_eq_true rfl) ?_
  intro p9 e9 s9 m9 w9 t9 k9 B
  show Z p9 l e9 _ s9 m9 _ w9 t9 k9 _ G 3 0 [(0, .ref y), (1, .int 0), (2, .int 2)] [] Φ sz 0 0
  refine z_aload_n B dX12_fieldAt_0 rfl 0 rfl ?_
  refine z_iconst (v := 0) B dX12_fieldAt_1 rfl ?_
  refine z_put (ref := "FlowExporterModel") (C := RX12) (T := TX12) (N := 54) (ci := 14) (v := .int 0) B (by decide +kernel) tyX12 tyX12_ok nmX12 rfl 0 (by decide) (by decide +kernel) rfl (Or.inl rfl) hc0_ hna rfl rfl (Nat.le_of_ble_eq_true rfl) dX12_fieldAt_2 (fun Φ1 hΦ1 => ?_)
  have h_1 : Φ1 y = some (o_ 14 [.int 0, .ref (y + 1), .ref (y + 2), .int 0, .int 1, .int 1, .int 0, .int 0, .ref (y + 3), .ref (y + 4), .int 0, .long 0, .ref (y + 5), .int 0, .int 0, .long 0, .long 0, .long 0, .long 0, .ref (y + 6), .ref (y + 7), .int 0, .ref (y + 8), .int 0, .ref (y + 9), .ref (y + 10), .int 0, .ref (y + 11), .ref (y + 12), .ref (y + 13), .ref (y + 14), .ref (y + 15), .ref (y + 16), .int 0, .long (-1), .ref (y + 17), .ref (y + 18), .ref (y + 19), .ref (y + 20), .ref (y + 21), .ref (y + 22), .int 0, .ref (y + 23), .ref (y + 24), .int 0, .ref (y + 25), .int 0, .int 0, .int 0, .int (-1), .int 0, .int 0, .int 0, .long 0]) := fset_at hΦ1
  refine z_aload_n B dX12_fieldAt_5 rfl 0 rfl ?_
  refine z_aload_n B dX12_fieldAt_6 rfl 0 rfl ?_
  refine z_iload_n B dX12_fieldAt_7 rfl 1 rfl ?_
  have h_2 : Φ1 (y + 2) = some (ai_ G 307 (upd (upd (upd (upd (upd (upd (upd (upd (upd (upd (upd (upd (upd (upd (upd (upd (upd (upd (upd (upd (upd (fun _ => 0) (0 : Int32).toNatClampNeg 1) (1 : Int32).toNatClampNeg 100) (2 : Int32).toNatClampNeg 1000) (3 : Int32).toNatClampNeg 100) (4 : Int32).toNatClampNeg 20) (5 : Int32).toNatClampNeg 1000) (6 : Int32).toNatClampNeg 5000) (7 : Int32).toNatClampNeg 512) (8 : Int32).toNatClampNeg 1) (9 : Int32).toNatClampNeg 511) (10 : Int32).toNatClampNeg 1) (11 : Int32).toNatClampNeg 9) (15 : Int32).toNatClampNeg 0) (16 : Int32).toNatClampNeg 1) (17 : Int32).toNatClampNeg 2) (18 : Int32).toNatClampNeg 3) (19 : Int32).toNatClampNeg 4) (20 : Int32).toNatClampNeg 5) (21 : Int32).toNatClampNeg 6) (22 : Int32).toNatClampNeg 7) (23 : Int32).toNatClampNeg 8)) := ((fset_fr hΦ1 (ne_off (x := y) (i := 2) (j := 0) rfl)).trans hc2_)
  refine z_callV (As := [.int 0]) (rest := [.ref y]) B (m_isTemplate_0 G l Φ1 sz y h_1 h_2) (cwV 1 B.1.2.2.2.2 gX12_fieldAt_X12_isTemplate rfl rfl rfl (by decide +kernel) ⟨Nat.le_of_ble_eq_true rfl, Nat.le_of_ble_eq_true rfl⟩) h_1 rfl rfl rfl rfl (Nat.le_of_ble_eq_true rfl) dX12_fieldAt_8 ⟨Nat.le_of_ble_eq_true rfl, Nat.le_of_ble_eq_true rfl⟩ (fun v1 Φ2 sz1 st1 hp1 hs1 => ?_)
  obtain ⟨rfl, hq1, fr1⟩ := hp1
  replace hq1 : sz1 = sz := hq1
  subst sz1
  replace hs1 : st1 = [.int 1, .ref y] := hs1
  subst st1
  refine z_if_ne (tgt := 18) B dX12_fieldAt_11 rfl (fun c_1 => ?_) (fun h9 => absurd h9 (by decide))
  refine z_iconst (v := 0) B dX12_fieldAt_18 rfl ?_
  refine z_iconst (v := 1) B dX12_fieldAt_19 rfl ?_
  have h_3 : Φ2 y = some (o_ 14 [.int 0, .ref (y + 1), .ref (y + 2), .int 0, .int 1, .int 1, .int 0, .int 0, .ref (y + 3), .ref (y + 4), .int 0, .long 0, .ref (y + 5), .int 0, .int 0, .long 0, .long 0, .long 0, .long 0, .ref (y + 6), .ref (y + 7), .int 0, .ref (y + 8), .int 0, .ref (y + 9), .ref (y + 10), .int 0, .ref (y + 11), .ref (y + 12), .ref (y + 13), .ref (y + 14), .ref (y + 15), .ref (y + 16), .int 0, .long (-1), .ref (y + 17), .ref (y + 18), .ref (y + 19), .ref (y + 20), .ref (y + 21), .ref (y + 22), .int 0, .ref (y + 23), .ref (y + 24), .int 0, .ref (y + 25), .int 0, .int 0, .int 0, .int (-1), .int 0, .int 0, .int 0, .long 0]) := ((fr1 y).trans h_1)
  refine z_callV (As := [.int 0, .int 1]) (rest := []) B (c_X12_throwsIf_0 G l Φ2 sz y 0 0 1 1 0 0 0 0 0 0 0 0 0 0 0 0 0 0 (-1) 0 0 0 0 0 (-1) 0 0 0 0 1 h_3 hna) (cwV 2 B.1.2.2.2.2 gX12_fieldAt_X12_throwsIf rfl rfl rfl (by decide +kernel) ⟨Nat.le_of_ble_eq_true rfl, Nat.le_of_ble_eq_true rfl⟩) h_3 rfl rfl rfl rfl (Nat.le_of_ble_eq_true rfl) dX12_fieldAt_20 ⟨Nat.le_of_ble_eq_true rfl, Nat.le_of_ble_eq_true rfl⟩ (fun v2 Φ3 sz2 st2 hp2 hs2 => ?_)
  obtain ⟨rfl, hq2, fr2⟩ := hp2
  replace hq2 : sz2 = sz := hq2
  subst sz2
  replace hs2 : st2 = [.int 0] := hs2
  subst st2
  refine z_if_eq (tgt := 30) B dX12_fieldAt_23 rfl (fun c_2 => ?_) (fun h9 => absurd (by decide) h9)
  refine z_iload_n B dX12_fieldAt_30 rfl 2 rfl ?_
  refine z_i2l (v := 2) B dX12_fieldAt_31 (by decide +kernel) ?_
  refine z_lconst (v := 0) B dX12_fieldAt_32 rfl ?_
  refine z_aload_n B dX12_fieldAt_33 rfl 0 rfl ?_
  refine z_iload_n B dX12_fieldAt_34 rfl 1 rfl ?_
  have h_4 : Φ3 y = some (o_ 14 [.int 0, .ref (y + 1), .ref (y + 2), .int 0, .int 1, .int 1, .int 0, .int 0, .ref (y + 3), .ref (y + 4), .int 0, .long 0, .ref (y + 5), .int 0, .int 0, .long 0, .long 0, .long 0, .long 0, .ref (y + 6), .ref (y + 7), .int 0, .ref (y + 8), .int 0, .ref (y + 9), .ref (y + 10), .int 0, .ref (y + 11), .ref (y + 12), .ref (y + 13), .ref (y + 14), .ref (y + 15), .ref (y + 16), .int 0, .long (-1), .ref (y + 17), .ref (y + 18), .ref (y + 19), .ref (y + 20), .ref (y + 21), .ref (y + 22), .int 0, .ref (y + 23), .ref (y + 24), .int 0, .ref (y + 25), .int 0, .int 0, .int 0, .int (-1), .int 0, .int 0, .int 0, .long 0]) := ((fr2 y).trans h_3)
  have h_5 : Φ3 (y + 2) = some (ai_ G 307 (upd (upd (upd (upd (upd (upd (upd (upd (upd (upd (upd (upd (upd (upd (upd (upd (upd (upd (upd (upd (upd (fun _ => 0) (0 : Int32).toNatClampNeg 1) (1 : Int32).toNatClampNeg 100) (2 : Int32).toNatClampNeg 1000) (3 : Int32).toNatClampNeg 100) (4 : Int32).toNatClampNeg 20) (5 : Int32).toNatClampNeg 1000) (6 : Int32).toNatClampNeg 5000) (7 : Int32).toNatClampNeg 512) (8 : Int32).toNatClampNeg 1) (9 : Int32).toNatClampNeg 511) (10 : Int32).toNatClampNeg 1) (11 : Int32).toNatClampNeg 9) (15 : Int32).toNatClampNeg 0) (16 : Int32).toNatClampNeg 1) (17 : Int32).toNatClampNeg 2) (18 : Int32).toNatClampNeg 3) (19 : Int32).toNatClampNeg 4) (20 : Int32).toNatClampNeg 5) (21 : Int32).toNatClampNeg 6) (22 : Int32).toNatClampNeg 7) (23 : Int32).toNatClampNeg 8)) := ((fr2 (y + 2)).trans ((fr1 (y + 2)).trans h_2))
  refine z_callV (As := [.int 0]) (rest := [.long 0, .long 2]) B (m_sizeOf_0 G l Φ3 sz y h_4 h_5) (cwV 1 B.1.2.2.2.2 gX12_fieldAt_X12_sizeOf rfl rfl rfl (by decide +kernel) ⟨Nat.le_of_ble_eq_true rfl, Nat.le_of_ble_eq_true rfl⟩) h_4 rfl rfl rfl rfl (Nat.le_of_ble_eq_true rfl) dX12_fieldAt_35 ⟨Nat.le_of_ble_eq_true rfl, Nat.le_of_ble_eq_true rfl⟩ (fun v3 Φ4 sz3 st3 hp3 hs3 => ?_)
  obtain ⟨rfl, hq3, fr3⟩ := hp3
  replace hq3 : sz3 = sz := hq3
  subst sz3
  replace hs3 : st3 = [.int 9, .long 0, .long 2] := hs3
  subst st3
  refine z_iconst (v := 1) B dX12_fieldAt_38 rfl ?_
  refine z_isub B dX12_fieldAt_39 ?_
  refine z_top (st1 := [.int 8, .long 0, .long 2]) (congrArg (fun w9 : Int32 => ([.int w9, .long 0, .long 2] : List Value)) (show (9 - 1 : Int32) = 8 by decide +kernel)) ?_
  refine z_i2l (v := 8) B dX12_fieldAt_40 (by decide +kernel) ?_
  refine z_callS (As := [.long 2, .long 0, .long 8]) (rest := []) B (c_X12_inRange_1 G l Φ4 sz 2 0 8 ⟨by decide +kernel, by decide +kernel⟩) (va_cwS 3 B.1.2.2.2.2 gX12_fieldAt_X12_inRange rfl rfl rfl (by decide +kernel) ⟨Nat.le_of_ble_eq_true rfl, Nat.le_of_ble_eq_true rfl⟩) rfl rfl (Nat.le_of_ble_eq_true rfl) dX12_fieldAt_41 ⟨Nat.le_of_ble_eq_true rfl, Nat.le_of_ble_eq_true rfl⟩ (fun v4 Φ5 sz4 st4 hp4 hs4 => ?_)
  obtain ⟨rfl, hq4, fr4⟩ := hp4
  replace hq4 : sz4 = sz := hq4
  subst sz4
  replace hs4 : st4 = [.int 1] := hs4
  subst st4
  refine z_if_eq (tgt := 56) B dX12_fieldAt_44 rfl (fun h9 => absurd h9 (by decide)) (fun c_3 => ?_)
  refine z_aload_n B dX12_fieldAt_47 rfl 0 rfl ?_
  refine z_iload_n B dX12_fieldAt_48 rfl 1 rfl ?_
  refine z_iload_n B dX12_fieldAt_49 rfl 2 rfl ?_
  have h_6 : Φ5 y = some (o_ 14 [.int 0, .ref (y + 1), .ref (y + 2), .int 0, .int 1, .int 1, .int 0, .int 0, .ref (y + 3), .ref (y + 4), .int 0, .long 0, .ref (y + 5), .int 0, .int 0, .long 0, .long 0, .long 0, .long 0, .ref (y + 6), .ref (y + 7), .int 0, .ref (y + 8), .int 0, .ref (y + 9), .ref (y + 10), .int 0, .ref (y + 11), .ref (y + 12), .ref (y + 13), .ref (y + 14), .ref (y + 15), .ref (y + 16), .int 0, .long (-1), .ref (y + 17), .ref (y + 18), .ref (y + 19), .ref (y + 20), .ref (y + 21), .ref (y + 22), .int 0, .ref (y + 23), .ref (y + 24), .int 0, .ref (y + 25), .int 0, .int 0, .int 0, .int (-1), .int 0, .int 0, .int 0, .long 0]) := ((fr4 y).trans ((fr3 y).trans h_4))
  have h_7 : Φ5 (y + 2) = some (ai_ G 307 (upd (upd (upd (upd (upd (upd (upd (upd (upd (upd (upd (upd (upd (upd (upd (upd (upd (upd (upd (upd (upd (fun _ => 0) (0 : Int32).toNatClampNeg 1) (1 : Int32).toNatClampNeg 100) (2 : Int32).toNatClampNeg 1000) (3 : Int32).toNatClampNeg 100) (4 : Int32).toNatClampNeg 20) (5 : Int32).toNatClampNeg 1000) (6 : Int32).toNatClampNeg 5000) (7 : Int32).toNatClampNeg 512) (8 : Int32).toNatClampNeg 1) (9 : Int32).toNatClampNeg 511) (10 : Int32).toNatClampNeg 1) (11 : Int32).toNatClampNeg 9) (15 : Int32).toNatClampNeg 0) (16 : Int32).toNatClampNeg 1) (17 : Int32).toNatClampNeg 2) (18 : Int32).toNatClampNeg 3) (19 : Int32).toNatClampNeg 4) (20 : Int32).toNatClampNeg 5) (21 : Int32).toNatClampNeg 6) (22 : Int32).toNatClampNeg 7) (23 : Int32).toNatClampNeg 8)) := ((fr4 (y + 2)).trans ((fr3 (y + 2)).trans h_5))
  refine z_callV (As := [.int 0, .int 2]) (rest := []) B (m_fieldOf_2 G l Φ5 sz y h_6 h_7) (cwV 2 B.1.2.2.2.2 gX12_fieldAt_X12_fieldOf rfl rfl rfl (by decide +kernel) ⟨Nat.le_of_ble_eq_true rfl, Nat.le_of_ble_eq_true rfl⟩) h_6 rfl rfl rfl rfl (Nat.le_of_ble_eq_true rfl) dX12_fieldAt_50 ⟨Nat.le_of_ble_eq_true rfl, Nat.le_of_ble_eq_true rfl⟩ (fun v5 Φ6 sz5 st5 hp5 hs5 => ?_)
  obtain ⟨rfl, hq5, fr5⟩ := hp5
  replace hq5 : sz5 = sz := hq5
  subst sz5
  replace hs5 : st5 = [.int 2] := hs5
  subst st5
  refine z_goto (tgt := 57) B dX12_fieldAt_53 rfl ?_
  have h_8 : Φ6 y = some (o_ 14 [.int 0, .ref (y + 1), .ref (y + 2), .int 0, .int 1, .int 1, .int 0, .int 0, .ref (y + 3), .ref (y + 4), .int 0, .long 0, .ref (y + 5), .int 0, .int 0, .long 0, .long 0, .long 0, .long 0, .ref (y + 6), .ref (y + 7), .int 0, .ref (y + 8), .int 0, .ref (y + 9), .ref (y + 10), .int 0, .ref (y + 11), .ref (y + 12), .ref (y + 13), .ref (y + 14), .ref (y + 15), .ref (y + 16), .int 0, .long (-1), .ref (y + 17), .ref (y + 18), .ref (y + 19), .ref (y + 20), .ref (y + 21), .ref (y + 22), .int 0, .ref (y + 23), .ref (y + 24), .int 0, .ref (y + 25), .int 0, .int 0, .int 0, .int (-1), .int 0, .int 0, .int 0, .long 0]) := ((fr5 y).trans h_6)
  exact z_ret_i B dX12_fieldAt_57 ⟨rfl, ⟨_, h_8, rfl⟩, fun b9 h9 => ((fr5 b9).trans ((fr4 b9).trans ((fr3 b9).trans ((fr2 b9).trans ((fr1 b9).trans ((fset_fr hΦ1 (Nat.ne_of_gt (Nat.lt_of_lt_of_le (lt_off (x := y) (i := 0) (j := 26) rfl) h9))).trans rfl))))))⟩

set_option maxHeartbeats 4000000 in
set_option maxRecDepth 100000 in
theorem m_X12_fieldAt_3 (G : EnvG) (l : Launch) (Φ : Hm) (sz : Nat) (y : Nat) (hc0_ : Φ y = some (o_ 14 [.int 0, .ref (y + 1), .ref (y + 2), .int 0, .int 1, .int 1, .int 0, .int 0, .ref (y + 3), .ref (y + 4), .int 0, .long 0, .ref (y + 5), .int 0, .int 0, .long 0, .long 0, .long 0, .long 0, .ref (y + 6), .ref (y + 7), .int 0, .ref (y + 8), .int 0, .ref (y + 9), .ref (y + 10), .int 0, .ref (y + 11), .ref (y + 12), .ref (y + 13), .ref (y + 14), .ref (y + 15), .ref (y + 16), .int 0, .long (-1), .ref (y + 17), .ref (y + 18), .ref (y + 19), .ref (y + 20), .ref (y + 21), .ref (y + 22), .int 0, .ref (y + 23), .ref (y + 24), .int 0, .ref (y + 25), .int 0, .int 0, .int 0, .int (-1), .int 0, .int 0, .int 0, .long 0])) (hc2_ : Φ (y + 2) = some (ai_ G 307 (upd (upd (upd (upd (upd (upd (upd (upd (upd (upd (upd (upd (upd (upd (upd (upd (upd (upd (upd (upd (upd (fun _ => 0) (0 : Int32).toNatClampNeg 1) (1 : Int32).toNatClampNeg 100) (2 : Int32).toNatClampNeg 1000) (3 : Int32).toNatClampNeg 100) (4 : Int32).toNatClampNeg 20) (5 : Int32).toNatClampNeg 1000) (6 : Int32).toNatClampNeg 5000) (7 : Int32).toNatClampNeg 512) (8 : Int32).toNatClampNeg 1) (9 : Int32).toNatClampNeg 511) (10 : Int32).toNatClampNeg 1) (11 : Int32).toNatClampNeg 9) (15 : Int32).toNatClampNeg 0) (16 : Int32).toNatClampNeg 1) (17 : Int32).toNatClampNeg 2) (18 : Int32).toNatClampNeg 3) (19 : Int32).toNatClampNeg 4) (20 : Int32).toNatClampNeg 5) (21 : Int32).toNatClampNeg 6) (22 : Int32).toNatClampNeg 7) (23 : Int32).toNatClampNeg 8))) (hna : G.2.2.2 ≤ y) : Ct G l yX12_fieldAt wsX12_fieldAt ({ frames := 2, cells := 0, slots := 0, locals := 46 }) 0 0 [.ref y, .int 0, .int 3] Φ sz (fun v Φ1 sz1 => v = some (.int 3) ∧ (∃ fs : List Value, Φ1 y = some (o_ 14 fs) ∧ fs[0]? = some (.int 0)) ∧ ∀ b9 : Nat, y + 26 ≤ b9 → Φ1 b9 = Φ b9) := by
  refine Ct.of (cc := cX12_fieldAt) (maxL := 3) (ret := (some .int)) (by decide) rfl (Nat.le_of_ble_eq_true rfl) ?_
  intro p9 e9 s9 m9 w9 t9 k9 B
  show Z p9 l e9 _ s9 m9 _ w9 t9 k9 _ G 3 0 [(0, .ref y), (1, .int 0), (2, .int 3)] [] Φ sz 0 0
  refine z_aload_n B dX12_fieldAt_0 rfl 0 rfl ?_
  refine z_iconst (v := 0) B dX12_fieldAt_1 rfl ?_
  refine z_put (ref := "FlowExporterModel") (C := RX12) (T := TX12) (N := 54) (ci := 14) (v := .int 0) B (by decide +kernel) tyX12 tyX12_ok nmX12 rfl 0 (by decide) (by decide +kernel) rfl (Or.inl rfl) hc0_ hna rfl rfl (Nat.le_of_ble_eq_true rfl) dX12_fieldAt_2 (fun Φ1 hΦ1 => ?_)
  have h_1 : Φ1 y = some (o_ 14 [.int 0, .ref (y + 1), .ref (y + 2), .int 0, .int 1, .int 1, .int 0, .int 0, .ref (y + 3), .ref (y + 4), .int 0, .long 0, .ref (y + 5), .int 0, .int 0, .long 0, .long 0, .long 0, .long 0, .ref (y + 6), .ref (y + 7), .int 0, .ref (y + 8), .int 0, .ref (y + 9), .ref (y + 10), .int 0, .ref (y + 11), .ref (y + 12), .ref (y + 13), .ref (y + 14), .ref (y + 15), .ref (y + 16), .int 0, .long (-1), .ref (y + 17), .ref (y + 18), .ref (y + 19), .ref (y + 20), .ref (y + 21), .ref (y + 22), .int 0, .ref (y + 23), .ref (y + 24), .int 0, .ref (y + 25), .int 0, .int 0, .int 0, .int (-1), .int 0, .int 0, .int 0, .long 0]) := fset_at hΦ1
  refine z_aload_n B dX12_fieldAt_5 rfl 0 rfl ?_
  refine z_aload_n B dX12_fieldAt_6 rfl 0 rfl ?_
  refine z_iload_n B dX12_fieldAt_7 rfl 1 rfl ?_
  have h_2 : Φ1 (y + 2) = some (ai_ G 307 (upd (upd (upd (upd (upd (upd (upd (upd (upd (upd (upd (upd (upd (upd (upd (upd (upd (upd (upd (upd (upd (fun _ => 0) (0 : Int32).toNatClampNeg 1) (1 : Int32).toNatClampNeg 100) (2 : Int32).toNatClampNeg 1000) (3 : Int32).toNatClampNeg 100) (4 : Int32).toNatClampNeg 20) (5 : Int32).toNatClampNeg 1000) (6 : Int32).toNatClampNeg 5000) (7 : Int32).toNatClampNeg 512) (8 : Int32).toNatClampNeg 1) (9 : Int32).toNatClampNeg 511) (10 : Int32).toNatClampNeg 1) (11 : Int32).toNatClampNeg 9) (15 : Int32).toNatClampNeg 0) (16 : Int32).toNatClampNeg 1) (17 : Int32).toNatClampNeg 2) (18 : Int32).toNatClampNeg 3) (19 : Int32).toNatClampNeg 4) (20 : Int32).toNatClampNeg 5) (21 : Int32).toNatClampNeg 6) (22 : Int32).toNatClampNeg 7) (23 : Int32).toNatClampNeg 8)) := ((fset_fr hΦ1 (ne_off (x := y) (i := 2) (j := 0) rfl)).trans hc2_)
  refine z_callV (As := [.int 0]) (rest := [.ref y]) B (m_isTemplate_0 G l Φ1 sz y h_1 h_2) (cwV 1 B.1.2.2.2.2 gX12_fieldAt_X12_isTemplate rfl rfl rfl (by decide +kernel) ⟨Nat.le_of_ble_eq_true rfl, Nat.le_of_ble_eq_true rfl⟩) h_1 rfl rfl rfl rfl (Nat.le_of_ble_eq_true rfl) dX12_fieldAt_8 ⟨Nat.le_of_ble_eq_true rfl, Nat.le_of_ble_eq_true rfl⟩ (fun v1 Φ2 sz1 st1 hp1 hs1 => ?_)
  obtain ⟨rfl, hq1, fr1⟩ := hp1
  replace hq1 : sz1 = sz := hq1
  subst sz1
  replace hs1 : st1 = [.int 1, .ref y] := hs1
  subst st1
  refine z_if_ne (tgt := 18) B dX12_fieldAt_11 rfl (fun c_1 => ?_) (fun h9 => absurd h9 (by decide))
  refine z_iconst (v := 0) B dX12_fieldAt_18 rfl ?_
  refine z_iconst (v := 1) B dX12_fieldAt_19 rfl ?_
  have h_3 : Φ2 y = some (o_ 14 [.int 0, .ref (y + 1), .ref (y + 2), .int 0, .int 1, .int 1, .int 0, .int 0, .ref (y + 3), .ref (y + 4), .int 0, .long 0, .ref (y + 5), .int 0, .int 0, .long 0, .long 0, .long 0, .long 0, .ref (y + 6), .ref (y + 7), .int 0, .ref (y + 8), .int 0, .ref (y + 9), .ref (y + 10), .int 0, .ref (y + 11), .ref (y + 12), .ref (y + 13), .ref (y + 14), .ref (y + 15), .ref (y + 16), .int 0, .long (-1), .ref (y + 17), .ref (y + 18), .ref (y + 19), .ref (y + 20), .ref (y + 21), .ref (y + 22), .int 0, .ref (y + 23), .ref (y + 24), .int 0, .ref (y + 25), .int 0, .int 0, .int 0, .int (-1), .int 0, .int 0, .int 0, .long 0]) := ((fr1 y).trans h_1)
  refine z_callV (As := [.int 0, .int 1]) (rest := []) B (c_X12_throwsIf_0 G l Φ2 sz y 0 0 1 1 0 0 0 0 0 0 0 0 0 0 0 0 0 0 (-1) 0 0 0 0 0 (-1) 0 0 0 0 1 h_3 hna) (cwV 2 B.1.2.2.2.2 gX12_fieldAt_X12_throwsIf rfl rfl rfl (by decide +kernel) ⟨Nat.le_of_ble_eq_true rfl, Nat.le_of_ble_eq_true rfl⟩) h_3 rfl rfl rfl rfl (Nat.le_of_ble_eq_true rfl) dX12_fieldAt_20 ⟨Nat.le_of_ble_eq_true rfl, Nat.le_of_ble_eq_true rfl⟩ (fun v2 Φ3 sz2 st2 hp2 hs2 => ?_)
  obtain ⟨rfl, hq2, fr2⟩ := hp2
  replace hq2 : sz2 = sz := hq2
  subst sz2
  replace hs2 : st2 = [.int 0] := hs2
  subst st2
  refine z_if_eq (tgt := 30) B dX12_fieldAt_23 rfl (fun c_2 => ?_) (fun h9 => absurd (by decide) h9)
  refine z_iload_n B dX12_fieldAt_30 rfl 2 rfl ?_
  refine z_i2l (v := 3) B dX12_fieldAt_31 (by decide +kernel) ?_
  refine z_lconst (v := 0) B dX12_fieldAt_32 rfl ?_
  refine z_aload_n B dX12_fieldAt_33 rfl 0 rfl ?_
  refine z_iload_n B dX12_fieldAt_34 rfl 1 rfl ?_
  have h_4 : Φ3 y = some (o_ 14 [.int 0, .ref (y + 1), .ref (y + 2), .int 0, .int 1, .int 1, .int 0, .int 0, .ref (y + 3), .ref (y + 4), .int 0, .long 0, .ref (y + 5), .int 0, .int 0, .long 0, .long 0, .long 0, .long 0, .ref (y + 6), .ref (y + 7), .int 0, .ref (y + 8), .int 0, .ref (y + 9), .ref (y + 10), .int 0, .ref (y + 11), .ref (y + 12), .ref (y + 13), .ref (y + 14), .ref (y + 15), .ref (y + 16), .int 0, .long (-1), .ref (y + 17), .ref (y + 18), .ref (y + 19), .ref (y + 20), .ref (y + 21), .ref (y + 22), .int 0, .ref (y + 23), .ref (y + 24), .int 0, .ref (y + 25), .int 0, .int 0, .int 0, .int (-1), .int 0, .int 0, .int 0, .long 0]) := ((fr2 y).trans h_3)
  have h_5 : Φ3 (y + 2) = some (ai_ G 307 (upd (upd (upd (upd (upd (upd (upd (upd (upd (upd (upd (upd (upd (upd (upd (upd (upd (upd (upd (upd (upd (fun _ => 0) (0 : Int32).toNatClampNeg 1) (1 : Int32).toNatClampNeg 100) (2 : Int32).toNatClampNeg 1000) (3 : Int32).toNatClampNeg 100) (4 : Int32).toNatClampNeg 20) (5 : Int32).toNatClampNeg 1000) (6 : Int32).toNatClampNeg 5000) (7 : Int32).toNatClampNeg 512) (8 : Int32).toNatClampNeg 1) (9 : Int32).toNatClampNeg 511) (10 : Int32).toNatClampNeg 1) (11 : Int32).toNatClampNeg 9) (15 : Int32).toNatClampNeg 0) (16 : Int32).toNatClampNeg 1) (17 : Int32).toNatClampNeg 2) (18 : Int32).toNatClampNeg 3) (19 : Int32).toNatClampNeg 4) (20 : Int32).toNatClampNeg 5) (21 : Int32).toNatClampNeg 6) (22 : Int32).toNatClampNeg 7) (23 : Int32).toNatClampNeg 8)) := ((fr2 (y + 2)).trans ((fr1 (y + 2)).trans h_2))
  refine z_callV (As := [.int 0]) (rest := [.long 0, .long 3]) B (m_sizeOf_0 G l Φ3 sz y h_4 h_5) (cwV 1 B.1.2.2.2.2 gX12_fieldAt_X12_sizeOf rfl rfl rfl (by decide +kernel) ⟨Nat.le_of_ble_eq_true rfl, Nat.le_of_ble_eq_true rfl⟩) h_4 rfl rfl rfl rfl (Nat.le_of_ble_eq_true rfl) dX12_fieldAt_35 ⟨Nat.le_of_ble_eq_true rfl, Nat.le_of_ble_eq_true rfl⟩ (fun v3 Φ4 sz3 st3 hp3 hs3 => ?_)
  obtain ⟨rfl, hq3, fr3⟩ := hp3
  replace hq3 : sz3 = sz := hq3
  subst sz3
  replace hs3 : st3 = [.int 9, .long 0, .long 3] := hs3
  subst st3
  refine z_iconst (v := 1) B dX12_fieldAt_38 rfl ?_
  refine z_isub B dX12_fieldAt_39 ?_
  refine z_top (st1 := [.int 8, .long 0, .long 3]) (congrArg (fun w9 : Int32 => ([.int w9, .long 0, .long 3] : List Value)) (show (9 - 1 : Int32) = 8 by decide +kernel)) ?_
  refine z_i2l (v := 8) B dX12_fieldAt_40 (by decide +kernel) ?_
  refine z_callS (As := [.long 3, .long 0, .long 8]) (rest := []) B (c_X12_inRange_1 G l Φ4 sz 3 0 8 ⟨by decide +kernel, by decide +kernel⟩) (va_cwS 3 B.1.2.2.2.2 gX12_fieldAt_X12_inRange rfl rfl rfl (by decide +kernel) ⟨Nat.le_of_ble_eq_true rfl, Nat.le_of_ble_eq_true rfl⟩) rfl rfl (Nat.le_of_ble_eq_true rfl) dX12_fieldAt_41 ⟨Nat.le_of_ble_eq_true rfl, Nat.le_of_ble_eq_true rfl⟩ (fun v4 Φ5 sz4 st4 hp4 hs4 => ?_)
  obtain ⟨rfl, hq4, fr4⟩ := hp4
  replace hq4 : sz4 = sz := hq4
  subst sz4
  replace hs4 : st4 = [.int 1] := hs4
  subst st4
  refine z_if_eq (tgt := 56) B dX12_fieldAt_44 rfl (fun h9 => absurd h9 (by decide)) (fun c_3 => ?_)
  refine z_aload_n B dX12_fieldAt_47 rfl 0 rfl ?_
  refine z_iload_n B dX12_fieldAt_48 rfl 1 rfl ?_
  refine z_iload_n B dX12_fieldAt_49 rfl 2 rfl ?_
  have h_6 : Φ5 y = some (o_ 14 [.int 0, .ref (y + 1), .ref (y + 2), .int 0, .int 1, .int 1, .int 0, .int 0, .ref (y + 3), .ref (y + 4), .int 0, .long 0, .ref (y + 5), .int 0, .int 0, .long 0, .long 0, .long 0, .long 0, .ref (y + 6), .ref (y + 7), .int 0, .ref (y + 8), .int 0, .ref (y + 9), .ref (y + 10), .int 0, .ref (y + 11), .ref (y + 12), .ref (y + 13), .ref (y + 14), .ref (y + 15), .ref (y + 16), .int 0, .long (-1), .ref (y + 17), .ref (y + 18), .ref (y + 19), .ref (y + 20), .ref (y + 21), .ref (y + 22), .int 0, .ref (y + 23), .ref (y + 24), .int 0, .ref (y + 25), .int 0, .int 0, .int 0, .int (-1), .int 0, .int 0, .int 0, .long 0]) := ((fr4 y).trans ((fr3 y).trans h_4))
  have h_7 : Φ5 (y + 2) = some (ai_ G 307 (upd (upd (upd (upd (upd (upd (upd (upd (upd (upd (upd (upd (upd (upd (upd (upd (upd (upd (upd (upd (upd (fun _ => 0) (0 : Int32).toNatClampNeg 1) (1 : Int32).toNatClampNeg 100) (2 : Int32).toNatClampNeg 1000) (3 : Int32).toNatClampNeg 100) (4 : Int32).toNatClampNeg 20) (5 : Int32).toNatClampNeg 1000) (6 : Int32).toNatClampNeg 5000) (7 : Int32).toNatClampNeg 512) (8 : Int32).toNatClampNeg 1) (9 : Int32).toNatClampNeg 511) (10 : Int32).toNatClampNeg 1) (11 : Int32).toNatClampNeg 9) (15 : Int32).toNatClampNeg 0) (16 : Int32).toNatClampNeg 1) (17 : Int32).toNatClampNeg 2) (18 : Int32).toNatClampNeg 3) (19 : Int32).toNatClampNeg 4) (20 : Int32).toNatClampNeg 5) (21 : Int32).toNatClampNeg 6) (22 : Int32).toNatClampNeg 7) (23 : Int32).toNatClampNeg 8)) := ((fr4 (y + 2)).trans ((fr3 (y + 2)).trans h_5))
  refine z_callV (As := [.int 0, .int 3]) (rest := []) B (m_fieldOf_3 G l Φ5 sz y h_6 h_7) (cwV 2 B.1.2.2.2.2 gX12_fieldAt_X12_fieldOf rfl rfl rfl (by decide +kernel) ⟨Nat.le_of_ble_eq_true rfl, Nat.le_of_ble_eq_true rfl⟩) h_6 rfl rfl rfl rfl (Nat.le_of_ble_eq_true rfl) dX12_fieldAt_50 ⟨Nat.le_of_ble_eq_true rfl, Nat.le_of_ble_eq_true rfl⟩ (fun v5 Φ6 sz5 st5 hp5 hs5 => ?_)
  obtain ⟨rfl, hq5, fr5⟩ := hp5
  replace hq5 : sz5 = sz := hq5
  subst sz5
  replace hs5 : st5 = [.int 3] := hs5
  subst st5
  refine z_goto (tgt := 57) B dX12_fieldAt_53 rfl ?_
  have h_8 : Φ6 y = some (o_ 14 [.int 0, .ref (y + 1), .ref (y + 2), .int 0, .int 1, .int 1, .int 0, .int 0, .ref (y + 3), .ref (y + 4), .int 0, .long 0, .ref (y + 5), .int 0, .int 0, .long 0, .long 0, .long 0, .long 0, .ref (y + 6), .ref (y + 7), .int 0, .ref (y + 8), .int 0, .ref (y + 9), .ref (y + 10), .int 0, .ref (y + 11), .ref (y + 12), .ref (y + 13), .ref (y + 14), .ref (y + 15), .ref (y + 16), .int 0, .long (-1), .ref (y + 17), .ref (y + 18), .ref (y + 19), .ref (y + 20), .ref (y + 21), .ref (y + 22), .int 0, .ref (y + 23), .ref (y + 24), .int 0, .ref (y + 25), .int 0, .int 0, .int 0, .int (-1), .int 0, .int 0, .int 0, .long 0]) := ((fr5 y).trans h_6)
  exact z_ret_i B dX12_fieldAt_57 ⟨rfl, ⟨_, h_8, rfl⟩, fun b9 h9 => ((fr5 b9).trans ((fr4 b9).trans ((fr3 b9).trans ((fr2 b9).trans ((fr1 b9).trans ((fset_fr hΦ1 (Nat.ne_of_gt (Nat.lt_of_lt_of_le (lt_off (x := y) (i := 0) (j := 26) rfl) h9))).trans rfl))))))⟩

set_option maxHeartbeats 4000000 in
set_option maxRecDepth 100000 in
theorem m_X12_fieldAt_4 (G : EnvG) (l : Launch) (Φ : Hm) (sz : Nat) (y : Nat) (hc0_ : Φ y = some (o_ 14 [.int 0, .ref (y + 1), .ref (y + 2), .int 0, .int 1, .int 1, .int 0, .int 0, .ref (y + 3), .ref (y + 4), .int 0, .long 0, .ref (y + 5), .int 0, .int 0, .long 0, .long 0, .long 0, .long 0, .ref (y + 6), .ref (y + 7), .int 0, .ref (y + 8), .int 0, .ref (y + 9), .ref (y + 10), .int 0, .ref (y + 11), .ref (y + 12), .ref (y + 13), .ref (y + 14), .ref (y + 15), .ref (y + 16), .int 0, .long (-1), .ref (y + 17), .ref (y + 18), .ref (y + 19), .ref (y + 20), .ref (y + 21), .ref (y + 22), .int 0, .ref (y + 23), .ref (y + 24), .int 0, .ref (y + 25), .int 0, .int 0, .int 0, .int (-1), .int 0, .int 0, .int 0, .long 0])) (hc2_ : Φ (y + 2) = some (ai_ G 307 (upd (upd (upd (upd (upd (upd (upd (upd (upd (upd (upd (upd (upd (upd (upd (upd (upd (upd (upd (upd (upd (fun _ => 0) (0 : Int32).toNatClampNeg 1) (1 : Int32).toNatClampNeg 100) (2 : Int32).toNatClampNeg 1000) (3 : Int32).toNatClampNeg 100) (4 : Int32).toNatClampNeg 20) (5 : Int32).toNatClampNeg 1000) (6 : Int32).toNatClampNeg 5000) (7 : Int32).toNatClampNeg 512) (8 : Int32).toNatClampNeg 1) (9 : Int32).toNatClampNeg 511) (10 : Int32).toNatClampNeg 1) (11 : Int32).toNatClampNeg 9) (15 : Int32).toNatClampNeg 0) (16 : Int32).toNatClampNeg 1) (17 : Int32).toNatClampNeg 2) (18 : Int32).toNatClampNeg 3) (19 : Int32).toNatClampNeg 4) (20 : Int32).toNatClampNeg 5) (21 : Int32).toNatClampNeg 6) (22 : Int32).toNatClampNeg 7) (23 : Int32).toNatClampNeg 8))) (hna : G.2.2.2 ≤ y) : Ct G l yX12_fieldAt wsX12_fieldAt ({ frames := 2, cells := 0, slots := 0, locals := 46 }) 0 0 [.ref y, .int 0, .int 4] Φ sz (fun v Φ1 sz1 => v = some (.int 4) ∧ (∃ fs : List Value, Φ1 y = some (o_ 14 fs) ∧ fs[0]? = some (.int 0)) ∧ ∀ b9 : Nat, y + 26 ≤ b9 → Φ1 b9 = Φ b9) := by
  refine Ct.of (cc := cX12_fieldAt) (maxL := 3) (ret := (some .int)) (by decide) rfl (Nat.le_of_ble_eq_true rfl) ?_
  intro p9 e9 s9 m9 w9 t9 k9 B
  show Z p9 l e9 _ s9 m9 _ w9 t9 k9 _ G 3 0 [(0, .ref y), (1, .int 0), (2, .int 4)] [] Φ sz 0 0
  refine z_aload_n B dX12_fieldAt_0 rfl 0 rfl ?_
  refine z_iconst (v := 0) B dX12_fieldAt_1 rfl ?_
  refine z_put (ref := "FlowExporterModel") (C := RX12) (T := TX12) (N := 54) (ci := 14) (v := .int 0) B (by decide +kernel) tyX12 tyX12_ok nmX12 rfl 0 (by decide) (by decide +kernel) rfl (Or.inl rfl) hc0_ hna rfl rfl (Nat.le_of_ble_eq_true rfl) dX12_fieldAt_2 (fun Φ1 hΦ1 => ?_)
  have h_1 : Φ1 y = some (o_ 14 [.int 0, .ref (y + 1), .ref (y + 2), .int 0, .int 1, .int 1, .int 0, .int 0, .ref (y + 3), .ref (y + 4), .int 0, .long 0, .ref (y + 5), .int 0, .int 0, .long 0, .long 0, .long 0, .long 0, .ref (y + 6), .ref (y + 7), .int 0, .ref (y + 8), .int 0, .ref (y + 9), .ref (y + 10), .int 0, .ref (y + 11), .ref (y + 12), .ref (y + 13), .ref (y + 14), .ref (y + 15), .ref (y + 16), .int 0, .long (-1), .ref (y + 17), .ref (y + 18), .ref (y + 19), .ref (y + 20), .ref (y + 21), .ref (y + 22), .int 0, .ref (y + 23), .ref (y + 24), .int 0, .ref (y + 25), .int 0, .int 0, .int 0, .int (-1), .int 0, .int 0, .int 0, .long 0]) := fset_at hΦ1
  refine z_aload_n B dX12_fieldAt_5 rfl 0 rfl ?_
  refine z_aload_n B dX12_fieldAt_6 rfl 0 rfl ?_
  refine z_iload_n B dX12_fieldAt_7 rfl 1 rfl ?_
  have h_2 : Φ1 (y + 2) = some (ai_ G 307 (upd (upd (upd (upd (upd (upd (upd (upd (upd (upd (upd (upd (upd (upd (upd (upd (upd (upd (upd (upd (upd (fun _ => 0) (0 : Int32).toNatClampNeg 1) (1 : Int32).toNatClampNeg 100) (2 : Int32).toNatClampNeg 1000) (3 : Int32).toNatClampNeg 100) (4 : Int32).toNatClampNeg 20) (5 : Int32).toNatClampNeg 1000) (6 : Int32).toNatClampNeg 5000) (7 : Int32).toNatClampNeg 512) (8 : Int32).toNatClampNeg 1) (9 : Int32).toNatClampNeg 511) (10 : Int32).toNatClampNeg 1) (11 : Int32).toNatClampNeg 9) (15 : Int32).toNatClampNeg 0) (16 : Int32).toNatClampNeg 1) (17 : Int32).toNatClampNeg 2) (18 : Int32).toNatClampNeg 3) (19 : Int32).toNatClampNeg 4) (20 : Int32).toNatClampNeg 5) (21 : Int32).toNatClampNeg 6) (22 : Int32).toNatClampNeg 7) (23 : Int32).toNatClampNeg 8)) := ((fset_fr hΦ1 (ne_off (x := y) (i := 2) (j := 0) rfl)).trans hc2_)
  refine z_callV (As := [.int 0]) (rest := [.ref y]) B (m_isTemplate_0 G l Φ1 sz y h_1 h_2) (cwV 1 B.1.2.2.2.2 gX12_fieldAt_X12_isTemplate rfl rfl rfl (by decide +kernel) ⟨Nat.le_of_ble_eq_true rfl, Nat.le_of_ble_eq_true rfl⟩) h_1 rfl rfl rfl rfl (Nat.le_of_ble_eq_true rfl) dX12_fieldAt_8 ⟨Nat.le_of_ble_eq_true rfl, Nat.le_of_ble_eq_true rfl⟩ (fun v1 Φ2 sz1 st1 hp1 hs1 => ?_)
  obtain ⟨rfl, hq1, fr1⟩ := hp1
  replace hq1 : sz1 = sz := hq1
  subst sz1
  replace hs1 : st1 = [.int 1, .ref y] := hs1
  subst st1
  refine z_if_ne (tgt := 18) B dX12_fieldAt_11 rfl (fun c_1 => ?_) (fun h9 => absurd h9 (by decide))
  refine z_iconst (v := 0) B dX12_fieldAt_18 rfl ?_
  refine z_iconst (v := 1) B dX12_fieldAt_19 rfl ?_
  have h_3 : Φ2 y = some (o_ 14 [.int 0, .ref (y + 1), .ref (y + 2), .int 0, .int 1, .int 1, .int 0, .int 0, .ref (y + 3), .ref (y + 4), .int 0, .long 0, .ref (y + 5), .int 0, .int 0, .long 0, .long 0, .long 0, .long 0, .ref (y + 6), .ref (y + 7), .int 0, .ref (y + 8), .int 0, .ref (y + 9), .ref (y + 10), .int 0, .ref (y + 11), .ref (y + 12), .ref (y + 13), .ref (y + 14), .ref (y + 15), .ref (y + 16), .int 0, .long (-1), .ref (y + 17), .ref (y + 18), .ref (y + 19), .ref (y + 20), .ref (y + 21), .ref (y + 22), .int 0, .ref (y + 23), .ref (y + 24), .int 0, .ref (y + 25), .int 0, .int 0, .int 0, .int (-1), .int 0, .int 0, .int 0, .long 0]) := ((fr1 y).trans h_1)
  refine z_callV (As := [.int 0, .int 1]) (rest := []) B (c_X12_throwsIf_0 G l Φ2 sz y 0 0 1 1 0 0 0 0 0 0 0 0 0 0 0 0 0 0 (-1) 0 0 0 0 0 (-1) 0 0 0 0 1 h_3 hna) (cwV 2 B.1.2.2.2.2 gX12_fieldAt_X12_throwsIf rfl rfl rfl (by decide +kernel) ⟨Nat.le_of_ble_eq_true rfl, Nat.le_of_ble_eq_true rfl⟩) h_3 rfl rfl rfl rfl (Nat.le_of_ble_eq_true rfl) dX12_fieldAt_20 ⟨Nat.le_of_ble_eq_true rfl, Nat.le_of_ble_eq_true rfl⟩ (fun v2 Φ3 sz2 st2 hp2 hs2 => ?_)
  obtain ⟨rfl, hq2, fr2⟩ := hp2
  replace hq2 : sz2 = sz := hq2
  subst sz2
  replace hs2 : st2 = [.int 0] := hs2
  subst st2
  refine z_if_eq (tgt := 30) B dX12_fieldAt_23 rfl (fun c_2 => ?_) (fun h9 => absurd (by decide) h9)
  refine z_iload_n B dX12_fieldAt_30 rfl 2 rfl ?_
  refine z_i2l (v := 4) B dX12_fieldAt_31 (by decide +kernel) ?_
  refine z_lconst (v := 0) B dX12_fieldAt_32 rfl ?_
  refine z_aload_n B dX12_fieldAt_33 rfl 0 rfl ?_
  refine z_iload_n B dX12_fieldAt_34 rfl 1 rfl ?_
  have h_4 : Φ3 y = some (o_ 14 [.int 0, .ref (y + 1), .ref (y + 2), .int 0, .int 1, .int 1, .int 0, .int 0, .ref (y + 3), .ref (y + 4), .int 0, .long 0, .ref (y + 5), .int 0, .int 0, .long 0, .long 0, .long 0, .long 0, .ref (y + 6), .ref (y + 7), .int 0, .ref (y + 8), .int 0, .ref (y + 9), .ref (y + 10), .int 0, .ref (y + 11), .ref (y + 12), .ref (y + 13), .ref (y + 14), .ref (y + 15), .ref (y + 16), .int 0, .long (-1), .ref (y + 17), .ref (y + 18), .ref (y + 19), .ref (y + 20), .ref (y + 21), .ref (y + 22), .int 0, .ref (y + 23), .ref (y + 24), .int 0, .ref (y + 25), .int 0, .int 0, .int 0, .int (-1), .int 0, .int 0, .int 0, .long 0]) := ((fr2 y).trans h_3)
  have h_5 : Φ3 (y + 2) = some (ai_ G 307 (upd (upd (upd (upd (upd (upd (upd (upd (upd (upd (upd (upd (upd (upd (upd (upd (upd (upd (upd (upd (upd (fun _ => 0) (0 : Int32).toNatClampNeg 1) (1 : Int32).toNatClampNeg 100) (2 : Int32).toNatClampNeg 1000) (3 : Int32).toNatClampNeg 100) (4 : Int32).toNatClampNeg 20) (5 : Int32).toNatClampNeg 1000) (6 : Int32).toNatClampNeg 5000) (7 : Int32).toNatClampNeg 512) (8 : Int32).toNatClampNeg 1) (9 : Int32).toNatClampNeg 511) (10 : Int32).toNatClampNeg 1) (11 : Int32).toNatClampNeg 9) (15 : Int32).toNatClampNeg 0) (16 : Int32).toNatClampNeg 1) (17 : Int32).toNatClampNeg 2) (18 : Int32).toNatClampNeg 3) (19 : Int32).toNatClampNeg 4) (20 : Int32).toNatClampNeg 5) (21 : Int32).toNatClampNeg 6) (22 : Int32).toNatClampNeg 7) (23 : Int32).toNatClampNeg 8)) := ((fr2 (y + 2)).trans ((fr1 (y + 2)).trans h_2))
  refine z_callV (As := [.int 0]) (rest := [.long 0, .long 4]) B (m_sizeOf_0 G l Φ3 sz y h_4 h_5) (cwV 1 B.1.2.2.2.2 gX12_fieldAt_X12_sizeOf rfl rfl rfl (by decide +kernel) ⟨Nat.le_of_ble_eq_true rfl, Nat.le_of_ble_eq_true rfl⟩) h_4 rfl rfl rfl rfl (Nat.le_of_ble_eq_true rfl) dX12_fieldAt_35 ⟨Nat.le_of_ble_eq_true rfl, Nat.le_of_ble_eq_true rfl⟩ (fun v3 Φ4 sz3 st3 hp3 hs3 => ?_)
  obtain ⟨rfl, hq3, fr3⟩ := hp3
  replace hq3 : sz3 = sz := hq3
  subst sz3
  replace hs3 : st3 = [.int 9, .long 0, .long 4] := hs3
  subst st3
  refine z_iconst (v := 1) B dX12_fieldAt_38 rfl ?_
  refine z_isub B dX12_fieldAt_39 ?_
  refine z_top (st1 := [.int 8, .long 0, .long 4]) (congrArg (fun w9 : Int32 => ([.int w9, .long 0, .long 4] : List Value)) (show (9 - 1 : Int32) = 8 by decide +kernel)) ?_
  refine z_i2l (v := 8) B dX12_fieldAt_40 (by decide +kernel) ?_
  refine z_callS (As := [.long 4, .long 0, .long 8]) (rest := []) B (c_X12_inRange_1 G l Φ4 sz 4 0 8 ⟨by decide +kernel, by decide +kernel⟩) (va_cwS 3 B.1.2.2.2.2 gX12_fieldAt_X12_inRange rfl rfl rfl (by decide +kernel) ⟨Nat.le_of_ble_eq_true rfl, Nat.le_of_ble_eq_true rfl⟩) rfl rfl (Nat.le_of_ble_eq_true rfl) dX12_fieldAt_41 ⟨Nat.le_of_ble_eq_true rfl, Nat.le_of_ble_eq_true rfl⟩ (fun v4 Φ5 sz4 st4 hp4 hs4 => ?_)
  obtain ⟨rfl, hq4, fr4⟩ := hp4
  replace hq4 : sz4 = sz := hq4
  subst sz4
  replace hs4 : st4 = [.int 1] := hs4
  subst st4
  refine z_if_eq (tgt := 56) B dX12_fieldAt_44 rfl (fun h9 => absurd h9 (by decide)) (fun c_3 => ?_)
  refine z_aload_n B dX12_fieldAt_47 rfl 0 rfl ?_
  refine z_iload_n B dX12_fieldAt_48 rfl 1 rfl ?_
  refine z_iload_n B dX12_fieldAt_49 rfl 2 rfl ?_
  have h_6 : Φ5 y = some (o_ 14 [.int 0, .ref (y + 1), .ref (y + 2), .int 0, .int 1, .int 1, .int 0, .int 0, .ref (y + 3), .ref (y + 4), .int 0, .long 0, .ref (y + 5), .int 0, .int 0, .long 0, .long 0, .long 0, .long 0, .ref (y + 6), .ref (y + 7), .int 0, .ref (y + 8), .int 0, .ref (y + 9), .ref (y + 10), .int 0, .ref (y + 11), .ref (y + 12), .ref (y + 13), .ref (y + 14), .ref (y + 15), .ref (y + 16), .int 0, .long (-1), .ref (y + 17), .ref (y + 18), .ref (y + 19), .ref (y + 20), .ref (y + 21), .ref (y + 22), .int 0, .ref (y + 23), .ref (y + 24), .int 0, .ref (y + 25), .int 0, .int 0, .int 0, .int (-1), .int 0, .int 0, .int 0, .long 0]) := ((fr4 y).trans ((fr3 y).trans h_4))
  have h_7 : Φ5 (y + 2) = some (ai_ G 307 (upd (upd (upd (upd (upd (upd (upd (upd (upd (upd (upd (upd (upd (upd (upd (upd (upd (upd (upd (upd (upd (fun _ => 0) (0 : Int32).toNatClampNeg 1) (1 : Int32).toNatClampNeg 100) (2 : Int32).toNatClampNeg 1000) (3 : Int32).toNatClampNeg 100) (4 : Int32).toNatClampNeg 20) (5 : Int32).toNatClampNeg 1000) (6 : Int32).toNatClampNeg 5000) (7 : Int32).toNatClampNeg 512) (8 : Int32).toNatClampNeg 1) (9 : Int32).toNatClampNeg 511) (10 : Int32).toNatClampNeg 1) (11 : Int32).toNatClampNeg 9) (15 : Int32).toNatClampNeg 0) (16 : Int32).toNatClampNeg 1) (17 : Int32).toNatClampNeg 2) (18 : Int32).toNatClampNeg 3) (19 : Int32).toNatClampNeg 4) (20 : Int32).toNatClampNeg 5) (21 : Int32).toNatClampNeg 6) (22 : Int32).toNatClampNeg 7) (23 : Int32).toNatClampNeg 8)) := ((fr4 (y + 2)).trans ((fr3 (y + 2)).trans h_5))
  refine z_callV (As := [.int 0, .int 4]) (rest := []) B (m_fieldOf_4 G l Φ5 sz y h_6 h_7) (cwV 2 B.1.2.2.2.2 gX12_fieldAt_X12_fieldOf rfl rfl rfl (by decide +kernel) ⟨Nat.le_of_ble_eq_true rfl, Nat.le_of_ble_eq_true rfl⟩) h_6 rfl rfl rfl rfl (Nat.le_of_ble_eq_true rfl) dX12_fieldAt_50 ⟨Nat.le_of_ble_eq_true rfl, Nat.le_of_ble_eq_true rfl⟩ (fun v5 Φ6 sz5 st5 hp5 hs5 => ?_)
  obtain ⟨rfl, hq5, fr5⟩ := hp5
  replace hq5 : sz5 = sz := hq5
  subst sz5
  replace hs5 : st5 = [.int 4] := hs5
  subst st5
  refine z_goto (tgt := 57) B dX12_fieldAt_53 rfl ?_
  have h_8 : Φ6 y = some (o_ 14 [.int 0, .ref (y + 1), .ref (y + 2), .int 0, .int 1, .int 1, .int 0, .int 0, .ref (y + 3), .ref (y + 4), .int 0, .long 0, .ref (y + 5), .int 0, .int 0, .long 0, .long 0, .long 0, .long 0, .ref (y + 6), .ref (y + 7), .int 0, .ref (y + 8), .int 0, .ref (y + 9), .ref (y + 10), .int 0, .ref (y + 11), .ref (y + 12), .ref (y + 13), .ref (y + 14), .ref (y + 15), .ref (y + 16), .int 0, .long (-1), .ref (y + 17), .ref (y + 18), .ref (y + 19), .ref (y + 20), .ref (y + 21), .ref (y + 22), .int 0, .ref (y + 23), .ref (y + 24), .int 0, .ref (y + 25), .int 0, .int 0, .int 0, .int (-1), .int 0, .int 0, .int 0, .long 0]) := ((fr5 y).trans h_6)
  exact z_ret_i B dX12_fieldAt_57 ⟨rfl, ⟨_, h_8, rfl⟩, fun b9 h9 => ((fr5 b9).trans ((fr4 b9).trans ((fr3 b9).trans ((fr2 b9).trans ((fr1 b9).trans ((fset_fr hΦ1 (Nat.ne_of_gt (Nat.lt_of_lt_of_le (lt_off (x := y) (i := 0) (j := 26) rfl) h9))).trans rfl))))))⟩

set_option maxHeartbeats 4000000 in
set_option maxRecDepth 100000 in
theorem m_X12_fieldAt_5 (G : EnvG) (l : Launch) (Φ : Hm) (sz : Nat) (y : Nat) (hc0_ : Φ y = some (o_ 14 [.int 0, .ref (y + 1), .ref (y + 2), .int 0, .int 1, .int 1, .int 0, .int 0, .ref (y + 3), .ref (y + 4), .int 0, .long 0, .ref (y + 5), .int 0, .int 0, .long 0, .long 0, .long 0, .long 0, .ref (y + 6), .ref (y + 7), .int 0, .ref (y + 8), .int 0, .ref (y + 9), .ref (y + 10), .int 0, .ref (y + 11), .ref (y + 12), .ref (y + 13), .ref (y + 14), .ref (y + 15), .ref (y + 16), .int 0, .long (-1), .ref (y + 17), .ref (y + 18), .ref (y + 19), .ref (y + 20), .ref (y + 21), .ref (y + 22), .int 0, .ref (y + 23), .ref (y + 24), .int 0, .ref (y + 25), .int 0, .int 0, .int 0, .int (-1), .int 0, .int 0, .int 0, .long 0])) (hc2_ : Φ (y + 2) = some (ai_ G 307 (upd (upd (upd (upd (upd (upd (upd (upd (upd (upd (upd (upd (upd (upd (upd (upd (upd (upd (upd (upd (upd (fun _ => 0) (0 : Int32).toNatClampNeg 1) (1 : Int32).toNatClampNeg 100) (2 : Int32).toNatClampNeg 1000) (3 : Int32).toNatClampNeg 100) (4 : Int32).toNatClampNeg 20) (5 : Int32).toNatClampNeg 1000) (6 : Int32).toNatClampNeg 5000) (7 : Int32).toNatClampNeg 512) (8 : Int32).toNatClampNeg 1) (9 : Int32).toNatClampNeg 511) (10 : Int32).toNatClampNeg 1) (11 : Int32).toNatClampNeg 9) (15 : Int32).toNatClampNeg 0) (16 : Int32).toNatClampNeg 1) (17 : Int32).toNatClampNeg 2) (18 : Int32).toNatClampNeg 3) (19 : Int32).toNatClampNeg 4) (20 : Int32).toNatClampNeg 5) (21 : Int32).toNatClampNeg 6) (22 : Int32).toNatClampNeg 7) (23 : Int32).toNatClampNeg 8))) (hna : G.2.2.2 ≤ y) : Ct G l yX12_fieldAt wsX12_fieldAt ({ frames := 2, cells := 0, slots := 0, locals := 46 }) 0 0 [.ref y, .int 0, .int 5] Φ sz (fun v Φ1 sz1 => v = some (.int 5) ∧ (∃ fs : List Value, Φ1 y = some (o_ 14 fs) ∧ fs[0]? = some (.int 0)) ∧ ∀ b9 : Nat, y + 26 ≤ b9 → Φ1 b9 = Φ b9) := by
  refine Ct.of (cc := cX12_fieldAt) (maxL := 3) (ret := (some .int)) (by decide) rfl (Nat.le_of_ble_eq_true rfl) ?_
  intro p9 e9 s9 m9 w9 t9 k9 B
  show Z p9 l e9 _ s9 m9 _ w9 t9 k9 _ G 3 0 [(0, .ref y), (1, .int 0), (2, .int 5)] [] Φ sz 0 0
  refine z_aload_n B dX12_fieldAt_0 rfl 0 rfl ?_
  refine z_iconst (v := 0) B dX12_fieldAt_1 rfl ?_
  refine z_put (ref := "FlowExporterModel") (C := RX12) (T := TX12) (N := 54) (ci := 14) (v := .int 0) B (by decide +kernel) tyX12 tyX12_ok nmX12 rfl 0 (by decide) (by decide +kernel) rfl (Or.inl rfl) hc0_ hna rfl rfl (Nat.le_of_ble_eq_true rfl) dX12_fieldAt_2 (fun Φ1 hΦ1 => ?_)
  have h_1 : Φ1 y = some (o_ 14 [.int 0, .ref (y + 1), .ref (y + 2), .int 0, .int 1, .int 1, .int 0, .int 0, .ref (y + 3), .ref (y + 4), .int 0, .long 0, .ref (y + 5), .int 0, .int 0, .long 0, .long 0, .long 0, .long 0, .ref (y + 6), .ref (y + 7), .int 0, .ref (y + 8), .int 0, .ref (y + 9), .ref (y + 10), .int 0, .ref (y + 11), .ref (y + 12), .ref (y + 13), .ref (y + 14), .ref (y + 15), .ref (y + 16), .int 0, .long (-1), .ref (y + 17), .ref (y + 18), .ref (y + 19), .ref (y + 20), .ref (y + 21), .ref (y + 22), .int 0, .ref (y + 23), .ref (y + 24), .int 0, .ref (y + 25), .int 0, .int 0, .int 0, .int (-1), .int 0, .int 0, .int 0, .long 0]) := fset_at hΦ1
  refine z_aload_n B dX12_fieldAt_5 rfl 0 rfl ?_
  refine z_aload_n B dX12_fieldAt_6 rfl 0 rfl ?_
  refine z_iload_n B dX12_fieldAt_7 rfl 1 rfl ?_
  have h_2 : Φ1 (y + 2) = some (ai_ G 307 (upd (upd (upd (upd (upd (upd (upd (upd (upd (upd (upd (upd (upd (upd (upd (upd (upd (upd (upd (upd (upd (fun _ => 0) (0 : Int32).toNatClampNeg 1) (1 : Int32).toNatClampNeg 100) (2 : Int32).toNatClampNeg 1000) (3 : Int32).toNatClampNeg 100) (4 : Int32).toNatClampNeg 20) (5 : Int32).toNatClampNeg 1000) (6 : Int32).toNatClampNeg 5000) (7 : Int32).toNatClampNeg 512) (8 : Int32).toNatClampNeg 1) (9 : Int32).toNatClampNeg 511) (10 : Int32).toNatClampNeg 1) (11 : Int32).toNatClampNeg 9) (15 : Int32).toNatClampNeg 0) (16 : Int32).toNatClampNeg 1) (17 : Int32).toNatClampNeg 2) (18 : Int32).toNatClampNeg 3) (19 : Int32).toNatClampNeg 4) (20 : Int32).toNatClampNeg 5) (21 : Int32).toNatClampNeg 6) (22 : Int32).toNatClampNeg 7) (23 : Int32).toNatClampNeg 8)) := ((fset_fr hΦ1 (ne_off (x := y) (i := 2) (j := 0) rfl)).trans hc2_)
  refine z_callV (As := [.int 0]) (rest := [.ref y]) B (m_isTemplate_0 G l Φ1 sz y h_1 h_2) (cwV 1 B.1.2.2.2.2 gX12_fieldAt_X12_isTemplate rfl rfl rfl (by decide +kernel) ⟨Nat.le_of_ble_eq_true rfl, Nat.le_of_ble_eq_true rfl⟩) h_1 rfl rfl rfl rfl (Nat.le_of_ble_eq_true rfl) dX12_fieldAt_8 ⟨Nat.le_of_ble_eq_true rfl, Nat.le_of_ble_eq_true rfl⟩ (fun v1 Φ2 sz1 st1 hp1 hs1 => ?_)
  obtain ⟨rfl, hq1, fr1⟩ := hp1
  replace hq1 : sz1 = sz := hq1
  subst sz1
  replace hs1 : st1 = [.int 1, .ref y] := hs1
  subst st1
  refine z_if_ne (tgt := 18) B dX12_fieldAt_11 rfl (fun c_1 => ?_) (fun h9 => absurd h9 (by decide))
  refine z_iconst (v := 0) B dX12_fieldAt_18 rfl ?_
  refine z_iconst (v := 1) B dX12_fieldAt_19 rfl ?_
  have h_3 : Φ2 y = some (o_ 14 [.int 0, .ref (y + 1), .ref (y + 2), .int 0, .int 1, .int 1, .int 0, .int 0, .ref (y + 3), .ref (y + 4), .int 0, .long 0, .ref (y + 5), .int 0, .int 0, .long 0, .long 0, .long 0, .long 0, .ref (y + 6), .ref (y + 7), .int 0, .ref (y + 8), .int 0, .ref (y + 9), .ref (y + 10), .int 0, .ref (y + 11), .ref (y + 12), .ref (y + 13), .ref (y + 14), .ref (y + 15), .ref (y + 16), .int 0, .long (-1), .ref (y + 17), .ref (y + 18), .ref (y + 19), .ref (y + 20), .ref (y + 21), .ref (y + 22), .int 0, .ref (y + 23), .ref (y + 24), .int 0, .ref (y + 25), .int 0, .int 0, .int 0, .int (-1), .int 0, .int 0, .int 0, .long 0]) := ((fr1 y).trans h_1)
  refine z_callV (As := [.int 0, .int 1]) (rest := []) B (c_X12_throwsIf_0 G l Φ2 sz y 0 0 1 1 0 0 0 0 0 0 0 0 0 0 0 0 0 0 (-1) 0 0 0 0 0 (-1) 0 0 0 0 1 h_3 hna) (cwV 2 B.1.2.2.2.2 gX12_fieldAt_X12_throwsIf rfl rfl rfl (by decide +kernel) ⟨Nat.le_of_ble_eq_true rfl, Nat.le_of_ble_eq_true rfl⟩) h_3 rfl rfl rfl rfl (Nat.le_of_ble_eq_true rfl) dX12_fieldAt_20 ⟨Nat.le_of_ble_eq_true rfl, Nat.le_of_ble_eq_true rfl⟩ (fun v2 Φ3 sz2 st2 hp2 hs2 => ?_)
  obtain ⟨rfl, hq2, fr2⟩ := hp2
  replace hq2 : sz2 = sz := hq2
  subst sz2
  replace hs2 : st2 = [.int 0] := hs2
  subst st2
  refine z_if_eq (tgt := 30) B dX12_fieldAt_23 rfl (fun c_2 => ?_) (fun h9 => absurd (by decide) h9)
  refine z_iload_n B dX12_fieldAt_30 rfl 2 rfl ?_
  refine z_i2l (v := 5) B dX12_fieldAt_31 (by decide +kernel) ?_
  refine z_lconst (v := 0) B dX12_fieldAt_32 rfl ?_
  refine z_aload_n B dX12_fieldAt_33 rfl 0 rfl ?_
  refine z_iload_n B dX12_fieldAt_34 rfl 1 rfl ?_
  have h_4 : Φ3 y = some (o_ 14 [.int 0, .ref (y + 1), .ref (y + 2), .int 0, .int 1, .int 1, .int 0, .int 0, .ref (y + 3), .ref (y + 4), .int 0, .long 0, .ref (y + 5), .int 0, .int 0, .long 0, .long 0, .long 0, .long 0, .ref (y + 6), .ref (y + 7), .int 0, .ref (y + 8), .int 0, .ref (y + 9), .ref (y + 10), .int 0, .ref (y + 11), .ref (y + 12), .ref (y + 13), .ref (y + 14), .ref (y + 15), .ref (y + 16), .int 0, .long (-1), .ref (y + 17), .ref (y + 18), .ref (y + 19), .ref (y + 20), .ref (y + 21), .ref (y + 22), .int 0, .ref (y + 23), .ref (y + 24), .int 0, .ref (y + 25), .int 0, .int 0, .int 0, .int (-1), .int 0, .int 0, .int 0, .long 0]) := ((fr2 y).trans h_3)
  have h_5 : Φ3 (y + 2) = some (ai_ G 307 (upd (upd (upd (upd (upd (upd (upd (upd (upd (upd (upd (upd (upd (upd (upd (upd (upd (upd (upd (upd (upd (fun _ => 0) (0 : Int32).toNatClampNeg 1) (1 : Int32).toNatClampNeg 100) (2 : Int32).toNatClampNeg 1000) (3 : Int32).toNatClampNeg 100) (4 : Int32).toNatClampNeg 20) (5 : Int32).toNatClampNeg 1000) (6 : Int32).toNatClampNeg 5000) (7 : Int32).toNatClampNeg 512) (8 : Int32).toNatClampNeg 1) (9 : Int32).toNatClampNeg 511) (10 : Int32).toNatClampNeg 1) (11 : Int32).toNatClampNeg 9) (15 : Int32).toNatClampNeg 0) (16 : Int32).toNatClampNeg 1) (17 : Int32).toNatClampNeg 2) (18 : Int32).toNatClampNeg 3) (19 : Int32).toNatClampNeg 4) (20 : Int32).toNatClampNeg 5) (21 : Int32).toNatClampNeg 6) (22 : Int32).toNatClampNeg 7) (23 : Int32).toNatClampNeg 8)) := ((fr2 (y + 2)).trans ((fr1 (y + 2)).trans h_2))
  refine z_callV (As := [.int 0]) (rest := [.long 0, .long 5]) B (m_sizeOf_0 G l Φ3 sz y h_4 h_5) (cwV 1 B.1.2.2.2.2 gX12_fieldAt_X12_sizeOf rfl rfl rfl (by decide +kernel) ⟨Nat.le_of_ble_eq_true rfl, Nat.le_of_ble_eq_true rfl⟩) h_4 rfl rfl rfl rfl (Nat.le_of_ble_eq_true rfl) dX12_fieldAt_35 ⟨Nat.le_of_ble_eq_true rfl, Nat.le_of_ble_eq_true rfl⟩ (fun v3 Φ4 sz3 st3 hp3 hs3 => ?_)
  obtain ⟨rfl, hq3, fr3⟩ := hp3
  replace hq3 : sz3 = sz := hq3
  subst sz3
  replace hs3 : st3 = [.int 9, .long 0, .long 5] := hs3
  subst st3
  refine z_iconst (v := 1) B dX12_fieldAt_38 rfl ?_
  refine z_isub B dX12_fieldAt_39 ?_
  refine z_top (st1 := [.int 8, .long 0, .long 5]) (congrArg (fun w9 : Int32 => ([.int w9, .long 0, .long 5] : List Value)) (show (9 - 1 : Int32) = 8 by decide +kernel)) ?_
  refine z_i2l (v := 8) B dX12_fieldAt_40 (by decide +kernel) ?_
  refine z_callS (As := [.long 5, .long 0, .long 8]) (rest := []) B (c_X12_inRange_1 G l Φ4 sz 5 0 8 ⟨by decide +kernel, by decide +kernel⟩) (va_cwS 3 B.1.2.2.2.2 gX12_fieldAt_X12_inRange rfl rfl rfl (by decide +kernel) ⟨Nat.le_of_ble_eq_true rfl, Nat.le_of_ble_eq_true rfl⟩) rfl rfl (Nat.le_of_ble_eq_true rfl) dX12_fieldAt_41 ⟨Nat.le_of_ble_eq_true rfl, Nat.le_of_ble_eq_true rfl⟩ (fun v4 Φ5 sz4 st4 hp4 hs4 => ?_)
  obtain ⟨rfl, hq4, fr4⟩ := hp4
  replace hq4 : sz4 = sz := hq4
  subst sz4
  replace hs4 : st4 = [.int 1] := hs4
  subst st4
  refine z_if_eq (tgt := 56) B dX12_fieldAt_44 rfl (fun h9 => absurd h9 (by decide)) (fun c_3 => ?_)
  refine z_aload_n B dX12_fieldAt_47 rfl 0 rfl ?_
  refine z_iload_n B dX12_fieldAt_48 rfl 1 rfl ?_
  refine z_iload_n B dX12_fieldAt_49 rfl 2 rfl ?_
  have h_6 : Φ5 y = some (o_ 14 [.int 0, .ref (y + 1), .ref (y + 2), .int 0, .int 1, .int 1, .int 0, .int 0, .ref (y + 3), .ref (y + 4), .int 0, .long 0, .ref (y + 5), .int 0, .int 0, .long 0, .long 0, .long 0, .long 0, .ref (y + 6), .ref (y + 7), .int 0, .ref (y + 8), .int 0, .ref (y + 9), .ref (y + 10), .int 0, .ref (y + 11), .ref (y + 12), .ref (y + 13), .ref (y + 14), .ref (y + 15), .ref (y + 16), .int 0, .long (-1), .ref (y + 17), .ref (y + 18), .ref (y + 19), .ref (y + 20), .ref (y + 21), .ref (y + 22), .int 0, .ref (y + 23), .ref (y + 24), .int 0, .ref (y + 25), .int 0, .int 0, .int 0, .int (-1), .int 0, .int 0, .int 0, .long 0]) := ((fr4 y).trans ((fr3 y).trans h_4))
  have h_7 : Φ5 (y + 2) = some (ai_ G 307 (upd (upd (upd (upd (upd (upd (upd (upd (upd (upd (upd (upd (upd (upd (upd (upd (upd (upd (upd (upd (upd (fun _ => 0) (0 : Int32).toNatClampNeg 1) (1 : Int32).toNatClampNeg 100) (2 : Int32).toNatClampNeg 1000) (3 : Int32).toNatClampNeg 100) (4 : Int32).toNatClampNeg 20) (5 : Int32).toNatClampNeg 1000) (6 : Int32).toNatClampNeg 5000) (7 : Int32).toNatClampNeg 512) (8 : Int32).toNatClampNeg 1) (9 : Int32).toNatClampNeg 511) (10 : Int32).toNatClampNeg 1) (11 : Int32).toNatClampNeg 9) (15 : Int32).toNatClampNeg 0) (16 : Int32).toNatClampNeg 1) (17 : Int32).toNatClampNeg 2) (18 : Int32).toNatClampNeg 3) (19 : Int32).toNatClampNeg 4) (20 : Int32).toNatClampNeg 5) (21 : Int32).toNatClampNeg 6) (22 : Int32).toNatClampNeg 7) (23 : Int32).toNatClampNeg 8)) := ((fr4 (y + 2)).trans ((fr3 (y + 2)).trans h_5))
  refine z_callV (As := [.int 0, .int 5]) (rest := []) B (m_fieldOf_5 G l Φ5 sz y h_6 h_7) (cwV 2 B.1.2.2.2.2 gX12_fieldAt_X12_fieldOf rfl rfl rfl (by decide +kernel) ⟨Nat.le_of_ble_eq_true rfl, Nat.le_of_ble_eq_true rfl⟩) h_6 rfl rfl rfl rfl (Nat.le_of_ble_eq_true rfl) dX12_fieldAt_50 ⟨Nat.le_of_ble_eq_true rfl, Nat.le_of_ble_eq_true rfl⟩ (fun v5 Φ6 sz5 st5 hp5 hs5 => ?_)
  obtain ⟨rfl, hq5, fr5⟩ := hp5
  replace hq5 : sz5 = sz := hq5
  subst sz5
  replace hs5 : st5 = [.int 5] := hs5
  subst st5
  refine z_goto (tgt := 57) B dX12_fieldAt_53 rfl ?_
  have h_8 : Φ6 y = some (o_ 14 [.int 0, .ref (y + 1), .ref (y + 2), .int 0, .int 1, .int 1, .int 0, .int 0, .ref (y + 3), .ref (y + 4), .int 0, .long 0, .ref (y + 5), .int 0, .int 0, .long 0, .long 0, .long 0, .long 0, .ref (y + 6), .ref (y + 7), .int 0, .ref (y + 8), .int 0, .ref (y + 9), .ref (y + 10), .int 0, .ref (y + 11), .ref (y + 12), .ref (y + 13), .ref (y + 14), .ref (y + 15), .ref (y + 16), .int 0, .long (-1), .ref (y + 17), .ref (y + 18), .ref (y + 19), .ref (y + 20), .ref (y + 21), .ref (y + 22), .int 0, .ref (y + 23), .ref (y + 24), .int 0, .ref (y + 25), .int 0, .int 0, .int 0, .int (-1), .int 0, .int 0, .int 0, .long 0]) := ((fr5 y).trans h_6)
  exact z_ret_i B dX12_fieldAt_57 ⟨rfl, ⟨_, h_8, rfl⟩, fun b9 h9 => ((fr5 b9).trans ((fr4 b9).trans ((fr3 b9).trans ((fr2 b9).trans ((fr1 b9).trans ((fset_fr hΦ1 (Nat.ne_of_gt (Nat.lt_of_lt_of_le (lt_off (x := y) (i := 0) (j := 26) rfl) h9))).trans rfl))))))⟩

set_option maxHeartbeats 4000000 in
set_option maxRecDepth 100000 in
theorem m_X12_fieldAt_6 (G : EnvG) (l : Launch) (Φ : Hm) (sz : Nat) (y : Nat) (hc0_ : Φ y = some (o_ 14 [.int 0, .ref (y + 1), .ref (y + 2), .int 0, .int 1, .int 1, .int 0, .int 0, .ref (y + 3), .ref (y + 4), .int 0, .long 0, .ref (y + 5), .int 0, .int 0, .long 0, .long 0, .long 0, .long 0, .ref (y + 6), .ref (y + 7), .int 0, .ref (y + 8), .int 0, .ref (y + 9), .ref (y + 10), .int 0, .ref (y + 11), .ref (y + 12), .ref (y + 13), .ref (y + 14), .ref (y + 15), .ref (y + 16), .int 0, .long (-1), .ref (y + 17), .ref (y + 18), .ref (y + 19), .ref (y + 20), .ref (y + 21), .ref (y + 22), .int 0, .ref (y + 23), .ref (y + 24), .int 0, .ref (y + 25), .int 0, .int 0, .int 0, .int (-1), .int 0, .int 0, .int 0, .long 0])) (hc2_ : Φ (y + 2) = some (ai_ G 307 (upd (upd (upd (upd (upd (upd (upd (upd (upd (upd (upd (upd (upd (upd (upd (upd (upd (upd (upd (upd (upd (fun _ => 0) (0 : Int32).toNatClampNeg 1) (1 : Int32).toNatClampNeg 100) (2 : Int32).toNatClampNeg 1000) (3 : Int32).toNatClampNeg 100) (4 : Int32).toNatClampNeg 20) (5 : Int32).toNatClampNeg 1000) (6 : Int32).toNatClampNeg 5000) (7 : Int32).toNatClampNeg 512) (8 : Int32).toNatClampNeg 1) (9 : Int32).toNatClampNeg 511) (10 : Int32).toNatClampNeg 1) (11 : Int32).toNatClampNeg 9) (15 : Int32).toNatClampNeg 0) (16 : Int32).toNatClampNeg 1) (17 : Int32).toNatClampNeg 2) (18 : Int32).toNatClampNeg 3) (19 : Int32).toNatClampNeg 4) (20 : Int32).toNatClampNeg 5) (21 : Int32).toNatClampNeg 6) (22 : Int32).toNatClampNeg 7) (23 : Int32).toNatClampNeg 8))) (hna : G.2.2.2 ≤ y) : Ct G l yX12_fieldAt wsX12_fieldAt ({ frames := 2, cells := 0, slots := 0, locals := 46 }) 0 0 [.ref y, .int 0, .int 6] Φ sz (fun v Φ1 sz1 => v = some (.int 6) ∧ (∃ fs : List Value, Φ1 y = some (o_ 14 fs) ∧ fs[0]? = some (.int 0)) ∧ ∀ b9 : Nat, y + 26 ≤ b9 → Φ1 b9 = Φ b9) := by
  refine Ct.of (cc := cX12_fieldAt) (maxL := 3) (ret := (some .int)) (by decide) rfl (Nat.le_of_ble_eq_true rfl) ?_
  intro p9 e9 s9 m9 w9 t9 k9 B
  show Z p9 l e9 _ s9 m9 _ w9 t9 k9 _ G 3 0 [(0, .ref y), (1, .int 0), (2, .int 6)] [] Φ sz 0 0
  refine z_aload_n B dX12_fieldAt_0 rfl 0 rfl ?_
  refine z_iconst (v := 0) B dX12_fieldAt_1 rfl ?_
  refine z_put (ref := "FlowExporterModel") (C := RX12) (T := TX12) (N := 54) (ci := 14) (v := .int 0) B (by decide +kernel) tyX12 tyX12_ok nmX12 rfl 0 (by decide) (by decide +kernel) rfl (Or.inl rfl) hc0_ hna rfl rfl (Nat.le_of_ble_eq_true rfl) dX12_fieldAt_2 (fun Φ1 hΦ1 => ?_)
  have h_1 : Φ1 y = some (o_ 14 [.int 0, .ref (y + 1), .ref (y + 2), .int 0, .int 1, .int 1, .int 0, .int 0, .ref (y + 3), .ref (y + 4), .int 0, .long 0, .ref (y + 5), .int 0, .int 0, .long 0, .long 0, .long 0, .long 0, .ref (y + 6), .ref (y + 7), .int 0, .ref (y + 8), .int 0, .ref (y + 9), .ref (y + 10), .int 0, .ref (y + 11), .ref (y + 12), .ref (y + 13), .ref (y + 14), .ref (y + 15), .ref (y + 16), .int 0, .long (-1), .ref (y + 17), .ref (y + 18), .ref (y + 19), .ref (y + 20), .ref (y + 21), .ref (y + 22), .int 0, .ref (y + 23), .ref (y + 24), .int 0, .ref (y + 25), .int 0, .int 0, .int 0, .int (-1), .int 0, .int 0, .int 0, .long 0]) := fset_at hΦ1
  refine z_aload_n B dX12_fieldAt_5 rfl 0 rfl ?_
  refine z_aload_n B dX12_fieldAt_6 rfl 0 rfl ?_
  refine z_iload_n B dX12_fieldAt_7 rfl 1 rfl ?_
  have h_2 : Φ1 (y + 2) = some (ai_ G 307 (upd (upd (upd (upd (upd (upd (upd (upd (upd (upd (upd (upd (upd (upd (upd (upd (upd (upd (upd (upd (upd (fun _ => 0) (0 : Int32).toNatClampNeg 1) (1 : Int32).toNatClampNeg 100) (2 : Int32).toNatClampNeg 1000) (3 : Int32).toNatClampNeg 100) (4 : Int32).toNatClampNeg 20) (5 : Int32).toNatClampNeg 1000) (6 : Int32).toNatClampNeg 5000) (7 : Int32).toNatClampNeg 512) (8 : Int32).toNatClampNeg 1) (9 : Int32).toNatClampNeg 511) (10 : Int32).toNatClampNeg 1) (11 : Int32).toNatClampNeg 9) (15 : Int32).toNatClampNeg 0) (16 : Int32).toNatClampNeg 1) (17 : Int32).toNatClampNeg 2) (18 : Int32).toNatClampNeg 3) (19 : Int32).toNatClampNeg 4) (20 : Int32).toNatClampNeg 5) (21 : Int32).toNatClampNeg 6) (22 : Int32).toNatClampNeg 7) (23 : Int32).toNatClampNeg 8)) := ((fset_fr hΦ1 (ne_off (x := y) (i := 2) (j := 0) rfl)).trans hc2_)
  refine z_callV (As := [.int 0]) (rest := [.ref y]) B (m_isTemplate_0 G l Φ1 sz y h_1 h_2) (cwV 1 B.1.2.2.2.2 gX12_fieldAt_X12_isTemplate rfl rfl rfl (by decide +kernel) ⟨Nat.le_of_ble_eq_true rfl, Nat.le_of_ble_eq_true rfl⟩) h_1 rfl rfl rfl rfl (Nat.le_of_ble_eq_true rfl) dX12_fieldAt_8 ⟨Nat.le_of_ble_eq_true rfl, Nat.le_of_ble_eq_true rfl⟩ (fun v1 Φ2 sz1 st1 hp1 hs1 => ?_)
  obtain ⟨rfl, hq1, fr1⟩ := hp1
  replace hq1 : sz1 = sz := hq1
  subst sz1
  replace hs1 : st1 = [.int 1, .ref y] := hs1
  subst st1
  refine z_if_ne (tgt := 18) B dX12_fieldAt_11 rfl (fun c_1 => ?_) (fun h9 => absurd h9 (by decide))
  refine z_iconst (v := 0) B dX12_fieldAt_18 rfl ?_
  refine z_iconst (v := 1) B dX12_fieldAt_19 rfl ?_
  have h_3 : Φ2 y = some (o_ 14 [.int 0, .ref (y + 1), .ref (y + 2), .int 0, .int 1, .int 1, .int 0, .int 0, .ref (y + 3), .ref (y + 4), .int 0, .long 0, .ref (y + 5), .int 0, .int 0, .long 0, .long 0, .long 0, .long 0, .ref (y + 6), .ref (y + 7), .int 0, .ref (y + 8), .int 0, .ref (y + 9), .ref (y + 10), .int 0, .ref (y + 11), .ref (y + 12), .ref (y + 13), .ref (y + 14), .ref (y + 15), .ref (y + 16), .int 0, .long (-1), .ref (y + 17), .ref (y + 18), .ref (y + 19), .ref (y + 20), .ref (y + 21), .ref (y + 22), .int 0, .ref (y + 23), .ref (y + 24), .int 0, .ref (y + 25), .int 0, .int 0, .int 0, .int (-1), .int 0, .int 0, .int 0, .long 0]) := ((fr1 y).trans h_1)
  refine z_callV (As := [.int 0, .int 1]) (rest := []) B (c_X12_throwsIf_0 G l Φ2 sz y 0 0 1 1 0 0 0 0 0 0 0 0 0 0 0 0 0 0 (-1) 0 0 0 0 0 (-1) 0 0 0 0 1 h_3 hna) (cwV 2 B.1.2.2.2.2 gX12_fieldAt_X12_throwsIf rfl rfl rfl (by decide +kernel) ⟨Nat.le_of_ble_eq_true rfl, Nat.le_of_ble_eq_true rfl⟩) h_3 rfl rfl rfl rfl (Nat.le_of_ble_eq_true rfl) dX12_fieldAt_20 ⟨Nat.le_of_ble_eq_true rfl, Nat.le_of_ble_eq_true rfl⟩ (fun v2 Φ3 sz2 st2 hp2 hs2 => ?_)
  obtain ⟨rfl, hq2, fr2⟩ := hp2
  replace hq2 : sz2 = sz := hq2
  subst sz2
  replace hs2 : st2 = [.int 0] := hs2
  subst st2
  refine z_if_eq (tgt := 30) B dX12_fieldAt_23 rfl (fun c_2 => ?_) (fun h9 => absurd (by decide) h9)
  refine z_iload_n B dX12_fieldAt_30 rfl 2 rfl ?_
  refine z_i2l (v := 6) B dX12_fieldAt_31 (by decide +kernel) ?_
  refine z_lconst (v := 0) B dX12_fieldAt_32 rfl ?_
  refine z_aload_n B dX12_fieldAt_33 rfl 0 rfl ?_
  refine z_iload_n B dX12_fieldAt_34 rfl 1 rfl ?_
  have h_4 : Φ3 y = some (o_ 14 [.int 0, .ref (y + 1), .ref (y + 2), .int 0, .int 1, .int 1, .int 0, .int 0, .ref (y + 3), .ref (y + 4), .int 0, .long 0, .ref (y + 5), .int 0, .int 0, .long 0, .long 0, .long 0, .long 0, .ref (y + 6), .ref (y + 7), .int 0, .ref (y + 8), .int 0, .ref (y + 9), .ref (y + 10), .int 0, .ref (y + 11), .ref (y + 12), .ref (y + 13), .ref (y + 14), .ref (y + 15), .ref (y + 16), .int 0, .long (-1), .ref (y + 17), .ref (y + 18), .ref (y + 19), .ref (y + 20), .ref (y + 21), .ref (y + 22), .int 0, .ref (y + 23), .ref (y + 24), .int 0, .ref (y + 25), .int 0, .int 0, .int 0, .int (-1), .int 0, .int 0, .int 0, .long 0]) := ((fr2 y).trans h_3)
  have h_5 : Φ3 (y + 2) = some (ai_ G 307 (upd (upd (upd (upd (upd (upd (upd (upd (upd (upd (upd (upd (upd (upd (upd (upd (upd (upd (upd (upd (upd (fun _ => 0) (0 : Int32).toNatClampNeg 1) (1 : Int32).toNatClampNeg 100) (2 : Int32).toNatClampNeg 1000) (3 : Int32).toNatClampNeg 100) (4 : Int32).toNatClampNeg 20) (5 : Int32).toNatClampNeg 1000) (6 : Int32).toNatClampNeg 5000) (7 : Int32).toNatClampNeg 512) (8 : Int32).toNatClampNeg 1) (9 : Int32).toNatClampNeg 511) (10 : Int32).toNatClampNeg 1) (11 : Int32).toNatClampNeg 9) (15 : Int32).toNatClampNeg 0) (16 : Int32).toNatClampNeg 1) (17 : Int32).toNatClampNeg 2) (18 : Int32).toNatClampNeg 3) (19 : Int32).toNatClampNeg 4) (20 : Int32).toNatClampNeg 5) (21 : Int32).toNatClampNeg 6) (22 : Int32).toNatClampNeg 7) (23 : Int32).toNatClampNeg 8)) := ((fr2 (y + 2)).trans ((fr1 (y + 2)).trans h_2))
  refine z_callV (As := [.int 0]) (rest := [.long 0, .long 6]) B (m_sizeOf_0 G l Φ3 sz y h_4 h_5) (cwV 1 B.1.2.2.2.2 gX12_fieldAt_X12_sizeOf rfl rfl rfl (by decide +kernel) ⟨Nat.le_of_ble_eq_true rfl, Nat.le_of_ble_eq_true rfl⟩) h_4 rfl rfl rfl rfl (Nat.le_of_ble_eq_true rfl) dX12_fieldAt_35 ⟨Nat.le_of_ble_eq_true rfl, Nat.le_of_ble_eq_true rfl⟩ (fun v3 Φ4 sz3 st3 hp3 hs3 => ?_)
  obtain ⟨rfl, hq3, fr3⟩ := hp3
  replace hq3 : sz3 = sz := hq3
  subst sz3
  replace hs3 : st3 = [.int 9, .long 0, .long 6] := hs3
  subst st3
  refine z_iconst (v := 1) B dX12_fieldAt_38 rfl ?_
  refine z_isub B dX12_fieldAt_39 ?_
  refine z_top (st1 := [.int 8, .long 0, .long 6]) (congrArg (fun w9 : Int32 => ([.int w9, .long 0, .long 6] : List Value)) (show (9 - 1 : Int32) = 8 by decide +kernel)) ?_
  refine z_i2l (v := 8) B dX12_fieldAt_40 (by decide +kernel) ?_
  refine z_callS (As := [.long 6, .long 0, .long 8]) (rest := []) B (c_X12_inRange_1 G l Φ4 sz 6 0 8 ⟨by decide +kernel, by decide +kernel⟩) (va_cwS 3 B.1.2.2.2.2 gX12_fieldAt_X12_inRange rfl rfl rfl (by decide +kernel) ⟨Nat.le_of_ble_eq_true rfl, Nat.le_of_ble_eq_true rfl⟩) rfl rfl (Nat.le_of_ble_eq_true rfl) dX12_fieldAt_41 ⟨Nat.le_of_ble_eq_true rfl, Nat.le_of_ble_eq_true rfl⟩ (fun v4 Φ5 sz4 st4 hp4 hs4 => ?_)
  obtain ⟨rfl, hq4, fr4⟩ := hp4
  replace hq4 : sz4 = sz := hq4
  subst sz4
  replace hs4 : st4 = [.int 1] := hs4
  subst st4
  refine z_if_eq (tgt := 56) B dX12_fieldAt_44 rfl (fun h9 => absurd h9 (by decide)) (fun c_3 => ?_)
  refine z_aload_n B dX12_fieldAt_47 rfl 0 rfl ?_
  refine z_iload_n B dX12_fieldAt_48 rfl 1 rfl ?_
  refine z_iload_n B dX12_fieldAt_49 rfl 2 rfl ?_
  have h_6 : Φ5 y = some (o_ 14 [.int 0, .ref (y + 1), .ref (y + 2), .int 0, .int 1, .int 1, .int 0, .int 0, .ref (y + 3), .ref (y + 4), .int 0, .long 0, .ref (y + 5), .int 0, .int 0, .long 0, .long 0, .long 0, .long 0, .ref (y + 6), .ref (y + 7), .int 0, .ref (y + 8), .int 0, .ref (y + 9), .ref (y + 10), .int 0, .ref (y + 11), .ref (y + 12), .ref (y + 13), .ref (y + 14), .ref (y + 15), .ref (y + 16), .int 0, .long (-1), .ref (y + 17), .ref (y + 18), .ref (y + 19), .ref (y + 20), .ref (y + 21), .ref (y + 22), .int 0, .ref (y + 23), .ref (y + 24), .int 0, .ref (y + 25), .int 0, .int 0, .int 0, .int (-1), .int 0, .int 0, .int 0, .long 0]) := ((fr4 y).trans ((fr3 y).trans h_4))
  have h_7 : Φ5 (y + 2) = some (ai_ G 307 (upd (upd (upd (upd (upd (upd (upd (upd (upd (upd (upd (upd (upd (upd (upd (upd (upd (upd (upd (upd (upd (fun _ => 0) (0 : Int32).toNatClampNeg 1) (1 : Int32).toNatClampNeg 100) (2 : Int32).toNatClampNeg 1000) (3 : Int32).toNatClampNeg 100) (4 : Int32).toNatClampNeg 20) (5 : Int32).toNatClampNeg 1000) (6 : Int32).toNatClampNeg 5000) (7 : Int32).toNatClampNeg 512) (8 : Int32).toNatClampNeg 1) (9 : Int32).toNatClampNeg 511) (10 : Int32).toNatClampNeg 1) (11 : Int32).toNatClampNeg 9) (15 : Int32).toNatClampNeg 0) (16 : Int32).toNatClampNeg 1) (17 : Int32).toNatClampNeg 2) (18 : Int32).toNatClampNeg 3) (19 : Int32).toNatClampNeg 4) (20 : Int32).toNatClampNeg 5) (21 : Int32).toNatClampNeg 6) (22 : Int32).toNatClampNeg 7) (23 : Int32).toNatClampNeg 8)) := ((fr4 (y + 2)).trans ((fr3 (y + 2)).trans h_5))
  refine z_callV (As := [.int 0, .int 6]) (rest := []) B (m_fieldOf_6 G l Φ5 sz y h_6 h_7) (cwV 2 B.1.2.2.2.2 gX12_fieldAt_X12_fieldOf rfl rfl rfl (by decide +kernel) ⟨Nat.le_of_ble_eq_true rfl, Nat.le_of_ble_eq_true rfl⟩) h_6 rfl rfl rfl rfl (Nat.le_of_ble_eq_true rfl) dX12_fieldAt_50 ⟨Nat.le_of_ble_eq_true rfl, Nat.le_of_ble_eq_true rfl⟩ (fun v5 Φ6 sz5 st5 hp5 hs5 => ?_)
  obtain ⟨rfl, hq5, fr5⟩ := hp5
  replace hq5 : sz5 = sz := hq5
  subst sz5
  replace hs5 : st5 = [.int 6] := hs5
  subst st5
  refine z_goto (tgt := 57) B dX12_fieldAt_53 rfl ?_
  have h_8 : Φ6 y = some (o_ 14 [.int 0, .ref (y + 1), .ref (y + 2), .int 0, .int 1, .int 1, .int 0, .int 0, .ref (y + 3), .ref (y + 4), .int 0, .long 0, .ref (y + 5), .int 0, .int 0, .long 0, .long 0, .long 0, .long 0, .ref (y + 6), .ref (y + 7), .int 0, .ref (y + 8), .int 0, .ref (y + 9), .ref (y + 10), .int 0, .ref (y + 11), .ref (y + 12), .ref (y + 13), .ref (y + 14), .ref (y + 15), .ref (y + 16), .int 0, .long (-1), .ref (y + 17), .ref (y + 18), .ref (y + 19), .ref (y + 20), .ref (y + 21), .ref (y + 22), .int 0, .ref (y + 23), .ref (y + 24), .int 0, .ref (y + 25), .int 0, .int 0, .int 0, .int (-1), .int 0, .int 0, .int 0, .long 0]) := ((fr5 y).trans h_6)
  exact z_ret_i B dX12_fieldAt_57 ⟨rfl, ⟨_, h_8, rfl⟩, fun b9 h9 => ((fr5 b9).trans ((fr4 b9).trans ((fr3 b9).trans ((fr2 b9).trans ((fr1 b9).trans ((fset_fr hΦ1 (Nat.ne_of_gt (Nat.lt_of_lt_of_le (lt_off (x := y) (i := 0) (j := 26) rfl) h9))).trans rfl))))))⟩

set_option maxHeartbeats 4000000 in
set_option maxRecDepth 100000 in
theorem m_X12_fieldAt_7 (G : EnvG) (l : Launch) (Φ : Hm) (sz : Nat) (y : Nat) (hc0_ : Φ y = some (o_ 14 [.int 0, .ref (y + 1), .ref (y + 2), .int 0, .int 1, .int 1, .int 0, .int 0, .ref (y + 3), .ref (y + 4), .int 0, .long 0, .ref (y + 5), .int 0, .int 0, .long 0, .long 0, .long 0, .long 0, .ref (y + 6), .ref (y + 7), .int 0, .ref (y + 8), .int 0, .ref (y + 9), .ref (y + 10), .int 0, .ref (y + 11), .ref (y + 12), .ref (y + 13), .ref (y + 14), .ref (y + 15), .ref (y + 16), .int 0, .long (-1), .ref (y + 17), .ref (y + 18), .ref (y + 19), .ref (y + 20), .ref (y + 21), .ref (y + 22), .int 0, .ref (y + 23), .ref (y + 24), .int 0, .ref (y + 25), .int 0, .int 0, .int 0, .int (-1), .int 0, .int 0, .int 0, .long 0])) (hc2_ : Φ (y + 2) = some (ai_ G 307 (upd (upd (upd (upd (upd (upd (upd (upd (upd (upd (upd (upd (upd (upd (upd (upd (upd (upd (upd (upd (upd (fun _ => 0) (0 : Int32).toNatClampNeg 1) (1 : Int32).toNatClampNeg 100) (2 : Int32).toNatClampNeg 1000) (3 : Int32).toNatClampNeg 100) (4 : Int32).toNatClampNeg 20) (5 : Int32).toNatClampNeg 1000) (6 : Int32).toNatClampNeg 5000) (7 : Int32).toNatClampNeg 512) (8 : Int32).toNatClampNeg 1) (9 : Int32).toNatClampNeg 511) (10 : Int32).toNatClampNeg 1) (11 : Int32).toNatClampNeg 9) (15 : Int32).toNatClampNeg 0) (16 : Int32).toNatClampNeg 1) (17 : Int32).toNatClampNeg 2) (18 : Int32).toNatClampNeg 3) (19 : Int32).toNatClampNeg 4) (20 : Int32).toNatClampNeg 5) (21 : Int32).toNatClampNeg 6) (22 : Int32).toNatClampNeg 7) (23 : Int32).toNatClampNeg 8))) (hna : G.2.2.2 ≤ y) : Ct G l yX12_fieldAt wsX12_fieldAt ({ frames := 2, cells := 0, slots := 0, locals := 46 }) 0 0 [.ref y, .int 0, .int 7] Φ sz (fun v Φ1 sz1 => v = some (.int 7) ∧ (∃ fs : List Value, Φ1 y = some (o_ 14 fs) ∧ fs[0]? = some (.int 0)) ∧ ∀ b9 : Nat, y + 26 ≤ b9 → Φ1 b9 = Φ b9) := by
  refine Ct.of (cc := cX12_fieldAt) (maxL := 3) (ret := (some .int)) (by decide) rfl (Nat.le_of_ble_eq_true rfl) ?_
  intro p9 e9 s9 m9 w9 t9 k9 B
  show Z p9 l e9 _ s9 m9 _ w9 t9 k9 _ G 3 0 [(0, .ref y), (1, .int 0), (2, .int 7)] [] Φ sz 0 0
  refine z_aload_n B dX12_fieldAt_0 rfl 0 rfl ?_
  refine z_iconst (v := 0) B dX12_fieldAt_1 rfl ?_
  refine z_put (ref := "FlowExporterModel") (C := RX12) (T := TX12) (N := 54) (ci := 14) (v := .int 0) B (by decide +kernel) tyX12 tyX12_ok nmX12 rfl 0 (by decide) (by decide +kernel) rfl (Or.inl rfl) hc0_ hna rfl rfl (Nat.le_of_ble_eq_true rfl) dX12_fieldAt_2 (fun Φ1 hΦ1 => ?_)
  have h_1 : Φ1 y = some (o_ 14 [.int 0, .ref (y + 1), .ref (y + 2), .int 0, .int 1, .int 1, .int 0, .int 0, .ref (y + 3), .ref (y + 4), .int 0, .long 0, .ref (y + 5), .int 0, .int 0, .long 0, .long 0, .long 0, .long 0, .ref (y + 6), .ref (y + 7), .int 0, .ref (y + 8), .int 0, .ref (y + 9), .ref (y + 10), .int 0, .ref (y + 11), .ref (y + 12), .ref (y + 13), .ref (y + 14), .ref (y + 15), .ref (y + 16), .int 0, .long (-1), .ref (y + 17), .ref (y + 18), .ref (y + 19), .ref (y + 20), .ref (y + 21), .ref (y + 22), .int 0, .ref (y + 23), .ref (y + 24), .int 0, .ref (y + 25), .int 0, .int 0, .int 0, .int (-1), .int 0, .int 0, .int 0, .long 0]) := fset_at hΦ1
  refine z_aload_n B dX12_fieldAt_5 rfl 0 rfl ?_
  refine z_aload_n B dX12_fieldAt_6 rfl 0 rfl ?_
  refine z_iload_n B dX12_fieldAt_7 rfl 1 rfl ?_
  have h_2 : Φ1 (y + 2) = some (ai_ G 307 (upd (upd (upd (upd (upd (upd (upd (upd (upd (upd (upd (upd (upd (upd (upd (upd (upd (upd (upd (upd (upd (fun _ => 0) (0 : Int32).toNatClampNeg 1) (1 : Int32).toNatClampNeg 100) (2 : Int32).toNatClampNeg 1000) (3 : Int32).toNatClampNeg 100) (4 : Int32).toNatClampNeg 20) (5 : Int32).toNatClampNeg 1000) (6 : Int32).toNatClampNeg 5000) (7 : Int32).toNatClampNeg 512) (8 : Int32).toNatClampNeg 1) (9 : Int32).toNatClampNeg 511) (10 : Int32).toNatClampNeg 1) (11 : Int32).toNatClampNeg 9) (15 : Int32).toNatClampNeg 0) (16 : Int32).toNatClampNeg 1) (17 : Int32).toNatClampNeg 2) (18 : Int32).toNatClampNeg 3) (19 : Int32).toNatClampNeg 4) (20 : Int32).toNatClampNeg 5) (21 : Int32).toNatClampNeg 6) (22 : Int32).toNatClampNeg 7) (23 : Int32).toNatClampNeg 8)) := ((fset_fr hΦ1 (ne_off (x := y) (i := 2) (j := 0) rfl)).trans hc2_)
  refine z_callV (As := [.int 0]) (rest := [.ref y]) B (m_isTemplate_0 G l Φ1 sz y h_1 h_2) (cwV 1 B.1.2.2.2.2 gX12_fieldAt_X12_isTemplate rfl rfl rfl (by decide +kernel) ⟨Nat.le_of_ble_eq_true rfl, Nat.le_of_ble_eq_true rfl⟩) h_1 rfl rfl rfl rfl (Nat.le_of_ble_eq_true rfl) dX12_fieldAt_8 ⟨Nat.le_of_ble_eq_true rfl, Nat.le_of_ble_eq_true rfl⟩ (fun v1 Φ2 sz1 st1 hp1 hs1 => ?_)
  obtain ⟨rfl, hq1, fr1⟩ := hp1
  replace hq1 : sz1 = sz := hq1
  subst sz1
  replace hs1 : st1 = [.int 1, .ref y] := hs1
  subst st1
  refine z_if_ne (tgt := 18) B dX12_fieldAt_11 rfl (fun c_1 => ?_) (fun h9 => absurd h9 (by decide))
  refine z_iconst (v := 0) B dX12_fieldAt_18 rfl ?_
  refine z_iconst (v := 1) B dX12_fieldAt_19 rfl ?_
  have h_3 : Φ2 y = some (o_ 14 [.int 0, .ref (y + 1), .ref (y + 2), .int 0, .int 1, .int 1, .int 0, .int 0, .ref (y + 3), .ref (y + 4), .int 0, .long 0, .ref (y + 5), .int 0, .int 0, .long 0, .long 0, .long 0, .long 0, .ref (y + 6), .ref (y + 7), .int 0, .ref (y + 8), .int 0, .ref (y + 9), .ref (y + 10), .int 0, .ref (y + 11), .ref (y + 12), .ref (y + 13), .ref (y + 14), .ref (y + 15), .ref (y + 16), .int 0, .long (-1), .ref (y + 17), .ref (y + 18), .ref (y + 19), .ref (y + 20), .ref (y + 21), .ref (y + 22), .int 0, .ref (y + 23), .ref (y + 24), .int 0, .ref (y + 25), .int 0, .int 0, .int 0, .int (-1), .int 0, .int 0, .int 0, .long 0]) := ((fr1 y).trans h_1)
  refine z_callV (As := [.int 0, .int 1]) (rest := []) B (c_X12_throwsIf_0 G l Φ2 sz y 0 0 1 1 0 0 0 0 0 0 0 0 0 0 0 0 0 0 (-1) 0 0 0 0 0 (-1) 0 0 0 0 1 h_3 hna) (cwV 2 B.1.2.2.2.2 gX12_fieldAt_X12_throwsIf rfl rfl rfl (by decide +kernel) ⟨Nat.le_of_ble_eq_true rfl, Nat.le_of_ble_eq_true rfl⟩) h_3 rfl rfl rfl rfl (Nat.le_of_ble_eq_true rfl) dX12_fieldAt_20 ⟨Nat.le_of_ble_eq_true rfl, Nat.le_of_ble_eq_true rfl⟩ (fun v2 Φ3 sz2 st2 hp2 hs2 => ?_)
  obtain ⟨rfl, hq2, fr2⟩ := hp2
  replace hq2 : sz2 = sz := hq2
  subst sz2
  replace hs2 : st2 = [.int 0] := hs2
  subst st2
  refine z_if_eq (tgt := 30) B dX12_fieldAt_23 rfl (fun c_2 => ?_) (fun h9 => absurd (by decide) h9)
  refine z_iload_n B dX12_fieldAt_30 rfl 2 rfl ?_
  refine z_i2l (v := 7) B dX12_fieldAt_31 (by decide +kernel) ?_
  refine z_lconst (v := 0) B dX12_fieldAt_32 rfl ?_
  refine z_aload_n B dX12_fieldAt_33 rfl 0 rfl ?_
  refine z_iload_n B dX12_fieldAt_34 rfl 1 rfl ?_
  have h_4 : Φ3 y = some (o_ 14 [.int 0, .ref (y + 1), .ref (y + 2), .int 0, .int 1, .int 1, .int 0, .int 0, .ref (y + 3), .ref (y + 4), .int 0, .long 0, .ref (y + 5), .int 0, .int 0, .long 0, .long 0, .long 0, .long 0, .ref (y + 6), .ref (y + 7), .int 0, .ref (y + 8), .int 0, .ref (y + 9), .ref (y + 10), .int 0, .ref (y + 11), .ref (y + 12), .ref (y + 13), .ref (y + 14), .ref (y + 15), .ref (y + 16), .int 0, .long (-1), .ref (y + 17), .ref (y + 18), .ref (y + 19), .ref (y + 20), .ref (y + 21), .ref (y + 22), .int 0, .ref (y + 23), .ref (y + 24), .int 0, .ref (y + 25), .int 0, .int 0, .int 0, .int (-1), .int 0, .int 0, .int 0, .long 0]) := ((fr2 y).trans h_3)
  have h_5 : Φ3 (y + 2) = some (ai_ G 307 (upd (upd (upd (upd (upd (upd (upd (upd (upd (upd (upd (upd (upd (upd (upd (upd (upd (upd (upd (upd (upd (fun _ => 0) (0 : Int32).toNatClampNeg 1) (1 : Int32).toNatClampNeg 100) (2 : Int32).toNatClampNeg 1000) (3 : Int32).toNatClampNeg 100) (4 : Int32).toNatClampNeg 20) (5 : Int32).toNatClampNeg 1000) (6 : Int32).toNatClampNeg 5000) (7 : Int32).toNatClampNeg 512) (8 : Int32).toNatClampNeg 1) (9 : Int32).toNatClampNeg 511) (10 : Int32).toNatClampNeg 1) (11 : Int32).toNatClampNeg 9) (15 : Int32).toNatClampNeg 0) (16 : Int32).toNatClampNeg 1) (17 : Int32).toNatClampNeg 2) (18 : Int32).toNatClampNeg 3) (19 : Int32).toNatClampNeg 4) (20 : Int32).toNatClampNeg 5) (21 : Int32).toNatClampNeg 6) (22 : Int32).toNatClampNeg 7) (23 : Int32).toNatClampNeg 8)) := ((fr2 (y + 2)).trans ((fr1 (y + 2)).trans h_2))
  refine z_callV (As := [.int 0]) (rest := [.long 0, .long 7]) B (m_sizeOf_0 G l Φ3 sz y h_4 h_5) (cwV 1 B.1.2.2.2.2 gX12_fieldAt_X12_sizeOf rfl rfl rfl (by decide +kernel) ⟨Nat.le_of_ble_eq_true rfl, Nat.le_of_ble_eq_true rfl⟩) h_4 rfl rfl rfl rfl (Nat.le_of_ble_eq_true rfl) dX12_fieldAt_35 ⟨Nat.le_of_ble_eq_true rfl, Nat.le_of_ble_eq_true rfl⟩ (fun v3 Φ4 sz3 st3 hp3 hs3 => ?_)
  obtain ⟨rfl, hq3, fr3⟩ := hp3
  replace hq3 : sz3 = sz := hq3
  subst sz3
  replace hs3 : st3 = [.int 9, .long 0, .long 7] := hs3
  subst st3
  refine z_iconst (v := 1) B dX12_fieldAt_38 rfl ?_
  refine z_isub B dX12_fieldAt_39 ?_
  refine z_top (st1 := [.int 8, .long 0, .long 7]) (congrArg (fun w9 : Int32 => ([.int w9, .long 0, .long 7] : List Value)) (show (9 - 1 : Int32) = 8 by decide +kernel)) ?_
  refine z_i2l (v := 8) B dX12_fieldAt_40 (by decide +kernel) ?_
  refine z_callS (As := [.long 7, .long 0, .long 8]) (rest := []) B (c_X12_inRange_1 G l Φ4 sz 7 0 8 ⟨by decide +kernel, by decide +kernel⟩) (va_cwS 3 B.1.2.2.2.2 gX12_fieldAt_X12_inRange rfl rfl rfl (by decide +kernel) ⟨Nat.le_of_ble_eq_true rfl, Nat.le_of_ble_eq_true rfl⟩) rfl rfl (Nat.le_of_ble_eq_true rfl) dX12_fieldAt_41 ⟨Nat.le_of_ble_eq_true rfl, Nat.le_of_ble_eq_true rfl⟩ (fun v4 Φ5 sz4 st4 hp4 hs4 => ?_)
  obtain ⟨rfl, hq4, fr4⟩ := hp4
  replace hq4 : sz4 = sz := hq4
  subst sz4
  replace hs4 : st4 = [.int 1] := hs4
  subst st4
  refine z_if_eq (tgt := 56) B dX12_fieldAt_44 rfl (fun h9 => absurd h9 (by decide)) (fun c_3 => ?_)
  refine z_aload_n B dX12_fieldAt_47 rfl 0 rfl ?_
  refine z_iload_n B dX12_fieldAt_48 rfl 1 rfl ?_
  refine z_iload_n B dX12_fieldAt_49 rfl 2 rfl ?_
  have h_6 : Φ5 y = some (o_ 14 [.int 0, .ref (y + 1), .ref (y + 2), .int 0, .int 1, .int 1, .int 0, .int 0, .ref (y + 3), .ref (y + 4), .int 0, .long 0, .ref (y + 5), .int 0, .int 0, .long 0, .long 0, .long 0, .long 0, .ref (y + 6), .ref (y + 7), .int 0, .ref (y + 8), .int 0, .ref (y + 9), .ref (y + 10), .int 0, .ref (y + 11), .ref (y + 12), .ref (y + 13), .ref (y + 14), .ref (y + 15), .ref (y + 16), .int 0, .long (-1), .ref (y + 17), .ref (y + 18), .ref (y + 19), .ref (y + 20), .ref (y + 21), .ref (y + 22), .int 0, .ref (y + 23), .ref (y + 24), .int 0, .ref (y + 25), .int 0, .int 0, .int 0, .int (-1), .int 0, .int 0, .int 0, .long 0]) := ((fr4 y).trans ((fr3 y).trans h_4))
  have h_7 : Φ5 (y + 2) = some (ai_ G 307 (upd (upd (upd (upd (upd (upd (upd (upd (upd (upd (upd (upd (upd (upd (upd (upd (upd (upd (upd (upd (upd (fun _ => 0) (0 : Int32).toNatClampNeg 1) (1 : Int32).toNatClampNeg 100) (2 : Int32).toNatClampNeg 1000) (3 : Int32).toNatClampNeg 100) (4 : Int32).toNatClampNeg 20) (5 : Int32).toNatClampNeg 1000) (6 : Int32).toNatClampNeg 5000) (7 : Int32).toNatClampNeg 512) (8 : Int32).toNatClampNeg 1) (9 : Int32).toNatClampNeg 511) (10 : Int32).toNatClampNeg 1) (11 : Int32).toNatClampNeg 9) (15 : Int32).toNatClampNeg 0) (16 : Int32).toNatClampNeg 1) (17 : Int32).toNatClampNeg 2) (18 : Int32).toNatClampNeg 3) (19 : Int32).toNatClampNeg 4) (20 : Int32).toNatClampNeg 5) (21 : Int32).toNatClampNeg 6) (22 : Int32).toNatClampNeg 7) (23 : Int32).toNatClampNeg 8)) := ((fr4 (y + 2)).trans ((fr3 (y + 2)).trans h_5))
  refine z_callV (As := [.int 0, .int 7]) (rest := []) B (m_fieldOf_7 G l Φ5 sz y h_6 h_7) (cwV 2 B.1.2.2.2.2 gX12_fieldAt_X12_fieldOf rfl rfl rfl (by decide +kernel) ⟨Nat.le_of_ble_eq_true rfl, Nat.le_of_ble_eq_true rfl⟩) h_6 rfl rfl rfl rfl (Nat.le_of_ble_eq_true rfl) dX12_fieldAt_50 ⟨Nat.le_of_ble_eq_true rfl, Nat.le_of_ble_eq_true rfl⟩ (fun v5 Φ6 sz5 st5 hp5 hs5 => ?_)
  obtain ⟨rfl, hq5, fr5⟩ := hp5
  replace hq5 : sz5 = sz := hq5
  subst sz5
  replace hs5 : st5 = [.int 7] := hs5
  subst st5
  refine z_goto (tgt := 57) B dX12_fieldAt_53 rfl ?_
  have h_8 : Φ6 y = some (o_ 14 [.int 0, .ref (y + 1), .ref (y + 2), .int 0, .int 1, .int 1, .int 0, .int 0, .ref (y + 3), .ref (y + 4), .int 0, .long 0, .ref (y + 5), .int 0, .int 0, .long 0, .long 0, .long 0, .long 0, .ref (y + 6), .ref (y + 7), .int 0, .ref (y + 8), .int 0, .ref (y + 9), .ref (y + 10), .int 0, .ref (y + 11), .ref (y + 12), .ref (y + 13), .ref (y + 14), .ref (y + 15), .ref (y + 16), .int 0, .long (-1), .ref (y + 17), .ref (y + 18), .ref (y + 19), .ref (y + 20), .ref (y + 21), .ref (y + 22), .int 0, .ref (y + 23), .ref (y + 24), .int 0, .ref (y + 25), .int 0, .int 0, .int 0, .int (-1), .int 0, .int 0, .int 0, .long 0]) := ((fr5 y).trans h_6)
  exact z_ret_i B dX12_fieldAt_57 ⟨rfl, ⟨_, h_8, rfl⟩, fun b9 h9 => ((fr5 b9).trans ((fr4 b9).trans ((fr3 b9).trans ((fr2 b9).trans ((fr1 b9).trans ((fset_fr hΦ1 (Nat.ne_of_gt (Nat.lt_of_lt_of_le (lt_off (x := y) (i := 0) (j := 26) rfl) h9))).trans rfl))))))⟩

set_option maxHeartbeats 4000000 in
set_option maxRecDepth 100000 in
theorem m_X12_fieldAt_8 (G : EnvG) (l : Launch) (Φ : Hm) (sz : Nat) (y : Nat) (hc0_ : Φ y = some (o_ 14 [.int 0, .ref (y + 1), .ref (y + 2), .int 0, .int 1, .int 1, .int 0, .int 0, .ref (y + 3), .ref (y + 4), .int 0, .long 0, .ref (y + 5), .int 0, .int 0, .long 0, .long 0, .long 0, .long 0, .ref (y + 6), .ref (y + 7), .int 0, .ref (y + 8), .int 0, .ref (y + 9), .ref (y + 10), .int 0, .ref (y + 11), .ref (y + 12), .ref (y + 13), .ref (y + 14), .ref (y + 15), .ref (y + 16), .int 0, .long (-1), .ref (y + 17), .ref (y + 18), .ref (y + 19), .ref (y + 20), .ref (y + 21), .ref (y + 22), .int 0, .ref (y + 23), .ref (y + 24), .int 0, .ref (y + 25), .int 0, .int 0, .int 0, .int (-1), .int 0, .int 0, .int 0, .long 0])) (hc2_ : Φ (y + 2) = some (ai_ G 307 (upd (upd (upd (upd (upd (upd (upd (upd (upd (upd (upd (upd (upd (upd (upd (upd (upd (upd (upd (upd (upd (fun _ => 0) (0 : Int32).toNatClampNeg 1) (1 : Int32).toNatClampNeg 100) (2 : Int32).toNatClampNeg 1000) (3 : Int32).toNatClampNeg 100) (4 : Int32).toNatClampNeg 20) (5 : Int32).toNatClampNeg 1000) (6 : Int32).toNatClampNeg 5000) (7 : Int32).toNatClampNeg 512) (8 : Int32).toNatClampNeg 1) (9 : Int32).toNatClampNeg 511) (10 : Int32).toNatClampNeg 1) (11 : Int32).toNatClampNeg 9) (15 : Int32).toNatClampNeg 0) (16 : Int32).toNatClampNeg 1) (17 : Int32).toNatClampNeg 2) (18 : Int32).toNatClampNeg 3) (19 : Int32).toNatClampNeg 4) (20 : Int32).toNatClampNeg 5) (21 : Int32).toNatClampNeg 6) (22 : Int32).toNatClampNeg 7) (23 : Int32).toNatClampNeg 8))) (hna : G.2.2.2 ≤ y) : Ct G l yX12_fieldAt wsX12_fieldAt ({ frames := 2, cells := 0, slots := 0, locals := 46 }) 0 0 [.ref y, .int 0, .int 8] Φ sz (fun v Φ1 sz1 => v = some (.int 8) ∧ (∃ fs : List Value, Φ1 y = some (o_ 14 fs) ∧ fs[0]? = some (.int 0)) ∧ ∀ b9 : Nat, y + 26 ≤ b9 → Φ1 b9 = Φ b9) := by
  refine Ct.of (cc := cX12_fieldAt) (maxL := 3) (ret := (some .int)) (by decide) rfl (Nat.le_of_ble_eq_true rfl) ?_
  intro p9 e9 s9 m9 w9 t9 k9 B
  show Z p9 l e9 _ s9 m9 _ w9 t9 k9 _ G 3 0 [(0, .ref y), (1, .int 0), (2, .int 8)] [] Φ sz 0 0
  refine z_aload_n B dX12_fieldAt_0 rfl 0 rfl ?_
  refine z_iconst (v := 0) B dX12_fieldAt_1 rfl ?_
  refine z_put (ref := "FlowExporterModel") (C := RX12) (T := TX12) (N := 54) (ci := 14) (v := .int 0) B (by decide +kernel) tyX12 tyX12_ok nmX12 rfl 0 (by decide) (by decide +kernel) rfl (Or.inl rfl) hc0_ hna rfl rfl (Nat.le_of_ble_eq_true rfl) dX12_fieldAt_2 (fun Φ1 hΦ1 => ?_)
  have h_1 : Φ1 y = some (o_ 14 [.int 0, .ref (y + 1), .ref (y + 2), .int 0, .int 1, .int 1, .int 0, .int 0, .ref (y + 3), .ref (y + 4), .int 0, .long 0, .ref (y + 5), .int 0, .int 0, .long 0, .long 0, .long 0, .long 0, .ref (y + 6), .ref (y + 7), .int 0, .ref (y + 8), .int 0, .ref (y + 9), .ref (y + 10), .int 0, .ref (y + 11), .ref (y + 12), .ref (y + 13), .ref (y + 14), .ref (y + 15), .ref (y + 16), .int 0, .long (-1), .ref (y + 17), .ref (y + 18), .ref (y + 19), .ref (y + 20), .ref (y + 21), .ref (y + 22), .int 0, .ref (y + 23), .ref (y + 24), .int 0, .ref (y + 25), .int 0, .int 0, .int 0, .int (-1), .int 0, .int 0, .int 0, .long 0]) := fset_at hΦ1
  refine z_aload_n B dX12_fieldAt_5 rfl 0 rfl ?_
  refine z_aload_n B dX12_fieldAt_6 rfl 0 rfl ?_
  refine z_iload_n B dX12_fieldAt_7 rfl 1 rfl ?_
  have h_2 : Φ1 (y + 2) = some (ai_ G 307 (upd (upd (upd (upd (upd (upd (upd (upd (upd (upd (upd (upd (upd (upd (upd (upd (upd (upd (upd (upd (upd (fun _ => 0) (0 : Int32).toNatClampNeg 1) (1 : Int32).toNatClampNeg 100) (2 : Int32).toNatClampNeg 1000) (3 : Int32).toNatClampNeg 100) (4 : Int32).toNatClampNeg 20) (5 : Int32).toNatClampNeg 1000) (6 : Int32).toNatClampNeg 5000) (7 : Int32).toNatClampNeg 512) (8 : Int32).toNatClampNeg 1) (9 : Int32).toNatClampNeg 511) (10 : Int32).toNatClampNeg 1) (11 : Int32).toNatClampNeg 9) (15 : Int32).toNatClampNeg 0) (16 : Int32).toNatClampNeg 1) (17 : Int32).toNatClampNeg 2) (18 : Int32).toNatClampNeg 3) (19 : Int32).toNatClampNeg 4) (20 : Int32).toNatClampNeg 5) (21 : Int32).toNatClampNeg 6) (22 : Int32).toNatClampNeg 7) (23 : Int32).toNatClampNeg 8)) := ((fset_fr hΦ1 (ne_off (x := y) (i := 2) (j := 0) rfl)).trans hc2_)
  refine z_callV (As := [.int 0]) (rest := [.ref y]) B (m_isTemplate_0 G l Φ1 sz y h_1 h_2) (cwV 1 B.1.2.2.2.2 gX12_fieldAt_X12_isTemplate rfl rfl rfl (by decide +kernel) ⟨Nat.le_of_ble_eq_true rfl, Nat.le_of_ble_eq_true rfl⟩) h_1 rfl rfl rfl rfl (Nat.le_of_ble_eq_true rfl) dX12_fieldAt_8 ⟨Nat.le_of_ble_eq_true rfl, Nat.le_of_ble_eq_true rfl⟩ (fun v1 Φ2 sz1 st1 hp1 hs1 => ?_)
  obtain ⟨rfl, hq1, fr1⟩ := hp1
  replace hq1 : sz1 = sz := hq1
  subst sz1
  replace hs1 : st1 = [.int 1, .ref y] := hs1
  subst st1
  refine z_if_ne (tgt := 18) B dX12_fieldAt_11 rfl (fun c_1 => ?_) (fun h9 => absurd h9 (by decide))
  refine z_iconst (v := 0) B dX12_fieldAt_18 rfl ?_
  refine z_iconst (v := 1) B dX12_fieldAt_19 rfl ?_
  have h_3 : Φ2 y = some (o_ 14 [.int 0, .ref (y + 1), .ref (y + 2), .int 0, .int 1, .int 1, .int 0, .int 0, .ref (y + 3), .ref (y + 4), .int 0, .long 0, .ref (y + 5), .int 0, .int 0, .long 0, .long 0, .long 0, .long 0, .ref (y + 6), .ref (y + 7), .int 0, .ref (y + 8), .int 0, .ref (y + 9), .ref (y + 10), .int 0, .ref (y + 11), .ref (y + 12), .ref (y + 13), .ref (y + 14), .ref (y + 15), .ref (y + 16), .int 0, .long (-1), .ref (y + 17), .ref (y + 18), .ref (y + 19), .ref (y + 20), .ref (y + 21), .ref (y + 22), .int 0, .ref (y + 23), .ref (y + 24), .int 0, .ref (y + 25), .int 0, .int 0, .int 0, .int (-1), .int 0, .int 0, .int 0, .long 0]) := ((fr1 y).trans h_1)
  refine z_callV (As := [.int 0, .int 1]) (rest := []) B (c_X12_throwsIf_0 G l Φ2 sz y 0 0 1 1 0 0 0 0 0 0 0 0 0 0 0 0 0 0 (-1) 0 0 0 0 0 (-1) 0 0 0 0 1 h_3 hna) (cwV 2 B.1.2.2.2.2 gX12_fieldAt_X12_throwsIf rfl rfl rfl (by decide +kernel) ⟨Nat.le_of_ble_eq_true rfl, Nat.le_of_ble_eq_true rfl⟩) h_3 rfl rfl rfl rfl (Nat.le_of_ble_eq_true rfl) dX12_fieldAt_20 ⟨Nat.le_of_ble_eq_true rfl, Nat.le_of_ble_eq_true rfl⟩ (fun v2 Φ3 sz2 st2 hp2 hs2 => ?_)
  obtain ⟨rfl, hq2, fr2⟩ := hp2
  replace hq2 : sz2 = sz := hq2
  subst sz2
  replace hs2 : st2 = [.int 0] := hs2
  subst st2
  refine z_if_eq (tgt := 30) B dX12_fieldAt_23 rfl (fun c_2 => ?_) (fun h9 => absurd (by decide) h9)
  refine z_iload_n B dX12_fieldAt_30 rfl 2 rfl ?_
  refine z_i2l (v := 8) B dX12_fieldAt_31 (by decide +kernel) ?_
  refine z_lconst (v := 0) B dX12_fieldAt_32 rfl ?_
  refine z_aload_n B dX12_fieldAt_33 rfl 0 rfl ?_
  refine z_iload_n B dX12_fieldAt_34 rfl 1 rfl ?_
  have h_4 : Φ3 y = some (o_ 14 [.int 0, .ref (y + 1), .ref (y + 2), .int 0, .int 1, .int 1, .int 0, .int 0, .ref (y + 3), .ref (y + 4), .int 0, .long 0, .ref (y + 5), .int 0, .int 0, .long 0, .long 0, .long 0, .long 0, .ref (y + 6), .ref (y + 7), .int 0, .ref (y + 8), .int 0, .ref (y + 9), .ref (y + 10), .int 0, .ref (y + 11), .ref (y + 12), .ref (y + 13), .ref (y + 14), .ref (y + 15), .ref (y + 16), .int 0, .long (-1), .ref (y + 17), .ref (y + 18), .ref (y + 19), .ref (y + 20), .ref (y + 21), .ref (y + 22), .int 0, .ref (y + 23), .ref (y + 24), .int 0, .ref (y + 25), .int 0, .int 0, .int 0, .int (-1), .int 0, .int 0, .int 0, .long 0]) := ((fr2 y).trans h_3)
  have h_5 : Φ3 (y + 2) = some (ai_ G 307 (upd (upd (upd (upd (upd (upd (upd (upd (upd (upd (upd (upd (upd (upd (upd (upd (upd (upd (upd (upd (upd (fun _ => 0) (0 : Int32).toNatClampNeg 1) (1 : Int32).toNatClampNeg 100) (2 : Int32).toNatClampNeg 1000) (3 : Int32).toNatClampNeg 100) (4 : Int32).toNatClampNeg 20) (5 : Int32).toNatClampNeg 1000) (6 : Int32).toNatClampNeg 5000) (7 : Int32).toNatClampNeg 512) (8 : Int32).toNatClampNeg 1) (9 : Int32).toNatClampNeg 511) (10 : Int32).toNatClampNeg 1) (11 : Int32).toNatClampNeg 9) (15 : Int32).toNatClampNeg 0) (16 : Int32).toNatClampNeg 1) (17 : Int32).toNatClampNeg 2) (18 : Int32).toNatClampNeg 3) (19 : Int32).toNatClampNeg 4) (20 : Int32).toNatClampNeg 5) (21 : Int32).toNatClampNeg 6) (22 : Int32).toNatClampNeg 7) (23 : Int32).toNatClampNeg 8)) := ((fr2 (y + 2)).trans ((fr1 (y + 2)).trans h_2))
  refine z_callV (As := [.int 0]) (rest := [.long 0, .long 8]) B (m_sizeOf_0 G l Φ3 sz y h_4 h_5) (cwV 1 B.1.2.2.2.2 gX12_fieldAt_X12_sizeOf rfl rfl rfl (by decide +kernel) ⟨Nat.le_of_ble_eq_true rfl, Nat.le_of_ble_eq_true rfl⟩) h_4 rfl rfl rfl rfl (Nat.le_of_ble_eq_true rfl) dX12_fieldAt_35 ⟨Nat.le_of_ble_eq_true rfl, Nat.le_of_ble_eq_true rfl⟩ (fun v3 Φ4 sz3 st3 hp3 hs3 => ?_)
  obtain ⟨rfl, hq3, fr3⟩ := hp3
  replace hq3 : sz3 = sz := hq3
  subst sz3
  replace hs3 : st3 = [.int 9, .long 0, .long 8] := hs3
  subst st3
  refine z_iconst (v := 1) B dX12_fieldAt_38 rfl ?_
  refine z_isub B dX12_fieldAt_39 ?_
  refine z_top (st1 := [.int 8, .long 0, .long 8]) (congrArg (fun w9 : Int32 => ([.int w9, .long 0, .long 8] : List Value)) (show (9 - 1 : Int32) = 8 by decide +kernel)) ?_
  refine z_i2l (v := 8) B dX12_fieldAt_40 (by decide +kernel) ?_
  refine z_callS (As := [.long 8, .long 0, .long 8]) (rest := []) B (c_X12_inRange_1 G l Φ4 sz 8 0 8 ⟨by decide +kernel, by decide +kernel⟩) (va_cwS 3 B.1.2.2.2.2 gX12_fieldAt_X12_inRange rfl rfl rfl (by decide +kernel) ⟨Nat.le_of_ble_eq_true rfl, Nat.le_of_ble_eq_true rfl⟩) rfl rfl (Nat.le_of_ble_eq_true rfl) dX12_fieldAt_41 ⟨Nat.le_of_ble_eq_true rfl, Nat.le_of_ble_eq_true rfl⟩ (fun v4 Φ5 sz4 st4 hp4 hs4 => ?_)
  obtain ⟨rfl, hq4, fr4⟩ := hp4
  replace hq4 : sz4 = sz := hq4
  subst sz4
  replace hs4 : st4 = [.int 1] := hs4
  subst st4
  refine z_if_eq (tgt := 56) B dX12_fieldAt_44 rfl (fun h9 => absurd h9 (by decide)) (fun c_3 => ?_)
  refine z_aload_n B dX12_fieldAt_47 rfl 0 rfl ?_
  refine z_iload_n B dX12_fieldAt_48 rfl 1 rfl ?_
  refine z_iload_n B dX12_fieldAt_49 rfl 2 rfl ?_
  have h_6 : Φ5 y = some (o_ 14 [.int 0, .ref (y + 1), .ref (y + 2), .int 0, .int 1, .int 1, .int 0, .int 0, .ref (y + 3), .ref (y + 4), .int 0, .long 0, .ref (y + 5), .int 0, .int 0, .long 0, .long 0, .long 0, .long 0, .ref (y + 6), .ref (y + 7), .int 0, .ref (y + 8), .int 0, .ref (y + 9), .ref (y + 10), .int 0, .ref (y + 11), .ref (y + 12), .ref (y + 13), .ref (y + 14), .ref (y + 15), .ref (y + 16), .int 0, .long (-1), .ref (y + 17), .ref (y + 18), .ref (y + 19), .ref (y + 20), .ref (y + 21), .ref (y + 22), .int 0, .ref (y + 23), .ref (y + 24), .int 0, .ref (y + 25), .int 0, .int 0, .int 0, .int (-1), .int 0, .int 0, .int 0, .long 0]) := ((fr4 y).trans ((fr3 y).trans h_4))
  have h_7 : Φ5 (y + 2) = some (ai_ G 307 (upd (upd (upd (upd (upd (upd (upd (upd (upd (upd (upd (upd (upd (upd (upd (upd (upd (upd (upd (upd (upd (fun _ => 0) (0 : Int32).toNatClampNeg 1) (1 : Int32).toNatClampNeg 100) (2 : Int32).toNatClampNeg 1000) (3 : Int32).toNatClampNeg 100) (4 : Int32).toNatClampNeg 20) (5 : Int32).toNatClampNeg 1000) (6 : Int32).toNatClampNeg 5000) (7 : Int32).toNatClampNeg 512) (8 : Int32).toNatClampNeg 1) (9 : Int32).toNatClampNeg 511) (10 : Int32).toNatClampNeg 1) (11 : Int32).toNatClampNeg 9) (15 : Int32).toNatClampNeg 0) (16 : Int32).toNatClampNeg 1) (17 : Int32).toNatClampNeg 2) (18 : Int32).toNatClampNeg 3) (19 : Int32).toNatClampNeg 4) (20 : Int32).toNatClampNeg 5) (21 : Int32).toNatClampNeg 6) (22 : Int32).toNatClampNeg 7) (23 : Int32).toNatClampNeg 8)) := ((fr4 (y + 2)).trans ((fr3 (y + 2)).trans h_5))
  refine z_callV (As := [.int 0, .int 8]) (rest := []) B (m_fieldOf_8 G l Φ5 sz y h_6 h_7) (cwV 2 B.1.2.2.2.2 gX12_fieldAt_X12_fieldOf rfl rfl rfl (by decide +kernel) ⟨Nat.le_of_ble_eq_true rfl, Nat.le_of_ble_eq_true rfl⟩) h_6 rfl rfl rfl rfl (Nat.le_of_ble_eq_true rfl) dX12_fieldAt_50 ⟨Nat.le_of_ble_eq_true rfl, Nat.le_of_ble_eq_true rfl⟩ (fun v5 Φ6 sz5 st5 hp5 hs5 => ?_)
  obtain ⟨rfl, hq5, fr5⟩ := hp5
  replace hq5 : sz5 = sz := hq5
  subst sz5
  replace hs5 : st5 = [.int 8] := hs5
  subst st5
  refine z_goto (tgt := 57) B dX12_fieldAt_53 rfl ?_
  have h_8 : Φ6 y = some (o_ 14 [.int 0, .ref (y + 1), .ref (y + 2), .int 0, .int 1, .int 1, .int 0, .int 0, .ref (y + 3), .ref (y + 4), .int 0, .long 0, .ref (y + 5), .int 0, .int 0, .long 0, .long 0, .long 0, .long 0, .ref (y + 6), .ref (y + 7), .int 0, .ref (y + 8), .int 0, .ref (y + 9), .ref (y + 10), .int 0, .ref (y + 11), .ref (y + 12), .ref (y + 13), .ref (y + 14), .ref (y + 15), .ref (y + 16), .int 0, .long (-1), .ref (y + 17), .ref (y + 18), .ref (y + 19), .ref (y + 20), .ref (y + 21), .ref (y + 22), .int 0, .ref (y + 23), .ref (y + 24), .int 0, .ref (y + 25), .int 0, .int 0, .int 0, .int (-1), .int 0, .int 0, .int 0, .long 0]) := ((fr5 y).trans h_6)
  exact z_ret_i B dX12_fieldAt_57 ⟨rfl, ⟨_, h_8, rfl⟩, fun b9 h9 => ((fr5 b9).trans ((fr4 b9).trans ((fr3 b9).trans ((fr2 b9).trans ((fr1 b9).trans ((fset_fr hΦ1 (Nat.ne_of_gt (Nat.lt_of_lt_of_le (lt_off (x := y) (i := 0) (j := 26) rfl) h9))).trans rfl))))))⟩

set_option maxHeartbeats 4000000 in
set_option maxRecDepth 100000 in
theorem m_X12_fieldAt_n (G : EnvG) (l : Launch) (Φ : Hm) (sz : Nat) (y : Nat) (b : Int32) (hc0_ : Φ y = some (o_ 14 [.int 0, .ref (y + 1), .ref (y + 2), .int 0, .int 1, .int 1, .int 0, .int 0, .ref (y + 3), .ref (y + 4), .int 0, .long 0, .ref (y + 5), .int 0, .int 0, .long 0, .long 0, .long 0, .long 0, .ref (y + 6), .ref (y + 7), .int 0, .ref (y + 8), .int 0, .ref (y + 9), .ref (y + 10), .int 0, .ref (y + 11), .ref (y + 12), .ref (y + 13), .ref (y + 14), .ref (y + 15), .ref (y + 16), .int 0, .long (-1), .ref (y + 17), .ref (y + 18), .ref (y + 19), .ref (y + 20), .ref (y + 21), .ref (y + 22), .int 0, .ref (y + 23), .ref (y + 24), .int 0, .ref (y + 25), .int 0, .int 0, .int 0, .int (-1), .int 0, .int 0, .int 0, .long 0])) (hc2_ : Φ (y + 2) = some (ai_ G 307 (upd (upd (upd (upd (upd (upd (upd (upd (upd (upd (upd (upd (upd (upd (upd (upd (upd (upd (upd (upd (upd (fun _ => 0) (0 : Int32).toNatClampNeg 1) (1 : Int32).toNatClampNeg 100) (2 : Int32).toNatClampNeg 1000) (3 : Int32).toNatClampNeg 100) (4 : Int32).toNatClampNeg 20) (5 : Int32).toNatClampNeg 1000) (6 : Int32).toNatClampNeg 5000) (7 : Int32).toNatClampNeg 512) (8 : Int32).toNatClampNeg 1) (9 : Int32).toNatClampNeg 511) (10 : Int32).toNatClampNeg 1) (11 : Int32).toNatClampNeg 9) (15 : Int32).toNatClampNeg 0) (16 : Int32).toNatClampNeg 1) (17 : Int32).toNatClampNeg 2) (18 : Int32).toNatClampNeg 3) (19 : Int32).toNatClampNeg 4) (20 : Int32).toNatClampNeg 5) (21 : Int32).toNatClampNeg 6) (22 : Int32).toNatClampNeg 7) (23 : Int32).toNatClampNeg 8))) (hna : G.2.2.2 ≤ y) (hp : ¬ inP b.toInt64 0 8) : Ct G l yX12_fieldAt wsX12_fieldAt ({ frames := 2, cells := 0, slots := 0, locals := 46 }) 0 0 [.ref y, .int 0, .int b] Φ sz (fun v Φ1 sz1 => v = some (.int (-1)) ∧ (∃ fs : List Value, Φ1 y = some (o_ 14 fs) ∧ fs[0]? = some (.int 0)) ∧ ∀ b9 : Nat, y + 26 ≤ b9 → Φ1 b9 = Φ b9) := by
  refine Ct.of (cc := cX12_fieldAt) (maxL := 3) (ret := (some .int)) (by decide) rfl (Nat.le_of_ble_eq_true rfl) ?_
  intro p9 e9 s9 m9 w9 t9 k9 B
  show Z p9 l e9 _ s9 m9 _ w9 t9 k9 _ G 3 0 [(0, .ref y), (1, .int 0), (2, .int b)] [] Φ sz 0 0
  refine z_aload_n B dX12_fieldAt_0 rfl 0 rfl ?_
  refine z_iconst (v := 0) B dX12_fieldAt_1 rfl ?_
  refine z_put (ref := "FlowExporterModel") (C := RX12) (T := TX12) (N := 54) (ci := 14) (v := .int 0) B (by decide +kernel) tyX12 tyX12_ok nmX12 rfl 0 (by decide) (by decide +kernel) rfl (Or.inl rfl) hc0_ hna rfl rfl (Nat.le_of_ble_eq_true rfl) dX12_fieldAt_2 (fun Φ1 hΦ1 => ?_)
  have h_1 : Φ1 y = some (o_ 14 [.int 0, .ref (y + 1), .ref (y + 2), .int 0, .int 1, .int 1, .int 0, .int 0, .ref (y + 3), .ref (y + 4), .int 0, .long 0, .ref (y + 5), .int 0, .int 0, .long 0, .long 0, .long 0, .long 0, .ref (y + 6), .ref (y + 7), .int 0, .ref (y + 8), .int 0, .ref (y + 9), .ref (y + 10), .int 0, .ref (y + 11), .ref (y + 12), .ref (y + 13), .ref (y + 14), .ref (y + 15), .ref (y + 16), .int 0, .long (-1), .ref (y + 17), .ref (y + 18), .ref (y + 19), .ref (y + 20), .ref (y + 21), .ref (y + 22), .int 0, .ref (y + 23), .ref (y + 24), .int 0, .ref (y + 25), .int 0, .int 0, .int 0, .int (-1), .int 0, .int 0, .int 0, .long 0]) := fset_at hΦ1
  refine z_aload_n B dX12_fieldAt_5 rfl 0 rfl ?_
  refine z_aload_n B dX12_fieldAt_6 rfl 0 rfl ?_
  refine z_iload_n B dX12_fieldAt_7 rfl 1 rfl ?_
  have h_2 : Φ1 (y + 2) = some (ai_ G 307 (upd (upd (upd (upd (upd (upd (upd (upd (upd (upd (upd (upd (upd (upd (upd (upd (upd (upd (upd (upd (upd (fun _ => 0) (0 : Int32).toNatClampNeg 1) (1 : Int32).toNatClampNeg 100) (2 : Int32).toNatClampNeg 1000) (3 : Int32).toNatClampNeg 100) (4 : Int32).toNatClampNeg 20) (5 : Int32).toNatClampNeg 1000) (6 : Int32).toNatClampNeg 5000) (7 : Int32).toNatClampNeg 512) (8 : Int32).toNatClampNeg 1) (9 : Int32).toNatClampNeg 511) (10 : Int32).toNatClampNeg 1) (11 : Int32).toNatClampNeg 9) (15 : Int32).toNatClampNeg 0) (16 : Int32).toNatClampNeg 1) (17 : Int32).toNatClampNeg 2) (18 : Int32).toNatClampNeg 3) (19 : Int32).toNatClampNeg 4) (20 : Int32).toNatClampNeg 5) (21 : Int32).toNatClampNeg 6) (22 : Int32).toNatClampNeg 7) (23 : Int32).toNatClampNeg 8)) := ((fset_fr hΦ1 (ne_off (x := y) (i := 2) (j := 0) rfl)).trans hc2_)
  refine z_callV (As := [.int 0]) (rest := [.ref y]) B (m_isTemplate_0 G l Φ1 sz y h_1 h_2) (cwV 1 B.1.2.2.2.2 gX12_fieldAt_X12_isTemplate rfl rfl rfl (by decide +kernel) ⟨Nat.le_of_ble_eq_true rfl, Nat.le_of_ble_eq_true rfl⟩) h_1 rfl rfl rfl rfl (Nat.le_of_ble_eq_true rfl) dX12_fieldAt_8 ⟨Nat.le_of_ble_eq_true rfl, Nat.le_of_ble_eq_true rfl⟩ (fun v1 Φ2 sz1 st1 hp1 hs1 => ?_)
  obtain ⟨rfl, hq1, fr1⟩ := hp1
  replace hq1 : sz1 = sz := hq1
  subst sz1
  replace hs1 : st1 = [.int 1, .ref y] := hs1
  subst st1
  refine z_if_ne (tgt := 18) B dX12_fieldAt_11 rfl (fun c_1 => ?_) (fun h9 => absurd h9 (by decide))
  refine z_iconst (v := 0) B dX12_fieldAt_18 rfl ?_
  refine z_iconst (v := 1) B dX12_fieldAt_19 rfl ?_
  have h_3 : Φ2 y = some (o_ 14 [.int 0, .ref (y + 1), .ref (y + 2), .int 0, .int 1, .int 1, .int 0, .int 0, .ref (y + 3), .ref (y + 4), .int 0, .long 0, .ref (y + 5), .int 0, .int 0, .long 0, .long 0, .long 0, .long 0, .ref (y + 6), .ref (y + 7), .int 0, .ref (y + 8), .int 0, .ref (y + 9), .ref (y + 10), .int 0, .ref (y + 11), .ref (y + 12), .ref (y + 13), .ref (y + 14), .ref (y + 15), .ref (y + 16), .int 0, .long (-1), .ref (y + 17), .ref (y + 18), .ref (y + 19), .ref (y + 20), .ref (y + 21), .ref (y + 22), .int 0, .ref (y + 23), .ref (y + 24), .int 0, .ref (y + 25), .int 0, .int 0, .int 0, .int (-1), .int 0, .int 0, .int 0, .long 0]) := ((fr1 y).trans h_1)
  refine z_callV (As := [.int 0, .int 1]) (rest := []) B (c_X12_throwsIf_0 G l Φ2 sz y 0 0 1 1 0 0 0 0 0 0 0 0 0 0 0 0 0 0 (-1) 0 0 0 0 0 (-1) 0 0 0 0 1 h_3 hna) (cwV 2 B.1.2.2.2.2 gX12_fieldAt_X12_throwsIf rfl rfl rfl (by decide +kernel) ⟨Nat.le_of_ble_eq_true rfl, Nat.le_of_ble_eq_true rfl⟩) h_3 rfl rfl rfl rfl (Nat.le_of_ble_eq_true rfl) dX12_fieldAt_20 ⟨Nat.le_of_ble_eq_true rfl, Nat.le_of_ble_eq_true rfl⟩ (fun v2 Φ3 sz2 st2 hp2 hs2 => ?_)
  obtain ⟨rfl, hq2, fr2⟩ := hp2
  replace hq2 : sz2 = sz := hq2
  subst sz2
  replace hs2 : st2 = [.int 0] := hs2
  subst st2
  refine z_if_eq (tgt := 30) B dX12_fieldAt_23 rfl (fun c_2 => ?_) (fun h9 => absurd (by decide) h9)
  refine z_iload_n B dX12_fieldAt_30 rfl 2 rfl ?_
  refine z_i2l (v := b.toInt64) B dX12_fieldAt_31 rfl ?_
  refine z_lconst (v := 0) B dX12_fieldAt_32 rfl ?_
  refine z_aload_n B dX12_fieldAt_33 rfl 0 rfl ?_
  refine z_iload_n B dX12_fieldAt_34 rfl 1 rfl ?_
  have h_4 : Φ3 y = some (o_ 14 [.int 0, .ref (y + 1), .ref (y + 2), .int 0, .int 1, .int 1, .int 0, .int 0, .ref (y + 3), .ref (y + 4), .int 0, .long 0, .ref (y + 5), .int 0, .int 0, .long 0, .long 0, .long 0, .long 0, .ref (y + 6), .ref (y + 7), .int 0, .ref (y + 8), .int 0, .ref (y + 9), .ref (y + 10), .int 0, .ref (y + 11), .ref (y + 12), .ref (y + 13), .ref (y + 14), .ref (y + 15), .ref (y + 16), .int 0, .long (-1), .ref (y + 17), .ref (y + 18), .ref (y + 19), .ref (y + 20), .ref (y + 21), .ref (y + 22), .int 0, .ref (y + 23), .ref (y + 24), .int 0, .ref (y + 25), .int 0, .int 0, .int 0, .int (-1), .int 0, .int 0, .int 0, .long 0]) := ((fr2 y).trans h_3)
  have h_5 : Φ3 (y + 2) = some (ai_ G 307 (upd (upd (upd (upd (upd (upd (upd (upd (upd (upd (upd (upd (upd (upd (upd (upd (upd (upd (upd (upd (upd (fun _ => 0) (0 : Int32).toNatClampNeg 1) (1 : Int32).toNatClampNeg 100) (2 : Int32).toNatClampNeg 1000) (3 : Int32).toNatClampNeg 100) (4 : Int32).toNatClampNeg 20) (5 : Int32).toNatClampNeg 1000) (6 : Int32).toNatClampNeg 5000) (7 : Int32).toNatClampNeg 512) (8 : Int32).toNatClampNeg 1) (9 : Int32).toNatClampNeg 511) (10 : Int32).toNatClampNeg 1) (11 : Int32).toNatClampNeg 9) (15 : Int32).toNatClampNeg 0) (16 : Int32).toNatClampNeg 1) (17 : Int32).toNatClampNeg 2) (18 : Int32).toNatClampNeg 3) (19 : Int32).toNatClampNeg 4) (20 : Int32).toNatClampNeg 5) (21 : Int32).toNatClampNeg 6) (22 : Int32).toNatClampNeg 7) (23 : Int32).toNatClampNeg 8)) := ((fr2 (y + 2)).trans ((fr1 (y + 2)).trans h_2))
  refine z_callV (As := [.int 0]) (rest := [.long 0, .long b.toInt64]) B (m_sizeOf_0 G l Φ3 sz y h_4 h_5) (cwV 1 B.1.2.2.2.2 gX12_fieldAt_X12_sizeOf rfl rfl rfl (by decide +kernel) ⟨Nat.le_of_ble_eq_true rfl, Nat.le_of_ble_eq_true rfl⟩) h_4 rfl rfl rfl rfl (Nat.le_of_ble_eq_true rfl) dX12_fieldAt_35 ⟨Nat.le_of_ble_eq_true rfl, Nat.le_of_ble_eq_true rfl⟩ (fun v3 Φ4 sz3 st3 hp3 hs3 => ?_)
  obtain ⟨rfl, hq3, fr3⟩ := hp3
  replace hq3 : sz3 = sz := hq3
  subst sz3
  replace hs3 : st3 = [.int 9, .long 0, .long b.toInt64] := hs3
  subst st3
  refine z_iconst (v := 1) B dX12_fieldAt_38 rfl ?_
  refine z_isub B dX12_fieldAt_39 ?_
  refine z_top (st1 := [.int 8, .long 0, .long b.toInt64]) (congrArg (fun w9 : Int32 => ([.int w9, .long 0, .long b.toInt64] : List Value)) (show (9 - 1 : Int32) = 8 by decide +kernel)) ?_
  refine z_i2l (v := 8) B dX12_fieldAt_40 (by decide +kernel) ?_
  refine z_callS (As := [.long b.toInt64, .long 0, .long 8]) (rest := []) B (c_X12_inRange_0 G l Φ4 sz b.toInt64 0 8 hp) (va_cwS 3 B.1.2.2.2.2 gX12_fieldAt_X12_inRange rfl rfl rfl (by decide +kernel) ⟨Nat.le_of_ble_eq_true rfl, Nat.le_of_ble_eq_true rfl⟩) rfl rfl (Nat.le_of_ble_eq_true rfl) dX12_fieldAt_41 ⟨Nat.le_of_ble_eq_true rfl, Nat.le_of_ble_eq_true rfl⟩ (fun v4 Φ5 sz4 st4 hp4 hs4 => ?_)
  obtain ⟨rfl, hq4, fr4⟩ := hp4
  replace hq4 : sz4 = sz := hq4
  subst sz4
  replace hs4 : st4 = [.int 0] := hs4
  subst st4
  refine z_if_eq (tgt := 56) B dX12_fieldAt_44 rfl (fun c_3 => ?_) (fun h9 => absurd (by decide) h9)
  refine z_iconst (v := (-1)) B dX12_fieldAt_56 rfl ?_
  have h_6 : Φ5 y = some (o_ 14 [.int 0, .ref (y + 1), .ref (y + 2), .int 0, .int 1, .int 1, .int 0, .int 0, .ref (y + 3), .ref (y + 4), .int 0, .long 0, .ref (y + 5), .int 0, .int 0, .long 0, .long 0, .long 0, .long 0, .ref (y + 6), .ref (y + 7), .int 0, .ref (y + 8), .int 0, .ref (y + 9), .ref (y + 10), .int 0, .ref (y + 11), .ref (y + 12), .ref (y + 13), .ref (y + 14), .ref (y + 15), .ref (y + 16), .int 0, .long (-1), .ref (y + 17), .ref (y + 18), .ref (y + 19), .ref (y + 20), .ref (y + 21), .ref (y + 22), .int 0, .ref (y + 23), .ref (y + 24), .int 0, .ref (y + 25), .int 0, .int 0, .int 0, .int (-1), .int 0, .int 0, .int 0, .long 0]) := ((fr4 y).trans ((fr3 y).trans h_4))
  exact z_ret_i B dX12_fieldAt_57 ⟨rfl, ⟨_, h_6, rfl⟩, fun b9 h9 => ((fr4 b9).trans ((fr3 b9).trans ((fr2 b9).trans ((fr1 b9).trans ((fset_fr hΦ1 (Nat.ne_of_gt (Nat.lt_of_lt_of_le (lt_off (x := y) (i := 0) (j := 26) rfl) h9))).trans rfl)))))⟩

set_option maxHeartbeats 4000000 in
set_option maxRecDepth 100000 in
theorem m_sizeOf_s (G : EnvG) (l : Launch) (Φ : Hm) (sz : Nat) (y : Nat) (vv : Int32) (hc0_ : Φ y = some (o_ 14 [.int 0, .ref (y + 1), .ref (y + 2), .int 0, .int 1, .int 1, .int 0, .int 0, .ref (y + 3), .ref (y + 4), .int 0, .long 0, .ref (y + 5), .int 0, .int 0, .long 0, .long 0, .long 0, .long 0, .ref (y + 6), .ref (y + 7), .int 0, .ref (y + 8), .int 0, .ref (y + 9), .ref (y + 10), .int 0, .ref (y + 11), .ref (y + 12), .ref (y + 13), .ref (y + 14), .ref (y + 15), .ref (y + 16), .int 0, .long (-1), .ref (y + 17), .ref (y + 18), .ref (y + 19), .ref (y + 20), .ref (y + 21), .ref (y + 22), .int 0, .ref (y + 23), .ref (y + 24), .int 0, .ref (y + 25), .int 0, .int 0, .int 0, .int (-1), .int 0, .int 0, .int 0, .long 0])) (hc2_ : Φ (y + 2) = some (ai_ G 307 (upd (upd (upd (upd (upd (upd (upd (upd (upd (upd (upd (upd (upd (upd (upd (upd (upd (upd (upd (upd (upd (upd (fun _ => 0) (0 : Int32).toNatClampNeg 1) (1 : Int32).toNatClampNeg 100) (2 : Int32).toNatClampNeg 1000) (3 : Int32).toNatClampNeg 100) (4 : Int32).toNatClampNeg 20) (5 : Int32).toNatClampNeg 1000) (6 : Int32).toNatClampNeg 5000) (7 : Int32).toNatClampNeg 512) (8 : Int32).toNatClampNeg 1) (9 : Int32).toNatClampNeg 511) (10 : Int32).toNatClampNeg 1) (11 : Int32).toNatClampNeg 9) (15 : Int32).toNatClampNeg 0) (16 : Int32).toNatClampNeg 1) (17 : Int32).toNatClampNeg 2) (18 : Int32).toNatClampNeg 3) (19 : Int32).toNatClampNeg 4) (20 : Int32).toNatClampNeg 5) (21 : Int32).toNatClampNeg 6) (22 : Int32).toNatClampNeg 7) (23 : Int32).toNatClampNeg 8) (9 : Int32).toNatClampNeg vv))) : Ct G l yX12_sizeOf wsX12_sizeOf ({ frames := 0, cells := 0, slots := 0, locals := 0 }) 0 0 [.ref y, .int 0] Φ sz (fun v Φ1 sz1 => v = some (.int 9) ∧ sz1 = sz ∧ (∀ b9 : Nat, Φ1 b9 = Φ b9)) := by
  refine Ct.of (cc := cX12_sizeOf) (maxL := 2) (ret := (some .int)) (by decide) rfl (Nat.le_of_ble_eq_true rfl) ?_
  intro p9 e9 s9 m9 w9 t9 k9 B
  show Z p9 l e9 _ s9 m9 _ w9 t9 k9 _ G 2 0 [(0, .ref y), (1, .int 0)] [] Φ sz 0 0
  refine z_aload_n B dX12_sizeOf_0 rfl 0 rfl ?_
  refine z_get (ref := "FlowExporterModel") (C := RX12) (T := TX12) (N := 54) (ci := 14) (v := .ref (y + 2)) B (by decide +kernel) rfl 2 (by decide) (by decide +kernel) rfl hc0_ rfl dX12_sizeOf_1 ?_
  refine z_bipush (v := 11) B dX12_sizeOf_4 rfl ?_
  refine z_iload_n B dX12_sizeOf_6 rfl 1 rfl ?_
  refine z_iadd B dX12_sizeOf_7 ?_
  refine z_top (st1 := [.int 11, .ref (y + 2)]) (congrArg (fun w9 : Int32 => ([.int w9, .ref (y + 2)] : List Value)) (show (11 + 0 : Int32) = 11 by decide +kernel)) ?_
  refine z_iald B hc2_ (vin rfl) dX12_sizeOf_8 ?_
  refine z_top (st1 := [.int 9]) (by rfl) ?_
  exact z_ret_i B dX12_sizeOf_9 ⟨rfl, rfl, (fun b9 => rfl)⟩

set_option maxHeartbeats 4000000 in
set_option maxRecDepth 100000 in
theorem m_fieldOf_s0 (G : EnvG) (l : Launch) (Φ : Hm) (sz : Nat) (y : Nat) (vv : Int32) (hc0_ : Φ y = some (o_ 14 [.int 0, .ref (y + 1), .ref (y + 2), .int 0, .int 1, .int 1, .int 0, .int 0, .ref (y + 3), .ref (y + 4), .int 0, .long 0, .ref (y + 5), .int 0, .int 0, .long 0, .long 0, .long 0, .long 0, .ref (y + 6), .ref (y + 7), .int 0, .ref (y + 8), .int 0, .ref (y + 9), .ref (y + 10), .int 0, .ref (y + 11), .ref (y + 12), .ref (y + 13), .ref (y + 14), .ref (y + 15), .ref (y + 16), .int 0, .long (-1), .ref (y + 17), .ref (y + 18), .ref (y + 19), .ref (y + 20), .ref (y + 21), .ref (y + 22), .int 0, .ref (y + 23), .ref (y + 24), .int 0, .ref (y + 25), .int 0, .int 0, .int 0, .int (-1), .int 0, .int 0, .int 0, .long 0])) (hc2_ : Φ (y + 2) = some (ai_ G 307 (upd (upd (upd (upd (upd (upd (upd (upd (upd (upd (upd (upd (upd (upd (upd (upd (upd (upd (upd (upd (upd (upd (fun _ => 0) (0 : Int32).toNatClampNeg 1) (1 : Int32).toNatClampNeg 100) (2 : Int32).toNatClampNeg 1000) (3 : Int32).toNatClampNeg 100) (4 : Int32).toNatClampNeg 20) (5 : Int32).toNatClampNeg 1000) (6 : Int32).toNatClampNeg 5000) (7 : Int32).toNatClampNeg 512) (8 : Int32).toNatClampNeg 1) (9 : Int32).toNatClampNeg 511) (10 : Int32).toNatClampNeg 1) (11 : Int32).toNatClampNeg 9) (15 : Int32).toNatClampNeg 0) (16 : Int32).toNatClampNeg 1) (17 : Int32).toNatClampNeg 2) (18 : Int32).toNatClampNeg 3) (19 : Int32).toNatClampNeg 4) (20 : Int32).toNatClampNeg 5) (21 : Int32).toNatClampNeg 6) (22 : Int32).toNatClampNeg 7) (23 : Int32).toNatClampNeg 8) (9 : Int32).toNatClampNeg vv))) : Ct G l yX12_fieldOf wsX12_fieldOf ({ frames := 0, cells := 0, slots := 0, locals := 0 }) 0 0 [.ref y, .int 0, .int 0] Φ sz (fun v Φ1 sz1 => v = some (.int 0) ∧ sz1 = sz ∧ (∀ b9 : Nat, Φ1 b9 = Φ b9)) := by
  refine Ct.of (cc := cX12_fieldOf) (maxL := 3) (ret := (some .int)) (by decide) rfl (Nat.le_of_ble_eq_true rfl) ?_
  intro p9 e9 s9 m9 w9 t9 k9 B
  show Z p9 l e9 _ s9 m9 _ w9 t9 k9 _ G 3 0 [(0, .ref y), (1, .int 0), (2, .int 0)] [] Φ sz 0 0
  refine z_aload_n B dX12_fieldOf_0 rfl 0 rfl ?_
  refine z_get (ref := "FlowExporterModel") (C := RX12) (T := TX12) (N := 54) (ci := 14) (v := .ref (y + 2)) B (by decide +kernel) rfl 2 (by decide) (by decide +kernel) rfl hc0_ rfl dX12_fieldOf_1 ?_
  refine z_bipush (v := 15) B dX12_fieldOf_4 rfl ?_
  refine z_bipush (v := 9) B dX12_fieldOf_6 rfl ?_
  refine z_iload_n B dX12_fieldOf_8 rfl 1 rfl ?_
  refine z_imul B dX12_fieldOf_9 ?_
  refine z_top (st1 := [.int 0, .int 15, .ref (y + 2)]) (congrArg (fun w9 : Int32 => ([.int w9, .int 15, .ref (y + 2)] : List Value)) (show (9 * 0 : Int32) = 0 by decide +kernel)) ?_
  refine z_iadd B dX12_fieldOf_10 ?_
  refine z_top (st1 := [.int 15, .ref (y + 2)]) (congrArg (fun w9 : Int32 => ([.int w9, .ref (y + 2)] : List Value)) (show (15 + 0 : Int32) = 15 by decide +kernel)) ?_
  refine z_iload_n B dX12_fieldOf_11 rfl 2 rfl ?_
  refine z_iadd B dX12_fieldOf_12 ?_
  refine z_top (st1 := [.int 15, .ref (y + 2)]) (congrArg (fun w9 : Int32 => ([.int w9, .ref (y + 2)] : List Value)) (show (15 + 0 : Int32) = 15 by decide +kernel)) ?_
  refine z_iald B hc2_ (vin rfl) dX12_fieldOf_13 ?_
  refine z_top (st1 := [.int 0]) (by rfl) ?_
  exact z_ret_i B dX12_fieldOf_14 ⟨rfl, rfl, (fun b9 => rfl)⟩

set_option maxHeartbeats 4000000 in
set_option maxRecDepth 100000 in
theorem m_fieldOf_s1 (G : EnvG) (l : Launch) (Φ : Hm) (sz : Nat) (y : Nat) (vv : Int32) (hc0_ : Φ y = some (o_ 14 [.int 0, .ref (y + 1), .ref (y + 2), .int 0, .int 1, .int 1, .int 0, .int 0, .ref (y + 3), .ref (y + 4), .int 0, .long 0, .ref (y + 5), .int 0, .int 0, .long 0, .long 0, .long 0, .long 0, .ref (y + 6), .ref (y + 7), .int 0, .ref (y + 8), .int 0, .ref (y + 9), .ref (y + 10), .int 0, .ref (y + 11), .ref (y + 12), .ref (y + 13), .ref (y + 14), .ref (y + 15), .ref (y + 16), .int 0, .long (-1), .ref (y + 17), .ref (y + 18), .ref (y + 19), .ref (y + 20), .ref (y + 21), .ref (y + 22), .int 0, .ref (y + 23), .ref (y + 24), .int 0, .ref (y + 25), .int 0, .int 0, .int 0, .int (-1), .int 0, .int 0, .int 0, .long 0])) (hc2_ : Φ (y + 2) = some (ai_ G 307 (upd (upd (upd (upd (upd (upd (upd (upd (upd (upd (upd (upd (upd (upd (upd (upd (upd (upd (upd (upd (upd (upd (fun _ => 0) (0 : Int32).toNatClampNeg 1) (1 : Int32).toNatClampNeg 100) (2 : Int32).toNatClampNeg 1000) (3 : Int32).toNatClampNeg 100) (4 : Int32).toNatClampNeg 20) (5 : Int32).toNatClampNeg 1000) (6 : Int32).toNatClampNeg 5000) (7 : Int32).toNatClampNeg 512) (8 : Int32).toNatClampNeg 1) (9 : Int32).toNatClampNeg 511) (10 : Int32).toNatClampNeg 1) (11 : Int32).toNatClampNeg 9) (15 : Int32).toNatClampNeg 0) (16 : Int32).toNatClampNeg 1) (17 : Int32).toNatClampNeg 2) (18 : Int32).toNatClampNeg 3) (19 : Int32).toNatClampNeg 4) (20 : Int32).toNatClampNeg 5) (21 : Int32).toNatClampNeg 6) (22 : Int32).toNatClampNeg 7) (23 : Int32).toNatClampNeg 8) (9 : Int32).toNatClampNeg vv))) : Ct G l yX12_fieldOf wsX12_fieldOf ({ frames := 0, cells := 0, slots := 0, locals := 0 }) 0 0 [.ref y, .int 0, .int 1] Φ sz (fun v Φ1 sz1 => v = some (.int 1) ∧ sz1 = sz ∧ (∀ b9 : Nat, Φ1 b9 = Φ b9)) := by
  refine Ct.of (cc := cX12_fieldOf) (maxL := 3) (ret := (some .int)) (by decide) rfl (Nat.le_of_ble_eq_true rfl) ?_
  intro p9 e9 s9 m9 w9 t9 k9 B
  show Z p9 l e9 _ s9 m9 _ w9 t9 k9 _ G 3 0 [(0, .ref y), (1, .int 0), (2, .int 1)] [] Φ sz 0 0
  refine z_aload_n B dX12_fieldOf_0 rfl 0 rfl ?_
  refine z_get (ref := "FlowExporterModel") (C := RX12) (T := TX12) (N := 54) (ci := 14) (v := .ref (y + 2)) B (by decide +kernel) rfl 2 (by decide) (by decide +kernel) rfl hc0_ rfl dX12_fieldOf_1 ?_
  refine z_bipush (v := 15) B dX12_fieldOf_4 rfl ?_
  refine z_bipush (v := 9) B dX12_fieldOf_6 rfl ?_
  refine z_iload_n B dX12_fieldOf_8 rfl 1 rfl ?_
  refine z_imul B dX12_fieldOf_9 ?_
  refine z_top (st1 := [.int 0, .int 15, .ref (y + 2)]) (congrArg (fun w9 : Int32 => ([.int w9, .int 15, .ref (y + 2)] : List Value)) (show (9 * 0 : Int32) = 0 by decide +kernel)) ?_
  refine z_iadd B dX12_fieldOf_10 ?_
  refine z_top (st1 := [.int 15, .ref (y + 2)]) (congrArg (fun w9 : Int32 => ([.int w9, .ref (y + 2)] : List Value)) (show (15 + 0 : Int32) = 15 by decide +kernel)) ?_
  refine z_iload_n B dX12_fieldOf_11 rfl 2 rfl ?_
  refine z_iadd B dX12_fieldOf_12 ?_
  refine z_top (st1 := [.int 16, .ref (y + 2)]) (congrArg (fun w9 : Int32 => ([.int w9, .ref (y + 2)] : List Value)) (show (15 + 1 : Int32) = 16 by decide +kernel)) ?_
  refine z_iald B hc2_ (vin rfl) dX12_fieldOf_13 ?_
  refine z_top (st1 := [.int 1]) (by rfl) ?_
  exact z_ret_i B dX12_fieldOf_14 ⟨rfl, rfl, (fun b9 => rfl)⟩

set_option maxHeartbeats 4000000 in
set_option maxRecDepth 100000 in
theorem m_fieldOf_s2 (G : EnvG) (l : Launch) (Φ : Hm) (sz : Nat) (y : Nat) (vv : Int32) (hc0_ : Φ y = some (o_ 14 [.int 0, .ref (y + 1), .ref (y + 2), .int 0, .int 1, .int 1, .int 0, .int 0, .ref (y + 3), .ref (y + 4), .int 0, .long 0, .ref (y + 5), .int 0, .int 0, .long 0, .long 0, .long 0, .long 0, .ref (y + 6), .ref (y + 7), .int 0, .ref (y + 8), .int 0, .ref (y + 9), .ref (y + 10), .int 0, .ref (y + 11), .ref (y + 12), .ref (y + 13), .ref (y + 14), .ref (y + 15), .ref (y + 16), .int 0, .long (-1), .ref (y + 17), .ref (y + 18), .ref (y + 19), .ref (y + 20), .ref (y + 21), .ref (y + 22), .int 0, .ref (y + 23), .ref (y + 24), .int 0, .ref (y + 25), .int 0, .int 0, .int 0, .int (-1), .int 0, .int 0, .int 0, .long 0])) (hc2_ : Φ (y + 2) = some (ai_ G 307 (upd (upd (upd (upd (upd (upd (upd (upd (upd (upd (upd (upd (upd (upd (upd (upd (upd (upd (upd (upd (upd (upd (fun _ => 0) (0 : Int32).toNatClampNeg 1) (1 : Int32).toNatClampNeg 100) (2 : Int32).toNatClampNeg 1000) (3 : Int32).toNatClampNeg 100) (4 : Int32).toNatClampNeg 20) (5 : Int32).toNatClampNeg 1000) (6 : Int32).toNatClampNeg 5000) (7 : Int32).toNatClampNeg 512) (8 : Int32).toNatClampNeg 1) (9 : Int32).toNatClampNeg 511) (10 : Int32).toNatClampNeg 1) (11 : Int32).toNatClampNeg 9) (15 : Int32).toNatClampNeg 0) (16 : Int32).toNatClampNeg 1) (17 : Int32).toNatClampNeg 2) (18 : Int32).toNatClampNeg 3) (19 : Int32).toNatClampNeg 4) (20 : Int32).toNatClampNeg 5) (21 : Int32).toNatClampNeg 6) (22 : Int32).toNatClampNeg 7) (23 : Int32).toNatClampNeg 8) (9 : Int32).toNatClampNeg vv))) : Ct G l yX12_fieldOf wsX12_fieldOf ({ frames := 0, cells := 0, slots := 0, locals := 0 }) 0 0 [.ref y, .int 0, .int 2] Φ sz (fun v Φ1 sz1 => v = some (.int 2) ∧ sz1 = sz ∧ (∀ b9 : Nat, Φ1 b9 = Φ b9)) := by
  refine Ct.of (cc := cX12_fieldOf) (maxL := 3) (ret := (some .int)) (by decide) rfl (Nat.le_of_ble_eq_true rfl) ?_
  intro p9 e9 s9 m9 w9 t9 k9 B
  show Z p9 l e9 _ s9 m9 _ w9 t9 k9 _ G 3 0 [(0, .ref y), (1, .int 0), (2, .int 2)] [] Φ sz 0 0
  refine z_aload_n B dX12_fieldOf_0 rfl 0 rfl ?_
  refine z_get (ref := "FlowExporterModel") (C := RX12) (T := TX12) (N := 54) (ci := 14) (v := .ref (y + 2)) B (by decide +kernel) rfl 2 (by decide) (by decide +kernel) rfl hc0_ rfl dX12_fieldOf_1 ?_
  refine z_bipush (v := 15) B dX12_fieldOf_4 rfl ?_
  refine z_bipush (v := 9) B dX12_fieldOf_6 rfl ?_
  refine z_iload_n B dX12_fieldOf_8 rfl 1 rfl ?_
  refine z_imul B dX12_fieldOf_9 ?_
  refine z_top (st1 := [.int 0, .int 15, .ref (y + 2)]) (congrArg (fun w9 : Int32 => ([.int w9, .int 15, .ref (y + 2)] : List Value)) (show (9 * 0 : Int32) = 0 by decide +kernel)) ?_
  refine z_iadd B dX12_fieldOf_10 ?_
  refine z_top (st1 := [.int 15, .ref (y + 2)]) (congrArg (fun w9 : Int32 => ([.int w9, .ref (y + 2)] : List Value)) (show (15 + 0 : Int32) = 15 by decide +kernel)) ?_
  refine z_iload_n B dX12_fieldOf_11 rfl 2 rfl ?_
  refine z_iadd B dX12_fieldOf_12 ?_
  refine z_top (st1 := [.int 17, .ref (y + 2)]) (congrArg (fun w9 : Int32 => ([.int w9, .ref (y + 2)] : List Value)) (show (15 + 2 : Int32) = 17 by decide +kernel)) ?_
  refine z_iald B hc2_ (vin rfl) dX12_fieldOf_13 ?_
  refine z_top (st1 := [.int 2]) (by rfl) ?_
  exact z_ret_i B dX12_fieldOf_14 ⟨rfl, rfl, (fun b9 => rfl)⟩

set_option maxHeartbeats 4000000 in
set_option maxRecDepth 100000 in
theorem m_fieldOf_s3 (G : EnvG) (l : Launch) (Φ : Hm) (sz : Nat) (y : Nat) (vv : Int32) (hc0_ : Φ y = some (o_ 14 [.int 0, .ref (y + 1), .ref (y + 2), .int 0, .int 1, .int 1, .int 0, .int 0, .ref (y + 3), .ref (y + 4), .int 0, .long 0, .ref (y + 5), .int 0, .int 0, .long 0, .long 0, .long 0, .long 0, .ref (y + 6), .ref (y + 7), .int 0, .ref (y + 8), .int 0, .ref (y + 9), .ref (y + 10), .int 0, .ref (y + 11), .ref (y + 12), .ref (y + 13), .ref (y + 14), .ref (y + 15), .ref (y + 16), .int 0, .long (-1), .ref (y + 17), .ref (y + 18), .ref (y + 19), .ref (y + 20), .ref (y + 21), .ref (y + 22), .int 0, .ref (y + 23), .ref (y + 24), .int 0, .ref (y + 25), .int 0, .int 0, .int 0, .int (-1), .int 0, .int 0, .int 0, .long 0])) (hc2_ : Φ (y + 2) = some (ai_ G 307 (upd (upd (upd (upd (upd (upd (upd (upd (upd (upd (upd (upd (upd (upd (upd (upd (upd (upd (upd (upd (upd (upd (fun _ => 0) (0 : Int32).toNatClampNeg 1) (1 : Int32).toNatClampNeg 100) (2 : Int32).toNatClampNeg 1000) (3 : Int32).toNatClampNeg 100) (4 : Int32).toNatClampNeg 20) (5 : Int32).toNatClampNeg 1000) (6 : Int32).toNatClampNeg 5000) (7 : Int32).toNatClampNeg 512) (8 : Int32).toNatClampNeg 1) (9 : Int32).toNatClampNeg 511) (10 : Int32).toNatClampNeg 1) (11 : Int32).toNatClampNeg 9) (15 : Int32).toNatClampNeg 0) (16 : Int32).toNatClampNeg 1) (17 : Int32).toNatClampNeg 2) (18 : Int32).toNatClampNeg 3) (19 : Int32).toNatClampNeg 4) (20 : Int32).toNatClampNeg 5) (21 : Int32).toNatClampNeg 6) (22 : Int32).toNatClampNeg 7) (23 : Int32).toNatClampNeg 8) (9 : Int32).toNatClampNeg vv))) : Ct G l yX12_fieldOf wsX12_fieldOf ({ frames := 0, cells := 0, slots := 0, locals := 0 }) 0 0 [.ref y, .int 0, .int 3] Φ sz (fun v Φ1 sz1 => v = some (.int 3) ∧ sz1 = sz ∧ (∀ b9 : Nat, Φ1 b9 = Φ b9)) := by
  refine Ct.of (cc := cX12_fieldOf) (maxL := 3) (ret := (some .int)) (by decide) rfl (Nat.le_of_ble_eq_true rfl) ?_
  intro p9 e9 s9 m9 w9 t9 k9 B
  show Z p9 l e9 _ s9 m9 _ w9 t9 k9 _ G 3 0 [(0, .ref y), (1, .int 0), (2, .int 3)] [] Φ sz 0 0
  refine z_aload_n B dX12_fieldOf_0 rfl 0 rfl ?_
  refine z_get (ref := "FlowExporterModel") (C := RX12) (T := TX12) (N := 54) (ci := 14) (v := .ref (y + 2)) B (by decide +kernel) rfl 2 (by decide) (by decide +kernel) rfl hc0_ rfl dX12_fieldOf_1 ?_
  refine z_bipush (v := 15) B dX12_fieldOf_4 rfl ?_
  refine z_bipush (v := 9) B dX12_fieldOf_6 rfl ?_
  refine z_iload_n B dX12_fieldOf_8 rfl 1 rfl ?_
  refine z_imul B dX12_fieldOf_9 ?_
  refine z_top (st1 := [.int 0, .int 15, .ref (y + 2)]) (congrArg (fun w9 : Int32 => ([.int w9, .int 15, .ref (y + 2)] : List Value)) (show (9 * 0 : Int32) = 0 by decide +kernel)) ?_
  refine z_iadd B dX12_fieldOf_10 ?_
  refine z_top (st1 := [.int 15, .ref (y + 2)]) (congrArg (fun w9 : Int32 => ([.int w9, .ref (y + 2)] : List Value)) (show (15 + 0 : Int32) = 15 by decide +kernel)) ?_
  refine z_iload_n B dX12_fieldOf_11 rfl 2 rfl ?_
  refine z_iadd B dX12_fieldOf_12 ?_
  refine z_top (st1 := [.int 18, .ref (y + 2)]) (congrArg (fun w9 : Int32 => ([.int w9, .ref (y + 2)] : List Value)) (show (15 + 3 : Int32) = 18 by decide +kernel)) ?_
  refine z_iald B hc2_ (vin rfl) dX12_fieldOf_13 ?_
  refine z_top (st1 := [.int 3]) (by rfl) ?_
  exact z_ret_i B dX12_fieldOf_14 ⟨rfl, rfl, (fun b9 => rfl)⟩

set_option maxHeartbeats 4000000 in
set_option maxRecDepth 100000 in
theorem m_fieldOf_s4 (G : EnvG) (l : Launch) (Φ : Hm) (sz : Nat) (y : Nat) (vv : Int32) (hc0_ : Φ y = some (o_ 14 [.int 0, .ref (y + 1), .ref (y + 2), .int 0, .int 1, .int 1, .int 0, .int 0, .ref (y + 3), .ref (y + 4), .int 0, .long 0, .ref (y + 5), .int 0, .int 0, .long 0, .long 0, .long 0, .long 0, .ref (y + 6), .ref (y + 7), .int 0, .ref (y + 8), .int 0, .ref (y + 9), .ref (y + 10), .int 0, .ref (y + 11), .ref (y + 12), .ref (y + 13), .ref (y + 14), .ref (y + 15), .ref (y + 16), .int 0, .long (-1), .ref (y + 17), .ref (y + 18), .ref (y + 19), .ref (y + 20), .ref (y + 21), .ref (y + 22), .int 0, .ref (y + 23), .ref (y + 24), .int 0, .ref (y + 25), .int 0, .int 0, .int 0, .int (-1), .int 0, .int 0, .int 0, .long 0])) (hc2_ : Φ (y + 2) = some (ai_ G 307 (upd (upd (upd (upd (upd (upd (upd (upd (upd (upd (upd (upd (upd (upd (upd (upd (upd (upd (upd (upd (upd (upd (fun _ => 0) (0 : Int32).toNatClampNeg 1) (1 : Int32).toNatClampNeg 100) (2 : Int32).toNatClampNeg 1000) (3 : Int32).toNatClampNeg 100) (4 : Int32).toNatClampNeg 20) (5 : Int32).toNatClampNeg 1000) (6 : Int32).toNatClampNeg 5000) (7 : Int32).toNatClampNeg 512) (8 : Int32).toNatClampNeg 1) (9 : Int32).toNatClampNeg 511) (10 : Int32).toNatClampNeg 1) (11 : Int32).toNatClampNeg 9) (15 : Int32).toNatClampNeg 0) (16 : Int32).toNatClampNeg 1) (17 : Int32).toNatClampNeg 2) (18 : Int32).toNatClampNeg 3) (19 : Int32).toNatClampNeg 4) (20 : Int32).toNatClampNeg 5) (21 : Int32).toNatClampNeg 6) (22 : Int32).toNatClampNeg 7) (23 : Int32).toNatClampNeg 8) (9 : Int32).toNatClampNeg vv))) : Ct G l yX12_fieldOf wsX12_fieldOf ({ frames := 0, cells := 0, slots := 0, locals := 0 }) 0 0 [.ref y, .int 0, .int 4] Φ sz (fun v Φ1 sz1 => v = some (.int 4) ∧ sz1 = sz ∧ (∀ b9 : Nat, Φ1 b9 = Φ b9)) := by
  refine Ct.of (cc := cX12_fieldOf) (maxL := 3) (ret := (some .int)) (by decide) rfl (Nat.le_of_ble_eq_true rfl) ?_
  intro p9 e9 s9 m9 w9 t9 k9 B
  show Z p9 l e9 _ s9 m9 _ w9 t9 k9 _ G 3 0 [(0, .ref y), (1, .int 0), (2, .int 4)] [] Φ sz 0 0
  refine z_aload_n B dX12_fieldOf_0 rfl 0 rfl ?_
  refine z_get (ref := "FlowExporterModel") (C := RX12) (T := TX12) (N := 54) (ci := 14) (v := .ref (y + 2)) B (by decide +kernel) rfl 2 (by decide) (by decide +kernel) rfl hc0_ rfl dX12_fieldOf_1 ?_
  refine z_bipush (v := 15) B dX12_fieldOf_4 rfl ?_
  refine z_bipush (v := 9) B dX12_fieldOf_6 rfl ?_
  refine z_iload_n B dX12_fieldOf_8 rfl 1 rfl ?_
  refine z_imul B dX12_fieldOf_9 ?_
  refine z_top (st1 := [.int 0, .int 15, .ref (y + 2)]) (congrArg (fun w9 : Int32 => ([.int w9, .int 15, .ref (y + 2)] : List Value)) (show (9 * 0 : Int32) = 0 by decide +kernel)) ?_
  refine z_iadd B dX12_fieldOf_10 ?_
  refine z_top (st1 := [.int 15, .ref (y + 2)]) (congrArg (fun w9 : Int32 => ([.int w9, .ref (y + 2)] : List Value)) (show (15 + 0 : Int32) = 15 by decide +kernel)) ?_
  refine z_iload_n B dX12_fieldOf_11 rfl 2 rfl ?_
  refine z_iadd B dX12_fieldOf_12 ?_
  refine z_top (st1 := [.int 19, .ref (y + 2)]) (congrArg (fun w9 : Int32 => ([.int w9, .ref (y + 2)] : List Value)) (show (15 + 4 : Int32) = 19 by decide +kernel)) ?_
  refine z_iald B hc2_ (vin rfl) dX12_fieldOf_13 ?_
  refine z_top (st1 := [.int 4]) (by rfl) ?_
  exact z_ret_i B dX12_fieldOf_14 ⟨rfl, rfl, (fun b9 => rfl)⟩

set_option maxHeartbeats 4000000 in
set_option maxRecDepth 100000 in
theorem m_fieldOf_s5 (G : EnvG) (l : Launch) (Φ : Hm) (sz : Nat) (y : Nat) (vv : Int32) (hc0_ : Φ y = some (o_ 14 [.int 0, .ref (y + 1), .ref (y + 2), .int 0, .int 1, .int 1, .int 0, .int 0, .ref (y + 3), .ref (y + 4), .int 0, .long 0, .ref (y + 5), .int 0, .int 0, .long 0, .long 0, .long 0, .long 0, .ref (y + 6), .ref (y + 7), .int 0, .ref (y + 8), .int 0, .ref (y + 9), .ref (y + 10), .int 0, .ref (y + 11), .ref (y + 12), .ref (y + 13), .ref (y + 14), .ref (y + 15), .ref (y + 16), .int 0, .long (-1), .ref (y + 17), .ref (y + 18), .ref (y + 19), .ref (y + 20), .ref (y + 21), .ref (y + 22), .int 0, .ref (y + 23), .ref (y + 24), .int 0, .ref (y + 25), .int 0, .int 0, .int 0, .int (-1), .int 0, .int 0, .int 0, .long 0])) (hc2_ : Φ (y + 2) = some (ai_ G 307 (upd (upd (upd (upd (upd (upd (upd (upd (upd (upd (upd (upd (upd (upd (upd (upd (upd (upd (upd (upd (upd (upd (fun _ => 0) (0 : Int32).toNatClampNeg 1) (1 : Int32).toNatClampNeg 100) (2 : Int32).toNatClampNeg 1000) (3 : Int32).toNatClampNeg 100) (4 : Int32).toNatClampNeg 20) (5 : Int32).toNatClampNeg 1000) (6 : Int32).toNatClampNeg 5000) (7 : Int32).toNatClampNeg 512) (8 : Int32).toNatClampNeg 1) (9 : Int32).toNatClampNeg 511) (10 : Int32).toNatClampNeg 1) (11 : Int32).toNatClampNeg 9) (15 : Int32).toNatClampNeg 0) (16 : Int32).toNatClampNeg 1) (17 : Int32).toNatClampNeg 2) (18 : Int32).toNatClampNeg 3) (19 : Int32).toNatClampNeg 4) (20 : Int32).toNatClampNeg 5) (21 : Int32).toNatClampNeg 6) (22 : Int32).toNatClampNeg 7) (23 : Int32).toNatClampNeg 8) (9 : Int32).toNatClampNeg vv))) : Ct G l yX12_fieldOf wsX12_fieldOf ({ frames := 0, cells := 0, slots := 0, locals := 0 }) 0 0 [.ref y, .int 0, .int 5] Φ sz (fun v Φ1 sz1 => v = some (.int 5) ∧ sz1 = sz ∧ (∀ b9 : Nat, Φ1 b9 = Φ b9)) := by
  refine Ct.of (cc := cX12_fieldOf) (maxL := 3) (ret := (some .int)) (by decide) rfl (Nat.le_of_ble_eq_true rfl) ?_
  intro p9 e9 s9 m9 w9 t9 k9 B
  show Z p9 l e9 _ s9 m9 _ w9 t9 k9 _ G 3 0 [(0, .ref y), (1, .int 0), (2, .int 5)] [] Φ sz 0 0
  refine z_aload_n B dX12_fieldOf_0 rfl 0 rfl ?_
  refine z_get (ref := "FlowExporterModel") (C := RX12) (T := TX12) (N := 54) (ci := 14) (v := .ref (y + 2)) B (by decide +kernel) rfl 2 (by decide) (by decide +kernel) rfl hc0_ rfl dX12_fieldOf_1 ?_
  refine z_bipush (v := 15) B dX12_fieldOf_4 rfl ?_
  refine z_bipush (v := 9) B dX12_fieldOf_6 rfl ?_
  refine z_iload_n B dX12_fieldOf_8 rfl 1 rfl ?_
  refine z_imul B dX12_fieldOf_9 ?_
  refine z_top (st1 := [.int 0, .int 15, .ref (y + 2)]) (congrArg (fun w9 : Int32 => ([.int w9, .int 15, .ref (y + 2)] : List Value)) (show (9 * 0 : Int32) = 0 by decide +kernel)) ?_
  refine z_iadd B dX12_fieldOf_10 ?_
  refine z_top (st1 := [.int 15, .ref (y + 2)]) (congrArg (fun w9 : Int32 => ([.int w9, .ref (y + 2)] : List Value)) (show (15 + 0 : Int32) = 15 by decide +kernel)) ?_
  refine z_iload_n B dX12_fieldOf_11 rfl 2 rfl ?_
  refine z_iadd B dX12_fieldOf_12 ?_
  refine z_top (st1 := [.int 20, .ref (y + 2)]) (congrArg (fun w9 : Int32 => ([.int w9, .ref (y + 2)] : List Value)) (show (15 + 5 : Int32) = 20 by decide +kernel)) ?_
  refine z_iald B hc2_ (vin rfl) dX12_fieldOf_13 ?_
  refine z_top (st1 := [.int 5]) (by rfl) ?_
  exact z_ret_i B dX12_fieldOf_14 ⟨rfl, rfl, (fun b9 => rfl)⟩

set_option maxHeartbeats 4000000 in
set_option maxRecDepth 100000 in
theorem m_fieldOf_s6 (G : EnvG) (l : Launch) (Φ : Hm) (sz : Nat) (y : Nat) (vv : Int32) (hc0_ : Φ y = some (o_ 14 [.int 0, .ref (y + 1), .ref (y + 2), .int 0, .int 1, .int 1, .int 0, .int 0, .ref (y + 3), .ref (y + 4), .int 0, .long 0, .ref (y + 5), .int 0, .int 0, .long 0, .long 0, .long 0, .long 0, .ref (y + 6), .ref (y + 7), .int 0, .ref (y + 8), .int 0, .ref (y + 9), .ref (y + 10), .int 0, .ref (y + 11), .ref (y + 12), .ref (y + 13), .ref (y + 14), .ref (y + 15), .ref (y + 16), .int 0, .long (-1), .ref (y + 17), .ref (y + 18), .ref (y + 19), .ref (y + 20), .ref (y + 21), .ref (y + 22), .int 0, .ref (y + 23), .ref (y + 24), .int 0, .ref (y + 25), .int 0, .int 0, .int 0, .int (-1), .int 0, .int 0, .int 0, .long 0])) (hc2_ : Φ (y + 2) = some (ai_ G 307 (upd (upd (upd (upd (upd (upd (upd (upd (upd (upd (upd (upd (upd (upd (upd (upd (upd (upd (upd (upd (upd (upd (fun _ => 0) (0 : Int32).toNatClampNeg 1) (1 : Int32).toNatClampNeg 100) (2 : Int32).toNatClampNeg 1000) (3 : Int32).toNatClampNeg 100) (4 : Int32).toNatClampNeg 20) (5 : Int32).toNatClampNeg 1000) (6 : Int32).toNatClampNeg 5000) (7 : Int32).toNatClampNeg 512) (8 : Int32).toNatClampNeg 1) (9 : Int32).toNatClampNeg 511) (10 : Int32).toNatClampNeg 1) (11 : Int32).toNatClampNeg 9) (15 : Int32).toNatClampNeg 0) (16 : Int32).toNatClampNeg 1) (17 : Int32).toNatClampNeg 2) (18 : Int32).toNatClampNeg 3) (19 : Int32).toNatClampNeg 4) (20 : Int32).toNatClampNeg 5) (21 : Int32).toNatClampNeg 6) (22 : Int32).toNatClampNeg 7) (23 : Int32).toNatClampNeg 8) (9 : Int32).toNatClampNeg vv))) : Ct G l yX12_fieldOf wsX12_fieldOf ({ frames := 0, cells := 0, slots := 0, locals := 0 }) 0 0 [.ref y, .int 0, .int 6] Φ sz (fun v Φ1 sz1 => v = some (.int 6) ∧ sz1 = sz ∧ (∀ b9 : Nat, Φ1 b9 = Φ b9)) := by
  refine Ct.of (cc := cX12_fieldOf) (maxL := 3) (ret := (some .int)) (by decide) rfl (Nat.le_of_ble_eq_true rfl) ?_
  intro p9 e9 s9 m9 w9 t9 k9 B
  show Z p9 l e9 _ s9 m9 _ w9 t9 k9 _ G 3 0 [(0, .ref y), (1, .int 0), (2, .int 6)] [] Φ sz 0 0
  refine z_aload_n B dX12_fieldOf_0 rfl 0 rfl ?_
  refine z_get (ref := "FlowExporterModel") (C := RX12) (T := TX12) (N := 54) (ci := 14) (v := .ref (y + 2)) B (by decide +kernel) rfl 2 (by decide) (by decide +kernel) rfl hc0_ rfl dX12_fieldOf_1 ?_
  refine z_bipush (v := 15) B dX12_fieldOf_4 rfl ?_
  refine z_bipush (v := 9) B dX12_fieldOf_6 rfl ?_
  refine z_iload_n B dX12_fieldOf_8 rfl 1 rfl ?_
  refine z_imul B dX12_fieldOf_9 ?_
  refine z_top (st1 := [.int 0, .int 15, .ref (y + 2)]) (congrArg (fun w9 : Int32 => ([.int w9, .int 15, .ref (y + 2)] : List Value)) (show (9 * 0 : Int32) = 0 by decide +kernel)) ?_
  refine z_iadd B dX12_fieldOf_10 ?_
  refine z_top (st1 := [.int 15, .ref (y + 2)]) (congrArg (fun w9 : Int32 => ([.int w9, .ref (y + 2)] : List Value)) (show (15 + 0 : Int32) = 15 by decide +kernel)) ?_
  refine z_iload_n B dX12_fieldOf_11 rfl 2 rfl ?_
  refine z_iadd B dX12_fieldOf_12 ?_
  refine z_top (st1 := [.int 21, .ref (y + 2)]) (congrArg (fun w9 : Int32 => ([.int w9, .ref (y + 2)] : List Value)) (show (15 + 6 : Int32) = 21 by decide +kernel)) ?_
  refine z_iald B hc2_ (vin rfl) dX12_fieldOf_13 ?_
  refine z_top (st1 := [.int 6]) (by rfl) ?_
  exact z_ret_i B dX12_fieldOf_14 ⟨rfl, rfl, (fun b9 => rfl)⟩

set_option maxHeartbeats 4000000 in
set_option maxRecDepth 100000 in
theorem m_fieldOf_s7 (G : EnvG) (l : Launch) (Φ : Hm) (sz : Nat) (y : Nat) (vv : Int32) (hc0_ : Φ y = some (o_ 14 [.int 0, .ref (y + 1), .ref (y + 2), .int 0, .int 1, .int 1, .int 0, .int 0, .ref (y + 3), .ref (y + 4), .int 0, .long 0, .ref (y + 5), .int 0, .int 0, .long 0, .long 0, .long 0, .long 0, .ref (y + 6), .ref (y + 7), .int 0, .ref (y + 8), .int 0, .ref (y + 9), .ref (y + 10), .int 0, .ref (y + 11), .ref (y + 12), .ref (y + 13), .ref (y + 14), .ref (y + 15), .ref (y + 16), .int 0, .long (-1), .ref (y + 17), .ref (y + 18), .ref (y + 19), .ref (y + 20), .ref (y + 21), .ref (y + 22), .int 0, .ref (y + 23), .ref (y + 24), .int 0, .ref (y + 25), .int 0, .int 0, .int 0, .int (-1), .int 0, .int 0, .int 0, .long 0])) (hc2_ : Φ (y + 2) = some (ai_ G 307 (upd (upd (upd (upd (upd (upd (upd (upd (upd (upd (upd (upd (upd (upd (upd (upd (upd (upd (upd (upd (upd (upd (fun _ => 0) (0 : Int32).toNatClampNeg 1) (1 : Int32).toNatClampNeg 100) (2 : Int32).toNatClampNeg 1000) (3 : Int32).toNatClampNeg 100) (4 : Int32).toNatClampNeg 20) (5 : Int32).toNatClampNeg 1000) (6 : Int32).toNatClampNeg 5000) (7 : Int32).toNatClampNeg 512) (8 : Int32).toNatClampNeg 1) (9 : Int32).toNatClampNeg 511) (10 : Int32).toNatClampNeg 1) (11 : Int32).toNatClampNeg 9) (15 : Int32).toNatClampNeg 0) (16 : Int32).toNatClampNeg 1) (17 : Int32).toNatClampNeg 2) (18 : Int32).toNatClampNeg 3) (19 : Int32).toNatClampNeg 4) (20 : Int32).toNatClampNeg 5) (21 : Int32).toNatClampNeg 6) (22 : Int32).toNatClampNeg 7) (23 : Int32).toNatClampNeg 8) (9 : Int32).toNatClampNeg vv))) : Ct G l yX12_fieldOf wsX12_fieldOf ({ frames := 0, cells := 0, slots := 0, locals := 0 }) 0 0 [.ref y, .int 0, .int 7] Φ sz (fun v Φ1 sz1 => v = some (.int 7) ∧ sz1 = sz ∧ (∀ b9 : Nat, Φ1 b9 = Φ b9)) := by
  refine Ct.of (cc := cX12_fieldOf) (maxL := 3) (ret := (some .int)) (by decide) rfl (Nat.le_of_ble_eq_true rfl) ?_
  intro p9 e9 s9 m9 w9 t9 k9 B
  show Z p9 l e9 _ s9 m9 _ w9 t9 k9 _ G 3 0 [(0, .ref y), (1, .int 0), (2, .int 7)] [] Φ sz 0 0
  refine z_aload_n B dX12_fieldOf_0 rfl 0 rfl ?_
  refine z_get (ref := "FlowExporterModel") (C := RX12) (T := TX12) (N := 54) (ci := 14) (v := .ref (y + 2)) B (by decide +kernel) rfl 2 (by decide) (by decide +kernel) rfl hc0_ rfl dX12_fieldOf_1 ?_
  refine z_bipush (v := 15) B dX12_fieldOf_4 rfl ?_
  refine z_bipush (v := 9) B dX12_fieldOf_6 rfl ?_
  refine z_iload_n B dX12_fieldOf_8 rfl 1 rfl ?_
  refine z_imul B dX12_fieldOf_9 ?_
  refine z_top (st1 := [.int 0, .int 15, .ref (y + 2)]) (congrArg (fun w9 : Int32 => ([.int w9, .int 15, .ref (y + 2)] : List Value)) (show (9 * 0 : Int32) = 0 by decide +kernel)) ?_
  refine z_iadd B dX12_fieldOf_10 ?_
  refine z_top (st1 := [.int 15, .ref (y + 2)]) (congrArg (fun w9 : Int32 => ([.int w9, .ref (y + 2)] : List Value)) (show (15 + 0 : Int32) = 15 by decide +kernel)) ?_
  refine z_iload_n B dX12_fieldOf_11 rfl 2 rfl ?_
  refine z_iadd B dX12_fieldOf_12 ?_
  refine z_top (st1 := [.int 22, .ref (y + 2)]) (congrArg (fun w9 : Int32 => ([.int w9, .ref (y + 2)] : List Value)) (show (15 + 7 : Int32) = 22 by decide +kernel)) ?_
  refine z_iald B hc2_ (vin rfl) dX12_fieldOf_13 ?_
  refine z_top (st1 := [.int 7]) (by rfl) ?_
  exact z_ret_i B dX12_fieldOf_14 ⟨rfl, rfl, (fun b9 => rfl)⟩

set_option maxHeartbeats 4000000 in
set_option maxRecDepth 100000 in
theorem m_fieldOf_s8 (G : EnvG) (l : Launch) (Φ : Hm) (sz : Nat) (y : Nat) (vv : Int32) (hc0_ : Φ y = some (o_ 14 [.int 0, .ref (y + 1), .ref (y + 2), .int 0, .int 1, .int 1, .int 0, .int 0, .ref (y + 3), .ref (y + 4), .int 0, .long 0, .ref (y + 5), .int 0, .int 0, .long 0, .long 0, .long 0, .long 0, .ref (y + 6), .ref (y + 7), .int 0, .ref (y + 8), .int 0, .ref (y + 9), .ref (y + 10), .int 0, .ref (y + 11), .ref (y + 12), .ref (y + 13), .ref (y + 14), .ref (y + 15), .ref (y + 16), .int 0, .long (-1), .ref (y + 17), .ref (y + 18), .ref (y + 19), .ref (y + 20), .ref (y + 21), .ref (y + 22), .int 0, .ref (y + 23), .ref (y + 24), .int 0, .ref (y + 25), .int 0, .int 0, .int 0, .int (-1), .int 0, .int 0, .int 0, .long 0])) (hc2_ : Φ (y + 2) = some (ai_ G 307 (upd (upd (upd (upd (upd (upd (upd (upd (upd (upd (upd (upd (upd (upd (upd (upd (upd (upd (upd (upd (upd (upd (fun _ => 0) (0 : Int32).toNatClampNeg 1) (1 : Int32).toNatClampNeg 100) (2 : Int32).toNatClampNeg 1000) (3 : Int32).toNatClampNeg 100) (4 : Int32).toNatClampNeg 20) (5 : Int32).toNatClampNeg 1000) (6 : Int32).toNatClampNeg 5000) (7 : Int32).toNatClampNeg 512) (8 : Int32).toNatClampNeg 1) (9 : Int32).toNatClampNeg 511) (10 : Int32).toNatClampNeg 1) (11 : Int32).toNatClampNeg 9) (15 : Int32).toNatClampNeg 0) (16 : Int32).toNatClampNeg 1) (17 : Int32).toNatClampNeg 2) (18 : Int32).toNatClampNeg 3) (19 : Int32).toNatClampNeg 4) (20 : Int32).toNatClampNeg 5) (21 : Int32).toNatClampNeg 6) (22 : Int32).toNatClampNeg 7) (23 : Int32).toNatClampNeg 8) (9 : Int32).toNatClampNeg vv))) : Ct G l yX12_fieldOf wsX12_fieldOf ({ frames := 0, cells := 0, slots := 0, locals := 0 }) 0 0 [.ref y, .int 0, .int 8] Φ sz (fun v Φ1 sz1 => v = some (.int 8) ∧ sz1 = sz ∧ (∀ b9 : Nat, Φ1 b9 = Φ b9)) := by
  refine Ct.of (cc := cX12_fieldOf) (maxL := 3) (ret := (some .int)) (by decide) rfl (Nat.le_of_ble_eq_true rfl) ?_
  intro p9 e9 s9 m9 w9 t9 k9 B
  show Z p9 l e9 _ s9 m9 _ w9 t9 k9 _ G 3 0 [(0, .ref y), (1, .int 0), (2, .int 8)] [] Φ sz 0 0
  refine z_aload_n B dX12_fieldOf_0 rfl 0 rfl ?_
  refine z_get (ref := "FlowExporterModel") (C := RX12) (T := TX12) (N := 54) (ci := 14) (v := .ref (y + 2)) B (by decide +kernel) rfl 2 (by decide) (by decide +kernel) rfl hc0_ rfl dX12_fieldOf_1 ?_
  refine z_bipush (v := 15) B dX12_fieldOf_4 rfl ?_
  refine z_bipush (v := 9) B dX12_fieldOf_6 rfl ?_
  refine z_iload_n B dX12_fieldOf_8 rfl 1 rfl ?_
  refine z_imul B dX12_fieldOf_9 ?_
  refine z_top (st1 := [.int 0, .int 15, .ref (y + 2)]) (congrArg (fun w9 : Int32 => ([.int w9, .int 15, .ref (y + 2)] : List Value)) (show (9 * 0 : Int32) = 0 by decide +kernel)) ?_
  refine z_iadd B dX12_fieldOf_10 ?_
  refine z_top (st1 := [.int 15, .ref (y + 2)]) (congrArg (fun w9 : Int32 => ([.int w9, .ref (y + 2)] : List Value)) (show (15 + 0 : Int32) = 15 by decide +kernel)) ?_
  refine z_iload_n B dX12_fieldOf_11 rfl 2 rfl ?_
  refine z_iadd B dX12_fieldOf_12 ?_
  refine z_top (st1 := [.int 23, .ref (y + 2)]) (congrArg (fun w9 : Int32 => ([.int w9, .ref (y + 2)] : List Value)) (show (15 + 8 : Int32) = 23 by decide +kernel)) ?_
  refine z_iald B hc2_ (vin rfl) dX12_fieldOf_13 ?_
  refine z_top (st1 := [.int 8]) (by rfl) ?_
  exact z_ret_i B dX12_fieldOf_14 ⟨rfl, rfl, (fun b9 => rfl)⟩

set_option maxHeartbeats 4000000 in
set_option maxRecDepth 100000 in
theorem m_fieldsOf_s (G : EnvG) (l : Launch) (Φ : Hm) (sz : Nat) (y : Nat) (vv : Int32) (hc0_ : Φ y = some (o_ 14 [.int 0, .ref (y + 1), .ref (y + 2), .int 0, .int 1, .int 1, .int 0, .int 0, .ref (y + 3), .ref (y + 4), .int 0, .long 0, .ref (y + 5), .int 0, .int 0, .long 0, .long 0, .long 0, .long 0, .ref (y + 6), .ref (y + 7), .int 0, .ref (y + 8), .int 0, .ref (y + 9), .ref (y + 10), .int 0, .ref (y + 11), .ref (y + 12), .ref (y + 13), .ref (y + 14), .ref (y + 15), .ref (y + 16), .int 0, .long (-1), .ref (y + 17), .ref (y + 18), .ref (y + 19), .ref (y + 20), .ref (y + 21), .ref (y + 22), .int 0, .ref (y + 23), .ref (y + 24), .int 0, .ref (y + 25), .int 0, .int 0, .int 0, .int (-1), .int 0, .int 0, .int 0, .long 0])) (hc2_ : Φ (y + 2) = some (ai_ G 307 (upd (upd (upd (upd (upd (upd (upd (upd (upd (upd (upd (upd (upd (upd (upd (upd (upd (upd (upd (upd (upd (upd (fun _ => 0) (0 : Int32).toNatClampNeg 1) (1 : Int32).toNatClampNeg 100) (2 : Int32).toNatClampNeg 1000) (3 : Int32).toNatClampNeg 100) (4 : Int32).toNatClampNeg 20) (5 : Int32).toNatClampNeg 1000) (6 : Int32).toNatClampNeg 5000) (7 : Int32).toNatClampNeg 512) (8 : Int32).toNatClampNeg 1) (9 : Int32).toNatClampNeg 511) (10 : Int32).toNatClampNeg 1) (11 : Int32).toNatClampNeg 9) (15 : Int32).toNatClampNeg 0) (16 : Int32).toNatClampNeg 1) (17 : Int32).toNatClampNeg 2) (18 : Int32).toNatClampNeg 3) (19 : Int32).toNatClampNeg 4) (20 : Int32).toNatClampNeg 5) (21 : Int32).toNatClampNeg 6) (22 : Int32).toNatClampNeg 7) (23 : Int32).toNatClampNeg 8) (9 : Int32).toNatClampNeg vv))) : Ct G l yX12_fieldsOf wsX12_fieldsOf ({ frames := 1, cells := 0, slots := 0, locals := 22 }) 0 0 [.ref y, .int 0] Φ sz (fun v Φ1 sz1 => v = some (.int 511) ∧ sz1 = sz ∧ (∀ b9 : Nat, Φ1 b9 = Φ b9)) := by
  refine Ct.of (cc := cX12_fieldsOf) (maxL := 4) (ret := (some .int)) (by decide) rfl (Nat.le_of_ble_eq_true rfl) ?_
  intro p9 e9 s9 m9 w9 t9 k9 B
  show Z p9 l e9 _ s9 m9 _ w9 t9 k9 _ G 4 0 [(0, .ref y), (1, .int 0)] [] Φ sz 0 0
  refine z_iconst (v := 0) B dX12_fieldsOf_0 rfl ?_
  refine z_istore_n (lv' := [(2, .int 0), (0, .ref y), (1, .int 0)]) B dX12_fieldsOf_1 rfl (Nat.le_of_ble_eq_true rfl) rfl ?_
  refine z_iconst (v := 0) B dX12_fieldsOf_2 rfl ?_
  refine z_istore_n (lv' := [(3, .int 0), (2, .int 0), (0, .ref y), (1, .int 0)]) B dX12_fieldsOf_3 rfl (Nat.le_of_ble_eq_true rfl) rfl ?_
  refine z_iload_n B dX12_fieldsOf_4 rfl 0 rfl ?_
  refine z_aload_n B dX12_fieldsOf_5 rfl 2 rfl ?_
  refine z_iload_n B dX12_fieldsOf_6 rfl 3 rfl ?_
  refine z_callV (As := [.int 0]) (rest := [.int 0]) B (m_sizeOf_s G l Φ sz y vv hc0_ hc2_) (cwV 1 B.1.2.2.2.2 gX12_fieldsOf_X12_sizeOf rfl rfl rfl (by decide +kernel) ⟨Nat.le_of_ble_eq_true rfl, Nat.le_of_ble_eq_true rfl⟩) hc0_ rfl rfl rfl rfl (Nat.le_of_ble_eq_true rfl) dX12_fieldsOf_7 ⟨Nat.le_of_ble_eq_true rfl, Nat.le_of_ble_eq_true rfl⟩ (fun v1 Φ1 sz1 st1 hp1 hs1 => ?_)
  obtain ⟨rfl, hq1, fr1⟩ := hp1
  replace hq1 : sz1 = sz := hq1
  subst sz1
  replace hs1 : st1 = [.int 9, .int 0] := hs1
  subst st1
  refine z_icmp_ge (tgt := 30) B dX12_fieldsOf_10 rfl (fun h9 => absurd h9 (by decide)) (fun c_1 => ?_)
  refine z_iload_n B dX12_fieldsOf_13 rfl 1 rfl ?_
  refine z_iconst (v := 1) B dX12_fieldsOf_14 rfl ?_
  refine z_aload_n B dX12_fieldsOf_15 rfl 2 rfl ?_
  refine z_iload_n B dX12_fieldsOf_16 rfl 3 rfl ?_
  refine z_iload_n B dX12_fieldsOf_17 rfl 0 rfl ?_
  have h_1 : Φ1 y = some (o_ 14 [.int 0, .ref (y + 1), .ref (y + 2), .int 0, .int 1, .int 1, .int 0, .int 0, .ref (y + 3), .ref (y + 4), .int 0, .long 0, .ref (y + 5), .int 0, .int 0, .long 0, .long 0, .long 0, .long 0, .ref (y + 6), .ref (y + 7), .int 0, .ref (y + 8), .int 0, .ref (y + 9), .ref (y + 10), .int 0, .ref (y + 11), .ref (y + 12), .ref (y + 13), .ref (y + 14), .ref (y + 15), .ref (y + 16), .int 0, .long (-1), .ref (y + 17), .ref (y + 18), .ref (y + 19), .ref (y + 20), .ref (y + 21), .ref (y + 22), .int 0, .ref (y + 23), .ref (y + 24), .int 0, .ref (y + 25), .int 0, .int 0, .int 0, .int (-1), .int 0, .int 0, .int 0, .long 0]) := ((fr1 y).trans hc0_)
  have h_2 : Φ1 (y + 2) = some (ai_ G 307 (upd (upd (upd (upd (upd (upd (upd (upd (upd (upd (upd (upd (upd (upd (upd (upd (upd (upd (upd (upd (upd (upd (fun _ => 0) (0 : Int32).toNatClampNeg 1) (1 : Int32).toNatClampNeg 100) (2 : Int32).toNatClampNeg 1000) (3 : Int32).toNatClampNeg 100) (4 : Int32).toNatClampNeg 20) (5 : Int32).toNatClampNeg 1000) (6 : Int32).toNatClampNeg 5000) (7 : Int32).toNatClampNeg 512) (8 : Int32).toNatClampNeg 1) (9 : Int32).toNatClampNeg 511) (10 : Int32).toNatClampNeg 1) (11 : Int32).toNatClampNeg 9) (15 : Int32).toNatClampNeg 0) (16 : Int32).toNatClampNeg 1) (17 : Int32).toNatClampNeg 2) (18 : Int32).toNatClampNeg 3) (19 : Int32).toNatClampNeg 4) (20 : Int32).toNatClampNeg 5) (21 : Int32).toNatClampNeg 6) (22 : Int32).toNatClampNeg 7) (23 : Int32).toNatClampNeg 8) (9 : Int32).toNatClampNeg vv)) := ((fr1 (y + 2)).trans hc2_)
  refine z_callV (As := [.int 0, .int 0]) (rest := [.int 1, .int 0]) B (m_fieldOf_s0 G l Φ1 sz y vv h_1 h_2) (cwV 2 B.1.2.2.2.2 gX12_fieldsOf_X12_fieldOf rfl rfl rfl (by decide +kernel) ⟨Nat.le_of_ble_eq_true rfl, Nat.le_of_ble_eq_true rfl⟩) h_1 rfl rfl rfl rfl (Nat.le_of_ble_eq_true rfl) dX12_fieldsOf_18 ⟨Nat.le_of_ble_eq_true rfl, Nat.le_of_ble_eq_true rfl⟩ (fun v2 Φ2 sz2 st2 hp2 hs2 => ?_)
  obtain ⟨rfl, hq2, fr2⟩ := hp2
  replace hq2 : sz2 = sz := hq2
  subst sz2
  replace hs2 : st2 = [.int 0, .int 1, .int 0] := hs2
  subst st2
  refine z_ishl B dX12_fieldsOf_21 ?_
  refine z_top (st1 := [.int 1, .int 0]) (congrArg (fun w9 : Int32 => ([.int w9, .int 0] : List Value)) (show ((1 : Int32) <<< ((0 : Int32) &&& (31 : Int32)) : Int32) = 1 by decide +kernel)) ?_
  refine z_ior B dX12_fieldsOf_22 ?_
  refine z_top (st1 := [.int 1]) (congrArg (fun w9 : Int32 => ([.int w9] : List Value)) (show (0 ||| 1 : Int32) = 1 by decide +kernel)) ?_
  refine z_istore_n (lv' := [(2, .int 1), (3, .int 0), (0, .ref y), (1, .int 0)]) B dX12_fieldsOf_23 rfl (Nat.le_of_ble_eq_true rfl) rfl ?_
  refine z_iinc (k := 1) (v := 1) (lv' := [(3, .int 1), (2, .int 1), (0, .ref y), (1, .int 0)]) B dX12_fieldsOf_24 rfl rfl (Nat.le_of_ble_eq_true rfl) rfl ?_
  refine z_goto (tgt := 4) B dX12_fieldsOf_27 rfl ?_
  refine z_iload_n B dX12_fieldsOf_4 rfl 0 rfl ?_
  refine z_aload_n B dX12_fieldsOf_5 rfl 2 rfl ?_
  refine z_iload_n B dX12_fieldsOf_6 rfl 3 rfl ?_
  have h_3 : Φ2 y = some (o_ 14 [.int 0, .ref (y + 1), .ref (y + 2), .int 0, .int 1, .int 1, .int 0, .int 0, .ref (y + 3), .ref (y + 4), .int 0, .long 0, .ref (y + 5), .int 0, .int 0, .long 0, .long 0, .long 0, .long 0, .ref (y + 6), .ref (y + 7), .int 0, .ref (y + 8), .int 0, .ref (y + 9), .ref (y + 10), .int 0, .ref (y + 11), .ref (y + 12), .ref (y + 13), .ref (y + 14), .ref (y + 15), .ref (y + 16), .int 0, .long (-1), .ref (y + 17), .ref (y + 18), .ref (y + 19), .ref (y + 20), .ref (y + 21), .ref (y + 22), .int 0, .ref (y + 23), .ref (y + 24), .int 0, .ref (y + 25), .int 0, .int 0, .int 0, .int (-1), .int 0, .int 0, .int 0, .long 0]) := ((fr2 y).trans h_1)
  have h_4 : Φ2 (y + 2) = some (ai_ G 307 (upd (upd (upd (upd (upd (upd (upd (upd (upd (upd (upd (upd (upd (upd (upd (upd (upd (upd (upd (upd (upd (upd (fun _ => 0) (0 : Int32).toNatClampNeg 1) (1 : Int32).toNatClampNeg 100) (2 : Int32).toNatClampNeg 1000) (3 : Int32).toNatClampNeg 100) (4 : Int32).toNatClampNeg 20) (5 : Int32).toNatClampNeg 1000) (6 : Int32).toNatClampNeg 5000) (7 : Int32).toNatClampNeg 512) (8 : Int32).toNatClampNeg 1) (9 : Int32).toNatClampNeg 511) (10 : Int32).toNatClampNeg 1) (11 : Int32).toNatClampNeg 9) (15 : Int32).toNatClampNeg 0) (16 : Int32).toNatClampNeg 1) (17 : Int32).toNatClampNeg 2) (18 : Int32).toNatClampNeg 3) (19 : Int32).toNatClampNeg 4) (20 : Int32).toNatClampNeg 5) (21 : Int32).toNatClampNeg 6) (22 : Int32).toNatClampNeg 7) (23 : Int32).toNatClampNeg 8) (9 : Int32).toNatClampNeg vv)) := ((fr2 (y + 2)).trans h_2)
  refine z_callV (As := [.int 0]) (rest := [.int 1]) B (m_sizeOf_s G l Φ2 sz y vv h_3 h_4) (cwV 1 B.1.2.2.2.2 gX12_fieldsOf_X12_sizeOf rfl rfl rfl (by decide +kernel) ⟨Nat.le_of_ble_eq_true rfl, Nat.le_of_ble_eq_true rfl⟩) h_3 rfl rfl rfl rfl (Nat.le_of_ble_eq_true rfl) dX12_fieldsOf_7 ⟨Nat.le_of_ble_eq_true rfl, Nat.le_of_ble_eq_true rfl⟩ (fun v3 Φ3 sz3 st3 hp3 hs3 => ?_)
  obtain ⟨rfl, hq3, fr3⟩ := hp3
  replace hq3 : sz3 = sz := hq3
  subst sz3
  replace hs3 : st3 = [.int 9, .int 1] := hs3
  subst st3
  refine z_icmp_ge (tgt := 30) B dX12_fieldsOf_10 rfl (fun h9 => absurd h9 (by decide)) (fun c_2 => ?_)
  refine z_iload_n B dX12_fieldsOf_13 rfl 1 rfl ?_
  refine z_iconst (v := 1) B dX12_fieldsOf_14 rfl ?_
  refine z_aload_n B dX12_fieldsOf_15 rfl 2 rfl ?_
  refine z_iload_n B dX12_fieldsOf_16 rfl 3 rfl ?_
  refine z_iload_n B dX12_fieldsOf_17 rfl 0 rfl ?_
  have h_5 : Φ3 y = some (o_ 14 [.int 0, .ref (y + 1), .ref (y + 2), .int 0, .int 1, .int 1, .int 0, .int 0, .ref (y + 3), .ref (y + 4), .int 0, .long 0, .ref (y + 5), .int 0, .int 0, .long 0, .long 0, .long 0, .long 0, .ref (y + 6), .ref (y + 7), .int 0, .ref (y + 8), .int 0, .ref (y + 9), .ref (y + 10), .int 0, .ref (y + 11), .ref (y + 12), .ref (y + 13), .ref (y + 14), .ref (y + 15), .ref (y + 16), .int 0, .long (-1), .ref (y + 17), .ref (y + 18), .ref (y + 19), .ref (y + 20), .ref (y + 21), .ref (y + 22), .int 0, .ref (y + 23), .ref (y + 24), .int 0, .ref (y + 25), .int 0, .int 0, .int 0, .int (-1), .int 0, .int 0, .int 0, .long 0]) := ((fr3 y).trans h_3)
  have h_6 : Φ3 (y + 2) = some (ai_ G 307 (upd (upd (upd (upd (upd (upd (upd (upd (upd (upd (upd (upd (upd (upd (upd (upd (upd (upd (upd (upd (upd (upd (fun _ => 0) (0 : Int32).toNatClampNeg 1) (1 : Int32).toNatClampNeg 100) (2 : Int32).toNatClampNeg 1000) (3 : Int32).toNatClampNeg 100) (4 : Int32).toNatClampNeg 20) (5 : Int32).toNatClampNeg 1000) (6 : Int32).toNatClampNeg 5000) (7 : Int32).toNatClampNeg 512) (8 : Int32).toNatClampNeg 1) (9 : Int32).toNatClampNeg 511) (10 : Int32).toNatClampNeg 1) (11 : Int32).toNatClampNeg 9) (15 : Int32).toNatClampNeg 0) (16 : Int32).toNatClampNeg 1) (17 : Int32).toNatClampNeg 2) (18 : Int32).toNatClampNeg 3) (19 : Int32).toNatClampNeg 4) (20 : Int32).toNatClampNeg 5) (21 : Int32).toNatClampNeg 6) (22 : Int32).toNatClampNeg 7) (23 : Int32).toNatClampNeg 8) (9 : Int32).toNatClampNeg vv)) := ((fr3 (y + 2)).trans h_4)
  refine z_callV (As := [.int 0, .int 1]) (rest := [.int 1, .int 1]) B (m_fieldOf_s1 G l Φ3 sz y vv h_5 h_6) (cwV 2 B.1.2.2.2.2 gX12_fieldsOf_X12_fieldOf rfl rfl rfl (by decide +kernel) ⟨Nat.le_of_ble_eq_true rfl, Nat.le_of_ble_eq_true rfl⟩) h_5 rfl rfl rfl rfl (Nat.le_of_ble_eq_true rfl) dX12_fieldsOf_18 ⟨Nat.le_of_ble_eq_true rfl, Nat.le_of_ble_eq_true rfl⟩ (fun v4 Φ4 sz4 st4 hp4 hs4 => ?_)
  obtain ⟨rfl, hq4, fr4⟩ := hp4
  replace hq4 : sz4 = sz := hq4
  subst sz4
  replace hs4 : st4 = [.int 1, .int 1, .int 1] := hs4
  subst st4
  refine z_ishl B dX12_fieldsOf_21 ?_
  refine z_top (st1 := [.int 2, .int 1]) (congrArg (fun w9 : Int32 => ([.int w9, .int 1] : List Value)) (show ((1 : Int32) <<< ((1 : Int32) &&& (31 : Int32)) : Int32) = 2 by decide +kernel)) ?_
  refine z_ior B dX12_fieldsOf_22 ?_
  refine z_top (st1 := [.int 3]) (congrArg (fun w9 : Int32 => ([.int w9] : List Value)) (show (1 ||| 2 : Int32) = 3 by decide +kernel)) ?_
  refine z_istore_n (lv' := [(2, .int 3), (3, .int 1), (0, .ref y), (1, .int 0)]) B dX12_fieldsOf_23 rfl (Nat.le_of_ble_eq_true rfl) rfl ?_
  refine z_iinc (k := 1) (v := 2) (lv' := [(3, .int 2), (2, .int 3), (0, .ref y), (1, .int 0)]) B dX12_fieldsOf_24 rfl rfl (Nat.le_of_ble_eq_true rfl) rfl ?_
  refine z_goto (tgt := 4) B dX12_fieldsOf_27 rfl ?_
  refine z_iload_n B dX12_fieldsOf_4 rfl 0 rfl ?_
  refine z_aload_n B dX12_fieldsOf_5 rfl 2 rfl ?_
  refine z_iload_n B dX12_fieldsOf_6 rfl 3 rfl ?_
  have h_7 : Φ4 y = some (o_ 14 [.int 0, .ref (y + 1), .ref (y + 2), .int 0, .int 1, .int 1, .int 0, .int 0, .ref (y + 3), .ref (y + 4), .int 0, .long 0, .ref (y + 5), .int 0, .int 0, .long 0, .long 0, .long 0, .long 0, .ref (y + 6), .ref (y + 7), .int 0, .ref (y + 8), .int 0, .ref (y + 9), .ref (y + 10), .int 0, .ref (y + 11), .ref (y + 12), .ref (y + 13), .ref (y + 14), .ref (y + 15), .ref (y + 16), .int 0, .long (-1), .ref (y + 17), .ref (y + 18), .ref (y + 19), .ref (y + 20), .ref (y + 21), .ref (y + 22), .int 0, .ref (y + 23), .ref (y + 24), .int 0, .ref (y + 25), .int 0, .int 0, .int 0, .int (-1), .int 0, .int 0, .int 0, .long 0]) := ((fr4 y).trans h_5)
  have h_8 : Φ4 (y + 2) = some (ai_ G 307 (upd (upd (upd (upd (upd (upd (upd (upd (upd (upd (upd (upd (upd (upd (upd (upd (upd (upd (upd (upd (upd (upd (fun _ => 0) (0 : Int32).toNatClampNeg 1) (1 : Int32).toNatClampNeg 100) (2 : Int32).toNatClampNeg 1000) (3 : Int32).toNatClampNeg 100) (4 : Int32).toNatClampNeg 20) (5 : Int32).toNatClampNeg 1000) (6 : Int32).toNatClampNeg 5000) (7 : Int32).toNatClampNeg 512) (8 : Int32).toNatClampNeg 1) (9 : Int32).toNatClampNeg 511) (10 : Int32).toNatClampNeg 1) (11 : Int32).toNatClampNeg 9) (15 : Int32).toNatClampNeg 0) (16 : Int32).toNatClampNeg 1) (17 : Int32).toNatClampNeg 2) (18 : Int32).toNatClampNeg 3) (19 : Int32).toNatClampNeg 4) (20 : Int32).toNatClampNeg 5) (21 : Int32).toNatClampNeg 6) (22 : Int32).toNatClampNeg 7) (23 : Int32).toNatClampNeg 8) (9 : Int32).toNatClampNeg vv)) := ((fr4 (y + 2)).trans h_6)
  refine z_callV (As := [.int 0]) (rest := [.int 2]) B (m_sizeOf_s G l Φ4 sz y vv h_7 h_8) (cwV 1 B.1.2.2.2.2 gX12_fieldsOf_X12_sizeOf rfl rfl rfl (by decide +kernel) ⟨Nat.le_of_ble_eq_true rfl, Nat.le_of_ble_eq_true rfl⟩) h_7 rfl rfl rfl rfl (Nat.le_of_ble_eq_true rfl) dX12_fieldsOf_7 ⟨Nat.le_of_ble_eq_true rfl, Nat.le_of_ble_eq_true rfl⟩ (fun v5 Φ5 sz5 st5 hp5 hs5 => ?_)
  obtain ⟨rfl, hq5, fr5⟩ := hp5
  replace hq5 : sz5 = sz := hq5
  subst sz5
  replace hs5 : st5 = [.int 9, .int 2] := hs5
  subst st5
  refine z_icmp_ge (tgt := 30) B dX12_fieldsOf_10 rfl (fun h9 => absurd h9 (by decide)) (fun c_3 => ?_)
  refine z_iload_n B dX12_fieldsOf_13 rfl 1 rfl ?_
  refine z_iconst (v := 1) B dX12_fieldsOf_14 rfl ?_
  refine z_aload_n B dX12_fieldsOf_15 rfl 2 rfl ?_
  refine z_iload_n B dX12_fieldsOf_16 rfl 3 rfl ?_
  refine z_iload_n B dX12_fieldsOf_17 rfl 0 rfl ?_
  have h_9 : Φ5 y = some (o_ 14 [.int 0, .ref (y + 1), .ref (y + 2), .int 0, .int 1, .int 1, .int 0, .int 0, .ref (y + 3), .ref (y + 4), .int 0, .long 0, .ref (y + 5), .int 0, .int 0, .long 0, .long 0, .long 0, .long 0, .ref (y + 6), .ref (y + 7), .int 0, .ref (y + 8), .int 0, .ref (y + 9), .ref (y + 10), .int 0, .ref (y + 11), .ref (y + 12), .ref (y + 13), .ref (y + 14), .ref (y + 15), .ref (y + 16), .int 0, .long (-1), .ref (y + 17), .ref (y + 18), .ref (y + 19), .ref (y + 20), .ref (y + 21), .ref (y + 22), .int 0, .ref (y + 23), .ref (y + 24), .int 0, .ref (y + 25), .int 0, .int 0, .int 0, .int (-1), .int 0, .int 0, .int 0, .long 0]) := ((fr5 y).trans h_7)
  have h_10 : Φ5 (y + 2) = some (ai_ G 307 (upd (upd (upd (upd (upd (upd (upd (upd (upd (upd (upd (upd (upd (upd (upd (upd (upd (upd (upd (upd (upd (upd (fun _ => 0) (0 : Int32).toNatClampNeg 1) (1 : Int32).toNatClampNeg 100) (2 : Int32).toNatClampNeg 1000) (3 : Int32).toNatClampNeg 100) (4 : Int32).toNatClampNeg 20) (5 : Int32).toNatClampNeg 1000) (6 : Int32).toNatClampNeg 5000) (7 : Int32).toNatClampNeg 512) (8 : Int32).toNatClampNeg 1) (9 : Int32).toNatClampNeg 511) (10 : Int32).toNatClampNeg 1) (11 : Int32).toNatClampNeg 9) (15 : Int32).toNatClampNeg 0) (16 : Int32).toNatClampNeg 1) (17 : Int32).toNatClampNeg 2) (18 : Int32).toNatClampNeg 3) (19 : Int32).toNatClampNeg 4) (20 : Int32).toNatClampNeg 5) (21 : Int32).toNatClampNeg 6) (22 : Int32).toNatClampNeg 7) (23 : Int32).toNatClampNeg 8) (9 : Int32).toNatClampNeg vv)) := ((fr5 (y + 2)).trans h_8)
  refine z_callV (As := [.int 0, .int 2]) (rest := [.int 1, .int 3]) B (m_fieldOf_s2 G l Φ5 sz y vv h_9 h_10) (cwV 2 B.1.2.2.2.2 gX12_fieldsOf_X12_fieldOf rfl rfl rfl (by decide +kernel) ⟨Nat.le_of_ble_eq_true rfl, Nat.le_of_ble_eq_true rfl⟩) h_9 rfl rfl rfl rfl (Nat.le_of_ble_eq_true rfl) dX12_fieldsOf_18 ⟨Nat.le_of_ble_eq_true rfl, Nat.le_of_ble_eq_true rfl⟩ (fun v6 Φ6 sz6 st6 hp6 hs6 => ?_)
  obtain ⟨rfl, hq6, fr6⟩ := hp6
  replace hq6 : sz6 = sz := hq6
  subst sz6
  replace hs6 : st6 = [.int 2, .int 1, .int 3] := hs6
  subst st6
  refine z_ishl B dX12_fieldsOf_21 ?_
  refine z_top (st1 := [.int 4, .int 3]) (congrArg (fun w9 : Int32 => ([.int w9, .int 3] : List Value)) (show ((1 : Int32) <<< ((2 : Int32) &&& (31 : Int32)) : Int32) = 4 by decide +kernel)) ?_
  refine z_ior B dX12_fieldsOf_22 ?_
  refine z_top (st1 := [.int 7]) (congrArg (fun w9 : Int32 => ([.int w9] : List Value)) (show (3 ||| 4 : Int32) = 7 by decide +kernel)) ?_
  refine z_istore_n (lv' := [(2, .int 7), (3, .int 2), (0, .ref y), (1, .int 0)]) B dX12_fieldsOf_23 rfl (Nat.le_of_ble_eq_true rfl) rfl ?_
  refine z_iinc (k := 1) (v := 3) (lv' := [(3, .int 3), (2, .int 7), (0, .ref y), (1, .int 0)]) B dX12_fieldsOf_24 rfl rfl (Nat.le_of_ble_eq_true rfl) rfl ?_
  refine z_goto (tgt := 4) B dX12_fieldsOf_27 rfl ?_
  refine z_iload_n B dX12_fieldsOf_4 rfl 0 rfl ?_
  refine z_aload_n B dX12_fieldsOf_5 rfl 2 rfl ?_
  refine z_iload_n B dX12_fieldsOf_6 rfl 3 rfl ?_
  have h_11 : Φ6 y = some (o_ 14 [.int 0, .ref (y + 1), .ref (y + 2), .int 0, .int 1, .int 1, .int 0, .int 0, .ref (y + 3), .ref (y + 4), .int 0, .long 0, .ref (y + 5), .int 0, .int 0, .long 0, .long 0, .long 0, .long 0, .ref (y + 6), .ref (y + 7), .int 0, .ref (y + 8), .int 0, .ref (y + 9), .ref (y + 10), .int 0, .ref (y + 11), .ref (y + 12), .ref (y + 13), .ref (y + 14), .ref (y + 15), .ref (y + 16), .int 0, .long (-1), .ref (y + 17), .ref (y + 18), .ref (y + 19), .ref (y + 20), .ref (y + 21), .ref (y + 22), .int 0, .ref (y + 23), .ref (y + 24), .int 0, .ref (y + 25), .int 0, .int 0, .int 0, .int (-1), .int 0, .int 0, .int 0, .long 0]) := ((fr6 y).trans h_9)
  have h_12 : Φ6 (y + 2) = some (ai_ G 307 (upd (upd (upd (upd (upd (upd (upd (upd (upd (upd (upd (upd (upd (upd (upd (upd (upd (upd (upd (upd (upd (upd (fun _ => 0) (0 : Int32).toNatClampNeg 1) (1 : Int32).toNatClampNeg 100) (2 : Int32).toNatClampNeg 1000) (3 : Int32).toNatClampNeg 100) (4 : Int32).toNatClampNeg 20) (5 : Int32).toNatClampNeg 1000) (6 : Int32).toNatClampNeg 5000) (7 : Int32).toNatClampNeg 512) (8 : Int32).toNatClampNeg 1) (9 : Int32).toNatClampNeg 511) (10 : Int32).toNatClampNeg 1) (11 : Int32).toNatClampNeg 9) (15 : Int32).toNatClampNeg 0) (16 : Int32).toNatClampNeg 1) (17 : Int32).toNatClampNeg 2) (18 : Int32).toNatClampNeg 3) (19 : Int32).toNatClampNeg 4) (20 : Int32).toNatClampNeg 5) (21 : Int32).toNatClampNeg 6) (22 : Int32).toNatClampNeg 7) (23 : Int32).toNatClampNeg 8) (9 : Int32).toNatClampNeg vv)) := ((fr6 (y + 2)).trans h_10)
  refine z_callV (As := [.int 0]) (rest := [.int 3]) B (m_sizeOf_s G l Φ6 sz y vv h_11 h_12) (cwV 1 B.1.2.2.2.2 gX12_fieldsOf_X12_sizeOf rfl rfl rfl (by decide +kernel) ⟨Nat.le_of_ble_eq_true rfl, Nat.le_of_ble_eq_true rfl⟩) h_11 rfl rfl rfl rfl (Nat.le_of_ble_eq_true rfl) dX12_fieldsOf_7 ⟨Nat.le_of_ble_eq_true rfl, Nat.le_of_ble_eq_true rfl⟩ (fun v7 Φ7 sz7 st7 hp7 hs7 => ?_)
  obtain ⟨rfl, hq7, fr7⟩ := hp7
  replace hq7 : sz7 = sz := hq7
  subst sz7
  replace hs7 : st7 = [.int 9, .int 3] := hs7
  subst st7
  refine z_icmp_ge (tgt := 30) B dX12_fieldsOf_10 rfl (fun h9 => absurd h9 (by decide)) (fun c_4 => ?_)
  refine z_iload_n B dX12_fieldsOf_13 rfl 1 rfl ?_
  refine z_iconst (v := 1) B dX12_fieldsOf_14 rfl ?_
  refine z_aload_n B dX12_fieldsOf_15 rfl 2 rfl ?_
  refine z_iload_n B dX12_fieldsOf_16 rfl 3 rfl ?_
  refine z_iload_n B dX12_fieldsOf_17 rfl 0 rfl ?_
  have h_13 : Φ7 y = some (o_ 14 [.int 0, .ref (y + 1), .ref (y + 2), .int 0, .int 1, .int 1, .int 0, .int 0, .ref (y + 3), .ref (y + 4), .int 0, .long 0, .ref (y + 5), .int 0, .int 0, .long 0, .long 0, .long 0, .long 0, .ref (y + 6), .ref (y + 7), .int 0, .ref (y + 8), .int 0, .ref (y + 9), .ref (y + 10), .int 0, .ref (y + 11), .ref (y + 12), .ref (y + 13), .ref (y + 14), .ref (y + 15), .ref (y + 16), .int 0, .long (-1), .ref (y + 17), .ref (y + 18), .ref (y + 19), .ref (y + 20), .ref (y + 21), .ref (y + 22), .int 0, .ref (y + 23), .ref (y + 24), .int 0, .ref (y + 25), .int 0, .int 0, .int 0, .int (-1), .int 0, .int 0, .int 0, .long 0]) := ((fr7 y).trans h_11)
  have h_14 : Φ7 (y + 2) = some (ai_ G 307 (upd (upd (upd (upd (upd (upd (upd (upd (upd (upd (upd (upd (upd (upd (upd (upd (upd (upd (upd (upd (upd (upd (fun _ => 0) (0 : Int32).toNatClampNeg 1) (1 : Int32).toNatClampNeg 100) (2 : Int32).toNatClampNeg 1000) (3 : Int32).toNatClampNeg 100) (4 : Int32).toNatClampNeg 20) (5 : Int32).toNatClampNeg 1000) (6 : Int32).toNatClampNeg 5000) (7 : Int32).toNatClampNeg 512) (8 : Int32).toNatClampNeg 1) (9 : Int32).toNatClampNeg 511) (10 : Int32).toNatClampNeg 1) (11 : Int32).toNatClampNeg 9) (15 : Int32).toNatClampNeg 0) (16 : Int32).toNatClampNeg 1) (17 : Int32).toNatClampNeg 2) (18 : Int32).toNatClampNeg 3) (19 : Int32).toNatClampNeg 4) (20 : Int32).toNatClampNeg 5) (21 : Int32).toNatClampNeg 6) (22 : Int32).toNatClampNeg 7) (23 : Int32).toNatClampNeg 8) (9 : Int32).toNatClampNeg vv)) := ((fr7 (y + 2)).trans h_12)
  refine z_callV (As := [.int 0, .int 3]) (rest := [.int 1, .int 7]) B (m_fieldOf_s3 G l Φ7 sz y vv h_13 h_14) (cwV 2 B.1.2.2.2.2 gX12_fieldsOf_X12_fieldOf rfl rfl rfl (by decide +kernel) ⟨Nat.le_of_ble_eq_true rfl, Nat.le_of_ble_eq_true rfl⟩) h_13 rfl rfl rfl rfl (Nat.le_of_ble_eq_true rfl) dX12_fieldsOf_18 ⟨Nat.le_of_ble_eq_true rfl, Nat.le_of_ble_eq_true rfl⟩ (fun v8 Φ8 sz8 st8 hp8 hs8 => ?_)
  obtain ⟨rfl, hq8, fr8⟩ := hp8
  replace hq8 : sz8 = sz := hq8
  subst sz8
  replace hs8 : st8 = [.int 3, .int 1, .int 7] := hs8
  subst st8
  refine z_ishl B dX12_fieldsOf_21 ?_
  refine z_top (st1 := [.int 8, .int 7]) (congrArg (fun w9 : Int32 => ([.int w9, .int 7] : List Value)) (show ((1 : Int32) <<< ((3 : Int32) &&& (31 : Int32)) : Int32) = 8 by decide +kernel)) ?_
  refine z_ior B dX12_fieldsOf_22 ?_
  refine z_top (st1 := [.int 15]) (congrArg (fun w9 : Int32 => ([.int w9] : List Value)) (show (7 ||| 8 : Int32) = 15 by decide +kernel)) ?_
  refine z_istore_n (lv' := [(2, .int 15), (3, .int 3), (0, .ref y), (1, .int 0)]) B dX12_fieldsOf_23 rfl (Nat.le_of_ble_eq_true rfl) rfl ?_
  refine z_iinc (k := 1) (v := 4) (lv' := [(3, .int 4), (2, .int 15), (0, .ref y), (1, .int 0)]) B dX12_fieldsOf_24 rfl rfl (Nat.le_of_ble_eq_true rfl) rfl ?_
  refine z_goto (tgt := 4) B dX12_fieldsOf_27 rfl ?_
  refine z_iload_n B dX12_fieldsOf_4 rfl 0 rfl ?_
  refine z_aload_n B dX12_fieldsOf_5 rfl 2 rfl ?_
  refine z_iload_n B dX12_fieldsOf_6 rfl 3 rfl ?_
  have h_15 : Φ8 y = some (o_ 14 [.int 0, .ref (y + 1), .ref (y + 2), .int 0, .int 1, .int 1, .int 0, .int 0, .ref (y + 3), .ref (y + 4), .int 0, .long 0, .ref (y + 5), .int 0, .int 0, .long 0, .long 0, .long 0, .long 0, .ref (y + 6), .ref (y + 7), .int 0, .ref (y + 8), .int 0, .ref (y + 9), .ref (y + 10), .int 0, .ref (y + 11), .ref (y + 12), .ref (y + 13), .ref (y + 14), .ref (y + 15), .ref (y + 16), .int 0, .long (-1), .ref (y + 17), .ref (y + 18), .ref (y + 19), .ref (y + 20), .ref (y + 21), .ref (y + 22), .int 0, .ref (y + 23), .ref (y + 24), .int 0, .ref (y + 25), .int 0, .int 0, .int 0, .int (-1), .int 0, .int 0, .int 0, .long 0]) := ((fr8 y).trans h_13)
  have h_16 : Φ8 (y + 2) = some (ai_ G 307 (upd (upd (upd (upd (upd (upd (upd (upd (upd (upd (upd (upd (upd (upd (upd (upd (upd (upd (upd (upd (upd (upd (fun _ => 0) (0 : Int32).toNatClampNeg 1) (1 : Int32).toNatClampNeg 100) (2 : Int32).toNatClampNeg 1000) (3 : Int32).toNatClampNeg 100) (4 : Int32).toNatClampNeg 20) (5 : Int32).toNatClampNeg 1000) (6 : Int32).toNatClampNeg 5000) (7 : Int32).toNatClampNeg 512) (8 : Int32).toNatClampNeg 1) (9 : Int32).toNatClampNeg 511) (10 : Int32).toNatClampNeg 1) (11 : Int32).toNatClampNeg 9) (15 : Int32).toNatClampNeg 0) (16 : Int32).toNatClampNeg 1) (17 : Int32).toNatClampNeg 2) (18 : Int32).toNatClampNeg 3) (19 : Int32).toNatClampNeg 4) (20 : Int32).toNatClampNeg 5) (21 : Int32).toNatClampNeg 6) (22 : Int32).toNatClampNeg 7) (23 : Int32).toNatClampNeg 8) (9 : Int32).toNatClampNeg vv)) := ((fr8 (y + 2)).trans h_14)
  refine z_callV (As := [.int 0]) (rest := [.int 4]) B (m_sizeOf_s G l Φ8 sz y vv h_15 h_16) (cwV 1 B.1.2.2.2.2 gX12_fieldsOf_X12_sizeOf rfl rfl rfl (by decide +kernel) ⟨Nat.le_of_ble_eq_true rfl, Nat.le_of_ble_eq_true rfl⟩) h_15 rfl rfl rfl rfl (Nat.le_of_ble_eq_true rfl) dX12_fieldsOf_7 ⟨Nat.le_of_ble_eq_true rfl, Nat.le_of_ble_eq_true rfl⟩ (fun v9 Φ9 sz9 st9 hp9 hs9 => ?_)
  obtain ⟨rfl, hq9, fr9⟩ := hp9
  replace hq9 : sz9 = sz := hq9
  subst sz9
  replace hs9 : st9 = [.int 9, .int 4] := hs9
  subst st9
  refine z_icmp_ge (tgt := 30) B dX12_fieldsOf_10 rfl (fun h9 => absurd h9 (by decide)) (fun c_5 => ?_)
  refine z_iload_n B dX12_fieldsOf_13 rfl 1 rfl ?_
  refine z_iconst (v := 1) B dX12_fieldsOf_14 rfl ?_
  refine z_aload_n B dX12_fieldsOf_15 rfl 2 rfl ?_
  refine z_iload_n B dX12_fieldsOf_16 rfl 3 rfl ?_
  refine z_iload_n B dX12_fieldsOf_17 rfl 0 rfl ?_
  have h_17 : Φ9 y = some (o_ 14 [.int 0, .ref (y + 1), .ref (y + 2), .int 0, .int 1, .int 1, .int 0, .int 0, .ref (y + 3), .ref (y + 4), .int 0, .long 0, .ref (y + 5), .int 0, .int 0, .long 0, .long 0, .long 0, .long 0, .ref (y + 6), .ref (y + 7), .int 0, .ref (y + 8), .int 0, .ref (y + 9), .ref (y + 10), .int 0, .ref (y + 11), .ref (y + 12), .ref (y + 13), .ref (y + 14), .ref (y + 15), .ref (y + 16), .int 0, .long (-1), .ref (y + 17), .ref (y + 18), .ref (y + 19), .ref (y + 20), .ref (y + 21), .ref (y + 22), .int 0, .ref (y + 23), .ref (y + 24), .int 0, .ref (y + 25), .int 0, .int 0, .int 0, .int (-1), .int 0, .int 0, .int 0, .long 0]) := ((fr9 y).trans h_15)
  have h_18 : Φ9 (y + 2) = some (ai_ G 307 (upd (upd (upd (upd (upd (upd (upd (upd (upd (upd (upd (upd (upd (upd (upd (upd (upd (upd (upd (upd (upd (upd (fun _ => 0) (0 : Int32).toNatClampNeg 1) (1 : Int32).toNatClampNeg 100) (2 : Int32).toNatClampNeg 1000) (3 : Int32).toNatClampNeg 100) (4 : Int32).toNatClampNeg 20) (5 : Int32).toNatClampNeg 1000) (6 : Int32).toNatClampNeg 5000) (7 : Int32).toNatClampNeg 512) (8 : Int32).toNatClampNeg 1) (9 : Int32).toNatClampNeg 511) (10 : Int32).toNatClampNeg 1) (11 : Int32).toNatClampNeg 9) (15 : Int32).toNatClampNeg 0) (16 : Int32).toNatClampNeg 1) (17 : Int32).toNatClampNeg 2) (18 : Int32).toNatClampNeg 3) (19 : Int32).toNatClampNeg 4) (20 : Int32).toNatClampNeg 5) (21 : Int32).toNatClampNeg 6) (22 : Int32).toNatClampNeg 7) (23 : Int32).toNatClampNeg 8) (9 : Int32).toNatClampNeg vv)) := ((fr9 (y + 2)).trans h_16)
  refine z_callV (As := [.int 0, .int 4]) (rest := [.int 1, .int 15]) B (m_fieldOf_s4 G l Φ9 sz y vv h_17 h_18) (cwV 2 B.1.2.2.2.2 gX12_fieldsOf_X12_fieldOf rfl rfl rfl (by decide +kernel) ⟨Nat.le_of_ble_eq_true rfl, Nat.le_of_ble_eq_true rfl⟩) h_17 rfl rfl rfl rfl (Nat.le_of_ble_eq_true rfl) dX12_fieldsOf_18 ⟨Nat.le_of_ble_eq_true rfl, Nat.le_of_ble_eq_true rfl⟩ (fun v10 Φ10 sz10 st10 hp10 hs10 => ?_)
  obtain ⟨rfl, hq10, fr10⟩ := hp10
  replace hq10 : sz10 = sz := hq10
  subst sz10
  replace hs10 : st10 = [.int 4, .int 1, .int 15] := hs10
  subst st10
  refine z_ishl B dX12_fieldsOf_21 ?_
  refine z_top (st1 := [.int 16, .int 15]) (congrArg (fun w9 : Int32 => ([.int w9, .int 15] : List Value)) (show ((1 : Int32) <<< ((4 : Int32) &&& (31 : Int32)) : Int32) = 16 by decide +kernel)) ?_
  refine z_ior B dX12_fieldsOf_22 ?_
  refine z_top (st1 := [.int 31]) (congrArg (fun w9 : Int32 => ([.int w9] : List Value)) (show (15 ||| 16 : Int32) = 31 by decide +kernel)) ?_
  refine z_istore_n (lv' := [(2, .int 31), (3, .int 4), (0, .ref y), (1, .int 0)]) B dX12_fieldsOf_23 rfl (Nat.le_of_ble_eq_true rfl) rfl ?_
  refine z_iinc (k := 1) (v := 5) (lv' := [(3, .int 5), (2, .int 31), (0, .ref y), (1, .int 0)]) B dX12_fieldsOf_24 rfl rfl (Nat.le_of_ble_eq_true rfl) rfl ?_
  refine z_goto (tgt := 4) B dX12_fieldsOf_27 rfl ?_
  refine z_iload_n B dX12_fieldsOf_4 rfl 0 rfl ?_
  refine z_aload_n B dX12_fieldsOf_5 rfl 2 rfl ?_
  refine z_iload_n B dX12_fieldsOf_6 rfl 3 rfl ?_
  have h_19 : Φ10 y = some (o_ 14 [.int 0, .ref (y + 1), .ref (y + 2), .int 0, .int 1, .int 1, .int 0, .int 0, .ref (y + 3), .ref (y + 4), .int 0, .long 0, .ref (y + 5), .int 0, .int 0, .long 0, .long 0, .long 0, .long 0, .ref (y + 6), .ref (y + 7), .int 0, .ref (y + 8), .int 0, .ref (y + 9), .ref (y + 10), .int 0, .ref (y + 11), .ref (y + 12), .ref (y + 13), .ref (y + 14), .ref (y + 15), .ref (y + 16), .int 0, .long (-1), .ref (y + 17), .ref (y + 18), .ref (y + 19), .ref (y + 20), .ref (y + 21), .ref (y + 22), .int 0, .ref (y + 23), .ref (y + 24), .int 0, .ref (y + 25), .int 0, .int 0, .int 0, .int (-1), .int 0, .int 0, .int 0, .long 0]) := ((fr10 y).trans h_17)
  have h_20 : Φ10 (y + 2) = some (ai_ G 307 (upd (upd (upd (upd (upd (upd (upd (upd (upd (upd (upd (upd (upd (upd (upd (upd (upd (upd (upd (upd (upd (upd (fun _ => 0) (0 : Int32).toNatClampNeg 1) (1 : Int32).toNatClampNeg 100) (2 : Int32).toNatClampNeg 1000) (3 : Int32).toNatClampNeg 100) (4 : Int32).toNatClampNeg 20) (5 : Int32).toNatClampNeg 1000) (6 : Int32).toNatClampNeg 5000) (7 : Int32).toNatClampNeg 512) (8 : Int32).toNatClampNeg 1) (9 : Int32).toNatClampNeg 511) (10 : Int32).toNatClampNeg 1) (11 : Int32).toNatClampNeg 9) (15 : Int32).toNatClampNeg 0) (16 : Int32).toNatClampNeg 1) (17 : Int32).toNatClampNeg 2) (18 : Int32).toNatClampNeg 3) (19 : Int32).toNatClampNeg 4) (20 : Int32).toNatClampNeg 5) (21 : Int32).toNatClampNeg 6) (22 : Int32).toNatClampNeg 7) (23 : Int32).toNatClampNeg 8) (9 : Int32).toNatClampNeg vv)) := ((fr10 (y + 2)).trans h_18)
  refine z_callV (As := [.int 0]) (rest := [.int 5]) B (m_sizeOf_s G l Φ10 sz y vv h_19 h_20) (cwV 1 B.1.2.2.2.2 gX12_fieldsOf_X12_sizeOf rfl rfl rfl (by decide +kernel) ⟨Nat.le_of_ble_eq_true rfl, Nat.le_of_ble_eq_true rfl⟩) h_19 rfl rfl rfl rfl (Nat.le_of_ble_eq_true rfl) dX12_fieldsOf_7 ⟨Nat.le_of_ble_eq_true rfl, Nat.le_of_ble_eq_true rfl⟩ (fun v11 Φ11 sz11 st11 hp11 hs11 => ?_)
  obtain ⟨rfl, hq11, fr11⟩ := hp11
  replace hq11 : sz11 = sz := hq11
  subst sz11
  replace hs11 : st11 = [.int 9, .int 5] := hs11
  subst st11
  refine z_icmp_ge (tgt := 30) B dX12_fieldsOf_10 rfl (fun h9 => absurd h9 (by decide)) (fun c_6 => ?_)
  refine z_iload_n B dX12_fieldsOf_13 rfl 1 rfl ?_
  refine z_iconst (v := 1) B dX12_fieldsOf_14 rfl ?_
  refine z_aload_n B dX12_fieldsOf_15 rfl 2 rfl ?_
  refine z_iload_n B dX12_fieldsOf_16 rfl 3 rfl ?_
  refine z_iload_n B dX12_fieldsOf_17 rfl 0 rfl ?_
  have h_21 : Φ11 y = some (o_ 14 [.int 0, .ref (y + 1), .ref (y + 2), .int 0, .int 1, .int 1, .int 0, .int 0, .ref (y + 3), .ref (y + 4), .int 0, .long 0, .ref (y + 5), .int 0, .int 0, .long 0, .long 0, .long 0, .long 0, .ref (y + 6), .ref (y + 7), .int 0, .ref (y + 8), .int 0, .ref (y + 9), .ref (y + 10), .int 0, .ref (y + 11), .ref (y + 12), .ref (y + 13), .ref (y + 14), .ref (y + 15), .ref (y + 16), .int 0, .long (-1), .ref (y + 17), .ref (y + 18), .ref (y + 19), .ref (y + 20), .ref (y + 21), .ref (y + 22), .int 0, .ref (y + 23), .ref (y + 24), .int 0, .ref (y + 25), .int 0, .int 0, .int 0, .int (-1), .int 0, .int 0, .int 0, .long 0]) := ((fr11 y).trans h_19)
  have h_22 : Φ11 (y + 2) = some (ai_ G 307 (upd (upd (upd (upd (upd (upd (upd (upd (upd (upd (upd (upd (upd (upd (upd (upd (upd (upd (upd (upd (upd (upd (fun _ => 0) (0 : Int32).toNatClampNeg 1) (1 : Int32).toNatClampNeg 100) (2 : Int32).toNatClampNeg 1000) (3 : Int32).toNatClampNeg 100) (4 : Int32).toNatClampNeg 20) (5 : Int32).toNatClampNeg 1000) (6 : Int32).toNatClampNeg 5000) (7 : Int32).toNatClampNeg 512) (8 : Int32).toNatClampNeg 1) (9 : Int32).toNatClampNeg 511) (10 : Int32).toNatClampNeg 1) (11 : Int32).toNatClampNeg 9) (15 : Int32).toNatClampNeg 0) (16 : Int32).toNatClampNeg 1) (17 : Int32).toNatClampNeg 2) (18 : Int32).toNatClampNeg 3) (19 : Int32).toNatClampNeg 4) (20 : Int32).toNatClampNeg 5) (21 : Int32).toNatClampNeg 6) (22 : Int32).toNatClampNeg 7) (23 : Int32).toNatClampNeg 8) (9 : Int32).toNatClampNeg vv)) := ((fr11 (y + 2)).trans h_20)
  refine z_callV (As := [.int 0, .int 5]) (rest := [.int 1, .int 31]) B (m_fieldOf_s5 G l Φ11 sz y vv h_21 h_22) (cwV 2 B.1.2.2.2.2 gX12_fieldsOf_X12_fieldOf rfl rfl rfl (by decide +kernel) ⟨Nat.le_of_ble_eq_true rfl, Nat.le_of_ble_eq_true rfl⟩) h_21 rfl rfl rfl rfl (Nat.le_of_ble_eq_true rfl) dX12_fieldsOf_18 ⟨Nat.le_of_ble_eq_true rfl, Nat.le_of_ble_eq_true rfl⟩ (fun v12 Φ12 sz12 st12 hp12 hs12 => ?_)
  obtain ⟨rfl, hq12, fr12⟩ := hp12
  replace hq12 : sz12 = sz := hq12
  subst sz12
  replace hs12 : st12 = [.int 5, .int 1, .int 31] := hs12
  subst st12
  refine z_ishl B dX12_fieldsOf_21 ?_
  refine z_top (st1 := [.int 32, .int 31]) (congrArg (fun w9 : Int32 => ([.int w9, .int 31] : List Value)) (show ((1 : Int32) <<< ((5 : Int32) &&& (31 : Int32)) : Int32) = 32 by decide +kernel)) ?_
  refine z_ior B dX12_fieldsOf_22 ?_
  refine z_top (st1 := [.int 63]) (congrArg (fun w9 : Int32 => ([.int w9] : List Value)) (show (31 ||| 32 : Int32) = 63 by decide +kernel)) ?_
  refine z_istore_n (lv' := [(2, .int 63), (3, .int 5), (0, .ref y), (1, .int 0)]) B dX12_fieldsOf_23 rfl (Nat.le_of_ble_eq_true rfl) rfl ?_
  refine z_iinc (k := 1) (v := 6) (lv' := [(3, .int 6), (2, .int 63), (0, .ref y), (1, .int 0)]) B dX12_fieldsOf_24 rfl rfl (Nat.le_of_ble_eq_true rfl) rfl ?_
  refine z_goto (tgt := 4) B dX12_fieldsOf_27 rfl ?_
  refine z_iload_n B dX12_fieldsOf_4 rfl 0 rfl ?_
  refine z_aload_n B dX12_fieldsOf_5 rfl 2 rfl ?_
  refine z_iload_n B dX12_fieldsOf_6 rfl 3 rfl ?_
  have h_23 : Φ12 y = some (o_ 14 [.int 0, .ref (y + 1), .ref (y + 2), .int 0, .int 1, .int 1, .int 0, .int 0, .ref (y + 3), .ref (y + 4), .int 0, .long 0, .ref (y + 5), .int 0, .int 0, .long 0, .long 0, .long 0, .long 0, .ref (y + 6), .ref (y + 7), .int 0, .ref (y + 8), .int 0, .ref (y + 9), .ref (y + 10), .int 0, .ref (y + 11), .ref (y + 12), .ref (y + 13), .ref (y + 14), .ref (y + 15), .ref (y + 16), .int 0, .long (-1), .ref (y + 17), .ref (y + 18), .ref (y + 19), .ref (y + 20), .ref (y + 21), .ref (y + 22), .int 0, .ref (y + 23), .ref (y + 24), .int 0, .ref (y + 25), .int 0, .int 0, .int 0, .int (-1), .int 0, .int 0, .int 0, .long 0]) := ((fr12 y).trans h_21)
  have h_24 : Φ12 (y + 2) = some (ai_ G 307 (upd (upd (upd (upd (upd (upd (upd (upd (upd (upd (upd (upd (upd (upd (upd (upd (upd (upd (upd (upd (upd (upd (fun _ => 0) (0 : Int32).toNatClampNeg 1) (1 : Int32).toNatClampNeg 100) (2 : Int32).toNatClampNeg 1000) (3 : Int32).toNatClampNeg 100) (4 : Int32).toNatClampNeg 20) (5 : Int32).toNatClampNeg 1000) (6 : Int32).toNatClampNeg 5000) (7 : Int32).toNatClampNeg 512) (8 : Int32).toNatClampNeg 1) (9 : Int32).toNatClampNeg 511) (10 : Int32).toNatClampNeg 1) (11 : Int32).toNatClampNeg 9) (15 : Int32).toNatClampNeg 0) (16 : Int32).toNatClampNeg 1) (17 : Int32).toNatClampNeg 2) (18 : Int32).toNatClampNeg 3) (19 : Int32).toNatClampNeg 4) (20 : Int32).toNatClampNeg 5) (21 : Int32).toNatClampNeg 6) (22 : Int32).toNatClampNeg 7) (23 : Int32).toNatClampNeg 8) (9 : Int32).toNatClampNeg vv)) := ((fr12 (y + 2)).trans h_22)
  refine z_callV (As := [.int 0]) (rest := [.int 6]) B (m_sizeOf_s G l Φ12 sz y vv h_23 h_24) (cwV 1 B.1.2.2.2.2 gX12_fieldsOf_X12_sizeOf rfl rfl rfl (by decide +kernel) ⟨Nat.le_of_ble_eq_true rfl, Nat.le_of_ble_eq_true rfl⟩) h_23 rfl rfl rfl rfl (Nat.le_of_ble_eq_true rfl) dX12_fieldsOf_7 ⟨Nat.le_of_ble_eq_true rfl, Nat.le_of_ble_eq_true rfl⟩ (fun v13 Φ13 sz13 st13 hp13 hs13 => ?_)
  obtain ⟨rfl, hq13, fr13⟩ := hp13
  replace hq13 : sz13 = sz := hq13
  subst sz13
  replace hs13 : st13 = [.int 9, .int 6] := hs13
  subst st13
  refine z_icmp_ge (tgt := 30) B dX12_fieldsOf_10 rfl (fun h9 => absurd h9 (by decide)) (fun c_7 => ?_)
  refine z_iload_n B dX12_fieldsOf_13 rfl 1 rfl ?_
  refine z_iconst (v := 1) B dX12_fieldsOf_14 rfl ?_
  refine z_aload_n B dX12_fieldsOf_15 rfl 2 rfl ?_
  refine z_iload_n B dX12_fieldsOf_16 rfl 3 rfl ?_
  refine z_iload_n B dX12_fieldsOf_17 rfl 0 rfl ?_
  have h_25 : Φ13 y = some (o_ 14 [.int 0, .ref (y + 1), .ref (y + 2), .int 0, .int 1, .int 1, .int 0, .int 0, .ref (y + 3), .ref (y + 4), .int 0, .long 0, .ref (y + 5), .int 0, .int 0, .long 0, .long 0, .long 0, .long 0, .ref (y + 6), .ref (y + 7), .int 0, .ref (y + 8), .int 0, .ref (y + 9), .ref (y + 10), .int 0, .ref (y + 11), .ref (y + 12), .ref (y + 13), .ref (y + 14), .ref (y + 15), .ref (y + 16), .int 0, .long (-1), .ref (y + 17), .ref (y + 18), .ref (y + 19), .ref (y + 20), .ref (y + 21), .ref (y + 22), .int 0, .ref (y + 23), .ref (y + 24), .int 0, .ref (y + 25), .int 0, .int 0, .int 0, .int (-1), .int 0, .int 0, .int 0, .long 0]) := ((fr13 y).trans h_23)
  have h_26 : Φ13 (y + 2) = some (ai_ G 307 (upd (upd (upd (upd (upd (upd (upd (upd (upd (upd (upd (upd (upd (upd (upd (upd (upd (upd (upd (upd (upd (upd (fun _ => 0) (0 : Int32).toNatClampNeg 1) (1 : Int32).toNatClampNeg 100) (2 : Int32).toNatClampNeg 1000) (3 : Int32).toNatClampNeg 100) (4 : Int32).toNatClampNeg 20) (5 : Int32).toNatClampNeg 1000) (6 : Int32).toNatClampNeg 5000) (7 : Int32).toNatClampNeg 512) (8 : Int32).toNatClampNeg 1) (9 : Int32).toNatClampNeg 511) (10 : Int32).toNatClampNeg 1) (11 : Int32).toNatClampNeg 9) (15 : Int32).toNatClampNeg 0) (16 : Int32).toNatClampNeg 1) (17 : Int32).toNatClampNeg 2) (18 : Int32).toNatClampNeg 3) (19 : Int32).toNatClampNeg 4) (20 : Int32).toNatClampNeg 5) (21 : Int32).toNatClampNeg 6) (22 : Int32).toNatClampNeg 7) (23 : Int32).toNatClampNeg 8) (9 : Int32).toNatClampNeg vv)) := ((fr13 (y + 2)).trans h_24)
  refine z_callV (As := [.int 0, .int 6]) (rest := [.int 1, .int 63]) B (m_fieldOf_s6 G l Φ13 sz y vv h_25 h_26) (cwV 2 B.1.2.2.2.2 gX12_fieldsOf_X12_fieldOf rfl rfl rfl (by decide +kernel) ⟨Nat.le_of_ble_eq_true rfl, Nat.le_of_ble_eq_true rfl⟩) h_25 rfl rfl rfl rfl (Nat.le_of_ble_eq_true rfl) dX12_fieldsOf_18 ⟨Nat.le_of_ble_eq_true rfl, Nat.le_of_ble_eq_true rfl⟩ (fun v14 Φ14 sz14 st14 hp14 hs14 => ?_)
  obtain ⟨rfl, hq14, fr14⟩ := hp14
  replace hq14 : sz14 = sz := hq14
  subst sz14
  replace hs14 : st14 = [.int 6, .int 1, .int 63] := hs14
  subst st14
  refine z_ishl B dX12_fieldsOf_21 ?_
  refine z_top (st1 := [.int 64, .int 63]) (congrArg (fun w9 : Int32 => ([.int w9, .int 63] : List Value)) (show ((1 : Int32) <<< ((6 : Int32) &&& (31 : Int32)) : Int32) = 64 by decide +kernel)) ?_
  refine z_ior B dX12_fieldsOf_22 ?_
  refine z_top (st1 := [.int 127]) (congrArg (fun w9 : Int32 => ([.int w9] : List Value)) (show (63 ||| 64 : Int32) = 127 by decide +kernel)) ?_
  refine z_istore_n (lv' := [(2, .int 127), (3, .int 6), (0, .ref y), (1, .int 0)]) B dX12_fieldsOf_23 rfl (Nat.le_of_ble_eq_true rfl) rfl ?_
  refine z_iinc (k := 1) (v := 7) (lv' := [(3, .int 7), (2, .int 127), (0, .ref y), (1, .int 0)]) B dX12_fieldsOf_24 rfl rfl (Nat.le_of_ble_eq_true rfl) rfl ?_
  refine z_goto (tgt := 4) B dX12_fieldsOf_27 rfl ?_
  refine z_iload_n B dX12_fieldsOf_4 rfl 0 rfl ?_
  refine z_aload_n B dX12_fieldsOf_5 rfl 2 rfl ?_
  refine z_iload_n B dX12_fieldsOf_6 rfl 3 rfl ?_
  have h_27 : Φ14 y = some (o_ 14 [.int 0, .ref (y + 1), .ref (y + 2), .int 0, .int 1, .int 1, .int 0, .int 0, .ref (y + 3), .ref (y + 4), .int 0, .long 0, .ref (y + 5), .int 0, .int 0, .long 0, .long 0, .long 0, .long 0, .ref (y + 6), .ref (y + 7), .int 0, .ref (y + 8), .int 0, .ref (y + 9), .ref (y + 10), .int 0, .ref (y + 11), .ref (y + 12), .ref (y + 13), .ref (y + 14), .ref (y + 15), .ref (y + 16), .int 0, .long (-1), .ref (y + 17), .ref (y + 18), .ref (y + 19), .ref (y + 20), .ref (y + 21), .ref (y + 22), .int 0, .ref (y + 23), .ref (y + 24), .int 0, .ref (y + 25), .int 0, .int 0, .int 0, .int (-1), .int 0, .int 0, .int 0, .long 0]) := ((fr14 y).trans h_25)
  have h_28 : Φ14 (y + 2) = some (ai_ G 307 (upd (upd (upd (upd (upd (upd (upd (upd (upd (upd (upd (upd (upd (upd (upd (upd (upd (upd (upd (upd (upd (upd (fun _ => 0) (0 : Int32).toNatClampNeg 1) (1 : Int32).toNatClampNeg 100) (2 : Int32).toNatClampNeg 1000) (3 : Int32).toNatClampNeg 100) (4 : Int32).toNatClampNeg 20) (5 : Int32).toNatClampNeg 1000) (6 : Int32).toNatClampNeg 5000) (7 : Int32).toNatClampNeg 512) (8 : Int32).toNatClampNeg 1) (9 : Int32).toNatClampNeg 511) (10 : Int32).toNatClampNeg 1) (11 : Int32).toNatClampNeg 9) (15 : Int32).toNatClampNeg 0) (16 : Int32).toNatClampNeg 1) (17 : Int32).toNatClampNeg 2) (18 : Int32).toNatClampNeg 3) (19 : Int32).toNatClampNeg 4) (20 : Int32).toNatClampNeg 5) (21 : Int32).toNatClampNeg 6) (22 : Int32).toNatClampNeg 7) (23 : Int32).toNatClampNeg 8) (9 : Int32).toNatClampNeg vv)) := ((fr14 (y + 2)).trans h_26)
  refine z_callV (As := [.int 0]) (rest := [.int 7]) B (m_sizeOf_s G l Φ14 sz y vv h_27 h_28) (cwV 1 B.1.2.2.2.2 gX12_fieldsOf_X12_sizeOf rfl rfl rfl (by decide +kernel) ⟨Nat.le_of_ble_eq_true rfl, Nat.le_of_ble_eq_true rfl⟩) h_27 rfl rfl rfl rfl (Nat.le_of_ble_eq_true rfl) dX12_fieldsOf_7 ⟨Nat.le_of_ble_eq_true rfl, Nat.le_of_ble_eq_true rfl⟩ (fun v15 Φ15 sz15 st15 hp15 hs15 => ?_)
  obtain ⟨rfl, hq15, fr15⟩ := hp15
  replace hq15 : sz15 = sz := hq15
  subst sz15
  replace hs15 : st15 = [.int 9, .int 7] := hs15
  subst st15
  refine z_icmp_ge (tgt := 30) B dX12_fieldsOf_10 rfl (fun h9 => absurd h9 (by decide)) (fun c_8 => ?_)
  refine z_iload_n B dX12_fieldsOf_13 rfl 1 rfl ?_
  refine z_iconst (v := 1) B dX12_fieldsOf_14 rfl ?_
  refine z_aload_n B dX12_fieldsOf_15 rfl 2 rfl ?_
  refine z_iload_n B dX12_fieldsOf_16 rfl 3 rfl ?_
  refine z_iload_n B dX12_fieldsOf_17 rfl 0 rfl ?_
  have h_29 : Φ15 y = some (o_ 14 [.int 0, .ref (y + 1), .ref (y + 2), .int 0, .int 1, .int 1, .int 0, .int 0, .ref (y + 3), .ref (y + 4), .int 0, .long 0, .ref (y + 5), .int 0, .int 0, .long 0, .long 0, .long 0, .long 0, .ref (y + 6), .ref (y + 7), .int 0, .ref (y + 8), .int 0, .ref (y + 9), .ref (y + 10), .int 0, .ref (y + 11), .ref (y + 12), .ref (y + 13), .ref (y + 14), .ref (y + 15), .ref (y + 16), .int 0, .long (-1), .ref (y + 17), .ref (y + 18), .ref (y + 19), .ref (y + 20), .ref (y + 21), .ref (y + 22), .int 0, .ref (y + 23), .ref (y + 24), .int 0, .ref (y + 25), .int 0, .int 0, .int 0, .int (-1), .int 0, .int 0, .int 0, .long 0]) := ((fr15 y).trans h_27)
  have h_30 : Φ15 (y + 2) = some (ai_ G 307 (upd (upd (upd (upd (upd (upd (upd (upd (upd (upd (upd (upd (upd (upd (upd (upd (upd (upd (upd (upd (upd (upd (fun _ => 0) (0 : Int32).toNatClampNeg 1) (1 : Int32).toNatClampNeg 100) (2 : Int32).toNatClampNeg 1000) (3 : Int32).toNatClampNeg 100) (4 : Int32).toNatClampNeg 20) (5 : Int32).toNatClampNeg 1000) (6 : Int32).toNatClampNeg 5000) (7 : Int32).toNatClampNeg 512) (8 : Int32).toNatClampNeg 1) (9 : Int32).toNatClampNeg 511) (10 : Int32).toNatClampNeg 1) (11 : Int32).toNatClampNeg 9) (15 : Int32).toNatClampNeg 0) (16 : Int32).toNatClampNeg 1) (17 : Int32).toNatClampNeg 2) (18 : Int32).toNatClampNeg 3) (19 : Int32).toNatClampNeg 4) (20 : Int32).toNatClampNeg 5) (21 : Int32).toNatClampNeg 6) (22 : Int32).toNatClampNeg 7) (23 : Int32).toNatClampNeg 8) (9 : Int32).toNatClampNeg vv)) := ((fr15 (y + 2)).trans h_28)
  refine z_callV (As := [.int 0, .int 7]) (rest := [.int 1, .int 127]) B (m_fieldOf_s7 G l Φ15 sz y vv h_29 h_30) (cwV 2 B.1.2.2.2.2 gX12_fieldsOf_X12_fieldOf rfl rfl rfl (by decide +kernel) ⟨Nat.le_of_ble_eq_true rfl, Nat.le_of_ble_eq_true rfl⟩) h_29 rfl rfl rfl rfl (Nat.le_of_ble_eq_true rfl) dX12_fieldsOf_18 ⟨Nat.le_of_ble_eq_true rfl, Nat.le_of_ble_eq_true rfl⟩ (fun v16 Φ16 sz16 st16 hp16 hs16 => ?_)
  obtain ⟨rfl, hq16, fr16⟩ := hp16
  replace hq16 : sz16 = sz := hq16
  subst sz16
  replace hs16 : st16 = [.int 7, .int 1, .int 127] := hs16
  subst st16
  refine z_ishl B dX12_fieldsOf_21 ?_
  refine z_top (st1 := [.int 128, .int 127]) (congrArg (fun w9 : Int32 => ([.int w9, .int 127] : List Value)) (show ((1 : Int32) <<< ((7 : Int32) &&& (31 : Int32)) : Int32) = 128 by decide +kernel)) ?_
  refine z_ior B dX12_fieldsOf_22 ?_
  refine z_top (st1 := [.int 255]) (congrArg (fun w9 : Int32 => ([.int w9] : List Value)) (show (127 ||| 128 : Int32) = 255 by decide +kernel)) ?_
  refine z_istore_n (lv' := [(2, .int 255), (3, .int 7), (0, .ref y), (1, .int 0)]) B dX12_fieldsOf_23 rfl (Nat.le_of_ble_eq_true rfl) rfl ?_
  refine z_iinc (k := 1) (v := 8) (lv' := [(3, .int 8), (2, .int 255), (0, .ref y), (1, .int 0)]) B dX12_fieldsOf_24 rfl rfl (Nat.le_of_ble_eq_true rfl) rfl ?_
  refine z_goto (tgt := 4) B dX12_fieldsOf_27 rfl ?_
  refine z_iload_n B dX12_fieldsOf_4 rfl 0 rfl ?_
  refine z_aload_n B dX12_fieldsOf_5 rfl 2 rfl ?_
  refine z_iload_n B dX12_fieldsOf_6 rfl 3 rfl ?_
  have h_31 : Φ16 y = some (o_ 14 [.int 0, .ref (y + 1), .ref (y + 2), .int 0, .int 1, .int 1, .int 0, .int 0, .ref (y + 3), .ref (y + 4), .int 0, .long 0, .ref (y + 5), .int 0, .int 0, .long 0, .long 0, .long 0, .long 0, .ref (y + 6), .ref (y + 7), .int 0, .ref (y + 8), .int 0, .ref (y + 9), .ref (y + 10), .int 0, .ref (y + 11), .ref (y + 12), .ref (y + 13), .ref (y + 14), .ref (y + 15), .ref (y + 16), .int 0, .long (-1), .ref (y + 17), .ref (y + 18), .ref (y + 19), .ref (y + 20), .ref (y + 21), .ref (y + 22), .int 0, .ref (y + 23), .ref (y + 24), .int 0, .ref (y + 25), .int 0, .int 0, .int 0, .int (-1), .int 0, .int 0, .int 0, .long 0]) := ((fr16 y).trans h_29)
  have h_32 : Φ16 (y + 2) = some (ai_ G 307 (upd (upd (upd (upd (upd (upd (upd (upd (upd (upd (upd (upd (upd (upd (upd (upd (upd (upd (upd (upd (upd (upd (fun _ => 0) (0 : Int32).toNatClampNeg 1) (1 : Int32).toNatClampNeg 100) (2 : Int32).toNatClampNeg 1000) (3 : Int32).toNatClampNeg 100) (4 : Int32).toNatClampNeg 20) (5 : Int32).toNatClampNeg 1000) (6 : Int32).toNatClampNeg 5000) (7 : Int32).toNatClampNeg 512) (8 : Int32).toNatClampNeg 1) (9 : Int32).toNatClampNeg 511) (10 : Int32).toNatClampNeg 1) (11 : Int32).toNatClampNeg 9) (15 : Int32).toNatClampNeg 0) (16 : Int32).toNatClampNeg 1) (17 : Int32).toNatClampNeg 2) (18 : Int32).toNatClampNeg 3) (19 : Int32).toNatClampNeg 4) (20 : Int32).toNatClampNeg 5) (21 : Int32).toNatClampNeg 6) (22 : Int32).toNatClampNeg 7) (23 : Int32).toNatClampNeg 8) (9 : Int32).toNatClampNeg vv)) := ((fr16 (y + 2)).trans h_30)
  refine z_callV (As := [.int 0]) (rest := [.int 8]) B (m_sizeOf_s G l Φ16 sz y vv h_31 h_32) (cwV 1 B.1.2.2.2.2 gX12_fieldsOf_X12_sizeOf rfl rfl rfl (by decide +kernel) ⟨Nat.le_of_ble_eq_true rfl, Nat.le_of_ble_eq_true rfl⟩) h_31 rfl rfl rfl rfl (Nat.le_of_ble_eq_true rfl) dX12_fieldsOf_7 ⟨Nat.le_of_ble_eq_true rfl, Nat.le_of_ble_eq_true rfl⟩ (fun v17 Φ17 sz17 st17 hp17 hs17 => ?_)
  obtain ⟨rfl, hq17, fr17⟩ := hp17
  replace hq17 : sz17 = sz := hq17
  subst sz17
  replace hs17 : st17 = [.int 9, .int 8] := hs17
  subst st17
  refine z_icmp_ge (tgt := 30) B dX12_fieldsOf_10 rfl (fun h9 => absurd h9 (by decide)) (fun c_9 => ?_)
  refine z_iload_n B dX12_fieldsOf_13 rfl 1 rfl ?_
  refine z_iconst (v := 1) B dX12_fieldsOf_14 rfl ?_
  refine z_aload_n B dX12_fieldsOf_15 rfl 2 rfl ?_
  refine z_iload_n B dX12_fieldsOf_16 rfl 3 rfl ?_
  refine z_iload_n B dX12_fieldsOf_17 rfl 0 rfl ?_
  have h_33 : Φ17 y = some (o_ 14 [.int 0, .ref (y + 1), .ref (y + 2), .int 0, .int 1, .int 1, .int 0, .int 0, .ref (y + 3), .ref (y + 4), .int 0, .long 0, .ref (y + 5), .int 0, .int 0, .long 0, .long 0, .long 0, .long 0, .ref (y + 6), .ref (y + 7), .int 0, .ref (y + 8), .int 0, .ref (y + 9), .ref (y + 10), .int 0, .ref (y + 11), .ref (y + 12), .ref (y + 13), .ref (y + 14), .ref (y + 15), .ref (y + 16), .int 0, .long (-1), .ref (y + 17), .ref (y + 18), .ref (y + 19), .ref (y + 20), .ref (y + 21), .ref (y + 22), .int 0, .ref (y + 23), .ref (y + 24), .int 0, .ref (y + 25), .int 0, .int 0, .int 0, .int (-1), .int 0, .int 0, .int 0, .long 0]) := ((fr17 y).trans h_31)
  have h_34 : Φ17 (y + 2) = some (ai_ G 307 (upd (upd (upd (upd (upd (upd (upd (upd (upd (upd (upd (upd (upd (upd (upd (upd (upd (upd (upd (upd (upd (upd (fun _ => 0) (0 : Int32).toNatClampNeg 1) (1 : Int32).toNatClampNeg 100) (2 : Int32).toNatClampNeg 1000) (3 : Int32).toNatClampNeg 100) (4 : Int32).toNatClampNeg 20) (5 : Int32).toNatClampNeg 1000) (6 : Int32).toNatClampNeg 5000) (7 : Int32).toNatClampNeg 512) (8 : Int32).toNatClampNeg 1) (9 : Int32).toNatClampNeg 511) (10 : Int32).toNatClampNeg 1) (11 : Int32).toNatClampNeg 9) (15 : Int32).toNatClampNeg 0) (16 : Int32).toNatClampNeg 1) (17 : Int32).toNatClampNeg 2) (18 : Int32).toNatClampNeg 3) (19 : Int32).toNatClampNeg 4) (20 : Int32).toNatClampNeg 5) (21 : Int32).toNatClampNeg 6) (22 : Int32).toNatClampNeg 7) (23 : Int32).toNatClampNeg 8) (9 : Int32).toNatClampNeg vv)) := ((fr17 (y + 2)).trans h_32)
  refine z_callV (As := [.int 0, .int 8]) (rest := [.int 1, .int 255]) B (m_fieldOf_s8 G l Φ17 sz y vv h_33 h_34) (cwV 2 B.1.2.2.2.2 gX12_fieldsOf_X12_fieldOf rfl rfl rfl (by decide +kernel) ⟨Nat.le_of_ble_eq_true rfl, Nat.le_of_ble_eq_true rfl⟩) h_33 rfl rfl rfl rfl (Nat.le_of_ble_eq_true rfl) dX12_fieldsOf_18 ⟨Nat.le_of_ble_eq_true rfl, Nat.le_of_ble_eq_true rfl⟩ (fun v18 Φ18 sz18 st18 hp18 hs18 => ?_)
  obtain ⟨rfl, hq18, fr18⟩ := hp18
  replace hq18 : sz18 = sz := hq18
  subst sz18
  replace hs18 : st18 = [.int 8, .int 1, .int 255] := hs18
  subst st18
  refine z_ishl B dX12_fieldsOf_21 ?_
  refine z_top (st1 := [.int 256, .int 255]) (congrArg (fun w9 : Int32 => ([.int w9, .int 255] : List Value)) (show ((1 : Int32) <<< ((8 : Int32) &&& (31 : Int32)) : Int32) = 256 by decide +kernel)) ?_
  refine z_ior B dX12_fieldsOf_22 ?_
  refine z_top (st1 := [.int 511]) (congrArg (fun w9 : Int32 => ([.int w9] : List Value)) (show (255 ||| 256 : Int32) = 511 by decide +kernel)) ?_
  refine z_istore_n (lv' := [(2, .int 511), (3, .int 8), (0, .ref y), (1, .int 0)]) B dX12_fieldsOf_23 rfl (Nat.le_of_ble_eq_true rfl) rfl ?_
  refine z_iinc (k := 1) (v := 9) (lv' := [(3, .int 9), (2, .int 511), (0, .ref y), (1, .int 0)]) B dX12_fieldsOf_24 rfl rfl (Nat.le_of_ble_eq_true rfl) rfl ?_
  refine z_goto (tgt := 4) B dX12_fieldsOf_27 rfl ?_
  refine z_iload_n B dX12_fieldsOf_4 rfl 0 rfl ?_
  refine z_aload_n B dX12_fieldsOf_5 rfl 2 rfl ?_
  refine z_iload_n B dX12_fieldsOf_6 rfl 3 rfl ?_
  have h_35 : Φ18 y = some (o_ 14 [.int 0, .ref (y + 1), .ref (y + 2), .int 0, .int 1, .int 1, .int 0, .int 0, .ref (y + 3), .ref (y + 4), .int 0, .long 0, .ref (y + 5), .int 0, .int 0, .long 0, .long 0, .long 0, .long 0, .ref (y + 6), .ref (y + 7), .int 0, .ref (y + 8), .int 0, .ref (y + 9), .ref (y + 10), .int 0, .ref (y + 11), .ref (y + 12), .ref (y + 13), .ref (y + 14), .ref (y + 15), .ref (y + 16), .int 0, .long (-1), .ref (y + 17), .ref (y + 18), .ref (y + 19), .ref (y + 20), .ref (y + 21), .ref (y + 22), .int 0, .ref (y + 23), .ref (y + 24), .int 0, .ref (y + 25), .int 0, .int 0, .int 0, .int (-1), .int 0, .int 0, .int 0, .long 0]) := ((fr18 y).trans h_33)
  have h_36 : Φ18 (y + 2) = some (ai_ G 307 (upd (upd (upd (upd (upd (upd (upd (upd (upd (upd (upd (upd (upd (upd (upd (upd (upd (upd (upd (upd (upd (upd (fun _ => 0) (0 : Int32).toNatClampNeg 1) (1 : Int32).toNatClampNeg 100) (2 : Int32).toNatClampNeg 1000) (3 : Int32).toNatClampNeg 100) (4 : Int32).toNatClampNeg 20) (5 : Int32).toNatClampNeg 1000) (6 : Int32).toNatClampNeg 5000) (7 : Int32).toNatClampNeg 512) (8 : Int32).toNatClampNeg 1) (9 : Int32).toNatClampNeg 511) (10 : Int32).toNatClampNeg 1) (11 : Int32).toNatClampNeg 9) (15 : Int32).toNatClampNeg 0) (16 : Int32).toNatClampNeg 1) (17 : Int32).toNatClampNeg 2) (18 : Int32).toNatClampNeg 3) (19 : Int32).toNatClampNeg 4) (20 : Int32).toNatClampNeg 5) (21 : Int32).toNatClampNeg 6) (22 : Int32).toNatClampNeg 7) (23 : Int32).toNatClampNeg 8) (9 : Int32).toNatClampNeg vv)) := ((fr18 (y + 2)).trans h_34)
  refine z_callV (As := [.int 0]) (rest := [.int 9]) B (m_sizeOf_s G l Φ18 sz y vv h_35 h_36) (cwV 1 B.1.2.2.2.2 gX12_fieldsOf_X12_sizeOf rfl rfl rfl (by decide +kernel) ⟨Nat.le_of_ble_eq_true rfl, Nat.le_of_ble_eq_true rfl⟩) h_35 rfl rfl rfl rfl (Nat.le_of_ble_eq_true rfl) dX12_fieldsOf_7 ⟨Nat.le_of_ble_eq_true rfl, Nat.le_of_ble_eq_true rfl⟩ (fun v19 Φ19 sz19 st19 hp19 hs19 => ?_)
  obtain ⟨rfl, hq19, fr19⟩ := hp19
  replace hq19 : sz19 = sz := hq19
  subst sz19
  replace hs19 : st19 = [.int 9, .int 9] := hs19
  subst st19
  refine z_icmp_ge (tgt := 30) B dX12_fieldsOf_10 rfl (fun c_10 => ?_) (fun h9 => absurd (by decide) h9)
  refine z_iload_n B dX12_fieldsOf_30 rfl 1 rfl ?_
  exact z_ret_i B dX12_fieldsOf_31 ⟨rfl, rfl, (fun b9 => ((fr19 b9).trans ((fr18 b9).trans ((fr17 b9).trans ((fr16 b9).trans ((fr15 b9).trans ((fr14 b9).trans ((fr13 b9).trans ((fr12 b9).trans ((fr11 b9).trans ((fr10 b9).trans ((fr9 b9).trans ((fr8 b9).trans ((fr7 b9).trans ((fr6 b9).trans ((fr5 b9).trans ((fr4 b9).trans ((fr3 b9).trans ((fr2 b9).trans ((fr1 b9).trans rfl))))))))))))))))))))⟩

set_option maxHeartbeats 4000000 in
set_option maxRecDepth 100000 in
theorem m_isSupported_0 (G : EnvG) (l : Launch) (Φ : Hm) (sz : Nat) (y : Nat) (hc0_ : Φ y = some (o_ 14 [.int 0, .ref (y + 1), .ref (y + 2), .int 0, .int 1, .int 1, .int 0, .int 0, .ref (y + 3), .ref (y + 4), .int 0, .long 0, .ref (y + 5), .int 0, .int 0, .long 0, .long 0, .long 0, .long 0, .ref (y + 6), .ref (y + 7), .int 0, .ref (y + 8), .int 0, .ref (y + 9), .ref (y + 10), .int 0, .ref (y + 11), .ref (y + 12), .ref (y + 13), .ref (y + 14), .ref (y + 15), .ref (y + 16), .int 0, .long (-1), .ref (y + 17), .ref (y + 18), .ref (y + 19), .ref (y + 20), .ref (y + 21), .ref (y + 22), .int 0, .ref (y + 23), .ref (y + 24), .int 0, .ref (y + 25), .int 0, .int 0, .int 0, .int (-1), .int 0, .int 0, .int 0, .long 0])) (hc2_ : Φ (y + 2) = some (ai_ G 307 (upd (upd (upd (upd (upd (upd (upd (upd (upd (upd (upd (upd (upd (upd (upd (upd (upd (upd (upd (upd (upd (fun _ => 0) (0 : Int32).toNatClampNeg 1) (1 : Int32).toNatClampNeg 100) (2 : Int32).toNatClampNeg 1000) (3 : Int32).toNatClampNeg 100) (4 : Int32).toNatClampNeg 20) (5 : Int32).toNatClampNeg 1000) (6 : Int32).toNatClampNeg 5000) (7 : Int32).toNatClampNeg 512) (8 : Int32).toNatClampNeg 1) (9 : Int32).toNatClampNeg 511) (10 : Int32).toNatClampNeg 1) (11 : Int32).toNatClampNeg 9) (15 : Int32).toNatClampNeg 0) (16 : Int32).toNatClampNeg 1) (17 : Int32).toNatClampNeg 2) (18 : Int32).toNatClampNeg 3) (19 : Int32).toNatClampNeg 4) (20 : Int32).toNatClampNeg 5) (21 : Int32).toNatClampNeg 6) (22 : Int32).toNatClampNeg 7) (23 : Int32).toNatClampNeg 8))) : Ct G l yX12_isSupported wsX12_isSupported ({ frames := 0, cells := 0, slots := 0, locals := 0 }) 0 0 [.ref y, .int 0] Φ sz (fun v Φ1 sz1 => v = some (.int 1) ∧ sz1 = sz ∧ (∀ b9 : Nat, Φ1 b9 = Φ b9)) := by
  refine Ct.of (cc := cX12_isSupported) (maxL := 2) (ret := (some .boolean)) (by decide) rfl (Nat.le_of_ble_eq_true rfl) ?_
  intro p9 e9 s9 m9 w9 t9 k9 B
  show Z p9 l e9 _ s9 m9 _ w9 t9 k9 _ G 2 0 [(0, .ref y), (1, .int 0)] [] Φ sz 0 0
  refine z_aload_n B dX12_isSupported_0 rfl 0 rfl ?_
  refine z_get (ref := "FlowExporterModel") (C := RX12) (T := TX12) (N := 54) (ci := 14) (v := .ref (y + 2)) B (by decide +kernel) rfl 2 (by decide) (by decide +kernel) rfl hc0_ rfl dX12_isSupported_1 ?_
  refine z_bipush (v := 9) B dX12_isSupported_4 rfl ?_
  refine z_iald B hc2_ (vin rfl) dX12_isSupported_6 ?_
  refine z_top (st1 := [.int 511]) (by rfl) ?_
  refine z_iload_n B dX12_isSupported_7 rfl 1 rfl ?_
  refine z_ishr B dX12_isSupported_8 ?_
  refine z_top (st1 := [.int 511]) (congrArg (fun w9 : Int32 => ([.int w9] : List Value)) (show ((511 : Int32) >>> ((0 : Int32) &&& (31 : Int32)) : Int32) = 511 by decide +kernel)) ?_
  refine z_iconst (v := 1) B dX12_isSupported_9 rfl ?_
  refine z_iand B dX12_isSupported_10 ?_
  refine z_top (st1 := [.int 1]) (congrArg (fun w9 : Int32 => ([.int w9] : List Value)) (show (511 &&& 1 : Int32) = 1 by decide +kernel)) ?_
  refine z_iconst (v := 1) B dX12_isSupported_11 rfl ?_
  refine z_icmp_ne (tgt := 19) B dX12_isSupported_12 rfl (fun h9 => absurd (by decide) h9) (fun c_1 => ?_)
  refine z_iconst (v := 1) B dX12_isSupported_15 rfl ?_
  refine z_goto (tgt := 20) B dX12_isSupported_16 rfl ?_
  exact z_ret_z B dX12_isSupported_20 (by decide) ⟨rfl, rfl, (fun b9 => rfl)⟩

set_option maxHeartbeats 4000000 in
set_option maxRecDepth 100000 in
theorem m_X12_setSupport_0_0 (G : EnvG) (l : Launch) (Φ : Hm) (sz : Nat) (y : Nat) (hc0_ : Φ y = some (o_ 14 [.int 0, .ref (y + 1), .ref (y + 2), .int 0, .int 1, .int 1, .int 0, .int 0, .ref (y + 3), .ref (y + 4), .int 0, .long 0, .ref (y + 5), .int 0, .int 0, .long 0, .long 0, .long 0, .long 0, .ref (y + 6), .ref (y + 7), .int 0, .ref (y + 8), .int 0, .ref (y + 9), .ref (y + 10), .int 0, .ref (y + 11), .ref (y + 12), .ref (y + 13), .ref (y + 14), .ref (y + 15), .ref (y + 16), .int 0, .long (-1), .ref (y + 17), .ref (y + 18), .ref (y + 19), .ref (y + 20), .ref (y + 21), .ref (y + 22), .int 0, .ref (y + 23), .ref (y + 24), .int 0, .ref (y + 25), .int 0, .int 0, .int 0, .int (-1), .int 0, .int 0, .int 0, .long 0])) (hc2_ : Φ (y + 2) = some (ai_ G 307 (upd (upd (upd (upd (upd (upd (upd (upd (upd (upd (upd (upd (upd (upd (upd (upd (upd (upd (upd (upd (upd (fun _ => 0) (0 : Int32).toNatClampNeg 1) (1 : Int32).toNatClampNeg 100) (2 : Int32).toNatClampNeg 1000) (3 : Int32).toNatClampNeg 100) (4 : Int32).toNatClampNeg 20) (5 : Int32).toNatClampNeg 1000) (6 : Int32).toNatClampNeg 5000) (7 : Int32).toNatClampNeg 512) (8 : Int32).toNatClampNeg 1) (9 : Int32).toNatClampNeg 511) (10 : Int32).toNatClampNeg 1) (11 : Int32).toNatClampNeg 9) (15 : Int32).toNatClampNeg 0) (16 : Int32).toNatClampNeg 1) (17 : Int32).toNatClampNeg 2) (18 : Int32).toNatClampNeg 3) (19 : Int32).toNatClampNeg 4) (20 : Int32).toNatClampNeg 5) (21 : Int32).toNatClampNeg 6) (22 : Int32).toNatClampNeg 7) (23 : Int32).toNatClampNeg 8))) (hc3_ : Φ (y + 3) = some (ai_ G 4 (upd (upd (upd (upd (fun _ => 0) (0 : Int32).toNatClampNeg (-1)) (1 : Int32).toNatClampNeg (-1)) (2 : Int32).toNatClampNeg (-1)) (3 : Int32).toNatClampNeg (-1)))) (hna : G.2.2.2 ≤ y) : Ct G l yX12_setSupport wsX12_setSupport ({ frames := 2, cells := 0, slots := 0, locals := 45 }) 0 0 [.ref y, .int 0, .int 0] Φ sz (fun v Φ1 sz1 => v = some (.int 1) ∧ (∃ fs : List Value, Φ1 y = some (o_ 14 fs) ∧ fs[0]? = some (.int 0)) ∧ ∀ b9 : Nat, y + 26 ≤ b9 → Φ1 b9 = Φ b9) := by
  refine Ct.of (cc := cX12_setSupport) (maxL := 5) (ret := (some .boolean)) (by decide) rfl (Nat.le_of_ble_eq_true rfl) ?_
  intro p9 e9 s9 m9 w9 t9 k9 B
  show Z p9 l e9 _ s9 m9 _ w9 t9 k9 _ G 5 0 [(0, .ref y), (1, .int 0), (2, .int 0)] [] Φ sz 0 0
  refine z_aload_n B dX12_setSupport_0 rfl 0 rfl ?_
  refine z_iconst (v := 0) B dX12_setSupport_1 rfl ?_
  refine z_put (ref := "FlowExporterModel") (C := RX12) (T := TX12) (N := 54) (ci := 14) (v := .int 0) B (by decide +kernel) tyX12 tyX12_ok nmX12 rfl 0 (by decide) (by decide +kernel) rfl (Or.inl rfl) hc0_ hna rfl rfl (Nat.le_of_ble_eq_true rfl) dX12_setSupport_2 (fun Φ1 hΦ1 => ?_)
  have h_1 : Φ1 y = some (o_ 14 [.int 0, .ref (y + 1), .ref (y + 2), .int 0, .int 1, .int 1, .int 0, .int 0, .ref (y + 3), .ref (y + 4), .int 0, .long 0, .ref (y + 5), .int 0, .int 0, .long 0, .long 0, .long 0, .long 0, .ref (y + 6), .ref (y + 7), .int 0, .ref (y + 8), .int 0, .ref (y + 9), .ref (y + 10), .int 0, .ref (y + 11), .ref (y + 12), .ref (y + 13), .ref (y + 14), .ref (y + 15), .ref (y + 16), .int 0, .long (-1), .ref (y + 17), .ref (y + 18), .ref (y + 19), .ref (y + 20), .ref (y + 21), .ref (y + 22), .int 0, .ref (y + 23), .ref (y + 24), .int 0, .ref (y + 25), .int 0, .int 0, .int 0, .int (-1), .int 0, .int 0, .int 0, .long 0]) := fset_at hΦ1
  refine z_aload_n B dX12_setSupport_5 rfl 0 rfl ?_
  refine z_iload_n B dX12_setSupport_6 rfl 1 rfl ?_
  refine z_i2l (v := 0) B dX12_setSupport_7 (by decide +kernel) ?_
  refine z_lconst (v := 0) B dX12_setSupport_8 rfl ?_
  refine z_ldc2 (v := 8) B (by decide +kernel) dX12_setSupport_9 ?_
  refine z_callS (As := [.long 0, .long 0, .long 8]) (rest := [.ref y]) B (c_X12_inRange_1 G l Φ1 sz 0 0 8 ⟨by decide +kernel, by decide +kernel⟩) (va_cwS 3 B.1.2.2.2.2 gX12_setSupport_X12_inRange rfl rfl rfl (by decide +kernel) ⟨Nat.le_of_ble_eq_true rfl, Nat.le_of_ble_eq_true rfl⟩) rfl rfl (Nat.le_of_ble_eq_true rfl) dX12_setSupport_12 ⟨Nat.le_of_ble_eq_true rfl, Nat.le_of_ble_eq_true rfl⟩ (fun v1 Φ2 sz1 st1 hp1 hs1 => ?_)
  obtain ⟨rfl, hq1, fr1⟩ := hp1
  replace hq1 : sz1 = sz := hq1
  subst sz1
  replace hs1 : st1 = [.int 1, .ref y] := hs1
  subst st1
  refine z_if_ne (tgt := 22) B dX12_setSupport_15 rfl (fun c_1 => ?_) (fun h9 => absurd h9 (by decide))
  refine z_iconst (v := 0) B dX12_setSupport_22 rfl ?_
  refine z_iconst (v := 1) B dX12_setSupport_23 rfl ?_
  have h_2 : Φ2 y = some (o_ 14 [.int 0, .ref (y + 1), .ref (y + 2), .int 0, .int 1, .int 1, .int 0, .int 0, .ref (y + 3), .ref (y + 4), .int 0, .long 0, .ref (y + 5), .int 0, .int 0, .long 0, .long 0, .long 0, .long 0, .ref (y + 6), .ref (y + 7), .int 0, .ref (y + 8), .int 0, .ref (y + 9), .ref (y + 10), .int 0, .ref (y + 11), .ref (y + 12), .ref (y + 13), .ref (y + 14), .ref (y + 15), .ref (y + 16), .int 0, .long (-1), .ref (y + 17), .ref (y + 18), .ref (y + 19), .ref (y + 20), .ref (y + 21), .ref (y + 22), .int 0, .ref (y + 23), .ref (y + 24), .int 0, .ref (y + 25), .int 0, .int 0, .int 0, .int (-1), .int 0, .int 0, .int 0, .long 0]) := ((fr1 y).trans h_1)
  refine z_callV (As := [.int 0, .int 1]) (rest := []) B (c_X12_throwsIf_0 G l Φ2 sz y 0 0 1 1 0 0 0 0 0 0 0 0 0 0 0 0 0 0 (-1) 0 0 0 0 0 (-1) 0 0 0 0 1 h_2 hna) (cwV 2 B.1.2.2.2.2 gX12_setSupport_X12_throwsIf rfl rfl rfl (by decide +kernel) ⟨Nat.le_of_ble_eq_true rfl, Nat.le_of_ble_eq_true rfl⟩) h_2 rfl rfl rfl rfl (Nat.le_of_ble_eq_true rfl) dX12_setSupport_24 ⟨Nat.le_of_ble_eq_true rfl, Nat.le_of_ble_eq_true rfl⟩ (fun v2 Φ3 sz2 st2 hp2 hs2 => ?_)
  obtain ⟨rfl, hq2, fr2⟩ := hp2
  replace hq2 : sz2 = sz := hq2
  subst sz2
  replace hs2 : st2 = [.int 0] := hs2
  subst st2
  refine z_if_eq (tgt := 32) B dX12_setSupport_27 rfl (fun c_2 => ?_) (fun h9 => absurd (by decide) h9)
  refine z_aload_n B dX12_setSupport_32 rfl 0 rfl ?_
  refine z_iload_n B dX12_setSupport_33 rfl 1 rfl ?_
  have h_3 : Φ3 y = some (o_ 14 [.int 0, .ref (y + 1), .ref (y + 2), .int 0, .int 1, .int 1, .int 0, .int 0, .ref (y + 3), .ref (y + 4), .int 0, .long 0, .ref (y + 5), .int 0, .int 0, .long 0, .long 0, .long 0, .long 0, .ref (y + 6), .ref (y + 7), .int 0, .ref (y + 8), .int 0, .ref (y + 9), .ref (y + 10), .int 0, .ref (y + 11), .ref (y + 12), .ref (y + 13), .ref (y + 14), .ref (y + 15), .ref (y + 16), .int 0, .long (-1), .ref (y + 17), .ref (y + 18), .ref (y + 19), .ref (y + 20), .ref (y + 21), .ref (y + 22), .int 0, .ref (y + 23), .ref (y + 24), .int 0, .ref (y + 25), .int 0, .int 0, .int 0, .int (-1), .int 0, .int 0, .int 0, .long 0]) := ((fr2 y).trans h_2)
  have h_4 : Φ3 (y + 2) = some (ai_ G 307 (upd (upd (upd (upd (upd (upd (upd (upd (upd (upd (upd (upd (upd (upd (upd (upd (upd (upd (upd (upd (upd (fun _ => 0) (0 : Int32).toNatClampNeg 1) (1 : Int32).toNatClampNeg 100) (2 : Int32).toNatClampNeg 1000) (3 : Int32).toNatClampNeg 100) (4 : Int32).toNatClampNeg 20) (5 : Int32).toNatClampNeg 1000) (6 : Int32).toNatClampNeg 5000) (7 : Int32).toNatClampNeg 512) (8 : Int32).toNatClampNeg 1) (9 : Int32).toNatClampNeg 511) (10 : Int32).toNatClampNeg 1) (11 : Int32).toNatClampNeg 9) (15 : Int32).toNatClampNeg 0) (16 : Int32).toNatClampNeg 1) (17 : Int32).toNatClampNeg 2) (18 : Int32).toNatClampNeg 3) (19 : Int32).toNatClampNeg 4) (20 : Int32).toNatClampNeg 5) (21 : Int32).toNatClampNeg 6) (22 : Int32).toNatClampNeg 7) (23 : Int32).toNatClampNeg 8)) := ((fr2 (y + 2)).trans ((fr1 (y + 2)).trans ((fset_fr hΦ1 (ne_off (x := y) (i := 2) (j := 0) rfl)).trans hc2_)))
  refine z_callV (As := [.int 0]) (rest := []) B (m_isSupported_0 G l Φ3 sz y h_3 h_4) (cwV 1 B.1.2.2.2.2 gX12_setSupport_X12_isSupported rfl rfl rfl (by decide +kernel) ⟨Nat.le_of_ble_eq_true rfl, Nat.le_of_ble_eq_true rfl⟩) h_3 rfl rfl rfl rfl (Nat.le_of_ble_eq_true rfl) dX12_setSupport_34 ⟨Nat.le_of_ble_eq_true rfl, Nat.le_of_ble_eq_true rfl⟩ (fun v3 Φ4 sz3 st3 hp3 hs3 => ?_)
  obtain ⟨rfl, hq3, fr3⟩ := hp3
  replace hq3 : sz3 = sz := hq3
  subst sz3
  replace hs3 : st3 = [.int 1] := hs3
  subst st3
  refine z_istore_n (lv' := [(3, .int 1), (0, .ref y), (1, .int 0), (2, .int 0)]) B dX12_setSupport_37 rfl (Nat.le_of_ble_eq_true rfl) rfl ?_
  refine z_iload_n B dX12_setSupport_38 rfl 0 rfl ?_
  refine z_iload_n B dX12_setSupport_39 rfl 3 rfl ?_
  refine z_icmp_ne (tgt := 45) B dX12_setSupport_40 rfl (fun c_3 => ?_) (fun h9 => absurd h9 (by decide))
  refine z_aload_n B dX12_setSupport_45 rfl 1 rfl ?_
  have h_5 : Φ4 y = some (o_ 14 [.int 0, .ref (y + 1), .ref (y + 2), .int 0, .int 1, .int 1, .int 0, .int 0, .ref (y + 3), .ref (y + 4), .int 0, .long 0, .ref (y + 5), .int 0, .int 0, .long 0, .long 0, .long 0, .long 0, .ref (y + 6), .ref (y + 7), .int 0, .ref (y + 8), .int 0, .ref (y + 9), .ref (y + 10), .int 0, .ref (y + 11), .ref (y + 12), .ref (y + 13), .ref (y + 14), .ref (y + 15), .ref (y + 16), .int 0, .long (-1), .ref (y + 17), .ref (y + 18), .ref (y + 19), .ref (y + 20), .ref (y + 21), .ref (y + 22), .int 0, .ref (y + 23), .ref (y + 24), .int 0, .ref (y + 25), .int 0, .int 0, .int 0, .int (-1), .int 0, .int 0, .int 0, .long 0]) := ((fr3 y).trans h_3)
  refine z_get (ref := "FlowExporterModel") (C := RX12) (T := TX12) (N := 54) (ci := 14) (v := .ref (y + 2)) B (by decide +kernel) rfl 2 (by decide) (by decide +kernel) rfl h_5 rfl dX12_setSupport_46 ?_
  refine z_bipush (v := 9) B dX12_setSupport_49 rfl ?_
  refine z_dup2_11 B dX12_setSupport_51 rfl rfl ?_
  have h_6 : Φ4 (y + 2) = some (ai_ G 307 (upd (upd (upd (upd (upd (upd (upd (upd (upd (upd (upd (upd (upd (upd (upd (upd (upd (upd (upd (upd (upd (fun _ => 0) (0 : Int32).toNatClampNeg 1) (1 : Int32).toNatClampNeg 100) (2 : Int32).toNatClampNeg 1000) (3 : Int32).toNatClampNeg 100) (4 : Int32).toNatClampNeg 20) (5 : Int32).toNatClampNeg 1000) (6 : Int32).toNatClampNeg 5000) (7 : Int32).toNatClampNeg 512) (8 : Int32).toNatClampNeg 1) (9 : Int32).toNatClampNeg 511) (10 : Int32).toNatClampNeg 1) (11 : Int32).toNatClampNeg 9) (15 : Int32).toNatClampNeg 0) (16 : Int32).toNatClampNeg 1) (17 : Int32).toNatClampNeg 2) (18 : Int32).toNatClampNeg 3) (19 : Int32).toNatClampNeg 4) (20 : Int32).toNatClampNeg 5) (21 : Int32).toNatClampNeg 6) (22 : Int32).toNatClampNeg 7) (23 : Int32).toNatClampNeg 8)) := ((fr3 (y + 2)).trans h_4)
  refine z_iald B h_6 (vin rfl) dX12_setSupport_52 ?_
  refine z_top (st1 := [.int 511, .int 9, .ref (y + 2)]) (by rfl) ?_
  refine z_iconst (v := 1) B dX12_setSupport_53 rfl ?_
  refine z_iload_n B dX12_setSupport_54 rfl 2 rfl ?_
  refine z_ishl B dX12_setSupport_55 ?_
  refine z_top (st1 := [.int 1, .int 511, .int 9, .ref (y + 2)]) (congrArg (fun w9 : Int32 => ([.int w9, .int 511, .int 9, .ref (y + 2)] : List Value)) (show ((1 : Int32) <<< ((0 : Int32) &&& (31 : Int32)) : Int32) = 1 by decide +kernel)) ?_
  refine z_ixor B dX12_setSupport_56 ?_
  refine z_top (st1 := [.int 510, .int 9, .ref (y + 2)]) (congrArg (fun w9 : Int32 => ([.int w9, .int 9, .ref (y + 2)] : List Value)) (show (511 ^^^ 1 : Int32) = 510 by decide +kernel)) ?_
  refine z_iast B h_6 (Nat.le_trans hna (Nat.le_add_right y 2)) (vin rfl) dX12_setSupport_57 (fun Φ5 hΦ2 => ?_)
  have h_7 : Φ5 (y + 2) = some (ai_ G 307 (upd (upd (upd (upd (upd (upd (upd (upd (upd (upd (upd (upd (upd (upd (upd (upd (upd (upd (upd (upd (upd (upd (fun _ => 0) (0 : Int32).toNatClampNeg 1) (1 : Int32).toNatClampNeg 100) (2 : Int32).toNatClampNeg 1000) (3 : Int32).toNatClampNeg 100) (4 : Int32).toNatClampNeg 20) (5 : Int32).toNatClampNeg 1000) (6 : Int32).toNatClampNeg 5000) (7 : Int32).toNatClampNeg 512) (8 : Int32).toNatClampNeg 1) (9 : Int32).toNatClampNeg 511) (10 : Int32).toNatClampNeg 1) (11 : Int32).toNatClampNeg 9) (15 : Int32).toNatClampNeg 0) (16 : Int32).toNatClampNeg 1) (17 : Int32).toNatClampNeg 2) (18 : Int32).toNatClampNeg 3) (19 : Int32).toNatClampNeg 4) (20 : Int32).toNatClampNeg 5) (21 : Int32).toNatClampNeg 6) (22 : Int32).toNatClampNeg 7) (23 : Int32).toNatClampNeg 8) (9 : Int32).toNatClampNeg 510)) := fset_at hΦ2
  refine z_iconst (v := 0) B dX12_setSupport_58 rfl ?_
  refine z_istore (lv' := [(4, .int 0), (3, .int 1), (0, .ref y), (1, .int 0), (2, .int 0)]) B dX12_setSupport_59 (Nat.le_of_ble_eq_true rfl) rfl ?_
  refine z_iload B dX12_setSupport_61 0 rfl ?_
  refine z_aload_n B dX12_setSupport_63 rfl 2 rfl ?_
  have h_8 : Φ5 y = some (o_ 14 [.int 0, .ref (y + 1), .ref (y + 2), .int 0, .int 1, .int 1, .int 0, .int 0, .ref (y + 3), .ref (y + 4), .int 0, .long 0, .ref (y + 5), .int 0, .int 0, .long 0, .long 0, .long 0, .long 0, .ref (y + 6), .ref (y + 7), .int 0, .ref (y + 8), .int 0, .ref (y + 9), .ref (y + 10), .int 0, .ref (y + 11), .ref (y + 12), .ref (y + 13), .ref (y + 14), .ref (y + 15), .ref (y + 16), .int 0, .long (-1), .ref (y + 17), .ref (y + 18), .ref (y + 19), .ref (y + 20), .ref (y + 21), .ref (y + 22), .int 0, .ref (y + 23), .ref (y + 24), .int 0, .ref (y + 25), .int 0, .int 0, .int 0, .int (-1), .int 0, .int 0, .int 0, .long 0]) := ((fset_fr hΦ2 (ne_off (x := y) (i := 0) (j := 2) rfl)).trans h_5)
  refine z_get (ref := "FlowExporterModel") (C := RX12) (T := TX12) (N := 54) (ci := 14) (v := .ref (y + 2)) B (by decide +kernel) rfl 2 (by decide) (by decide +kernel) rfl h_8 rfl dX12_setSupport_64 ?_
  refine z_bipush (v := 10) B dX12_setSupport_67 rfl ?_
  refine z_iald B h_7 (vin rfl) dX12_setSupport_69 ?_
  refine z_top (st1 := [.int 1, .int 0]) (by rfl) ?_
  refine z_icmp_ge (tgt := 101) B dX12_setSupport_70 rfl (fun h9 => absurd h9 (by decide)) (fun c_4 => ?_)
  refine z_aload_n B dX12_setSupport_73 rfl 2 rfl ?_
  refine z_iload B dX12_setSupport_74 0 rfl ?_
  refine z_callV (As := [.int 0]) (rest := []) B (m_fieldsOf_s G l Φ5 sz y 510 h_8 h_7) (cwV 1 B.1.2.2.2.2 gX12_setSupport_X12_fieldsOf rfl rfl rfl (by decide +kernel) ⟨Nat.le_of_ble_eq_true rfl, Nat.le_of_ble_eq_true rfl⟩) h_8 rfl rfl rfl rfl (Nat.le_of_ble_eq_true rfl) dX12_setSupport_76 ⟨Nat.le_of_ble_eq_true rfl, Nat.le_of_ble_eq_true rfl⟩ (fun v4 Φ6 sz4 st4 hp4 hs4 => ?_)
  obtain ⟨rfl, hq4, fr4⟩ := hp4
  replace hq4 : sz4 = sz := hq4
  subst sz4
  replace hs4 : st4 = [.int 511] := hs4
  subst st4
  refine z_iload_n B dX12_setSupport_79 rfl 3 rfl ?_
  refine z_ishr B dX12_setSupport_80 ?_
  refine z_top (st1 := [.int 511]) (congrArg (fun w9 : Int32 => ([.int w9] : List Value)) (show ((511 : Int32) >>> ((0 : Int32) &&& (31 : Int32)) : Int32) = 511 by decide +kernel)) ?_
  refine z_iconst (v := 1) B dX12_setSupport_81 rfl ?_
  refine z_iand B dX12_setSupport_82 ?_
  refine z_top (st1 := [.int 1]) (congrArg (fun w9 : Int32 => ([.int w9] : List Value)) (show (511 &&& 1 : Int32) = 1 by decide +kernel)) ?_
  refine z_iconst (v := 1) B dX12_setSupport_83 rfl ?_
  refine z_icmp_ne (tgt := 95) B dX12_setSupport_84 rfl (fun h9 => absurd (by decide) h9) (fun c_5 => ?_)
  refine z_aload_n B dX12_setSupport_87 rfl 2 rfl ?_
  have h_9 : Φ6 y = some (o_ 14 [.int 0, .ref (y + 1), .ref (y + 2), .int 0, .int 1, .int 1, .int 0, .int 0, .ref (y + 3), .ref (y + 4), .int 0, .long 0, .ref (y + 5), .int 0, .int 0, .long 0, .long 0, .long 0, .long 0, .ref (y + 6), .ref (y + 7), .int 0, .ref (y + 8), .int 0, .ref (y + 9), .ref (y + 10), .int 0, .ref (y + 11), .ref (y + 12), .ref (y + 13), .ref (y + 14), .ref (y + 15), .ref (y + 16), .int 0, .long (-1), .ref (y + 17), .ref (y + 18), .ref (y + 19), .ref (y + 20), .ref (y + 21), .ref (y + 22), .int 0, .ref (y + 23), .ref (y + 24), .int 0, .ref (y + 25), .int 0, .int 0, .int 0, .int (-1), .int 0, .int 0, .int 0, .long 0]) := ((fr4 y).trans h_8)
  refine z_get (ref := "FlowExporterModel") (C := RX12) (T := TX12) (N := 54) (ci := 14) (v := .ref (y + 3)) B (by decide +kernel) rfl 8 (by decide) (by decide +kernel) rfl h_9 rfl dX12_setSupport_88 ?_
  refine z_iload B dX12_setSupport_91 0 rfl ?_
  refine z_iconst (v := (-1)) B dX12_setSupport_93 rfl ?_
  have h_10 : Φ6 (y + 3) = some (ai_ G 4 (upd (upd (upd (upd (fun _ => 0) (0 : Int32).toNatClampNeg (-1)) (1 : Int32).toNatClampNeg (-1)) (2 : Int32).toNatClampNeg (-1)) (3 : Int32).toNatClampNeg (-1))) := ((fr4 (y + 3)).trans ((fset_fr hΦ2 (ne_off (x := y) (i := 3) (j := 2) rfl)).trans ((fr3 (y + 3)).trans ((fr2 (y + 3)).trans ((fr1 (y + 3)).trans ((fset_fr hΦ1 (ne_off (x := y) (i := 3) (j := 0) rfl)).trans hc3_))))))
  refine z_iast B h_10 (Nat.le_trans hna (Nat.le_add_right y 3)) (vin rfl) dX12_setSupport_94 (fun Φ7 hΦ3 => ?_)
  have h_11 : Φ7 (y + 3) = some (ai_ G 4 (upd (upd (upd (upd (upd (fun _ => 0) (0 : Int32).toNatClampNeg (-1)) (1 : Int32).toNatClampNeg (-1)) (2 : Int32).toNatClampNeg (-1)) (3 : Int32).toNatClampNeg (-1)) (0 : Int32).toNatClampNeg (-1))) := fset_at hΦ3
  refine z_iinc (k := 0) (v := 1) (lv' := [(4, .int 1), (3, .int 1), (0, .ref y), (1, .int 0), (2, .int 0)]) B dX12_setSupport_95 rfl rfl (Nat.le_of_ble_eq_true rfl) rfl ?_
  refine z_goto (tgt := 61) B dX12_setSupport_98 rfl ?_
  refine z_iload B dX12_setSupport_61 0 rfl ?_
  refine z_aload_n B dX12_setSupport_63 rfl 2 rfl ?_
  have h_12 : Φ7 y = some (o_ 14 [.int 0, .ref (y + 1), .ref (y + 2), .int 0, .int 1, .int 1, .int 0, .int 0, .ref (y + 3), .ref (y + 4), .int 0, .long 0, .ref (y + 5), .int 0, .int 0, .long 0, .long 0, .long 0, .long 0, .ref (y + 6), .ref (y + 7), .int 0, .ref (y + 8), .int 0, .ref (y + 9), .ref (y + 10), .int 0, .ref (y + 11), .ref (y + 12), .ref (y + 13), .ref (y + 14), .ref (y + 15), .ref (y + 16), .int 0, .long (-1), .ref (y + 17), .ref (y + 18), .ref (y + 19), .ref (y + 20), .ref (y + 21), .ref (y + 22), .int 0, .ref (y + 23), .ref (y + 24), .int 0, .ref (y + 25), .int 0, .int 0, .int 0, .int (-1), .int 0, .int 0, .int 0, .long 0]) := ((fset_fr hΦ3 (ne_off (x := y) (i := 0) (j := 3) rfl)).trans h_9)
  refine z_get (ref := "FlowExporterModel") (C := RX12) (T := TX12) (N := 54) (ci := 14) (v := .ref (y + 2)) B (by decide +kernel) rfl 2 (by decide) (by decide +kernel) rfl h_12 rfl dX12_setSupport_64 ?_
  refine z_bipush (v := 10) B dX12_setSupport_67 rfl ?_
  have h_13 : Φ7 (y + 2) = some (ai_ G 307 (upd (upd (upd (upd (upd (upd (upd (upd (upd (upd (upd (upd (upd (upd (upd (upd (upd (upd (upd (upd (upd (upd (fun _ => 0) (0 : Int32).toNatClampNeg 1) (1 : Int32).toNatClampNeg 100) (2 : Int32).toNatClampNeg 1000) (3 : Int32).toNatClampNeg 100) (4 : Int32).toNatClampNeg 20) (5 : Int32).toNatClampNeg 1000) (6 : Int32).toNatClampNeg 5000) (7 : Int32).toNatClampNeg 512) (8 : Int32).toNatClampNeg 1) (9 : Int32).toNatClampNeg 511) (10 : Int32).toNatClampNeg 1) (11 : Int32).toNatClampNeg 9) (15 : Int32).toNatClampNeg 0) (16 : Int32).toNatClampNeg 1) (17 : Int32).toNatClampNeg 2) (18 : Int32).toNatClampNeg 3) (19 : Int32).toNatClampNeg 4) (20 : Int32).toNatClampNeg 5) (21 : Int32).toNatClampNeg 6) (22 : Int32).toNatClampNeg 7) (23 : Int32).toNatClampNeg 8) (9 : Int32).toNatClampNeg 510)) := ((fset_fr hΦ3 (ne_off (x := y) (i := 2) (j := 3) rfl)).trans ((fr4 (y + 2)).trans h_7))
  refine z_iald B h_13 (vin rfl) dX12_setSupport_69 ?_
  refine z_top (st1 := [.int 1, .int 1]) (by rfl) ?_
  refine z_icmp_ge (tgt := 101) B dX12_setSupport_70 rfl (fun c_6 => ?_) (fun h9 => absurd (by decide) h9)
  refine z_iload_n B dX12_setSupport_101 rfl 1 rfl ?_
  exact z_ret_z B dX12_setSupport_102 (by decide) ⟨rfl, ⟨_, h_12, rfl⟩, fun b9 h9 => ((fset_fr hΦ3 (Nat.ne_of_gt (Nat.lt_of_lt_of_le (lt_off (x := y) (i := 3) (j := 26) rfl) h9))).trans ((fr4 b9).trans ((fset_fr hΦ2 (Nat.ne_of_gt (Nat.lt_of_lt_of_le (lt_off (x := y) (i := 2) (j := 26) rfl) h9))).trans ((fr3 b9).trans ((fr2 b9).trans ((fr1 b9).trans ((fset_fr hΦ1 (Nat.ne_of_gt (Nat.lt_of_lt_of_le (lt_off (x := y) (i := 0) (j := 26) rfl) h9))).trans rfl)))))))⟩

set_option maxHeartbeats 4000000 in
set_option maxRecDepth 100000 in
theorem m_X12_setSupport_0_1 (G : EnvG) (l : Launch) (Φ : Hm) (sz : Nat) (y : Nat) (hc0_ : Φ y = some (o_ 14 [.int 0, .ref (y + 1), .ref (y + 2), .int 0, .int 1, .int 1, .int 0, .int 0, .ref (y + 3), .ref (y + 4), .int 0, .long 0, .ref (y + 5), .int 0, .int 0, .long 0, .long 0, .long 0, .long 0, .ref (y + 6), .ref (y + 7), .int 0, .ref (y + 8), .int 0, .ref (y + 9), .ref (y + 10), .int 0, .ref (y + 11), .ref (y + 12), .ref (y + 13), .ref (y + 14), .ref (y + 15), .ref (y + 16), .int 0, .long (-1), .ref (y + 17), .ref (y + 18), .ref (y + 19), .ref (y + 20), .ref (y + 21), .ref (y + 22), .int 0, .ref (y + 23), .ref (y + 24), .int 0, .ref (y + 25), .int 0, .int 0, .int 0, .int (-1), .int 0, .int 0, .int 0, .long 0])) (hc2_ : Φ (y + 2) = some (ai_ G 307 (upd (upd (upd (upd (upd (upd (upd (upd (upd (upd (upd (upd (upd (upd (upd (upd (upd (upd (upd (upd (upd (fun _ => 0) (0 : Int32).toNatClampNeg 1) (1 : Int32).toNatClampNeg 100) (2 : Int32).toNatClampNeg 1000) (3 : Int32).toNatClampNeg 100) (4 : Int32).toNatClampNeg 20) (5 : Int32).toNatClampNeg 1000) (6 : Int32).toNatClampNeg 5000) (7 : Int32).toNatClampNeg 512) (8 : Int32).toNatClampNeg 1) (9 : Int32).toNatClampNeg 511) (10 : Int32).toNatClampNeg 1) (11 : Int32).toNatClampNeg 9) (15 : Int32).toNatClampNeg 0) (16 : Int32).toNatClampNeg 1) (17 : Int32).toNatClampNeg 2) (18 : Int32).toNatClampNeg 3) (19 : Int32).toNatClampNeg 4) (20 : Int32).toNatClampNeg 5) (21 : Int32).toNatClampNeg 6) (22 : Int32).toNatClampNeg 7) (23 : Int32).toNatClampNeg 8))) (hna : G.2.2.2 ≤ y) : Ct G l yX12_setSupport wsX12_setSupport ({ frames := 1, cells := 0, slots := 0, locals := 25 }) 0 0 [.ref y, .int 0, .int 1] Φ sz (fun v Φ1 sz1 => v = some (.int 1) ∧ (∃ fs : List Value, Φ1 y = some (o_ 14 fs) ∧ fs[0]? = some (.int 0)) ∧ ∀ b9 : Nat, y + 26 ≤ b9 → Φ1 b9 = Φ b9) := by
  refine Ct.of (cc := cX12_setSupport) (maxL := 5) (ret := (some .boolean)) (by decide) rfl (Nat.le_of_ble_eq_true rfl) ?_
  intro p9 e9 s9 m9 w9 t9 k9 B
  show Z p9 l e9 _ s9 m9 _ w9 t9 k9 _ G 5 0 [(0, .ref y), (1, .int 0), (2, .int 1)] [] Φ sz 0 0
  refine z_aload_n B dX12_setSupport_0 rfl 0 rfl ?_
  refine z_iconst (v := 0) B dX12_setSupport_1 rfl ?_
  refine z_put (ref := "FlowExporterModel") (C := RX12) (T := TX12) (N := 54) (ci := 14) (v := .int 0) B (by decide +kernel) tyX12 tyX12_ok nmX12 rfl 0 (by decide) (by decide +kernel) rfl (Or.inl rfl) hc0_ hna rfl rfl (Nat.le_of_ble_eq_true rfl) dX12_setSupport_2 (fun Φ1 hΦ1 => ?_)
  have h_1 : Φ1 y = some (o_ 14 [.int 0, .ref (y + 1), .ref (y + 2), .int 0, .int 1, .int 1, .int 0, .int 0, .ref (y + 3), .ref (y + 4), .int 0, .long 0, .ref (y + 5), .int 0, .int 0, .long 0, .long 0, .long 0, .long 0, .ref (y + 6), .ref (y + 7), .int 0, .ref (y + 8), .int 0, .ref (y + 9), .ref (y + 10), .int 0, .ref (y + 11), .ref (y + 12), .ref (y + 13), .ref (y + 14), .ref (y + 15), .ref (y + 16), .int 0, .long (-1), .ref (y + 17), .ref (y + 18), .ref (y + 19), .ref (y + 20), .ref (y + 21), .ref (y + 22), .int 0, .ref (y + 23), .ref (y + 24), .int 0, .ref (y + 25), .int 0, .int 0, .int 0, .int (-1), .int 0, .int 0, .int 0, .long 0]) := fset_at hΦ1
  refine z_aload_n B dX12_setSupport_5 rfl 0 rfl ?_
  refine z_iload_n B dX12_setSupport_6 rfl 1 rfl ?_
  refine z_i2l (v := 0) B dX12_setSupport_7 (by decide +kernel) ?_
  refine z_lconst (v := 0) B dX12_setSupport_8 rfl ?_
  refine z_ldc2 (v := 8) B (by decide +kernel) dX12_setSupport_9 ?_
  refine z_callS (As := [.long 0, .long 0, .long 8]) (rest := [.ref y]) B (c_X12_inRange_1 G l Φ1 sz 0 0 8 ⟨by decide +kernel, by decide +kernel⟩) (va_cwS 3 B.1.2.2.2.2 gX12_setSupport_X12_inRange rfl rfl rfl (by decide +kernel) ⟨Nat.le_of_ble_eq_true rfl, Nat.le_of_ble_eq_true rfl⟩) rfl rfl (Nat.le_of_ble_eq_true rfl) dX12_setSupport_12 ⟨Nat.le_of_ble_eq_true rfl, Nat.le_of_ble_eq_true rfl⟩ (fun v1 Φ2 sz1 st1 hp1 hs1 => ?_)
  obtain ⟨rfl, hq1, fr1⟩ := hp1
  replace hq1 : sz1 = sz := hq1
  subst sz1
  replace hs1 : st1 = [.int 1, .ref y] := hs1
  subst st1
  refine z_if_ne (tgt := 22) B dX12_setSupport_15 rfl (fun c_1 => ?_) (fun h9 => absurd h9 (by decide))
  refine z_iconst (v := 0) B dX12_setSupport_22 rfl ?_
  refine z_iconst (v := 1) B dX12_setSupport_23 rfl ?_
  have h_2 : Φ2 y = some (o_ 14 [.int 0, .ref (y + 1), .ref (y + 2), .int 0, .int 1, .int 1, .int 0, .int 0, .ref (y + 3), .ref (y + 4), .int 0, .long 0, .ref (y + 5), .int 0, .int 0, .long 0, .long 0, .long 0, .long 0, .ref (y + 6), .ref (y + 7), .int 0, .ref (y + 8), .int 0, .ref (y + 9), .ref (y + 10), .int 0, .ref (y + 11), .ref (y + 12), .ref (y + 13), .ref (y + 14), .ref (y + 15), .ref (y + 16), .int 0, .long (-1), .ref (y + 17), .ref (y + 18), .ref (y + 19), .ref (y + 20), .ref (y + 21), .ref (y + 22), .int 0, .ref (y + 23), .ref (y + 24), .int 0, .ref (y + 25), .int 0, .int 0, .int 0, .int (-1), .int 0, .int 0, .int 0, .long 0]) := ((fr1 y).trans h_1)
  refine z_callV (As := [.int 0, .int 1]) (rest := []) B (c_X12_throwsIf_0 G l Φ2 sz y 0 0 1 1 0 0 0 0 0 0 0 0 0 0 0 0 0 0 (-1) 0 0 0 0 0 (-1) 0 0 0 0 1 h_2 hna) (cwV 2 B.1.2.2.2.2 gX12_setSupport_X12_throwsIf rfl rfl rfl (by decide +kernel) ⟨Nat.le_of_ble_eq_true rfl, Nat.le_of_ble_eq_true rfl⟩) h_2 rfl rfl rfl rfl (Nat.le_of_ble_eq_true rfl) dX12_setSupport_24 ⟨Nat.le_of_ble_eq_true rfl, Nat.le_of_ble_eq_true rfl⟩ (fun v2 Φ3 sz2 st2 hp2 hs2 => ?_)
  obtain ⟨rfl, hq2, fr2⟩ := hp2
  replace hq2 : sz2 = sz := hq2
  subst sz2
  replace hs2 : st2 = [.int 0] := hs2
  subst st2
  refine z_if_eq (tgt := 32) B dX12_setSupport_27 rfl (fun c_2 => ?_) (fun h9 => absurd (by decide) h9)
  refine z_aload_n B dX12_setSupport_32 rfl 0 rfl ?_
  refine z_iload_n B dX12_setSupport_33 rfl 1 rfl ?_
  have h_3 : Φ3 y = some (o_ 14 [.int 0, .ref (y + 1), .ref (y + 2), .int 0, .int 1, .int 1, .int 0, .int 0, .ref (y + 3), .ref (y + 4), .int 0, .long 0, .ref (y + 5), .int 0, .int 0, .long 0, .long 0, .long 0, .long 0, .ref (y + 6), .ref (y + 7), .int 0, .ref (y + 8), .int 0, .ref (y + 9), .ref (y + 10), .int 0, .ref (y + 11), .ref (y + 12), .ref (y + 13), .ref (y + 14), .ref (y + 15), .ref (y + 16), .int 0, .long (-1), .ref (y + 17), .ref (y + 18), .ref (y + 19), .ref (y + 20), .ref (y + 21), .ref (y + 22), .int 0, .ref (y + 23), .ref (y + 24), .int 0, .ref (y + 25), .int 0, .int 0, .int 0, .int (-1), .int 0, .int 0, .int 0, .long 0]) := ((fr2 y).trans h_2)
  have h_4 : Φ3 (y + 2) = some (ai_ G 307 (upd (upd (upd (upd (upd (upd (upd (upd (upd (upd (upd (upd (upd (upd (upd (upd (upd (upd (upd (upd (upd (fun _ => 0) (0 : Int32).toNatClampNeg 1) (1 : Int32).toNatClampNeg 100) (2 : Int32).toNatClampNeg 1000) (3 : Int32).toNatClampNeg 100) (4 : Int32).toNatClampNeg 20) (5 : Int32).toNatClampNeg 1000) (6 : Int32).toNatClampNeg 5000) (7 : Int32).toNatClampNeg 512) (8 : Int32).toNatClampNeg 1) (9 : Int32).toNatClampNeg 511) (10 : Int32).toNatClampNeg 1) (11 : Int32).toNatClampNeg 9) (15 : Int32).toNatClampNeg 0) (16 : Int32).toNatClampNeg 1) (17 : Int32).toNatClampNeg 2) (18 : Int32).toNatClampNeg 3) (19 : Int32).toNatClampNeg 4) (20 : Int32).toNatClampNeg 5) (21 : Int32).toNatClampNeg 6) (22 : Int32).toNatClampNeg 7) (23 : Int32).toNatClampNeg 8)) := ((fr2 (y + 2)).trans ((fr1 (y + 2)).trans ((fset_fr hΦ1 (ne_off (x := y) (i := 2) (j := 0) rfl)).trans hc2_)))
  refine z_callV (As := [.int 0]) (rest := []) B (m_isSupported_0 G l Φ3 sz y h_3 h_4) (cwV 1 B.1.2.2.2.2 gX12_setSupport_X12_isSupported rfl rfl rfl (by decide +kernel) ⟨Nat.le_of_ble_eq_true rfl, Nat.le_of_ble_eq_true rfl⟩) h_3 rfl rfl rfl rfl (Nat.le_of_ble_eq_true rfl) dX12_setSupport_34 ⟨Nat.le_of_ble_eq_true rfl, Nat.le_of_ble_eq_true rfl⟩ (fun v3 Φ4 sz3 st3 hp3 hs3 => ?_)
  obtain ⟨rfl, hq3, fr3⟩ := hp3
  replace hq3 : sz3 = sz := hq3
  subst sz3
  replace hs3 : st3 = [.int 1] := hs3
  subst st3
  refine z_istore_n (lv' := [(3, .int 1), (0, .ref y), (1, .int 0), (2, .int 1)]) B dX12_setSupport_37 rfl (Nat.le_of_ble_eq_true rfl) rfl ?_
  refine z_iload_n B dX12_setSupport_38 rfl 0 rfl ?_
  refine z_iload_n B dX12_setSupport_39 rfl 3 rfl ?_
  refine z_icmp_ne (tgt := 45) B dX12_setSupport_40 rfl (fun h9 => absurd (by decide) h9) (fun c_3 => ?_)
  refine z_iload_n B dX12_setSupport_43 rfl 0 rfl ?_
  have h_5 : Φ4 y = some (o_ 14 [.int 0, .ref (y + 1), .ref (y + 2), .int 0, .int 1, .int 1, .int 0, .int 0, .ref (y + 3), .ref (y + 4), .int 0, .long 0, .ref (y + 5), .int 0, .int 0, .long 0, .long 0, .long 0, .long 0, .ref (y + 6), .ref (y + 7), .int 0, .ref (y + 8), .int 0, .ref (y + 9), .ref (y + 10), .int 0, .ref (y + 11), .ref (y + 12), .ref (y + 13), .ref (y + 14), .ref (y + 15), .ref (y + 16), .int 0, .long (-1), .ref (y + 17), .ref (y + 18), .ref (y + 19), .ref (y + 20), .ref (y + 21), .ref (y + 22), .int 0, .ref (y + 23), .ref (y + 24), .int 0, .ref (y + 25), .int 0, .int 0, .int 0, .int (-1), .int 0, .int 0, .int 0, .long 0]) := ((fr3 y).trans h_3)
  exact z_ret_z B dX12_setSupport_44 (by decide) ⟨rfl, ⟨_, h_5, rfl⟩, fun b9 h9 => ((fr3 b9).trans ((fr2 b9).trans ((fr1 b9).trans ((fset_fr hΦ1 (Nat.ne_of_gt (Nat.lt_of_lt_of_le (lt_off (x := y) (i := 0) (j := 26) rfl) h9))).trans rfl))))⟩

set_option maxHeartbeats 4000000 in
set_option maxRecDepth 100000 in
theorem m_isSupported_1 (G : EnvG) (l : Launch) (Φ : Hm) (sz : Nat) (y : Nat) (hc0_ : Φ y = some (o_ 14 [.int 0, .ref (y + 1), .ref (y + 2), .int 0, .int 1, .int 1, .int 0, .int 0, .ref (y + 3), .ref (y + 4), .int 0, .long 0, .ref (y + 5), .int 0, .int 0, .long 0, .long 0, .long 0, .long 0, .ref (y + 6), .ref (y + 7), .int 0, .ref (y + 8), .int 0, .ref (y + 9), .ref (y + 10), .int 0, .ref (y + 11), .ref (y + 12), .ref (y + 13), .ref (y + 14), .ref (y + 15), .ref (y + 16), .int 0, .long (-1), .ref (y + 17), .ref (y + 18), .ref (y + 19), .ref (y + 20), .ref (y + 21), .ref (y + 22), .int 0, .ref (y + 23), .ref (y + 24), .int 0, .ref (y + 25), .int 0, .int 0, .int 0, .int (-1), .int 0, .int 0, .int 0, .long 0])) (hc2_ : Φ (y + 2) = some (ai_ G 307 (upd (upd (upd (upd (upd (upd (upd (upd (upd (upd (upd (upd (upd (upd (upd (upd (upd (upd (upd (upd (upd (fun _ => 0) (0 : Int32).toNatClampNeg 1) (1 : Int32).toNatClampNeg 100) (2 : Int32).toNatClampNeg 1000) (3 : Int32).toNatClampNeg 100) (4 : Int32).toNatClampNeg 20) (5 : Int32).toNatClampNeg 1000) (6 : Int32).toNatClampNeg 5000) (7 : Int32).toNatClampNeg 512) (8 : Int32).toNatClampNeg 1) (9 : Int32).toNatClampNeg 511) (10 : Int32).toNatClampNeg 1) (11 : Int32).toNatClampNeg 9) (15 : Int32).toNatClampNeg 0) (16 : Int32).toNatClampNeg 1) (17 : Int32).toNatClampNeg 2) (18 : Int32).toNatClampNeg 3) (19 : Int32).toNatClampNeg 4) (20 : Int32).toNatClampNeg 5) (21 : Int32).toNatClampNeg 6) (22 : Int32).toNatClampNeg 7) (23 : Int32).toNatClampNeg 8))) : Ct G l yX12_isSupported wsX12_isSupported ({ frames := 0, cells := 0, slots := 0, locals := 0 }) 0 0 [.ref y, .int 1] Φ sz (fun v Φ1 sz1 => v = some (.int 1) ∧ sz1 = sz ∧ (∀ b9 : Nat, Φ1 b9 = Φ b9)) := by
  refine Ct.of (cc := cX12_isSupported) (maxL := 2) (ret := (some .boolean)) (by decide) rfl (Nat.le_of_ble_eq_true rfl) ?_
  intro p9 e9 s9 m9 w9 t9 k9 B
  show Z p9 l e9 _ s9 m9 _ w9 t9 k9 _ G 2 0 [(0, .ref y), (1, .int 1)] [] Φ sz 0 0
  refine z_aload_n B dX12_isSupported_0 rfl 0 rfl ?_
  refine z_get (ref := "FlowExporterModel") (C := RX12) (T := TX12) (N := 54) (ci := 14) (v := .ref (y + 2)) B (by decide +kernel) rfl 2 (by decide) (by decide +kernel) rfl hc0_ rfl dX12_isSupported_1 ?_
  refine z_bipush (v := 9) B dX12_isSupported_4 rfl ?_
  refine z_iald B hc2_ (vin rfl) dX12_isSupported_6 ?_
  refine z_top (st1 := [.int 511]) (by rfl) ?_
  refine z_iload_n B dX12_isSupported_7 rfl 1 rfl ?_
  refine z_ishr B dX12_isSupported_8 ?_
  refine z_top (st1 := [.int 255]) (congrArg (fun w9 : Int32 => ([.int w9] : List Value)) (show ((511 : Int32) >>> ((1 : Int32) &&& (31 : Int32)) : Int32) = 255 by decide +kernel)) ?_
  refine z_iconst (v := 1) B dX12_isSupported_9 rfl ?_
  refine z_iand B dX12_isSupported_10 ?_
  refine z_top (st1 := [.int 1]) (congrArg (fun w9 : Int32 => ([.int w9] : List Value)) (show (255 &&& 1 : Int32) = 1 by decide +kernel)) ?_
  refine z_iconst (v := 1) B dX12_isSupported_11 rfl ?_
  refine z_icmp_ne (tgt := 19) B dX12_isSupported_12 rfl (fun h9 => absurd (by decide) h9) (fun c_1 => ?_)
  refine z_iconst (v := 1) B dX12_isSupported_15 rfl ?_
  refine z_goto (tgt := 20) B dX12_isSupported_16 rfl ?_
  exact z_ret_z B dX12_isSupported_20 (by decide) ⟨rfl, rfl, (fun b9 => rfl)⟩

set_option maxHeartbeats 4000000 in
set_option maxRecDepth 100000 in
theorem m_X12_setSupport_1_0 (G : EnvG) (l : Launch) (Φ : Hm) (sz : Nat) (y : Nat) (hc0_ : Φ y = some (o_ 14 [.int 0, .ref (y + 1), .ref (y + 2), .int 0, .int 1, .int 1, .int 0, .int 0, .ref (y + 3), .ref (y + 4), .int 0, .long 0, .ref (y + 5), .int 0, .int 0, .long 0, .long 0, .long 0, .long 0, .ref (y + 6), .ref (y + 7), .int 0, .ref (y + 8), .int 0, .ref (y + 9), .ref (y + 10), .int 0, .ref (y + 11), .ref (y + 12), .ref (y + 13), .ref (y + 14), .ref (y + 15), .ref (y + 16), .int 0, .long (-1), .ref (y + 17), .ref (y + 18), .ref (y + 19), .ref (y + 20), .ref (y + 21), .ref (y + 22), .int 0, .ref (y + 23), .ref (y + 24), .int 0, .ref (y + 25), .int 0, .int 0, .int 0, .int (-1), .int 0, .int 0, .int 0, .long 0])) (hc2_ : Φ (y + 2) = some (ai_ G 307 (upd (upd (upd (upd (upd (upd (upd (upd (upd (upd (upd (upd (upd (upd (upd (upd (upd (upd (upd (upd (upd (fun _ => 0) (0 : Int32).toNatClampNeg 1) (1 : Int32).toNatClampNeg 100) (2 : Int32).toNatClampNeg 1000) (3 : Int32).toNatClampNeg 100) (4 : Int32).toNatClampNeg 20) (5 : Int32).toNatClampNeg 1000) (6 : Int32).toNatClampNeg 5000) (7 : Int32).toNatClampNeg 512) (8 : Int32).toNatClampNeg 1) (9 : Int32).toNatClampNeg 511) (10 : Int32).toNatClampNeg 1) (11 : Int32).toNatClampNeg 9) (15 : Int32).toNatClampNeg 0) (16 : Int32).toNatClampNeg 1) (17 : Int32).toNatClampNeg 2) (18 : Int32).toNatClampNeg 3) (19 : Int32).toNatClampNeg 4) (20 : Int32).toNatClampNeg 5) (21 : Int32).toNatClampNeg 6) (22 : Int32).toNatClampNeg 7) (23 : Int32).toNatClampNeg 8))) (hc3_ : Φ (y + 3) = some (ai_ G 4 (upd (upd (upd (upd (fun _ => 0) (0 : Int32).toNatClampNeg (-1)) (1 : Int32).toNatClampNeg (-1)) (2 : Int32).toNatClampNeg (-1)) (3 : Int32).toNatClampNeg (-1)))) (hna : G.2.2.2 ≤ y) : Ct G l yX12_setSupport wsX12_setSupport ({ frames := 2, cells := 0, slots := 0, locals := 45 }) 0 0 [.ref y, .int 1, .int 0] Φ sz (fun v Φ1 sz1 => v = some (.int 1) ∧ (∃ fs : List Value, Φ1 y = some (o_ 14 fs) ∧ fs[0]? = some (.int 0)) ∧ ∀ b9 : Nat, y + 26 ≤ b9 → Φ1 b9 = Φ b9) := by
  refine Ct.of (cc := cX12_setSupport) (maxL := 5) (ret := (some .boolean)) (by decide) rfl (Nat.le_of_ble_eq_true rfl) ?_
  intro p9 e9 s9 m9 w9 t9 k9 B
  show Z p9 l e9 _ s9 m9 _ w9 t9 k9 _ G 5 0 [(0, .ref y), (1, .int 1), (2, .int 0)] [] Φ sz 0 0
  refine z_aload_n B dX12_setSupport_0 rfl 0 rfl ?_
  refine z_iconst (v := 0) B dX12_setSupport_1 rfl ?_
  refine z_put (ref := "FlowExporterModel") (C := RX12) (T := TX12) (N := 54) (ci := 14) (v := .int 0) B (by decide +kernel) tyX12 tyX12_ok nmX12 rfl 0 (by decide) (by decide +kernel) rfl (Or.inl rfl) hc0_ hna rfl rfl (Nat.le_of_ble_eq_true rfl) dX12_setSupport_2 (fun Φ1 hΦ1 => ?_)
  have h_1 : Φ1 y = some (o_ 14 [.int 0, .ref (y + 1), .ref (y + 2), .int 0, .int 1, .int 1, .int 0, .int 0, .ref (y + 3), .ref (y + 4), .int 0, .long 0, .ref (y + 5), .int 0, .int 0, .long 0, .long 0, .long 0, .long 0, .ref (y + 6), .ref (y + 7), .int 0, .ref (y + 8), .int 0, .ref (y + 9), .ref (y + 10), .int 0, .ref (y + 11), .ref (y + 12), .ref (y + 13), .ref (y + 14), .ref (y + 15), .ref (y + 16), .int 0, .long (-1), .ref (y + 17), .ref (y + 18), .ref (y + 19), .ref (y + 20), .ref (y + 21), .ref (y + 22), .int 0, .ref (y + 23), .ref (y + 24), .int 0, .ref (y + 25), .int 0, .int 0, .int 0, .int (-1), .int 0, .int 0, .int 0, .long 0]) := fset_at hΦ1
  refine z_aload_n B dX12_setSupport_5 rfl 0 rfl ?_
  refine z_iload_n B dX12_setSupport_6 rfl 1 rfl ?_
  refine z_i2l (v := 1) B dX12_setSupport_7 (by decide +kernel) ?_
  refine z_lconst (v := 0) B dX12_setSupport_8 rfl ?_
  refine z_ldc2 (v := 8) B (by decide +kernel) dX12_setSupport_9 ?_
  refine z_callS (As := [.long 1, .long 0, .long 8]) (rest := [.ref y]) B (c_X12_inRange_1 G l Φ1 sz 1 0 8 ⟨by decide +kernel, by decide +kernel⟩) (va_cwS 3 B.1.2.2.2.2 gX12_setSupport_X12_inRange rfl rfl rfl (by decide +kernel) ⟨Nat.le_of_ble_eq_true rfl, Nat.le_of_ble_eq_true rfl⟩) rfl rfl (Nat.le_of_ble_eq_true rfl) dX12_setSupport_12 ⟨Nat.le_of_ble_eq_true rfl, Nat.le_of_ble_eq_true rfl⟩ (fun v1 Φ2 sz1 st1 hp1 hs1 => ?_)
  obtain ⟨rfl, hq1, fr1⟩ := hp1
  replace hq1 : sz1 = sz := hq1
  subst sz1
  replace hs1 : st1 = [.int 1, .ref y] := hs1
  subst st1
  refine z_if_ne (tgt := 22) B dX12_setSupport_15 rfl (fun c_1 => ?_) (fun h9 => absurd h9 (by decide))
  refine z_iconst (v := 0) B dX12_setSupport_22 rfl ?_
  refine z_iconst (v := 1) B dX12_setSupport_23 rfl ?_
  have h_2 : Φ2 y = some (o_ 14 [.int 0, .ref (y + 1), .ref (y + 2), .int 0, .int 1, .int 1, .int 0, .int 0, .ref (y + 3), .ref (y + 4), .int 0, .long 0, .ref (y + 5), .int 0, .int 0, .long 0, .long 0, .long 0, .long 0, .ref (y + 6), .ref (y + 7), .int 0, .ref (y + 8), .int 0, .ref (y + 9), .ref (y + 10), .int 0, .ref (y + 11), .ref (y + 12), .ref (y + 13), .ref (y + 14), .ref (y + 15), .ref (y + 16), .int 0, .long (-1), .ref (y + 17), .ref (y + 18), .ref (y + 19), .ref (y + 20), .ref (y + 21), .ref (y + 22), .int 0, .ref (y + 23), .ref (y + 24), .int 0, .ref (y + 25), .int 0, .int 0, .int 0, .int (-1), .int 0, .int 0, .int 0, .long 0]) := ((fr1 y).trans h_1)
  refine z_callV (As := [.int 0, .int 1]) (rest := []) B (c_X12_throwsIf_0 G l Φ2 sz y 0 0 1 1 0 0 0 0 0 0 0 0 0 0 0 0 0 0 (-1) 0 0 0 0 0 (-1) 0 0 0 0 1 h_2 hna) (cwV 2 B.1.2.2.2.2 gX12_setSupport_X12_throwsIf rfl rfl rfl (by decide +kernel) ⟨Nat.le_of_ble_eq_true rfl, Nat.le_of_ble_eq_true rfl⟩) h_2 rfl rfl rfl rfl (Nat.le_of_ble_eq_true rfl) dX12_setSupport_24 ⟨Nat.le_of_ble_eq_true rfl, Nat.le_of_ble_eq_true rfl⟩ (fun v2 Φ3 sz2 st2 hp2 hs2 => ?_)
  obtain ⟨rfl, hq2, fr2⟩ := hp2
  replace hq2 : sz2 = sz := hq2
  subst sz2
  replace hs2 : st2 = [.int 0] := hs2
  subst st2
  refine z_if_eq (tgt := 32) B dX12_setSupport_27 rfl (fun c_2 => ?_) (fun h9 => absurd (by decide) h9)
  refine z_aload_n B dX12_setSupport_32 rfl 0 rfl ?_
  refine z_iload_n B dX12_setSupport_33 rfl 1 rfl ?_
  have h_3 : Φ3 y = some (o_ 14 [.int 0, .ref (y + 1), .ref (y + 2), .int 0, .int 1, .int 1, .int 0, .int 0, .ref (y + 3), .ref (y + 4), .int 0, .long 0, .ref (y + 5), .int 0, .int 0, .long 0, .long 0, .long 0, .long 0, .ref (y + 6), .ref (y + 7), .int 0, .ref (y + 8), .int 0, .ref (y + 9), .ref (y + 10), .int 0, .ref (y + 11), .ref (y + 12), .ref (y + 13), .ref (y + 14), .ref (y + 15), .ref (y + 16), .int 0, .long (-1), .ref (y + 17), .ref (y + 18), .ref (y + 19), .ref (y + 20), .ref (y + 21), .ref (y + 22), .int 0, .ref (y + 23), .ref (y + 24), .int 0, .ref (y + 25), .int 0, .int 0, .int 0, .int (-1), .int 0, .int 0, .int 0, .long 0]) := ((fr2 y).trans h_2)
  have h_4 : Φ3 (y + 2) = some (ai_ G 307 (upd (upd (upd (upd (upd (upd (upd (upd (upd (upd (upd (upd (upd (upd (upd (upd (upd (upd (upd (upd (upd (fun _ => 0) (0 : Int32).toNatClampNeg 1) (1 : Int32).toNatClampNeg 100) (2 : Int32).toNatClampNeg 1000) (3 : Int32).toNatClampNeg 100) (4 : Int32).toNatClampNeg 20) (5 : Int32).toNatClampNeg 1000) (6 : Int32).toNatClampNeg 5000) (7 : Int32).toNatClampNeg 512) (8 : Int32).toNatClampNeg 1) (9 : Int32).toNatClampNeg 511) (10 : Int32).toNatClampNeg 1) (11 : Int32).toNatClampNeg 9) (15 : Int32).toNatClampNeg 0) (16 : Int32).toNatClampNeg 1) (17 : Int32).toNatClampNeg 2) (18 : Int32).toNatClampNeg 3) (19 : Int32).toNatClampNeg 4) (20 : Int32).toNatClampNeg 5) (21 : Int32).toNatClampNeg 6) (22 : Int32).toNatClampNeg 7) (23 : Int32).toNatClampNeg 8)) := ((fr2 (y + 2)).trans ((fr1 (y + 2)).trans ((fset_fr hΦ1 (ne_off (x := y) (i := 2) (j := 0) rfl)).trans hc2_)))
  refine z_callV (As := [.int 1]) (rest := []) B (m_isSupported_1 G l Φ3 sz y h_3 h_4) (cwV 1 B.1.2.2.2.2 gX12_setSupport_X12_isSupported rfl rfl rfl (by decide +kernel) ⟨Nat.le_of_ble_eq_true rfl, Nat.le_of_ble_eq_true rfl⟩) h_3 rfl rfl rfl rfl (Nat.le_of_ble_eq_true rfl) dX12_setSupport_34 ⟨Nat.le_of_ble_eq_true rfl, Nat.le_of_ble_eq_true rfl⟩ (fun v3 Φ4 sz3 st3 hp3 hs3 => ?_)
  obtain ⟨rfl, hq3, fr3⟩ := hp3
  replace hq3 : sz3 = sz := hq3
  subst sz3
  replace hs3 : st3 = [.int 1] := hs3
  subst st3
  refine z_istore_n (lv' := [(3, .int 1), (0, .ref y), (1, .int 1), (2, .int 0)]) B dX12_setSupport_37 rfl (Nat.le_of_ble_eq_true rfl) rfl ?_
  refine z_iload_n B dX12_setSupport_38 rfl 0 rfl ?_
  refine z_iload_n B dX12_setSupport_39 rfl 3 rfl ?_
  refine z_icmp_ne (tgt := 45) B dX12_setSupport_40 rfl (fun c_3 => ?_) (fun h9 => absurd h9 (by decide))
  refine z_aload_n B dX12_setSupport_45 rfl 1 rfl ?_
  have h_5 : Φ4 y = some (o_ 14 [.int 0, .ref (y + 1), .ref (y + 2), .int 0, .int 1, .int 1, .int 0, .int 0, .ref (y + 3), .ref (y + 4), .int 0, .long 0, .ref (y + 5), .int 0, .int 0, .long 0, .long 0, .long 0, .long 0, .ref (y + 6), .ref (y + 7), .int 0, .ref (y + 8), .int 0, .ref (y + 9), .ref (y + 10), .int 0, .ref (y + 11), .ref (y + 12), .ref (y + 13), .ref (y + 14), .ref (y + 15), .ref (y + 16), .int 0, .long (-1), .ref (y + 17), .ref (y + 18), .ref (y + 19), .ref (y + 20), .ref (y + 21), .ref (y + 22), .int 0, .ref (y + 23), .ref (y + 24), .int 0, .ref (y + 25), .int 0, .int 0, .int 0, .int (-1), .int 0, .int 0, .int 0, .long 0]) := ((fr3 y).trans h_3)
  refine z_get (ref := "FlowExporterModel") (C := RX12) (T := TX12) (N := 54) (ci := 14) (v := .ref (y + 2)) B (by decide +kernel) rfl 2 (by decide) (by decide +kernel) rfl h_5 rfl dX12_setSupport_46 ?_
  refine z_bipush (v := 9) B dX12_setSupport_49 rfl ?_
  refine z_dup2_11 B dX12_setSupport_51 rfl rfl ?_
  have h_6 : Φ4 (y + 2) = some (ai_ G 307 (upd (upd (upd (upd (upd (upd (upd (upd (upd (upd (upd (upd (upd (upd (upd (upd (upd (upd (upd (upd (upd (fun _ => 0) (0 : Int32).toNatClampNeg 1) (1 : Int32).toNatClampNeg 100) (2 : Int32).toNatClampNeg 1000) (3 : Int32).toNatClampNeg 100) (4 : Int32).toNatClampNeg 20) (5 : Int32).toNatClampNeg 1000) (6 : Int32).toNatClampNeg 5000) (7 : Int32).toNatClampNeg 512) (8 : Int32).toNatClampNeg 1) (9 : Int32).toNatClampNeg 511) (10 : Int32).toNatClampNeg 1) (11 : Int32).toNatClampNeg 9) (15 : Int32).toNatClampNeg 0) (16 : Int32).toNatClampNeg 1) (17 : Int32).toNatClampNeg 2) (18 : Int32).toNatClampNeg 3) (19 : Int32).toNatClampNeg 4) (20 : Int32).toNatClampNeg 5) (21 : Int32).toNatClampNeg 6) (22 : Int32).toNatClampNeg 7) (23 : Int32).toNatClampNeg 8)) := ((fr3 (y + 2)).trans h_4)
  refine z_iald B h_6 (vin rfl) dX12_setSupport_52 ?_
  refine z_top (st1 := [.int 511, .int 9, .ref (y + 2)]) (by rfl) ?_
  refine z_iconst (v := 1) B dX12_setSupport_53 rfl ?_
  refine z_iload_n B dX12_setSupport_54 rfl 2 rfl ?_
  refine z_ishl B dX12_setSupport_55 ?_
  refine z_top (st1 := [.int 2, .int 511, .int 9, .ref (y + 2)]) (congrArg (fun w9 : Int32 => ([.int w9, .int 511, .int 9, .ref (y + 2)] : List Value)) (show ((1 : Int32) <<< ((1 : Int32) &&& (31 : Int32)) : Int32) = 2 by decide +kernel)) ?_
  refine z_ixor B dX12_setSupport_56 ?_
  refine z_top (st1 := [.int 509, .int 9, .ref (y + 2)]) (congrArg (fun w9 : Int32 => ([.int w9, .int 9, .ref (y + 2)] : List Value)) (show (511 ^^^ 2 : Int32) = 509 by decide +kernel)) ?_
  refine z_iast B h_6 (Nat.le_trans hna (Nat.le_add_right y 2)) (vin rfl) dX12_setSupport_57 (fun Φ5 hΦ2 => ?_)
  have h_7 : Φ5 (y + 2) = some (ai_ G 307 (upd (upd (upd (upd (upd (upd (upd (upd (upd (upd (upd (upd (upd (upd (upd (upd (upd (upd (upd (upd (upd (upd (fun _ => 0) (0 : Int32).toNatClampNeg 1) (1 : Int32).toNatClampNeg 100) (2 : Int32).toNatClampNeg 1000) (3 : Int32).toNatClampNeg 100) (4 : Int32).toNatClampNeg 20) (5 : Int32).toNatClampNeg 1000) (6 : Int32).toNatClampNeg 5000) (7 : Int32).toNatClampNeg 512) (8 : Int32).toNatClampNeg 1) (9 : Int32).toNatClampNeg 511) (10 : Int32).toNatClampNeg 1) (11 : Int32).toNatClampNeg 9) (15 : Int32).toNatClampNeg 0) (16 : Int32).toNatClampNeg 1) (17 : Int32).toNatClampNeg 2) (18 : Int32).toNatClampNeg 3) (19 : Int32).toNatClampNeg 4) (20 : Int32).toNatClampNeg 5) (21 : Int32).toNatClampNeg 6) (22 : Int32).toNatClampNeg 7) (23 : Int32).toNatClampNeg 8) (9 : Int32).toNatClampNeg 509)) := fset_at hΦ2
  refine z_iconst (v := 0) B dX12_setSupport_58 rfl ?_
  refine z_istore (lv' := [(4, .int 0), (3, .int 1), (0, .ref y), (1, .int 1), (2, .int 0)]) B dX12_setSupport_59 (Nat.le_of_ble_eq_true rfl) rfl ?_
  refine z_iload B dX12_setSupport_61 0 rfl ?_
  refine z_aload_n B dX12_setSupport_63 rfl 2 rfl ?_
  have h_8 : Φ5 y = some (o_ 14 [.int 0, .ref (y + 1), .ref (y + 2), .int 0, .int 1, .int 1, .int 0, .int 0, .ref (y + 3), .ref (y + 4), .int 0, .long 0, .ref (y + 5), .int 0, .int 0, .long 0, .long 0, .long 0, .long 0, .ref (y + 6), .ref (y + 7), .int 0, .ref (y + 8), .int 0, .ref (y + 9), .ref (y + 10), .int 0, .ref (y + 11), .ref (y + 12), .ref (y + 13), .ref (y + 14), .ref (y + 15), .ref (y + 16), .int 0, .long (-1), .ref (y + 17), .ref (y + 18), .ref (y + 19), .ref (y + 20), .ref (y + 21), .ref (y + 22), .int 0, .ref (y + 23), .ref (y + 24), .int 0, .ref (y + 25), .int 0, .int 0, .int 0, .int (-1), .int 0, .int 0, .int 0, .long 0]) := ((fset_fr hΦ2 (ne_off (x := y) (i := 0) (j := 2) rfl)).trans h_5)
  refine z_get (ref := "FlowExporterModel") (C := RX12) (T := TX12) (N := 54) (ci := 14) (v := .ref (y + 2)) B (by decide +kernel) rfl 2 (by decide) (by decide +kernel) rfl h_8 rfl dX12_setSupport_64 ?_
  refine z_bipush (v := 10) B dX12_setSupport_67 rfl ?_
  refine z_iald B h_7 (vin rfl) dX12_setSupport_69 ?_
  refine z_top (st1 := [.int 1, .int 0]) (by rfl) ?_
  refine z_icmp_ge (tgt := 101) B dX12_setSupport_70 rfl (fun h9 => absurd h9 (by decide)) (fun c_4 => ?_)
  refine z_aload_n B dX12_setSupport_73 rfl 2 rfl ?_
  refine z_iload B dX12_setSupport_74 0 rfl ?_
  refine z_callV (As := [.int 0]) (rest := []) B (m_fieldsOf_s G l Φ5 sz y 509 h_8 h_7) (cwV 1 B.1.2.2.2.2 gX12_setSupport_X12_fieldsOf rfl rfl rfl (by decide +kernel) ⟨Nat.le_of_ble_eq_true rfl, Nat.le_of_ble_eq_true rfl⟩) h_8 rfl rfl rfl rfl (Nat.le_of_ble_eq_true rfl) dX12_setSupport_76 ⟨Nat.le_of_ble_eq_true rfl, Nat.le_of_ble_eq_true rfl⟩ (fun v4 Φ6 sz4 st4 hp4 hs4 => ?_)
  obtain ⟨rfl, hq4, fr4⟩ := hp4
  replace hq4 : sz4 = sz := hq4
  subst sz4
  replace hs4 : st4 = [.int 511] := hs4
  subst st4
  refine z_iload_n B dX12_setSupport_79 rfl 3 rfl ?_
  refine z_ishr B dX12_setSupport_80 ?_
  refine z_top (st1 := [.int 255]) (congrArg (fun w9 : Int32 => ([.int w9] : List Value)) (show ((511 : Int32) >>> ((1 : Int32) &&& (31 : Int32)) : Int32) = 255 by decide +kernel)) ?_
  refine z_iconst (v := 1) B dX12_setSupport_81 rfl ?_
  refine z_iand B dX12_setSupport_82 ?_
  refine z_top (st1 := [.int 1]) (congrArg (fun w9 : Int32 => ([.int w9] : List Value)) (show (255 &&& 1 : Int32) = 1 by decide +kernel)) ?_
  refine z_iconst (v := 1) B dX12_setSupport_83 rfl ?_
  refine z_icmp_ne (tgt := 95) B dX12_setSupport_84 rfl (fun h9 => absurd (by decide) h9) (fun c_5 => ?_)
  refine z_aload_n B dX12_setSupport_87 rfl 2 rfl ?_
  have h_9 : Φ6 y = some (o_ 14 [.int 0, .ref (y + 1), .ref (y + 2), .int 0, .int 1, .int 1, .int 0, .int 0, .ref (y + 3), .ref (y + 4), .int 0, .long 0, .ref (y + 5), .int 0, .int 0, .long 0, .long 0, .long 0, .long 0, .ref (y + 6), .ref (y + 7), .int 0, .ref (y + 8), .int 0, .ref (y + 9), .ref (y + 10), .int 0, .ref (y + 11), .ref (y + 12), .ref (y + 13), .ref (y + 14), .ref (y + 15), .ref (y + 16), .int 0, .long (-1), .ref (y + 17), .ref (y + 18), .ref (y + 19), .ref (y + 20), .ref (y + 21), .ref (y + 22), .int 0, .ref (y + 23), .ref (y + 24), .int 0, .ref (y + 25), .int 0, .int 0, .int 0, .int (-1), .int 0, .int 0, .int 0, .long 0]) := ((fr4 y).trans h_8)
  refine z_get (ref := "FlowExporterModel") (C := RX12) (T := TX12) (N := 54) (ci := 14) (v := .ref (y + 3)) B (by decide +kernel) rfl 8 (by decide) (by decide +kernel) rfl h_9 rfl dX12_setSupport_88 ?_
  refine z_iload B dX12_setSupport_91 0 rfl ?_
  refine z_iconst (v := (-1)) B dX12_setSupport_93 rfl ?_
  have h_10 : Φ6 (y + 3) = some (ai_ G 4 (upd (upd (upd (upd (fun _ => 0) (0 : Int32).toNatClampNeg (-1)) (1 : Int32).toNatClampNeg (-1)) (2 : Int32).toNatClampNeg (-1)) (3 : Int32).toNatClampNeg (-1))) := ((fr4 (y + 3)).trans ((fset_fr hΦ2 (ne_off (x := y) (i := 3) (j := 2) rfl)).trans ((fr3 (y + 3)).trans ((fr2 (y + 3)).trans ((fr1 (y + 3)).trans ((fset_fr hΦ1 (ne_off (x := y) (i := 3) (j := 0) rfl)).trans hc3_))))))
  refine z_iast B h_10 (Nat.le_trans hna (Nat.le_add_right y 3)) (vin rfl) dX12_setSupport_94 (fun Φ7 hΦ3 => ?_)
  have h_11 : Φ7 (y + 3) = some (ai_ G 4 (upd (upd (upd (upd (upd (fun _ => 0) (0 : Int32).toNatClampNeg (-1)) (1 : Int32).toNatClampNeg (-1)) (2 : Int32).toNatClampNeg (-1)) (3 : Int32).toNatClampNeg (-1)) (0 : Int32).toNatClampNeg (-1))) := fset_at hΦ3
  refine z_iinc (k := 0) (v := 1) (lv' := [(4, .int 1), (3, .int 1), (0, .ref y), (1, .int 1), (2, .int 0)]) B dX12_setSupport_95 rfl rfl (Nat.le_of_ble_eq_true rfl) rfl ?_
  refine z_goto (tgt := 61) B dX12_setSupport_98 rfl ?_
  refine z_iload B dX12_setSupport_61 0 rfl ?_
  refine z_aload_n B dX12_setSupport_63 rfl 2 rfl ?_
  have h_12 : Φ7 y = some (o_ 14 [.int 0, .ref (y + 1), .ref (y + 2), .int 0, .int 1, .int 1, .int 0, .int 0, .ref (y + 3), .ref (y + 4), .int 0, .long 0, .ref (y + 5), .int 0, .int 0, .long 0, .long 0, .long 0, .long 0, .ref (y + 6), .ref (y + 7), .int 0, .ref (y + 8), .int 0, .ref (y + 9), .ref (y + 10), .int 0, .ref (y + 11), .ref (y + 12), .ref (y + 13), .ref (y + 14), .ref (y + 15), .ref (y + 16), .int 0, .long (-1), .ref (y + 17), .ref (y + 18), .ref (y + 19), .ref (y + 20), .ref (y + 21), .ref (y + 22), .int 0, .ref (y + 23), .ref (y + 24), .int 0, .ref (y + 25), .int 0, .int 0, .int 0, .int (-1), .int 0, .int 0, .int 0, .long 0]) := ((fset_fr hΦ3 (ne_off (x := y) (i := 0) (j := 3) rfl)).trans h_9)
  refine z_get (ref := "FlowExporterModel") (C := RX12) (T := TX12) (N := 54) (ci := 14) (v := .ref (y + 2)) B (by decide +kernel) rfl 2 (by decide) (by decide +kernel) rfl h_12 rfl dX12_setSupport_64 ?_
  refine z_bipush (v := 10) B dX12_setSupport_67 rfl ?_
  have h_13 : Φ7 (y + 2) = some (ai_ G 307 (upd (upd (upd (upd (upd (upd (upd (upd (upd (upd (upd (upd (upd (upd (upd (upd (upd (upd (upd (upd (upd (upd (fun _ => 0) (0 : Int32).toNatClampNeg 1) (1 : Int32).toNatClampNeg 100) (2 : Int32).toNatClampNeg 1000) (3 : Int32).toNatClampNeg 100) (4 : Int32).toNatClampNeg 20) (5 : Int32).toNatClampNeg 1000) (6 : Int32).toNatClampNeg 5000) (7 : Int32).toNatClampNeg 512) (8 : Int32).toNatClampNeg 1) (9 : Int32).toNatClampNeg 511) (10 : Int32).toNatClampNeg 1) (11 : Int32).toNatClampNeg 9) (15 : Int32).toNatClampNeg 0) (16 : Int32).toNatClampNeg 1) (17 : Int32).toNatClampNeg 2) (18 : Int32).toNatClampNeg 3) (19 : Int32).toNatClampNeg 4) (20 : Int32).toNatClampNeg 5) (21 : Int32).toNatClampNeg 6) (22 : Int32).toNatClampNeg 7) (23 : Int32).toNatClampNeg 8) (9 : Int32).toNatClampNeg 509)) := ((fset_fr hΦ3 (ne_off (x := y) (i := 2) (j := 3) rfl)).trans ((fr4 (y + 2)).trans h_7))
  refine z_iald B h_13 (vin rfl) dX12_setSupport_69 ?_
  refine z_top (st1 := [.int 1, .int 1]) (by rfl) ?_
  refine z_icmp_ge (tgt := 101) B dX12_setSupport_70 rfl (fun c_6 => ?_) (fun h9 => absurd (by decide) h9)
  refine z_iload_n B dX12_setSupport_101 rfl 1 rfl ?_
  exact z_ret_z B dX12_setSupport_102 (by decide) ⟨rfl, ⟨_, h_12, rfl⟩, fun b9 h9 => ((fset_fr hΦ3 (Nat.ne_of_gt (Nat.lt_of_lt_of_le (lt_off (x := y) (i := 3) (j := 26) rfl) h9))).trans ((fr4 b9).trans ((fset_fr hΦ2 (Nat.ne_of_gt (Nat.lt_of_lt_of_le (lt_off (x := y) (i := 2) (j := 26) rfl) h9))).trans ((fr3 b9).trans ((fr2 b9).trans ((fr1 b9).trans ((fset_fr hΦ1 (Nat.ne_of_gt (Nat.lt_of_lt_of_le (lt_off (x := y) (i := 0) (j := 26) rfl) h9))).trans rfl)))))))⟩

set_option maxHeartbeats 4000000 in
set_option maxRecDepth 100000 in
theorem m_X12_setSupport_1_1 (G : EnvG) (l : Launch) (Φ : Hm) (sz : Nat) (y : Nat) (hc0_ : Φ y = some (o_ 14 [.int 0, .ref (y + 1), .ref (y + 2), .int 0, .int 1, .int 1, .int 0, .int 0, .ref (y + 3), .ref (y + 4), .int 0, .long 0, .ref (y + 5), .int 0, .int 0, .long 0, .long 0, .long 0, .long 0, .ref (y + 6), .ref (y + 7), .int 0, .ref (y + 8), .int 0, .ref (y + 9), .ref (y + 10), .int 0, .ref (y + 11), .ref (y + 12), .ref (y + 13), .ref (y + 14), .ref (y + 15), .ref (y + 16), .int 0, .long (-1), .ref (y + 17), .ref (y + 18), .ref (y + 19), .ref (y + 20), .ref (y + 21), .ref (y + 22), .int 0, .ref (y + 23), .ref (y + 24), .int 0, .ref (y + 25), .int 0, .int 0, .int 0, .int (-1), .int 0, .int 0, .int 0, .long 0])) (hc2_ : Φ (y + 2) = some (ai_ G 307 (upd (upd (upd (upd (upd (upd (upd (upd (upd (upd (upd (upd (upd (upd (upd (upd (upd (upd (upd (upd (upd (fun _ => 0) (0 : Int32).toNatClampNeg 1) (1 : Int32).toNatClampNeg 100) (2 : Int32).toNatClampNeg 1000) (3 : Int32).toNatClampNeg 100) (4 : Int32).toNatClampNeg 20) (5 : Int32).toNatClampNeg 1000) (6 : Int32).toNatClampNeg 5000) (7 : Int32).toNatClampNeg 512) (8 : Int32).toNatClampNeg 1) (9 : Int32).toNatClampNeg 511) (10 : Int32).toNatClampNeg 1) (11 : Int32).toNatClampNeg 9) (15 : Int32).toNatClampNeg 0) (16 : Int32).toNatClampNeg 1) (17 : Int32).toNatClampNeg 2) (18 : Int32).toNatClampNeg 3) (19 : Int32).toNatClampNeg 4) (20 : Int32).toNatClampNeg 5) (21 : Int32).toNatClampNeg 6) (22 : Int32).toNatClampNeg 7) (23 : Int32).toNatClampNeg 8))) (hna : G.2.2.2 ≤ y) : Ct G l yX12_setSupport wsX12_setSupport ({ frames := 1, cells := 0, slots := 0, locals := 25 }) 0 0 [.ref y, .int 1, .int 1] Φ sz (fun v Φ1 sz1 => v = some (.int 1) ∧ (∃ fs : List Value, Φ1 y = some (o_ 14 fs) ∧ fs[0]? = some (.int 0)) ∧ ∀ b9 : Nat, y + 26 ≤ b9 → Φ1 b9 = Φ b9) := by
  refine Ct.of (cc := cX12_setSupport) (maxL := 5) (ret := (some .boolean)) (by decide) rfl (Nat.le_of_ble_eq_true rfl) ?_
  intro p9 e9 s9 m9 w9 t9 k9 B
  show Z p9 l e9 _ s9 m9 _ w9 t9 k9 _ G 5 0 [(0, .ref y), (1, .int 1), (2, .int 1)] [] Φ sz 0 0
  refine z_aload_n B dX12_setSupport_0 rfl 0 rfl ?_
  refine z_iconst (v := 0) B dX12_setSupport_1 rfl ?_
  refine z_put (ref := "FlowExporterModel") (C := RX12) (T := TX12) (N := 54) (ci := 14) (v := .int 0) B (by decide +kernel) tyX12 tyX12_ok nmX12 rfl 0 (by decide) (by decide +kernel) rfl (Or.inl rfl) hc0_ hna rfl rfl (Nat.le_of_ble_eq_true rfl) dX12_setSupport_2 (fun Φ1 hΦ1 => ?_)
  have h_1 : Φ1 y = some (o_ 14 [.int 0, .ref (y + 1), .ref (y + 2), .int 0, .int 1, .int 1, .int 0, .int 0, .ref (y + 3), .ref (y + 4), .int 0, .long 0, .ref (y + 5), .int 0, .int 0, .long 0, .long 0, .long 0, .long 0, .ref (y + 6), .ref (y + 7), .int 0, .ref (y + 8), .int 0, .ref (y + 9), .ref (y + 10), .int 0, .ref (y + 11), .ref (y + 12), .ref (y + 13), .ref (y + 14), .ref (y + 15), .ref (y + 16), .int 0, .long (-1), .ref (y + 17), .ref (y + 18), .ref (y + 19), .ref (y + 20), .ref (y + 21), .ref (y + 22), .int 0, .ref (y + 23), .ref (y + 24), .int 0, .ref (y + 25), .int 0, .int 0, .int 0, .int (-1), .int 0, .int 0, .int 0, .long 0]) := fset_at hΦ1
  refine z_aload_n B dX12_setSupport_5 rfl 0 rfl ?_
  refine z_iload_n B dX12_setSupport_6 rfl 1 rfl ?_
  refine z_i2l (v := 1) B dX12_setSupport_7 (by decide +kernel) ?_
  refine z_lconst (v := 0) B dX12_setSupport_8 rfl ?_
  refine z_ldc2 (v := 8) B (by decide +kernel) dX12_setSupport_9 ?_
  refine z_callS (As := [.long 1, .long 0, .long 8]) (rest := [.ref y]) B (c_X12_inRange_1 G l Φ1 sz 1 0 8 ⟨by decide +kernel, by decide +kernel⟩) (va_cwS 3 B.1.2.2.2.2 gX12_setSupport_X12_inRange rfl rfl rfl (by decide +kernel) ⟨Nat.le_of_ble_eq_true rfl, Nat.le_of_ble_eq_true rfl⟩) rfl rfl (Nat.le_of_ble_eq_true rfl) dX12_setSupport_12 ⟨Nat.le_of_ble_eq_true rfl, Nat.le_of_ble_eq_true rfl⟩ (fun v1 Φ2 sz1 st1 hp1 hs1 => ?_)
  obtain ⟨rfl, hq1, fr1⟩ := hp1
  replace hq1 : sz1 = sz := hq1
  subst sz1
  replace hs1 : st1 = [.int 1, .ref y] := hs1
  subst st1
  refine z_if_ne (tgt := 22) B dX12_setSupport_15 rfl (fun c_1 => ?_) (fun h9 => absurd h9 (by decide))
  refine z_iconst (v := 0) B dX12_setSupport_22 rfl ?_
  refine z_iconst (v := 1) B dX12_setSupport_23 rfl ?_
  have h_2 : Φ2 y = some (o_ 14 [.int 0, .ref (y + 1), .ref (y + 2), .int 0, .int 1, .int 1, .int 0, .int 0, .ref (y + 3), .ref (y + 4), .int 0, .long 0, .ref (y + 5), .int 0, .int 0, .long 0, .long 0, .long 0, .long 0, .ref (y + 6), .ref (y + 7), .int 0, .ref (y + 8), .int 0, .ref (y + 9), .ref (y + 10), .int 0, .ref (y + 11), .ref (y + 12), .ref (y + 13), .ref (y + 14), .ref (y + 15), .ref (y + 16), .int 0, .long (-1), .ref (y + 17), .ref (y + 18), .ref (y + 19), .ref (y + 20), .ref (y + 21), .ref (y + 22), .int 0, .ref (y + 23), .ref (y + 24), .int 0, .ref (y + 25), .int 0, .int 0, .int 0, .int (-1), .int 0, .int 0, .int 0, .long 0]) := ((fr1 y).trans h_1)
  refine z_callV (As := [.int 0, .int 1]) (rest := []) B (c_X12_throwsIf_0 G l Φ2 sz y 0 0 1 1 0 0 0 0 0 0 0 0 0 0 0 0 0 0 (-1) 0 0 0 0 0 (-1) 0 0 0 0 1 h_2 hna) (cwV 2 B.1.2.2.2.2 gX12_setSupport_X12_throwsIf rfl rfl rfl (by decide +kernel) ⟨Nat.le_of_ble_eq_true rfl, Nat.le_of_ble_eq_true rfl⟩) h_2 rfl rfl rfl rfl (Nat.le_of_ble_eq_true rfl) dX12_setSupport_24 ⟨Nat.le_of_ble_eq_true rfl, Nat.le_of_ble_eq_true rfl⟩ (fun v2 Φ3 sz2 st2 hp2 hs2 => ?_)
  obtain ⟨rfl, hq2, fr2⟩ := hp2
  replace hq2 : sz2 = sz := hq2
  subst sz2
  replace hs2 : st2 = [.int 0] := hs2
  subst st2
  refine z_if_eq (tgt := 32) B dX12_setSupport_27 rfl (fun c_2 => ?_) (fun h9 => absurd (by decide) h9)
  refine z_aload_n B dX12_setSupport_32 rfl 0 rfl ?_
  refine z_iload_n B dX12_setSupport_33 rfl 1 rfl ?_
  have h_3 : Φ3 y = some (o_ 14 [.int 0, .ref (y + 1), .ref (y + 2), .int 0, .int 1, .int 1, .int 0, .int 0, .ref (y + 3), .ref (y + 4), .int 0, .long 0, .ref (y + 5), .int 0, .int 0, .long 0, .long 0, .long 0, .long 0, .ref (y + 6), .ref (y + 7), .int 0, .ref (y + 8), .int 0, .ref (y + 9), .ref (y + 10), .int 0, .ref (y + 11), .ref (y + 12), .ref (y + 13), .ref (y + 14), .ref (y + 15), .ref (y + 16), .int 0, .long (-1), .ref (y + 17), .ref (y + 18), .ref (y + 19), .ref (y + 20), .ref (y + 21), .ref (y + 22), .int 0, .ref (y + 23), .ref (y + 24), .int 0, .ref (y + 25), .int 0, .int 0, .int 0, .int (-1), .int 0, .int 0, .int 0, .long 0]) := ((fr2 y).trans h_2)
  have h_4 : Φ3 (y + 2) = some (ai_ G 307 (upd (upd (upd (upd (upd (upd (upd (upd (upd (upd (upd (upd (upd (upd (upd (upd (upd (upd (upd (upd (upd (fun _ => 0) (0 : Int32).toNatClampNeg 1) (1 : Int32).toNatClampNeg 100) (2 : Int32).toNatClampNeg 1000) (3 : Int32).toNatClampNeg 100) (4 : Int32).toNatClampNeg 20) (5 : Int32).toNatClampNeg 1000) (6 : Int32).toNatClampNeg 5000) (7 : Int32).toNatClampNeg 512) (8 : Int32).toNatClampNeg 1) (9 : Int32).toNatClampNeg 511) (10 : Int32).toNatClampNeg 1) (11 : Int32).toNatClampNeg 9) (15 : Int32).toNatClampNeg 0) (16 : Int32).toNatClampNeg 1) (17 : Int32).toNatClampNeg 2) (18 : Int32).toNatClampNeg 3) (19 : Int32).toNatClampNeg 4) (20 : Int32).toNatClampNeg 5) (21 : Int32).toNatClampNeg 6) (22 : Int32).toNatClampNeg 7) (23 : Int32).toNatClampNeg 8)) := ((fr2 (y + 2)).trans ((fr1 (y + 2)).trans ((fset_fr hΦ1 (ne_off (x := y) (i := 2) (j := 0) rfl)).trans hc2_)))
  refine z_callV (As := [.int 1]) (rest := []) B (m_isSupported_1 G l Φ3 sz y h_3 h_4) (cwV 1 B.1.2.2.2.2 gX12_setSupport_X12_isSupported rfl rfl rfl (by decide +kernel) ⟨Nat.le_of_ble_eq_true rfl, Nat.le_of_ble_eq_true rfl⟩) h_3 rfl rfl rfl rfl (Nat.le_of_ble_eq_true rfl) dX12_setSupport_34 ⟨Nat.le_of_ble_eq_true rfl, Nat.le_of_ble_eq_true rfl⟩ (fun v3 Φ4 sz3 st3 hp3 hs3 => ?_)
  obtain ⟨rfl, hq3, fr3⟩ := hp3
  replace hq3 : sz3 = sz := hq3
  subst sz3
  replace hs3 : st3 = [.int 1] := hs3
  subst st3
  refine z_istore_n (lv' := [(3, .int 1), (0, .ref y), (1, .int 1), (2, .int 1)]) B dX12_setSupport_37 rfl (Nat.le_of_ble_eq_true rfl) rfl ?_
  refine z_iload_n B dX12_setSupport_38 rfl 0 rfl ?_
  refine z_iload_n B dX12_setSupport_39 rfl 3 rfl ?_
  refine z_icmp_ne (tgt := 45) B dX12_setSupport_40 rfl (fun h9 => absurd (by decide) h9) (fun c_3 => ?_)
  refine z_iload_n B dX12_setSupport_43 rfl 0 rfl ?_
  have h_5 : Φ4 y = some (o_ 14 [.int 0, .ref (y + 1), .ref (y + 2), .int 0, .int 1, .int 1, .int 0, .int 0, .ref (y + 3), .ref (y + 4), .int 0, .long 0, .ref (y + 5), .int 0, .int 0, .long 0, .long 0, .long 0, .long 0, .ref (y + 6), .ref (y + 7), .int 0, .ref (y + 8), .int 0, .ref (y + 9), .ref (y + 10), .int 0, .ref (y + 11), .ref (y + 12), .ref (y + 13), .ref (y + 14), .ref (y + 15), .ref (y + 16), .int 0, .long (-1), .ref (y + 17), .ref (y + 18), .ref (y + 19), .ref (y + 20), .ref (y + 21), .ref (y + 22), .int 0, .ref (y + 23), .ref (y + 24), .int 0, .ref (y + 25), .int 0, .int 0, .int 0, .int (-1), .int 0, .int 0, .int 0, .long 0]) := ((fr3 y).trans h_3)
  exact z_ret_z B dX12_setSupport_44 (by decide) ⟨rfl, ⟨_, h_5, rfl⟩, fun b9 h9 => ((fr3 b9).trans ((fr2 b9).trans ((fr1 b9).trans ((fset_fr hΦ1 (Nat.ne_of_gt (Nat.lt_of_lt_of_le (lt_off (x := y) (i := 0) (j := 26) rfl) h9))).trans rfl))))⟩

set_option maxHeartbeats 4000000 in
set_option maxRecDepth 100000 in
theorem m_isSupported_2 (G : EnvG) (l : Launch) (Φ : Hm) (sz : Nat) (y : Nat) (hc0_ : Φ y = some (o_ 14 [.int 0, .ref (y + 1), .ref (y + 2), .int 0, .int 1, .int 1, .int 0, .int 0, .ref (y + 3), .ref (y + 4), .int 0, .long 0, .ref (y + 5), .int 0, .int 0, .long 0, .long 0, .long 0, .long 0, .ref (y + 6), .ref (y + 7), .int 0, .ref (y + 8), .int 0, .ref (y + 9), .ref (y + 10), .int 0, .ref (y + 11), .ref (y + 12), .ref (y + 13), .ref (y + 14), .ref (y + 15), .ref (y + 16), .int 0, .long (-1), .ref (y + 17), .ref (y + 18), .ref (y + 19), .ref (y + 20), .ref (y + 21), .ref (y + 22), .int 0, .ref (y + 23), .ref (y + 24), .int 0, .ref (y + 25), .int 0, .int 0, .int 0, .int (-1), .int 0, .int 0, .int 0, .long 0])) (hc2_ : Φ (y + 2) = some (ai_ G 307 (upd (upd (upd (upd (upd (upd (upd (upd (upd (upd (upd (upd (upd (upd (upd (upd (upd (upd (upd (upd (upd (fun _ => 0) (0 : Int32).toNatClampNeg 1) (1 : Int32).toNatClampNeg 100) (2 : Int32).toNatClampNeg 1000) (3 : Int32).toNatClampNeg 100) (4 : Int32).toNatClampNeg 20) (5 : Int32).toNatClampNeg 1000) (6 : Int32).toNatClampNeg 5000) (7 : Int32).toNatClampNeg 512) (8 : Int32).toNatClampNeg 1) (9 : Int32).toNatClampNeg 511) (10 : Int32).toNatClampNeg 1) (11 : Int32).toNatClampNeg 9) (15 : Int32).toNatClampNeg 0) (16 : Int32).toNatClampNeg 1) (17 : Int32).toNatClampNeg 2) (18 : Int32).toNatClampNeg 3) (19 : Int32).toNatClampNeg 4) (20 : Int32).toNatClampNeg 5) (21 : Int32).toNatClampNeg 6) (22 : Int32).toNatClampNeg 7) (23 : Int32).toNatClampNeg 8))) : Ct G l yX12_isSupported wsX12_isSupported ({ frames := 0, cells := 0, slots := 0, locals := 0 }) 0 0 [.ref y, .int 2] Φ sz (fun v Φ1 sz1 => v = some (.int 1) ∧ sz1 = sz ∧ (∀ b9 : Nat, Φ1 b9 = Φ b9)) := by
  refine Ct.of (cc := cX12_isSupported) (maxL := 2) (ret := (some .boolean)) (by decide) rfl (Nat.le_of_ble_eq_true rfl) ?_
  intro p9 e9 s9 m9 w9 t9 k9 B
  show Z p9 l e9 _ s9 m9 _ w9 t9 k9 _ G 2 0 [(0, .ref y), (1, .int 2)] [] Φ sz 0 0
  refine z_aload_n B dX12_isSupported_0 rfl 0 rfl ?_
  refine z_get (ref := "FlowExporterModel") (C := RX12) (T := TX12) (N := 54) (ci := 14) (v := .ref (y + 2)) B (by decide +kernel) rfl 2 (by decide) (by decide +kernel) rfl hc0_ rfl dX12_isSupported_1 ?_
  refine z_bipush (v := 9) B dX12_isSupported_4 rfl ?_
  refine z_iald B hc2_ (vin rfl) dX12_isSupported_6 ?_
  refine z_top (st1 := [.int 511]) (by rfl) ?_
  refine z_iload_n B dX12_isSupported_7 rfl 1 rfl ?_
  refine z_ishr B dX12_isSupported_8 ?_
  refine z_top (st1 := [.int 127]) (congrArg (fun w9 : Int32 => ([.int w9] : List Value)) (show ((511 : Int32) >>> ((2 : Int32) &&& (31 : Int32)) : Int32) = 127 by decide +kernel)) ?_
  refine z_iconst (v := 1) B dX12_isSupported_9 rfl ?_
  refine z_iand B dX12_isSupported_10 ?_
  refine z_top (st1 := [.int 1]) (congrArg (fun w9 : Int32 => ([.int w9] : List Value)) (show (127 &&& 1 : Int32) = 1 by decide +kernel)) ?_
  refine z_iconst (v := 1) B dX12_isSupported_11 rfl ?_
  refine z_icmp_ne (tgt := 19) B dX12_isSupported_12 rfl (fun h9 => absurd (by decide) h9) (fun c_1 => ?_)
  refine z_iconst (v := 1) B dX12_isSupported_15 rfl ?_
  refine z_goto (tgt := 20) B dX12_isSupported_16 rfl ?_
  exact z_ret_z B dX12_isSupported_20 (by decide) ⟨rfl, rfl, (fun b9 => rfl)⟩

set_option maxHeartbeats 4000000 in
set_option maxRecDepth 100000 in
theorem m_X12_setSupport_2_0 (G : EnvG) (l : Launch) (Φ : Hm) (sz : Nat) (y : Nat) (hc0_ : Φ y = some (o_ 14 [.int 0, .ref (y + 1), .ref (y + 2), .int 0, .int 1, .int 1, .int 0, .int 0, .ref (y + 3), .ref (y + 4), .int 0, .long 0, .ref (y + 5), .int 0, .int 0, .long 0, .long 0, .long 0, .long 0, .ref (y + 6), .ref (y + 7), .int 0, .ref (y + 8), .int 0, .ref (y + 9), .ref (y + 10), .int 0, .ref (y + 11), .ref (y + 12), .ref (y + 13), .ref (y + 14), .ref (y + 15), .ref (y + 16), .int 0, .long (-1), .ref (y + 17), .ref (y + 18), .ref (y + 19), .ref (y + 20), .ref (y + 21), .ref (y + 22), .int 0, .ref (y + 23), .ref (y + 24), .int 0, .ref (y + 25), .int 0, .int 0, .int 0, .int (-1), .int 0, .int 0, .int 0, .long 0])) (hc2_ : Φ (y + 2) = some (ai_ G 307 (upd (upd (upd (upd (upd (upd (upd (upd (upd (upd (upd (upd (upd (upd (upd (upd (upd (upd (upd (upd (upd (fun _ => 0) (0 : Int32).toNatClampNeg 1) (1 : Int32).toNatClampNeg 100) (2 : Int32).toNatClampNeg 1000) (3 : Int32).toNatClampNeg 100) (4 : Int32).toNatClampNeg 20) (5 : Int32).toNatClampNeg 1000) (6 : Int32).toNatClampNeg 5000) (7 : Int32).toNatClampNeg 512) (8 : Int32).toNatClampNeg 1) (9 : Int32).toNatClampNeg 511) (10 : Int32).toNatClampNeg 1) (11 : Int32).toNatClampNeg 9) (15 : Int32).toNatClampNeg 0) (16 : Int32).toNatClampNeg 1) (17 : Int32).toNatClampNeg 2) (18 : Int32).toNatClampNeg 3) (19 : Int32).toNatClampNeg 4) (20 : Int32).toNatClampNeg 5) (21 : Int32).toNatClampNeg 6) (22 : Int32).toNatClampNeg 7) (23 : Int32).toNatClampNeg 8))) (hc3_ : Φ (y + 3) = some (ai_ G 4 (upd (upd (upd (upd (fun _ => 0) (0 : Int32).toNatClampNeg (-1)) (1 : Int32).toNatClampNeg (-1)) (2 : Int32).toNatClampNeg (-1)) (3 : Int32).toNatClampNeg (-1)))) (hna : G.2.2.2 ≤ y) : Ct G l yX12_setSupport wsX12_setSupport ({ frames := 2, cells := 0, slots := 0, locals := 45 }) 0 0 [.ref y, .int 2, .int 0] Φ sz (fun v Φ1 sz1 => v = some (.int 1) ∧ (∃ fs : List Value, Φ1 y = some (o_ 14 fs) ∧ fs[0]? = some (.int 0)) ∧ ∀ b9 : Nat, y + 26 ≤ b9 → Φ1 b9 = Φ b9) := by
  refine Ct.of (cc := cX12_setSupport) (maxL := 5) (ret := (some .boolean)) (by decide) rfl (Nat.le_of_ble_eq_true rfl) ?_
  intro p9 e9 s9 m9 w9 t9 k9 B
  show Z p9 l e9 _ s9 m9 _ w9 t9 k9 _ G 5 0 [(0, .ref y), (1, .int 2), (2, .int 0)] [] Φ sz 0 0
  refine z_aload_n B dX12_setSupport_0 rfl 0 rfl ?_
  refine z_iconst (v := 0) B dX12_setSupport_1 rfl ?_
  refine z_put (ref := "FlowExporterModel") (C := RX12) (T := TX12) (N := 54) (ci := 14) (v := .int 0) B (by decide +kernel) tyX12 tyX12_ok nmX12 rfl 0 (by decide) (by decide +kernel) rfl (Or.inl rfl) hc0_ hna rfl rfl (Nat.le_of_ble_eq_true rfl) dX12_setSupport_2 (fun Φ1 hΦ1 => ?_)
  have h_1 : Φ1 y = some (o_ 14 [.int 0, .ref (y + 1), .ref (y + 2), .int 0, .int 1, .int 1, .int 0, .int 0, .ref (y + 3), .ref (y + 4), .int 0, .long 0, .ref (y + 5), .int 0, .int 0, .long 0, .long 0, .long 0, .long 0, .ref (y + 6), .ref (y + 7), .int 0, .ref (y + 8), .int 0, .ref (y + 9), .ref (y + 10), .int 0, .ref (y + 11), .ref (y + 12), .ref (y + 13), .ref (y + 14), .ref (y + 15), .ref (y + 16), .int 0, .long (-1), .ref (y + 17), .ref (y + 18), .ref (y + 19), .ref (y + 20), .ref (y + 21), .ref (y + 22), .int 0, .ref (y + 23), .ref (y + 24), .int 0, .ref (y + 25), .int 0, .int 0, .int 0, .int (-1), .int 0, .int 0, .int 0, .long 0]) := fset_at hΦ1
  refine z_aload_n B dX12_setSupport_5 rfl 0 rfl ?_
  refine z_iload_n B dX12_setSupport_6 rfl 1 rfl ?_
  refine z_i2l (v := 2) B dX12_setSupport_7 (by decide +kernel) ?_
  refine z_lconst (v := 0) B dX12_setSupport_8 rfl ?_
  refine z_ldc2 (v := 8) B (by decide +kernel) dX12_setSupport_9 ?_
  refine z_callS (As := [.long 2, .long 0, .long 8]) (rest := [.ref y]) B (c_X12_inRange_1 G l Φ1 sz 2 0 8 ⟨by decide +kernel, by decide +kernel⟩) (va_cwS 3 B.1.2.2.2.2 gX12_setSupport_X12_inRange rfl rfl rfl (by decide +kernel) ⟨Nat.le_of_ble_eq_true rfl, Nat.le_of_ble_eq_true rfl⟩) rfl rfl (Nat.le_of_ble_eq_true rfl) dX12_setSupport_12 ⟨Nat.le_of_ble_eq_true rfl, Nat.le_of_ble_eq_true rfl⟩ (fun v1 Φ2 sz1 st1 hp1 hs1 => ?_)
  obtain ⟨rfl, hq1, fr1⟩ := hp1
  replace hq1 : sz1 = sz := hq1
  subst sz1
  replace hs1 : st1 = [.int 1, .ref y] := hs1
  subst st1
  refine z_if_ne (tgt := 22) B dX12_setSupport_15 rfl (fun c_1 => ?_) (fun h9 => absurd h9 (by decide))
  refine z_iconst (v := 0) B dX12_setSupport_22 rfl ?_
  refine z_iconst (v := 1) B dX12_setSupport_23 rfl ?_
  have h_2 : Φ2 y = some (o_ 14 [.int 0, .ref (y + 1), .ref (y + 2), .int 0, .int 1, .int 1, .int 0, .int 0, .ref (y + 3), .ref (y + 4), .int 0, .long 0, .ref (y + 5), .int 0, .int 0, .long 0, .long 0, .long 0, .long 0, .ref (y + 6), .ref (y + 7), .int 0, .ref (y + 8), .int 0, .ref (y + 9), .ref (y + 10), .int 0, .ref (y + 11), .ref (y + 12), .ref (y + 13), .ref (y + 14), .ref (y + 15), .ref (y + 16), .int 0, .long (-1), .ref (y + 17), .ref (y + 18), .ref (y + 19), .ref (y + 20), .ref (y + 21), .ref (y + 22), .int 0, .ref (y + 23), .ref (y + 24), .int 0, .ref (y + 25), .int 0, .int 0, .int 0, .int (-1), .int 0, .int 0, .int 0, .long 0]) := ((fr1 y).trans h_1)
  refine z_callV (As := [.int 0, .int 1]) (rest := []) B (c_X12_throwsIf_0 G l Φ2 sz y 0 0 1 1 0 0 0 0 0 0 0 0 0 0 0 0 0 0 (-1) 0 0 0 0 0 (-1) 0 0 0 0 1 h_2 hna) (cwV 2 B.1.2.2.2.2 gX12_setSupport_X12_throwsIf rfl rfl rfl (by decide +kernel) ⟨Nat.le_of_ble_eq_true rfl, Nat.le_of_ble_eq_true rfl⟩) h_2 rfl rfl rfl rfl (Nat.le_of_ble_eq_true rfl) dX12_setSupport_24 ⟨Nat.le_of_ble_eq_true rfl, Nat.le_of_ble_eq_true rfl⟩ (fun v2 Φ3 sz2 st2 hp2 hs2 => ?_)
  obtain ⟨rfl, hq2, fr2⟩ := hp2
  replace hq2 : sz2 = sz := hq2
  subst sz2
  replace hs2 : st2 = [.int 0] := hs2
  subst st2
  refine z_if_eq (tgt := 32) B dX12_setSupport_27 rfl (fun c_2 => ?_) (fun h9 => absurd (by decide) h9)
  refine z_aload_n B dX12_setSupport_32 rfl 0 rfl ?_
  refine z_iload_n B dX12_setSupport_33 rfl 1 rfl ?_
  have h_3 : Φ3 y = some (o_ 14 [.int 0, .ref (y + 1), .ref (y + 2), .int 0, .int 1, .int 1, .int 0, .int 0, .ref (y + 3), .ref (y + 4), .int 0, .long 0, .ref (y + 5), .int 0, .int 0, .long 0, .long 0, .long 0, .long 0, .ref (y + 6), .ref (y + 7), .int 0, .ref (y + 8), .int 0, .ref (y + 9), .ref (y + 10), .int 0, .ref (y + 11), .ref (y + 12), .ref (y + 13), .ref (y + 14), .ref (y + 15), .ref (y + 16), .int 0, .long (-1), .ref (y + 17), .ref (y + 18), .ref (y + 19), .ref (y + 20), .ref (y + 21), .ref (y + 22), .int 0, .ref (y + 23), .ref (y + 24), .int 0, .ref (y + 25), .int 0, .int 0, .int 0, .int (-1), .int 0, .int 0, .int 0, .long 0]) := ((fr2 y).trans h_2)
  have h_4 : Φ3 (y + 2) = some (ai_ G 307 (upd (upd (upd (upd (upd (upd (upd (upd (upd (upd (upd (upd (upd (upd (upd (upd (upd (upd (upd (upd (upd (fun _ => 0) (0 : Int32).toNatClampNeg 1) (1 : Int32).toNatClampNeg 100) (2 : Int32).toNatClampNeg 1000) (3 : Int32).toNatClampNeg 100) (4 : Int32).toNatClampNeg 20) (5 : Int32).toNatClampNeg 1000) (6 : Int32).toNatClampNeg 5000) (7 : Int32).toNatClampNeg 512) (8 : Int32).toNatClampNeg 1) (9 : Int32).toNatClampNeg 511) (10 : Int32).toNatClampNeg 1) (11 : Int32).toNatClampNeg 9) (15 : Int32).toNatClampNeg 0) (16 : Int32).toNatClampNeg 1) (17 : Int32).toNatClampNeg 2) (18 : Int32).toNatClampNeg 3) (19 : Int32).toNatClampNeg 4) (20 : Int32).toNatClampNeg 5) (21 : Int32).toNatClampNeg 6) (22 : Int32).toNatClampNeg 7) (23 : Int32).toNatClampNeg 8)) := ((fr2 (y + 2)).trans ((fr1 (y + 2)).trans ((fset_fr hΦ1 (ne_off (x := y) (i := 2) (j := 0) rfl)).trans hc2_)))
  refine z_callV (As := [.int 2]) (rest := []) B (m_isSupported_2 G l Φ3 sz y h_3 h_4) (cwV 1 B.1.2.2.2.2 gX12_setSupport_X12_isSupported rfl rfl rfl (by decide +kernel) ⟨Nat.le_of_ble_eq_true rfl, Nat.le_of_ble_eq_true rfl⟩) h_3 rfl rfl rfl rfl (Nat.le_of_ble_eq_true rfl) dX12_setSupport_34 ⟨Nat.le_of_ble_eq_true rfl, Nat.le_of_ble_eq_true rfl⟩ (fun v3 Φ4 sz3 st3 hp3 hs3 => ?_)
  obtain ⟨rfl, hq3, fr3⟩ := hp3
  replace hq3 : sz3 = sz := hq3
  subst sz3
  replace hs3 : st3 = [.int 1] := hs3
  subst st3
  refine z_istore_n (lv' := [(3, .int 1), (0, .ref y), (1, .int 2), (2, .int 0)]) B dX12_setSupport_37 rfl (Nat.le_of_ble_eq_true rfl) rfl ?_
  refine z_iload_n B dX12_setSupport_38 rfl 0 rfl ?_
  refine z_iload_n B dX12_setSupport_39 rfl 3 rfl ?_
  refine z_icmp_ne (tgt := 45) B dX12_setSupport_40 rfl (fun c_3 => ?_) (fun h9 => absurd h9 (by decide))
  refine z_aload_n B dX12_setSupport_45 rfl 1 rfl ?_
  have h_5 : Φ4 y = some (o_ 14 [.int 0, .ref (y + 1), .ref (y + 2), .int 0, .int 1, .int 1, .int 0, .int 0, .ref (y + 3), .ref (y + 4), .int 0, .long 0, .ref (y + 5), .int 0, .int 0, .long 0, .long 0, .long 0, .long 0, .ref (y + 6), .ref (y + 7), .int 0, .ref (y + 8), .int 0, .ref (y + 9), .ref (y + 10), .int 0, .ref (y + 11), .ref (y + 12), .ref (y + 13), .ref (y + 14), .ref (y + 15), .ref (y + 16), .int 0, .long (-1), .ref (y + 17), .ref (y + 18), .ref (y + 19), .ref (y + 20), .ref (y + 21), .ref (y + 22), .int 0, .ref (y + 23), .ref (y + 24), .int 0, .ref (y + 25), .int 0, .int 0, .int 0, .int (-1), .int 0, .int 0, .int 0, .long 0]) := ((fr3 y).trans h_3)
  refine z_get (ref := "FlowExporterModel") (C := RX12) (T := TX12) (N := 54) (ci := 14) (v := .ref (y + 2)) B (by decide +kernel) rfl 2 (by decide) (by decide +kernel) rfl h_5 rfl dX12_setSupport_46 ?_
  refine z_bipush (v := 9) B dX12_setSupport_49 rfl ?_
  refine z_dup2_11 B dX12_setSupport_51 rfl rfl ?_
  have h_6 : Φ4 (y + 2) = some (ai_ G 307 (upd (upd (upd (upd (upd (upd (upd (upd (upd (upd (upd (upd (upd (upd (upd (upd (upd (upd (upd (upd (upd (fun _ => 0) (0 : Int32).toNatClampNeg 1) (1 : Int32).toNatClampNeg 100) (2 : Int32).toNatClampNeg 1000) (3 : Int32).toNatClampNeg 100) (4 : Int32).toNatClampNeg 20) (5 : Int32).toNatClampNeg 1000) (6 : Int32).toNatClampNeg 5000) (7 : Int32).toNatClampNeg 512) (8 : Int32).toNatClampNeg 1) (9 : Int32).toNatClampNeg 511) (10 : Int32).toNatClampNeg 1) (11 : Int32).toNatClampNeg 9) (15 : Int32).toNatClampNeg 0) (16 : Int32).toNatClampNeg 1) (17 : Int32).toNatClampNeg 2) (18 : Int32).toNatClampNeg 3) (19 : Int32).toNatClampNeg 4) (20 : Int32).toNatClampNeg 5) (21 : Int32).toNatClampNeg 6) (22 : Int32).toNatClampNeg 7) (23 : Int32).toNatClampNeg 8)) := ((fr3 (y + 2)).trans h_4)
  refine z_iald B h_6 (vin rfl) dX12_setSupport_52 ?_
  refine z_top (st1 := [.int 511, .int 9, .ref (y + 2)]) (by rfl) ?_
  refine z_iconst (v := 1) B dX12_setSupport_53 rfl ?_
  refine z_iload_n B dX12_setSupport_54 rfl 2 rfl ?_
  refine z_ishl B dX12_setSupport_55 ?_
  refine z_top (st1 := [.int 4, .int 511, .int 9, .ref (y + 2)]) (congrArg (fun w9 : Int32 => ([.int w9, .int 511, .int 9, .ref (y + 2)] : List Value)) (show ((1 : Int32) <<< ((2 : Int32) &&& (31 : Int32)) : Int32) = 4 by decide +kernel)) ?_
  refine z_ixor B dX12_setSupport_56 ?_
  refine z_top (st1 := [.int 507, .int 9, .ref (y + 2)]) (congrArg (fun w9 : Int32 => ([.int w9, .int 9, .ref (y + 2)] : List Value)) (show (511 ^^^ 4 : Int32) = 507 by decide +kernel)) ?_
  refine z_iast B h_6 (Nat.le_trans hna (Nat.le_add_right y 2)) (vin rfl) dX12_setSupport_57 (fun Φ5 hΦ2 => ?_)
  have h_7 : Φ5 (y + 2) = some (ai_ G 307 (upd (upd (upd (upd (upd (upd (upd (upd (upd (upd (upd (upd (upd (upd (upd (upd (upd (upd (upd (upd (upd (upd (fun _ => 0) (0 : Int32).toNatClampNeg 1) (1 : Int32).toNatClampNeg 100) (2 : Int32).toNatClampNeg 1000) (3 : Int32).toNatClampNeg 100) (4 : Int32).toNatClampNeg 20) (5 : Int32).toNatClampNeg 1000) (6 : Int32).toNatClampNeg 5000) (7 : Int32).toNatClampNeg 512) (8 : Int32).toNatClampNeg 1) (9 : Int32).toNatClampNeg 511) (10 : Int32).toNatClampNeg 1) (11 : Int32).toNatClampNeg 9) (15 : Int32).toNatClampNeg 0) (16 : Int32).toNatClampNeg 1) (17 : Int32).toNatClampNeg 2) (18 : Int32).toNatClampNeg 3) (19 : Int32).toNatClampNeg 4) (20 : Int32).toNatClampNeg 5) (21 : Int32).toNatClampNeg 6) (22 : Int32).toNatClampNeg 7) (23 : Int32).toNatClampNeg 8) (9 : Int32).toNatClampNeg 507)) := fset_at hΦ2
  refine z_iconst (v := 0) B dX12_setSupport_58 rfl ?_
  refine z_istore (lv' := [(4, .int 0), (3, .int 1), (0, .ref y), (1, .int 2), (2, .int 0)]) B dX12_setSupport_59 (Nat.le_of_ble_eq_true rfl) rfl ?_
  refine z_iload B dX12_setSupport_61 0 rfl ?_
  refine z_aload_n B dX12_setSupport_63 rfl 2 rfl ?_
  have h_8 : Φ5 y = some (o_ 14 [.int 0, .ref (y + 1), .ref (y + 2), .int 0, .int 1, .int 1, .int 0, .int 0, .ref (y + 3), .ref (y + 4), .int 0, .long 0, .ref (y + 5), .int 0, .int 0, .long 0, .long 0, .long 0, .long 0, .ref (y + 6), .ref (y + 7), .int 0, .ref (y + 8), .int 0, .ref (y + 9), .ref (y + 10), .int 0, .ref (y + 11), .ref (y + 12), .ref (y + 13), .ref (y + 14), .ref (y + 15), .ref (y + 16), .int 0, .long (-1), .ref (y + 17), .ref (y + 18), .ref (y + 19), .ref (y + 20), .ref (y + 21), .ref (y + 22), .int 0, .ref (y + 23), .ref (y + 24), .int 0, .ref (y + 25), .int 0, .int 0, .int 0, .int (-1), .int 0, .int 0, .int 0, .long 0]) := ((fset_fr hΦ2 (ne_off (x := y) (i := 0) (j := 2) rfl)).trans h_5)
  refine z_get (ref := "FlowExporterModel") (C := RX12) (T := TX12) (N := 54) (ci := 14) (v := .ref (y + 2)) B (by decide +kernel) rfl 2 (by decide) (by decide +kernel) rfl h_8 rfl dX12_setSupport_64 ?_
  refine z_bipush (v := 10) B dX12_setSupport_67 rfl ?_
  refine z_iald B h_7 (vin rfl) dX12_setSupport_69 ?_
  refine z_top (st1 := [.int 1, .int 0]) (by rfl) ?_
  refine z_icmp_ge (tgt := 101) B dX12_setSupport_70 rfl (fun h9 => absurd h9 (by decide)) (fun c_4 => ?_)
  refine z_aload_n B dX12_setSupport_73 rfl 2 rfl ?_
  refine z_iload B dX12_setSupport_74 0 rfl ?_
  refine z_callV (As := [.int 0]) (rest := []) B (m_fieldsOf_s G l Φ5 sz y 507 h_8 h_7) (cwV 1 B.1.2.2.2.2 gX12_setSupport_X12_fieldsOf rfl rfl rfl (by decide +kernel) ⟨Nat.le_of_ble_eq_true rfl, Nat.le_of_ble_eq_true rfl⟩) h_8 rfl rfl rfl rfl (Nat.le_of_ble_eq_true rfl) dX12_setSupport_76 ⟨Nat.le_of_ble_eq_true rfl, Nat.le_of_ble_eq_true rfl⟩ (fun v4 Φ6 sz4 st4 hp4 hs4 => ?_)
  obtain ⟨rfl, hq4, fr4⟩ := hp4
  replace hq4 : sz4 = sz := hq4
  subst sz4
  replace hs4 : st4 = [.int 511] := hs4
  subst st4
  refine z_iload_n B dX12_setSupport_79 rfl 3 rfl ?_
  refine z_ishr B dX12_setSupport_80 ?_
  refine z_top (st1 := [.int 127]) (congrArg (fun w9 : Int32 => ([.int w9] : List Value)) (show ((511 : Int32) >>> ((2 : Int32) &&& (31 : Int32)) : Int32) = 127 by decide +kernel)) ?_
  refine z_iconst (v := 1) B dX12_setSupport_81 rfl ?_
  refine z_iand B dX12_setSupport_82 ?_
  refine z_top (st1 := [.int 1]) (congrArg (fun w9 : Int32 => ([.int w9] : List Value)) (show (127 &&& 1 : Int32) = 1 by decide +kernel)) ?_
  refine z_iconst (v := 1) B dX12_setSupport_83 rfl ?_
  refine z_icmp_ne (tgt := 95) B dX12_setSupport_84 rfl (fun h9 => absurd (by decide) h9) (fun c_5 => ?_)
  refine z_aload_n B dX12_setSupport_87 rfl 2 rfl ?_
  have h_9 : Φ6 y = some (o_ 14 [.int 0, .ref (y + 1), .ref (y + 2), .int 0, .int 1, .int 1, .int 0, .int 0, .ref (y + 3), .ref (y + 4), .int 0, .long 0, .ref (y + 5), .int 0, .int 0, .long 0, .long 0, .long 0, .long 0, .ref (y + 6), .ref (y + 7), .int 0, .ref (y + 8), .int 0, .ref (y + 9), .ref (y + 10), .int 0, .ref (y + 11), .ref (y + 12), .ref (y + 13), .ref (y + 14), .ref (y + 15), .ref (y + 16), .int 0, .long (-1), .ref (y + 17), .ref (y + 18), .ref (y + 19), .ref (y + 20), .ref (y + 21), .ref (y + 22), .int 0, .ref (y + 23), .ref (y + 24), .int 0, .ref (y + 25), .int 0, .int 0, .int 0, .int (-1), .int 0, .int 0, .int 0, .long 0]) := ((fr4 y).trans h_8)
  refine z_get (ref := "FlowExporterModel") (C := RX12) (T := TX12) (N := 54) (ci := 14) (v := .ref (y + 3)) B (by decide +kernel) rfl 8 (by decide) (by decide +kernel) rfl h_9 rfl dX12_setSupport_88 ?_
  refine z_iload B dX12_setSupport_91 0 rfl ?_
  refine z_iconst (v := (-1)) B dX12_setSupport_93 rfl ?_
  have h_10 : Φ6 (y + 3) = some (ai_ G 4 (upd (upd (upd (upd (fun _ => 0) (0 : Int32).toNatClampNeg (-1)) (1 : Int32).toNatClampNeg (-1)) (2 : Int32).toNatClampNeg (-1)) (3 : Int32).toNatClampNeg (-1))) := ((fr4 (y + 3)).trans ((fset_fr hΦ2 (ne_off (x := y) (i := 3) (j := 2) rfl)).trans ((fr3 (y + 3)).trans ((fr2 (y + 3)).trans ((fr1 (y + 3)).trans ((fset_fr hΦ1 (ne_off (x := y) (i := 3) (j := 0) rfl)).trans hc3_))))))
  refine z_iast B h_10 (Nat.le_trans hna (Nat.le_add_right y 3)) (vin rfl) dX12_setSupport_94 (fun Φ7 hΦ3 => ?_)
  have h_11 : Φ7 (y + 3) = some (ai_ G 4 (upd (upd (upd (upd (upd (fun _ => 0) (0 : Int32).toNatClampNeg (-1)) (1 : Int32).toNatClampNeg (-1)) (2 : Int32).toNatClampNeg (-1)) (3 : Int32).toNatClampNeg (-1)) (0 : Int32).toNatClampNeg (-1))) := fset_at hΦ3
  refine z_iinc (k := 0) (v := 1) (lv' := [(4, .int 1), (3, .int 1), (0, .ref y), (1, .int 2), (2, .int 0)]) B dX12_setSupport_95 rfl rfl (Nat.le_of_ble_eq_true rfl) rfl ?_
  refine z_goto (tgt := 61) B dX12_setSupport_98 rfl ?_
  refine z_iload B dX12_setSupport_61 0 rfl ?_
  refine z_aload_n B dX12_setSupport_63 rfl 2 rfl ?_
  have h_12 : Φ7 y = some (o_ 14 [.int 0, .ref (y + 1), .ref (y + 2), .int 0, .int 1, .int 1, .int 0, .int 0, .ref (y + 3), .ref (y + 4), .int 0, .long 0, .ref (y + 5), .int 0, .int 0, .long 0, .long 0, .long 0, .long 0, .ref (y + 6), .ref (y + 7), .int 0, .ref (y + 8), .int 0, .ref (y + 9), .ref (y + 10), .int 0, .ref (y + 11), .ref (y + 12), .ref (y + 13), .ref (y + 14), .ref (y + 15), .ref (y + 16), .int 0, .long (-1), .ref (y + 17), .ref (y + 18), .ref (y + 19), .ref (y + 20), .ref (y + 21), .ref (y + 22), .int 0, .ref (y + 23), .ref (y + 24), .int 0, .ref (y + 25), .int 0, .int 0, .int 0, .int (-1), .int 0, .int 0, .int 0, .long 0]) := ((fset_fr hΦ3 (ne_off (x := y) (i := 0) (j := 3) rfl)).trans h_9)
  refine z_get (ref := "FlowExporterModel") (C := RX12) (T := TX12) (N := 54) (ci := 14) (v := .ref (y + 2)) B (by decide +kernel) rfl 2 (by decide) (by decide +kernel) rfl h_12 rfl dX12_setSupport_64 ?_
  refine z_bipush (v := 10) B dX12_setSupport_67 rfl ?_
  have h_13 : Φ7 (y + 2) = some (ai_ G 307 (upd (upd (upd (upd (upd (upd (upd (upd (upd (upd (upd (upd (upd (upd (upd (upd (upd (upd (upd (upd (upd (upd (fun _ => 0) (0 : Int32).toNatClampNeg 1) (1 : Int32).toNatClampNeg 100) (2 : Int32).toNatClampNeg 1000) (3 : Int32).toNatClampNeg 100) (4 : Int32).toNatClampNeg 20) (5 : Int32).toNatClampNeg 1000) (6 : Int32).toNatClampNeg 5000) (7 : Int32).toNatClampNeg 512) (8 : Int32).toNatClampNeg 1) (9 : Int32).toNatClampNeg 511) (10 : Int32).toNatClampNeg 1) (11 : Int32).toNatClampNeg 9) (15 : Int32).toNatClampNeg 0) (16 : Int32).toNatClampNeg 1) (17 : Int32).toNatClampNeg 2) (18 : Int32).toNatClampNeg 3) (19 : Int32).toNatClampNeg 4) (20 : Int32).toNatClampNeg 5) (21 : Int32).toNatClampNeg 6) (22 : Int32).toNatClampNeg 7) (23 : Int32).toNatClampNeg 8) (9 : Int32).toNatClampNeg 507)) := ((fset_fr hΦ3 (ne_off (x := y) (i := 2) (j := 3) rfl)).trans ((fr4 (y + 2)).trans h_7))
  refine z_iald B h_13 (vin rfl) dX12_setSupport_69 ?_
  refine z_top (st1 := [.int 1, .int 1]) (by rfl) ?_
  refine z_icmp_ge (tgt := 101) B dX12_setSupport_70 rfl (fun c_6 => ?_) (fun h9 => absurd (by decide) h9)
  refine z_iload_n B dX12_setSupport_101 rfl 1 rfl ?_
  exact z_ret_z B dX12_setSupport_102 (by decide) ⟨rfl, ⟨_, h_12, rfl⟩, fun b9 h9 => ((fset_fr hΦ3 (Nat.ne_of_gt (Nat.lt_of_lt_of_le (lt_off (x := y) (i := 3) (j := 26) rfl) h9))).trans ((fr4 b9).trans ((fset_fr hΦ2 (Nat.ne_of_gt (Nat.lt_of_lt_of_le (lt_off (x := y) (i := 2) (j := 26) rfl) h9))).trans ((fr3 b9).trans ((fr2 b9).trans ((fr1 b9).trans ((fset_fr hΦ1 (Nat.ne_of_gt (Nat.lt_of_lt_of_le (lt_off (x := y) (i := 0) (j := 26) rfl) h9))).trans rfl)))))))⟩

set_option maxHeartbeats 4000000 in
set_option maxRecDepth 100000 in
theorem m_X12_setSupport_2_1 (G : EnvG) (l : Launch) (Φ : Hm) (sz : Nat) (y : Nat) (hc0_ : Φ y = some (o_ 14 [.int 0, .ref (y + 1), .ref (y + 2), .int 0, .int 1, .int 1, .int 0, .int 0, .ref (y + 3), .ref (y + 4), .int 0, .long 0, .ref (y + 5), .int 0, .int 0, .long 0, .long 0, .long 0, .long 0, .ref (y + 6), .ref (y + 7), .int 0, .ref (y + 8), .int 0, .ref (y + 9), .ref (y + 10), .int 0, .ref (y + 11), .ref (y + 12), .ref (y + 13), .ref (y + 14), .ref (y + 15), .ref (y + 16), .int 0, .long (-1), .ref (y + 17), .ref (y + 18), .ref (y + 19), .ref (y + 20), .ref (y + 21), .ref (y + 22), .int 0, .ref (y + 23), .ref (y + 24), .int 0, .ref (y + 25), .int 0, .int 0, .int 0, .int (-1), .int 0, .int 0, .int 0, .long 0])) (hc2_ : Φ (y + 2) = some (ai_ G 307 (upd (upd (upd (upd (upd (upd (upd (upd (upd (upd (upd (upd (upd (upd (upd (upd (upd (upd (upd (upd (upd (fun _ => 0) (0 : Int32).toNatClampNeg 1) (1 : Int32).toNatClampNeg 100) (2 : Int32).toNatClampNeg 1000) (3 : Int32).toNatClampNeg 100) (4 : Int32).toNatClampNeg 20) (5 : Int32).toNatClampNeg 1000) (6 : Int32).toNatClampNeg 5000) (7 : Int32).toNatClampNeg 512) (8 : Int32).toNatClampNeg 1) (9 : Int32).toNatClampNeg 511) (10 : Int32).toNatClampNeg 1) (11 : Int32).toNatClampNeg 9) (15 : Int32).toNatClampNeg 0) (16 : Int32).toNatClampNeg 1) (17 : Int32).toNatClampNeg 2) (18 : Int32).toNatClampNeg 3) (19 : Int32).toNatClampNeg 4) (20 : Int32).toNatClampNeg 5) (21 : Int32).toNatClampNeg 6) (22 : Int32).toNatClampNeg 7) (23 : Int32).toNatClampNeg 8))) (hna : G.2.2.2 ≤ y) : Ct G l yX12_setSupport wsX12_setSupport ({ frames := 1, cells := 0, slots := 0, locals := 25 }) 0 0 [.ref y, .int 2, .int 1] Φ sz (fun v Φ1 sz1 => v = some (.int 1) ∧ (∃ fs : List Value, Φ1 y = some (o_ 14 fs) ∧ fs[0]? = some (.int 0)) ∧ ∀ b9 : Nat, y + 26 ≤ b9 → Φ1 b9 = Φ b9) := by
  refine Ct.of (cc := cX12_setSupport) (maxL := 5) (ret := (some .boolean)) (by decide) rfl (Nat.le_of_ble_eq_true rfl) ?_
  intro p9 e9 s9 m9 w9 t9 k9 B
  show Z p9 l e9 _ s9 m9 _ w9 t9 k9 _ G 5 0 [(0, .ref y), (1, .int 2), (2, .int 1)] [] Φ sz 0 0
  refine z_aload_n B dX12_setSupport_0 rfl 0 rfl ?_
  refine z_iconst (v := 0) B dX12_setSupport_1 rfl ?_
  refine z_put (ref := "FlowExporterModel") (C := RX12) (T := TX12) (N := 54) (ci := 14) (v := .int 0) B (by decide +kernel) tyX12 tyX12_ok nmX12 rfl 0 (by decide) (by decide +kernel) rfl (Or.inl rfl) hc0_ hna rfl rfl (Nat.le_of_ble_eq_true rfl) dX12_setSupport_2 (fun Φ1 hΦ1 => ?_)
  have h_1 : Φ1 y = some (o_ 14 [.int 0, .ref (y + 1), .ref (y + 2), .int 0, .int 1, .int 1, .int 0, .int 0, .ref (y + 3), .ref (y + 4), .int 0, .long 0, .ref (y + 5), .int 0, .int 0, .long 0, .long 0, .long 0, .long 0, .ref (y + 6), .ref (y + 7), .int 0, .ref (y + 8), .int 0, .ref (y + 9), .ref (y + 10), .int 0, .ref (y + 11), .ref (y + 12), .ref (y + 13), .ref (y + 14), .ref (y + 15), .ref (y + 16), .int 0, .long (-1), .ref (y + 17), .ref (y + 18), .ref (y + 19), .ref (y + 20), .ref (y + 21), .ref (y + 22), .int 0, .ref (y + 23), .ref (y + 24), .int 0, .ref (y + 25), .int 0, .int 0, .int 0, .int (-1), .int 0, .int 0, .int 0, .long 0]) := fset_at hΦ1
  refine z_aload_n B dX12_setSupport_5 rfl 0 rfl ?_
  refine z_iload_n B dX12_setSupport_6 rfl 1 rfl ?_
  refine z_i2l (v := 2) B dX12_setSupport_7 (by decide +kernel) ?_
  refine z_lconst (v := 0) B dX12_setSupport_8 rfl ?_
  refine z_ldc2 (v := 8) B (by decide +kernel) dX12_setSupport_9 ?_
  refine z_callS (As := [.long 2, .long 0, .long 8]) (rest := [.ref y]) B (c_X12_inRange_1 G l Φ1 sz 2 0 8 ⟨by decide +kernel, by decide +kernel⟩) (va_cwS 3 B.1.2.2.2.2 gX12_setSupport_X12_inRange rfl rfl rfl (by decide +kernel) ⟨Nat.le_of_ble_eq_true rfl, Nat.le_of_ble_eq_true rfl⟩) rfl rfl (Nat.le_of_ble_eq_true rfl) dX12_setSupport_12 ⟨Nat.le_of_ble_eq_true rfl, Nat.le_of_ble_eq_true rfl⟩ (fun v1 Φ2 sz1 st1 hp1 hs1 => ?_)
  obtain ⟨rfl, hq1, fr1⟩ := hp1
  replace hq1 : sz1 = sz := hq1
  subst sz1
  replace hs1 : st1 = [.int 1, .ref y] := hs1
  subst st1
  refine z_if_ne (tgt := 22) B dX12_setSupport_15 rfl (fun c_1 => ?_) (fun h9 => absurd h9 (by decide))
  refine z_iconst (v := 0) B dX12_setSupport_22 rfl ?_
  refine z_iconst (v := 1) B dX12_setSupport_23 rfl ?_
  have h_2 : Φ2 y = some (o_ 14 [.int 0, .ref (y + 1), .ref (y + 2), .int 0, .int 1, .int 1, .int 0, .int 0, .ref (y + 3), .ref (y + 4), .int 0, .long 0, .ref (y + 5), .int 0, .int 0, .long 0, .long 0, .long 0, .long 0, .ref (y + 6), .ref (y + 7), .int 0, .ref (y + 8), .int 0, .ref (y + 9), .ref (y + 10), .int 0, .ref (y + 11), .ref (y + 12), .ref (y + 13), .ref (y + 14), .ref (y + 15), .ref (y + 16), .int 0, .long (-1), .ref (y + 17), .ref (y + 18), .ref (y + 19), .ref (y + 20), .ref (y + 21), .ref (y + 22), .int 0, .ref (y + 23), .ref (y + 24), .int 0, .ref (y + 25), .int 0, .int 0, .int 0, .int (-1), .int 0, .int 0, .int 0, .long 0]) := ((fr1 y).trans h_1)
  refine z_callV (As := [.int 0, .int 1]) (rest := []) B (c_X12_throwsIf_0 G l Φ2 sz y 0 0 1 1 0 0 0 0 0 0 0 0 0 0 0 0 0 0 (-1) 0 0 0 0 0 (-1) 0 0 0 0 1 h_2 hna) (cwV 2 B.1.2.2.2.2 gX12_setSupport_X12_throwsIf rfl rfl rfl (by decide +kernel) ⟨Nat.le_of_ble_eq_true rfl, Nat.le_of_ble_eq_true rfl⟩) h_2 rfl rfl rfl rfl (Nat.le_of_ble_eq_true rfl) dX12_setSupport_24 ⟨Nat.le_of_ble_eq_true rfl, Nat.le_of_ble_eq_true rfl⟩ (fun v2 Φ3 sz2 st2 hp2 hs2 => ?_)
  obtain ⟨rfl, hq2, fr2⟩ := hp2
  replace hq2 : sz2 = sz := hq2
  subst sz2
  replace hs2 : st2 = [.int 0] := hs2
  subst st2
  refine z_if_eq (tgt := 32) B dX12_setSupport_27 rfl (fun c_2 => ?_) (fun h9 => absurd (by decide) h9)
  refine z_aload_n B dX12_setSupport_32 rfl 0 rfl ?_
  refine z_iload_n B dX12_setSupport_33 rfl 1 rfl ?_
  have h_3 : Φ3 y = some (o_ 14 [.int 0, .ref (y + 1), .ref (y + 2), .int 0, .int 1, .int 1, .int 0, .int 0, .ref (y + 3), .ref (y + 4), .int 0, .long 0, .ref (y + 5), .int 0, .int 0, .long 0, .long 0, .long 0, .long 0, .ref (y + 6), .ref (y + 7), .int 0, .ref (y + 8), .int 0, .ref (y + 9), .ref (y + 10), .int 0, .ref (y + 11), .ref (y + 12), .ref (y + 13), .ref (y + 14), .ref (y + 15), .ref (y + 16), .int 0, .long (-1), .ref (y + 17), .ref (y + 18), .ref (y + 19), .ref (y + 20), .ref (y + 21), .ref (y + 22), .int 0, .ref (y + 23), .ref (y + 24), .int 0, .ref (y + 25), .int 0, .int 0, .int 0, .int (-1), .int 0, .int 0, .int 0, .long 0]) := ((fr2 y).trans h_2)
  have h_4 : Φ3 (y + 2) = some (ai_ G 307 (upd (upd (upd (upd (upd (upd (upd (upd (upd (upd (upd (upd (upd (upd (upd (upd (upd (upd (upd (upd (upd (fun _ => 0) (0 : Int32).toNatClampNeg 1) (1 : Int32).toNatClampNeg 100) (2 : Int32).toNatClampNeg 1000) (3 : Int32).toNatClampNeg 100) (4 : Int32).toNatClampNeg 20) (5 : Int32).toNatClampNeg 1000) (6 : Int32).toNatClampNeg 5000) (7 : Int32).toNatClampNeg 512) (8 : Int32).toNatClampNeg 1) (9 : Int32).toNatClampNeg 511) (10 : Int32).toNatClampNeg 1) (11 : Int32).toNatClampNeg 9) (15 : Int32).toNatClampNeg 0) (16 : Int32).toNatClampNeg 1) (17 : Int32).toNatClampNeg 2) (18 : Int32).toNatClampNeg 3) (19 : Int32).toNatClampNeg 4) (20 : Int32).toNatClampNeg 5) (21 : Int32).toNatClampNeg 6) (22 : Int32).toNatClampNeg 7) (23 : Int32).toNatClampNeg 8)) := ((fr2 (y + 2)).trans ((fr1 (y + 2)).trans ((fset_fr hΦ1 (ne_off (x := y) (i := 2) (j := 0) rfl)).trans hc2_)))
  refine z_callV (As := [.int 2]) (rest := []) B (m_isSupported_2 G l Φ3 sz y h_3 h_4) (cwV 1 B.1.2.2.2.2 gX12_setSupport_X12_isSupported rfl rfl rfl (by decide +kernel) ⟨Nat.le_of_ble_eq_true rfl, Nat.le_of_ble_eq_true rfl⟩) h_3 rfl rfl rfl rfl (Nat.le_of_ble_eq_true rfl) dX12_setSupport_34 ⟨Nat.le_of_ble_eq_true rfl, Nat.le_of_ble_eq_true rfl⟩ (fun v3 Φ4 sz3 st3 hp3 hs3 => ?_)
  obtain ⟨rfl, hq3, fr3⟩ := hp3
  replace hq3 : sz3 = sz := hq3
  subst sz3
  replace hs3 : st3 = [.int 1] := hs3
  subst st3
  refine z_istore_n (lv' := [(3, .int 1), (0, .ref y), (1, .int 2), (2, .int 1)]) B dX12_setSupport_37 rfl (Nat.le_of_ble_eq_true rfl) rfl ?_
  refine z_iload_n B dX12_setSupport_38 rfl 0 rfl ?_
  refine z_iload_n B dX12_setSupport_39 rfl 3 rfl ?_
  refine z_icmp_ne (tgt := 45) B dX12_setSupport_40 rfl (fun h9 => absurd (by decide) h9) (fun c_3 => ?_)
  refine z_iload_n B dX12_setSupport_43 rfl 0 rfl ?_
  have h_5 : Φ4 y = some (o_ 14 [.int 0, .ref (y + 1), .ref (y + 2), .int 0, .int 1, .int 1, .int 0, .int 0, .ref (y + 3), .ref (y + 4), .int 0, .long 0, .ref (y + 5), .int 0, .int 0, .long 0, .long 0, .long 0, .long 0, .ref (y + 6), .ref (y + 7), .int 0, .ref (y + 8), .int 0, .ref (y + 9), .ref (y + 10), .int 0, .ref (y + 11), .ref (y + 12), .ref (y + 13), .ref (y + 14), .ref (y + 15), .ref (y + 16), .int 0, .long (-1), .ref (y + 17), .ref (y + 18), .ref (y + 19), .ref (y + 20), .ref (y + 21), .ref (y + 22), .int 0, .ref (y + 23), .ref (y + 24), .int 0, .ref (y + 25), .int 0, .int 0, .int 0, .int (-1), .int 0, .int 0, .int 0, .long 0]) := ((fr3 y).trans h_3)
  exact z_ret_z B dX12_setSupport_44 (by decide) ⟨rfl, ⟨_, h_5, rfl⟩, fun b9 h9 => ((fr3 b9).trans ((fr2 b9).trans ((fr1 b9).trans ((fset_fr hΦ1 (Nat.ne_of_gt (Nat.lt_of_lt_of_le (lt_off (x := y) (i := 0) (j := 26) rfl) h9))).trans rfl))))⟩

set_option maxHeartbeats 4000000 in
set_option maxRecDepth 100000 in
theorem m_isSupported_3 (G : EnvG) (l : Launch) (Φ : Hm) (sz : Nat) (y : Nat) (hc0_ : Φ y = some (o_ 14 [.int 0, .ref (y + 1), .ref (y + 2), .int 0, .int 1, .int 1, .int 0, .int 0, .ref (y + 3), .ref (y + 4), .int 0, .long 0, .ref (y + 5), .int 0, .int 0, .long 0, .long 0, .long 0, .long 0, .ref (y + 6), .ref (y + 7), .int 0, .ref (y + 8), .int 0, .ref (y + 9), .ref (y + 10), .int 0, .ref (y + 11), .ref (y + 12), .ref (y + 13), .ref (y + 14), .ref (y + 15), .ref (y + 16), .int 0, .long (-1), .ref (y + 17), .ref (y + 18), .ref (y + 19), .ref (y + 20), .ref (y + 21), .ref (y + 22), .int 0, .ref (y + 23), .ref (y + 24), .int 0, .ref (y + 25), .int 0, .int 0, .int 0, .int (-1), .int 0, .int 0, .int 0, .long 0])) (hc2_ : Φ (y + 2) = some (ai_ G 307 (upd (upd (upd (upd (upd (upd (upd (upd (upd (upd (upd (upd (upd (upd (upd (upd (upd (upd (upd (upd (upd (fun _ => 0) (0 : Int32).toNatClampNeg 1) (1 : Int32).toNatClampNeg 100) (2 : Int32).toNatClampNeg 1000) (3 : Int32).toNatClampNeg 100) (4 : Int32).toNatClampNeg 20) (5 : Int32).toNatClampNeg 1000) (6 : Int32).toNatClampNeg 5000) (7 : Int32).toNatClampNeg 512) (8 : Int32).toNatClampNeg 1) (9 : Int32).toNatClampNeg 511) (10 : Int32).toNatClampNeg 1) (11 : Int32).toNatClampNeg 9) (15 : Int32).toNatClampNeg 0) (16 : Int32).toNatClampNeg 1) (17 : Int32).toNatClampNeg 2) (18 : Int32).toNatClampNeg 3) (19 : Int32).toNatClampNeg 4) (20 : Int32).toNatClampNeg 5) (21 : Int32).toNatClampNeg 6) (22 : Int32).toNatClampNeg 7) (23 : Int32).toNatClampNeg 8))) : Ct G l yX12_isSupported wsX12_isSupported ({ frames := 0, cells := 0, slots := 0, locals := 0 }) 0 0 [.ref y, .int 3] Φ sz (fun v Φ1 sz1 => v = some (.int 1) ∧ sz1 = sz ∧ (∀ b9 : Nat, Φ1 b9 = Φ b9)) := by
  refine Ct.of (cc := cX12_isSupported) (maxL := 2) (ret := (some .boolean)) (by decide) rfl (Nat.le_of_ble_eq_true rfl) ?_
  intro p9 e9 s9 m9 w9 t9 k9 B
  show Z p9 l e9 _ s9 m9 _ w9 t9 k9 _ G 2 0 [(0, .ref y), (1, .int 3)] [] Φ sz 0 0
  refine z_aload_n B dX12_isSupported_0 rfl 0 rfl ?_
  refine z_get (ref := "FlowExporterModel") (C := RX12) (T := TX12) (N := 54) (ci := 14) (v := .ref (y + 2)) B (by decide +kernel) rfl 2 (by decide) (by decide +kernel) rfl hc0_ rfl dX12_isSupported_1 ?_
  refine z_bipush (v := 9) B dX12_isSupported_4 rfl ?_
  refine z_iald B hc2_ (vin rfl) dX12_isSupported_6 ?_
  refine z_top (st1 := [.int 511]) (by rfl) ?_
  refine z_iload_n B dX12_isSupported_7 rfl 1 rfl ?_
  refine z_ishr B dX12_isSupported_8 ?_
  refine z_top (st1 := [.int 63]) (congrArg (fun w9 : Int32 => ([.int w9] : List Value)) (show ((511 : Int32) >>> ((3 : Int32) &&& (31 : Int32)) : Int32) = 63 by decide +kernel)) ?_
  refine z_iconst (v := 1) B dX12_isSupported_9 rfl ?_
  refine z_iand B dX12_isSupported_10 ?_
  refine z_top (st1 := [.int 1]) (congrArg (fun w9 : Int32 => ([.int w9] : List Value)) (show (63 &&& 1 : Int32) = 1 by decide +kernel)) ?_
  refine z_iconst (v := 1) B dX12_isSupported_11 rfl ?_
  refine z_icmp_ne (tgt := 19) B dX12_isSupported_12 rfl (fun h9 => absurd (by decide) h9) (fun c_1 => ?_)
  refine z_iconst (v := 1) B dX12_isSupported_15 rfl ?_
  refine z_goto (tgt := 20) B dX12_isSupported_16 rfl ?_
  exact z_ret_z B dX12_isSupported_20 (by decide) ⟨rfl, rfl, (fun b9 => rfl)⟩

set_option maxHeartbeats 4000000 in
set_option maxRecDepth 100000 in
theorem m_X12_setSupport_3_0 (G : EnvG) (l : Launch) (Φ : Hm) (sz : Nat) (y : Nat) (hc0_ : Φ y = some (o_ 14 [.int 0, .ref (y + 1), .ref (y + 2), .int 0, .int 1, .int 1, .int 0, .int 0, .ref (y + 3), .ref (y + 4), .int 0, .long 0, .ref (y + 5), .int 0, .int 0, .long 0, .long 0, .long 0, .long 0, .ref (y + 6), .ref (y + 7), .int 0, .ref (y + 8), .int 0, .ref (y + 9), .ref (y + 10), .int 0, .ref (y + 11), .ref (y + 12), .ref (y + 13), .ref (y + 14), .ref (y + 15), .ref (y + 16), .int 0, .long (-1), .ref (y + 17), .ref (y + 18), .ref (y + 19), .ref (y + 20), .ref (y + 21), .ref (y + 22), .int 0, .ref (y + 23), .ref (y + 24), .int 0, .ref (y + 25), .int 0, .int 0, .int 0, .int (-1), .int 0, .int 0, .int 0, .long 0])) (hc2_ : Φ (y + 2) = some (ai_ G 307 (upd (upd (upd (upd (upd (upd (upd (upd (upd (upd (upd (upd (upd (upd (upd (upd (upd (upd (upd (upd (upd (fun _ => 0) (0 : Int32).toNatClampNeg 1) (1 : Int32).toNatClampNeg 100) (2 : Int32).toNatClampNeg 1000) (3 : Int32).toNatClampNeg 100) (4 : Int32).toNatClampNeg 20) (5 : Int32).toNatClampNeg 1000) (6 : Int32).toNatClampNeg 5000) (7 : Int32).toNatClampNeg 512) (8 : Int32).toNatClampNeg 1) (9 : Int32).toNatClampNeg 511) (10 : Int32).toNatClampNeg 1) (11 : Int32).toNatClampNeg 9) (15 : Int32).toNatClampNeg 0) (16 : Int32).toNatClampNeg 1) (17 : Int32).toNatClampNeg 2) (18 : Int32).toNatClampNeg 3) (19 : Int32).toNatClampNeg 4) (20 : Int32).toNatClampNeg 5) (21 : Int32).toNatClampNeg 6) (22 : Int32).toNatClampNeg 7) (23 : Int32).toNatClampNeg 8))) (hc3_ : Φ (y + 3) = some (ai_ G 4 (upd (upd (upd (upd (fun _ => 0) (0 : Int32).toNatClampNeg (-1)) (1 : Int32).toNatClampNeg (-1)) (2 : Int32).toNatClampNeg (-1)) (3 : Int32).toNatClampNeg (-1)))) (hna : G.2.2.2 ≤ y) : Ct G l yX12_setSupport wsX12_setSupport ({ frames := 2, cells := 0, slots := 0, locals := 45 }) 0 0 [.ref y, .int 3, .int 0] Φ sz (fun v Φ1 sz1 => v = some (.int 1) ∧ (∃ fs : List Value, Φ1 y = some (o_ 14 fs) ∧ fs[0]? = some (.int 0)) ∧ ∀ b9 : Nat, y + 26 ≤ b9 → Φ1 b9 = Φ b9) := by
  refine Ct.of (cc := cX12_setSupport) (maxL := 5) (ret := (some .boolean)) (by decide) rfl (Nat.le_of_ble_eq_true rfl) ?_
  intro p9 e9 s9 m9 w9 t9 k9 B
  show Z p9 l e9 _ s9 m9 _ w9 t9 k9 _ G 5 0 [(0, .ref y), (1, .int 3), (2, .int 0)] [] Φ sz 0 0
  refine z_aload_n B dX12_setSupport_0 rfl 0 rfl ?_
  refine z_iconst (v := 0) B dX12_setSupport_1 rfl ?_
  refine z_put (ref := "FlowExporterModel") (C := RX12) (T := TX12) (N := 54) (ci := 14) (v := .int 0) B (by decide +kernel) tyX12 tyX12_ok nmX12 rfl 0 (by decide) (by decide +kernel) rfl (Or.inl rfl) hc0_ hna rfl rfl (Nat.le_of_ble_eq_true rfl) dX12_setSupport_2 (fun Φ1 hΦ1 => ?_)
  have h_1 : Φ1 y = some (o_ 14 [.int 0, .ref (y + 1), .ref (y + 2), .int 0, .int 1, .int 1, .int 0, .int 0, .ref (y + 3), .ref (y + 4), .int 0, .long 0, .ref (y + 5), .int 0, .int 0, .long 0, .long 0, .long 0, .long 0, .ref (y + 6), .ref (y + 7), .int 0, .ref (y + 8), .int 0, .ref (y + 9), .ref (y + 10), .int 0, .ref (y + 11), .ref (y + 12), .ref (y + 13), .ref (y + 14), .ref (y + 15), .ref (y + 16), .int 0, .long (-1), .ref (y + 17), .ref (y + 18), .ref (y + 19), .ref (y + 20), .ref (y + 21), .ref (y + 22), .int 0, .ref (y + 23), .ref (y + 24), .int 0, .ref (y + 25), .int 0, .int 0, .int 0, .int (-1), .int 0, .int 0, .int 0, .long 0]) := fset_at hΦ1
  refine z_aload_n B dX12_setSupport_5 rfl 0 rfl ?_
  refine z_iload_n B dX12_setSupport_6 rfl 1 rfl ?_
  refine z_i2l (v := 3) B dX12_setSupport_7 (by decide +kernel) ?_
  refine z_lconst (v := 0) B dX12_setSupport_8 rfl ?_
  refine z_ldc2 (v := 8) B (by decide +kernel) dX12_setSupport_9 ?_
  refine z_callS (As := [.long 3, .long 0, .long 8]) (rest := [.ref y]) B (c_X12_inRange_1 G l Φ1 sz 3 0 8 ⟨by decide +kernel, by decide +kernel⟩) (va_cwS 3 B.1.2.2.2.2 gX12_setSupport_X12_inRange rfl rfl rfl (by decide +kernel) ⟨Nat.le_of_ble_eq_true rfl, Nat.le_of_ble_eq_true rfl⟩) rfl rfl (Nat.le_of_ble_eq_true rfl) dX12_setSupport_12 ⟨Nat.le_of_ble_eq_true rfl, Nat.le_of_ble_eq_true rfl⟩ (fun v1 Φ2 sz1 st1 hp1 hs1 => ?_)
  obtain ⟨rfl, hq1, fr1⟩ := hp1
  replace hq1 : sz1 = sz := hq1
  subst sz1
  replace hs1 : st1 = [.int 1, .ref y] := hs1
  subst st1
  refine z_if_ne (tgt := 22) B dX12_setSupport_15 rfl (fun c_1 => ?_) (fun h9 => absurd h9 (by decide))
  refine z_iconst (v := 0) B dX12_setSupport_22 rfl ?_
  refine z_iconst (v := 1) B dX12_setSupport_23 rfl ?_
  have h_2 : Φ2 y = some (o_ 14 [.int 0, .ref (y + 1), .ref (y + 2), .int 0, .int 1, .int 1, .int 0, .int 0, .ref (y + 3), .ref (y + 4), .int 0, .long 0, .ref (y + 5), .int 0, .int 0, .long 0, .long 0, .long 0, .long 0, .ref (y + 6), .ref (y + 7), .int 0, .ref (y + 8), .int 0, .ref (y + 9), .ref (y + 10), .int 0, .ref (y + 11), .ref (y + 12), .ref (y + 13), .ref (y + 14), .ref (y + 15), .ref (y + 16), .int 0, .long (-1), .ref (y + 17), .ref (y + 18), .ref (y + 19), .ref (y + 20), .ref (y + 21), .ref (y + 22), .int 0, .ref (y + 23), .ref (y + 24), .int 0, .ref (y + 25), .int 0, .int 0, .int 0, .int (-1), .int 0, .int 0, .int 0, .long 0]) := ((fr1 y).trans h_1)
  refine z_callV (As := [.int 0, .int 1]) (rest := []) B (c_X12_throwsIf_0 G l Φ2 sz y 0 0 1 1 0 0 0 0 0 0 0 0 0 0 0 0 0 0 (-1) 0 0 0 0 0 (-1) 0 0 0 0 1 h_2 hna) (cwV 2 B.1.2.2.2.2 gX12_setSupport_X12_throwsIf rfl rfl rfl (by decide +kernel) ⟨Nat.le_of_ble_eq_true rfl, Nat.le_of_ble_eq_true rfl⟩) h_2 rfl rfl rfl rfl (Nat.le_of_ble_eq_true rfl) dX12_setSupport_24 ⟨Nat.le_of_ble_eq_true rfl, Nat.le_of_ble_eq_true rfl⟩ (fun v2 Φ3 sz2 st2 hp2 hs2 => ?_)
  obtain ⟨rfl, hq2, fr2⟩ := hp2
  replace hq2 : sz2 = sz := hq2
  subst sz2
  replace hs2 : st2 = [.int 0] := hs2
  subst st2
  refine z_if_eq (tgt := 32) B dX12_setSupport_27 rfl (fun c_2 => ?_) (fun h9 => absurd (by decide) h9)
  refine z_aload_n B dX12_setSupport_32 rfl 0 rfl ?_
  refine z_iload_n B dX12_setSupport_33 rfl 1 rfl ?_
  have h_3 : Φ3 y = some (o_ 14 [.int 0, .ref (y + 1), .ref (y + 2), .int 0, .int 1, .int 1, .int 0, .int 0, .ref (y + 3), .ref (y + 4), .int 0, .long 0, .ref (y + 5), .int 0, .int 0, .long 0, .long 0, .long 0, .long 0, .ref (y + 6), .ref (y + 7), .int 0, .ref (y + 8), .int 0, .ref (y + 9), .ref (y + 10), .int 0, .ref (y + 11), .ref (y + 12), .ref (y + 13), .ref (y + 14), .ref (y + 15), .ref (y + 16), .int 0, .long (-1), .ref (y + 17), .ref (y + 18), .ref (y + 19), .ref (y + 20), .ref (y + 21), .ref (y + 22), .int 0, .ref (y + 23), .ref (y + 24), .int 0, .ref (y + 25), .int 0, .int 0, .int 0, .int (-1), .int 0, .int 0, .int 0, .long 0]) := ((fr2 y).trans h_2)
  have h_4 : Φ3 (y + 2) = some (ai_ G 307 (upd (upd (upd (upd (upd (upd (upd (upd (upd (upd (upd (upd (upd (upd (upd (upd (upd (upd (upd (upd (upd (fun _ => 0) (0 : Int32).toNatClampNeg 1) (1 : Int32).toNatClampNeg 100) (2 : Int32).toNatClampNeg 1000) (3 : Int32).toNatClampNeg 100) (4 : Int32).toNatClampNeg 20) (5 : Int32).toNatClampNeg 1000) (6 : Int32).toNatClampNeg 5000) (7 : Int32).toNatClampNeg 512) (8 : Int32).toNatClampNeg 1) (9 : Int32).toNatClampNeg 511) (10 : Int32).toNatClampNeg 1) (11 : Int32).toNatClampNeg 9) (15 : Int32).toNatClampNeg 0) (16 : Int32).toNatClampNeg 1) (17 : Int32).toNatClampNeg 2) (18 : Int32).toNatClampNeg 3) (19 : Int32).toNatClampNeg 4) (20 : Int32).toNatClampNeg 5) (21 : Int32).toNatClampNeg 6) (22 : Int32).toNatClampNeg 7) (23 : Int32).toNatClampNeg 8)) := ((fr2 (y + 2)).trans ((fr1 (y + 2)).trans ((fset_fr hΦ1 (ne_off (x := y) (i := 2) (j := 0) rfl)).trans hc2_)))
  refine z_callV (As := [.int 3]) (rest := []) B (m_isSupported_3 G l Φ3 sz y h_3 h_4) (cwV 1 B.1.2.2.2.2 gX12_setSupport_X12_isSupported rfl rfl rfl (by decide +kernel) ⟨Nat.le_of_ble_eq_true rfl, Nat.le_of_ble_eq_true rfl⟩) h_3 rfl rfl rfl rfl (Nat.le_of_ble_eq_true rfl) dX12_setSupport_34 ⟨Nat.le_of_ble_eq_true rfl, Nat.le_of_ble_eq_true rfl⟩ (fun v3 Φ4 sz3 st3 hp3 hs3 => ?_)
  obtain ⟨rfl, hq3, fr3⟩ := hp3
  replace hq3 : sz3 = sz := hq3
  subst sz3
  replace hs3 : st3 = [.int 1] := hs3
  subst st3
  refine z_istore_n (lv' := [(3, .int 1), (0, .ref y), (1, .int 3), (2, .int 0)]) B dX12_setSupport_37 rfl (Nat.le_of_ble_eq_true rfl) rfl ?_
  refine z_iload_n B dX12_setSupport_38 rfl 0 rfl ?_
  refine z_iload_n B dX12_setSupport_39 rfl 3 rfl ?_
  refine z_icmp_ne (tgt := 45) B dX12_setSupport_40 rfl (fun c_3 => ?_) (fun h9 => absurd h9 (by decide))
  refine z_aload_n B dX12_setSupport_45 rfl 1 rfl ?_
  have h_5 : Φ4 y = some (o_ 14 [.int 0, .ref (y + 1), .ref (y + 2), .int 0, .int 1, .int 1, .int 0, .int 0, .ref (y + 3), .ref (y + 4), .int 0, .long 0, .ref (y + 5), .int 0, .int 0, .long 0, .long 0, .long 0, .long 0, .ref (y + 6), .ref (y + 7), .int 0, .ref (y + 8), .int 0, .ref (y + 9), .ref (y + 10), .int 0, .ref (y + 11), .ref (y + 12), .ref (y + 13), .ref (y + 14), .ref (y + 15), .ref (y + 16), .int 0, .long (-1), .ref (y + 17), .ref (y + 18), .ref (y + 19), .ref (y + 20), .ref (y + 21), .ref (y + 22), .int 0, .ref (y + 23), .ref (y + 24), .int 0, .ref (y + 25), .int 0, .int 0, .int 0, .int (-1), .int 0, .int 0, .int 0, .long 0]) := ((fr3 y).trans h_3)
  refine z_get (ref := "FlowExporterModel") (C := RX12) (T := TX12) (N := 54) (ci := 14) (v := .ref (y + 2)) B (by decide +kernel) rfl 2 (by decide) (by decide +kernel) rfl h_5 rfl dX12_setSupport_46 ?_
  refine z_bipush (v := 9) B dX12_setSupport_49 rfl ?_
  refine z_dup2_11 B dX12_setSupport_51 rfl rfl ?_
  have h_6 : Φ4 (y + 2) = some (ai_ G 307 (upd (upd (upd (upd (upd (upd (upd (upd (upd (upd (upd (upd (upd (upd (upd (upd (upd (upd (upd (upd (upd (fun _ => 0) (0 : Int32).toNatClampNeg 1) (1 : Int32).toNatClampNeg 100) (2 : Int32).toNatClampNeg 1000) (3 : Int32).toNatClampNeg 100) (4 : Int32).toNatClampNeg 20) (5 : Int32).toNatClampNeg 1000) (6 : Int32).toNatClampNeg 5000) (7 : Int32).toNatClampNeg 512) (8 : Int32).toNatClampNeg 1) (9 : Int32).toNatClampNeg 511) (10 : Int32).toNatClampNeg 1) (11 : Int32).toNatClampNeg 9) (15 : Int32).toNatClampNeg 0) (16 : Int32).toNatClampNeg 1) (17 : Int32).toNatClampNeg 2) (18 : Int32).toNatClampNeg 3) (19 : Int32).toNatClampNeg 4) (20 : Int32).toNatClampNeg 5) (21 : Int32).toNatClampNeg 6) (22 : Int32).toNatClampNeg 7) (23 : Int32).toNatClampNeg 8)) := ((fr3 (y + 2)).trans h_4)
  refine z_iald B h_6 (vin rfl) dX12_setSupport_52 ?_
  refine z_top (st1 := [.int 511, .int 9, .ref (y + 2)]) (by rfl) ?_
  refine z_iconst (v := 1) B dX12_setSupport_53 rfl ?_
  refine z_iload_n B dX12_setSupport_54 rfl 2 rfl ?_
  refine z_ishl B dX12_setSupport_55 ?_
  refine z_top (st1 := [.int 8, .int 511, .int 9, .ref (y + 2)]) (congrArg (fun w9 : Int32 => ([.int w9, .int 511, .int 9, .ref (y + 2)] : List Value)) (show ((1 : Int32) <<< ((3 : Int32) &&& (31 : Int32)) : Int32) = 8 by decide +kernel)) ?_
  refine z_ixor B dX12_setSupport_56 ?_
  refine z_top (st1 := [.int 503, .int 9, .ref (y + 2)]) (congrArg (fun w9 : Int32 => ([.int w9, .int 9, .ref (y + 2)] : List Value)) (show (511 ^^^ 8 : Int32) = 503 by decide +kernel)) ?_
  refine z_iast B h_6 (Nat.le_trans hna (Nat.le_add_right y 2)) (vin rfl) dX12_setSupport_57 (fun Φ5 hΦ2 => ?_)
  have h_7 : Φ5 (y + 2) = some (ai_ G 307 (upd (upd (upd (upd (upd (upd (upd (upd (upd (upd (upd (upd (upd (upd (upd (upd (upd (upd (upd (upd (upd (upd (fun _ => 0) (0 : Int32).toNatClampNeg 1) (1 : Int32).toNatClampNeg 100) (2 : Int32).toNatClampNeg 1000) (3 : Int32).toNatClampNeg 100) (4 : Int32).toNatClampNeg 20) (5 : Int32).toNatClampNeg 1000) (6 : Int32).toNatClampNeg 5000) (7 : Int32).toNatClampNeg 512) (8 : Int32).toNatClampNeg 1) (9 : Int32).toNatClampNeg 511) (10 : Int32).toNatClampNeg 1) (11 : Int32).toNatClampNeg 9) (15 : Int32).toNatClampNeg 0) (16 : Int32).toNatClampNeg 1) (17 : Int32).toNatClampNeg 2) (18 : Int32).toNatClampNeg 3) (19 : Int32).toNatClampNeg 4) (20 : Int32).toNatClampNeg 5) (21 : Int32).toNatClampNeg 6) (22 : Int32).toNatClampNeg 7) (23 : Int32).toNatClampNeg 8) (9 : Int32).toNatClampNeg 503)) := fset_at hΦ2
  refine z_iconst (v := 0) B dX12_setSupport_58 rfl ?_
  refine z_istore (lv' := [(4, .int 0), (3, .int 1), (0, .ref y), (1, .int 3), (2, .int 0)]) B dX12_setSupport_59 (Nat.le_of_ble_eq_true rfl) rfl ?_
  refine z_iload B dX12_setSupport_61 0 rfl ?_
  refine z_aload_n B dX12_setSupport_63 rfl 2 rfl ?_
  have h_8 : Φ5 y = some (o_ 14 [.int 0, .ref (y + 1), .ref (y + 2), .int 0, .int 1, .int 1, .int 0, .int 0, .ref (y + 3), .ref (y + 4), .int 0, .long 0, .ref (y + 5), .int 0, .int 0, .long 0, .long 0, .long 0, .long 0, .ref (y + 6), .ref (y + 7), .int 0, .ref (y + 8), .int 0, .ref (y + 9), .ref (y + 10), .int 0, .ref (y + 11), .ref (y + 12), .ref (y + 13), .ref (y + 14), .ref (y + 15), .ref (y + 16), .int 0, .long (-1), .ref (y + 17), .ref (y + 18), .ref (y + 19), .ref (y + 20), .ref (y + 21), .ref (y + 22), .int 0, .ref (y + 23), .ref (y + 24), .int 0, .ref (y + 25), .int 0, .int 0, .int 0, .int (-1), .int 0, .int 0, .int 0, .long 0]) := ((fset_fr hΦ2 (ne_off (x := y) (i := 0) (j := 2) rfl)).trans h_5)
  refine z_get (ref := "FlowExporterModel") (C := RX12) (T := TX12) (N := 54) (ci := 14) (v := .ref (y + 2)) B (by decide +kernel) rfl 2 (by decide) (by decide +kernel) rfl h_8 rfl dX12_setSupport_64 ?_
  refine z_bipush (v := 10) B dX12_setSupport_67 rfl ?_
  refine z_iald B h_7 (vin rfl) dX12_setSupport_69 ?_
  refine z_top (st1 := [.int 1, .int 0]) (by rfl) ?_
  refine z_icmp_ge (tgt := 101) B dX12_setSupport_70 rfl (fun h9 => absurd h9 (by decide)) (fun c_4 => ?_)
  refine z_aload_n B dX12_setSupport_73 rfl 2 rfl ?_
  refine z_iload B dX12_setSupport_74 0 rfl ?_
  refine z_callV (As := [.int 0]) (rest := []) B (m_fieldsOf_s G l Φ5 sz y 503 h_8 h_7) (cwV 1 B.1.2.2.2.2 gX12_setSupport_X12_fieldsOf rfl rfl rfl (by decide +kernel) ⟨Nat.le_of_ble_eq_true rfl, Nat.le_of_ble_eq_true rfl⟩) h_8 rfl rfl rfl rfl (Nat.le_of_ble_eq_true rfl) dX12_setSupport_76 ⟨Nat.le_of_ble_eq_true rfl, Nat.le_of_ble_eq_true rfl⟩ (fun v4 Φ6 sz4 st4 hp4 hs4 => ?_)
  obtain ⟨rfl, hq4, fr4⟩ := hp4
  replace hq4 : sz4 = sz := hq4
  subst sz4
  replace hs4 : st4 = [.int 511] := hs4
  subst st4
  refine z_iload_n B dX12_setSupport_79 rfl 3 rfl ?_
  refine z_ishr B dX12_setSupport_80 ?_
  refine z_top (st1 := [.int 63]) (congrArg (fun w9 : Int32 => ([.int w9] : List Value)) (show ((511 : Int32) >>> ((3 : Int32) &&& (31 : Int32)) : Int32) = 63 by decide +kernel)) ?_
  refine z_iconst (v := 1) B dX12_setSupport_81 rfl ?_
  refine z_iand B dX12_setSupport_82 ?_
  refine z_top (st1 := [.int 1]) (congrArg (fun w9 : Int32 => ([.int w9] : List Value)) (show (63 &&& 1 : Int32) = 1 by decide +kernel)) ?_
  refine z_iconst (v := 1) B dX12_setSupport_83 rfl ?_
  refine z_icmp_ne (tgt := 95) B dX12_setSupport_84 rfl (fun h9 => absurd (by decide) h9) (fun c_5 => ?_)
  refine z_aload_n B dX12_setSupport_87 rfl 2 rfl ?_
  have h_9 : Φ6 y = some (o_ 14 [.int 0, .ref (y + 1), .ref (y + 2), .int 0, .int 1, .int 1, .int 0, .int 0, .ref (y + 3), .ref (y + 4), .int 0, .long 0, .ref (y + 5), .int 0, .int 0, .long 0, .long 0, .long 0, .long 0, .ref (y + 6), .ref (y + 7), .int 0, .ref (y + 8), .int 0, .ref (y + 9), .ref (y + 10), .int 0, .ref (y + 11), .ref (y + 12), .ref (y + 13), .ref (y + 14), .ref (y + 15), .ref (y + 16), .int 0, .long (-1), .ref (y + 17), .ref (y + 18), .ref (y + 19), .ref (y + 20), .ref (y + 21), .ref (y + 22), .int 0, .ref (y + 23), .ref (y + 24), .int 0, .ref (y + 25), .int 0, .int 0, .int 0, .int (-1), .int 0, .int 0, .int 0, .long 0]) := ((fr4 y).trans h_8)
  refine z_get (ref := "FlowExporterModel") (C := RX12) (T := TX12) (N := 54) (ci := 14) (v := .ref (y + 3)) B (by decide +kernel) rfl 8 (by decide) (by decide +kernel) rfl h_9 rfl dX12_setSupport_88 ?_
  refine z_iload B dX12_setSupport_91 0 rfl ?_
  refine z_iconst (v := (-1)) B dX12_setSupport_93 rfl ?_
  have h_10 : Φ6 (y + 3) = some (ai_ G 4 (upd (upd (upd (upd (fun _ => 0) (0 : Int32).toNatClampNeg (-1)) (1 : Int32).toNatClampNeg (-1)) (2 : Int32).toNatClampNeg (-1)) (3 : Int32).toNatClampNeg (-1))) := ((fr4 (y + 3)).trans ((fset_fr hΦ2 (ne_off (x := y) (i := 3) (j := 2) rfl)).trans ((fr3 (y + 3)).trans ((fr2 (y + 3)).trans ((fr1 (y + 3)).trans ((fset_fr hΦ1 (ne_off (x := y) (i := 3) (j := 0) rfl)).trans hc3_))))))
  refine z_iast B h_10 (Nat.le_trans hna (Nat.le_add_right y 3)) (vin rfl) dX12_setSupport_94 (fun Φ7 hΦ3 => ?_)
  have h_11 : Φ7 (y + 3) = some (ai_ G 4 (upd (upd (upd (upd (upd (fun _ => 0) (0 : Int32).toNatClampNeg (-1)) (1 : Int32).toNatClampNeg (-1)) (2 : Int32).toNatClampNeg (-1)) (3 : Int32).toNatClampNeg (-1)) (0 : Int32).toNatClampNeg (-1))) := fset_at hΦ3
  refine z_iinc (k := 0) (v := 1) (lv' := [(4, .int 1), (3, .int 1), (0, .ref y), (1, .int 3), (2, .int 0)]) B dX12_setSupport_95 rfl rfl (Nat.le_of_ble_eq_true rfl) rfl ?_
  refine z_goto (tgt := 61) B dX12_setSupport_98 rfl ?_
  refine z_iload B dX12_setSupport_61 0 rfl ?_
  refine z_aload_n B dX12_setSupport_63 rfl 2 rfl ?_
  have h_12 : Φ7 y = some (o_ 14 [.int 0, .ref (y + 1), .ref (y + 2), .int 0, .int 1, .int 1, .int 0, .int 0, .ref (y + 3), .ref (y + 4), .int 0, .long 0, .ref (y + 5), .int 0, .int 0, .long 0, .long 0, .long 0, .long 0, .ref (y + 6), .ref (y + 7), .int 0, .ref (y + 8), .int 0, .ref (y + 9), .ref (y + 10), .int 0, .ref (y + 11), .ref (y + 12), .ref (y + 13), .ref (y + 14), .ref (y + 15), .ref (y + 16), .int 0, .long (-1), .ref (y + 17), .ref (y + 18), .ref (y + 19), .ref (y + 20), .ref (y + 21), .ref (y + 22), .int 0, .ref (y + 23), .ref (y + 24), .int 0, .ref (y + 25), .int 0, .int 0, .int 0, .int (-1), .int 0, .int 0, .int 0, .long 0]) := ((fset_fr hΦ3 (ne_off (x := y) (i := 0) (j := 3) rfl)).trans h_9)
  refine z_get (ref := "FlowExporterModel") (C := RX12) (T := TX12) (N := 54) (ci := 14) (v := .ref (y + 2)) B (by decide +kernel) rfl 2 (by decide) (by decide +kernel) rfl h_12 rfl dX12_setSupport_64 ?_
  refine z_bipush (v := 10) B dX12_setSupport_67 rfl ?_
  have h_13 : Φ7 (y + 2) = some (ai_ G 307 (upd (upd (upd (upd (upd (upd (upd (upd (upd (upd (upd (upd (upd (upd (upd (upd (upd (upd (upd (upd (upd (upd (fun _ => 0) (0 : Int32).toNatClampNeg 1) (1 : Int32).toNatClampNeg 100) (2 : Int32).toNatClampNeg 1000) (3 : Int32).toNatClampNeg 100) (4 : Int32).toNatClampNeg 20) (5 : Int32).toNatClampNeg 1000) (6 : Int32).toNatClampNeg 5000) (7 : Int32).toNatClampNeg 512) (8 : Int32).toNatClampNeg 1) (9 : Int32).toNatClampNeg 511) (10 : Int32).toNatClampNeg 1) (11 : Int32).toNatClampNeg 9) (15 : Int32).toNatClampNeg 0) (16 : Int32).toNatClampNeg 1) (17 : Int32).toNatClampNeg 2) (18 : Int32).toNatClampNeg 3) (19 : Int32).toNatClampNeg 4) (20 : Int32).toNatClampNeg 5) (21 : Int32).toNatClampNeg 6) (22 : Int32).toNatClampNeg 7) (23 : Int32).toNatClampNeg 8) (9 : Int32).toNatClampNeg 503)) := ((fset_fr hΦ3 (ne_off (x := y) (i := 2) (j := 3) rfl)).trans ((fr4 (y + 2)).trans h_7))
  refine z_iald B h_13 (vin rfl) dX12_setSupport_69 ?_
  refine z_top (st1 := [.int 1, .int 1]) (by rfl) ?_
  refine z_icmp_ge (tgt := 101) B dX12_setSupport_70 rfl (fun c_6 => ?_) (fun h9 => absurd (by decide) h9)
  refine z_iload_n B dX12_setSupport_101 rfl 1 rfl ?_
  exact z_ret_z B dX12_setSupport_102 (by decide) ⟨rfl, ⟨_, h_12, rfl⟩, fun b9 h9 => ((fset_fr hΦ3 (Nat.ne_of_gt (Nat.lt_of_lt_of_le (lt_off (x := y) (i := 3) (j := 26) rfl) h9))).trans ((fr4 b9).trans ((fset_fr hΦ2 (Nat.ne_of_gt (Nat.lt_of_lt_of_le (lt_off (x := y) (i := 2) (j := 26) rfl) h9))).trans ((fr3 b9).trans ((fr2 b9).trans ((fr1 b9).trans ((fset_fr hΦ1 (Nat.ne_of_gt (Nat.lt_of_lt_of_le (lt_off (x := y) (i := 0) (j := 26) rfl) h9))).trans rfl)))))))⟩

set_option maxHeartbeats 4000000 in
set_option maxRecDepth 100000 in
theorem m_X12_setSupport_3_1 (G : EnvG) (l : Launch) (Φ : Hm) (sz : Nat) (y : Nat) (hc0_ : Φ y = some (o_ 14 [.int 0, .ref (y + 1), .ref (y + 2), .int 0, .int 1, .int 1, .int 0, .int 0, .ref (y + 3), .ref (y + 4), .int 0, .long 0, .ref (y + 5), .int 0, .int 0, .long 0, .long 0, .long 0, .long 0, .ref (y + 6), .ref (y + 7), .int 0, .ref (y + 8), .int 0, .ref (y + 9), .ref (y + 10), .int 0, .ref (y + 11), .ref (y + 12), .ref (y + 13), .ref (y + 14), .ref (y + 15), .ref (y + 16), .int 0, .long (-1), .ref (y + 17), .ref (y + 18), .ref (y + 19), .ref (y + 20), .ref (y + 21), .ref (y + 22), .int 0, .ref (y + 23), .ref (y + 24), .int 0, .ref (y + 25), .int 0, .int 0, .int 0, .int (-1), .int 0, .int 0, .int 0, .long 0])) (hc2_ : Φ (y + 2) = some (ai_ G 307 (upd (upd (upd (upd (upd (upd (upd (upd (upd (upd (upd (upd (upd (upd (upd (upd (upd (upd (upd (upd (upd (fun _ => 0) (0 : Int32).toNatClampNeg 1) (1 : Int32).toNatClampNeg 100) (2 : Int32).toNatClampNeg 1000) (3 : Int32).toNatClampNeg 100) (4 : Int32).toNatClampNeg 20) (5 : Int32).toNatClampNeg 1000) (6 : Int32).toNatClampNeg 5000) (7 : Int32).toNatClampNeg 512) (8 : Int32).toNatClampNeg 1) (9 : Int32).toNatClampNeg 511) (10 : Int32).toNatClampNeg 1) (11 : Int32).toNatClampNeg 9) (15 : Int32).toNatClampNeg 0) (16 : Int32).toNatClampNeg 1) (17 : Int32).toNatClampNeg 2) (18 : Int32).toNatClampNeg 3) (19 : Int32).toNatClampNeg 4) (20 : Int32).toNatClampNeg 5) (21 : Int32).toNatClampNeg 6) (22 : Int32).toNatClampNeg 7) (23 : Int32).toNatClampNeg 8))) (hna : G.2.2.2 ≤ y) : Ct G l yX12_setSupport wsX12_setSupport ({ frames := 1, cells := 0, slots := 0, locals := 25 }) 0 0 [.ref y, .int 3, .int 1] Φ sz (fun v Φ1 sz1 => v = some (.int 1) ∧ (∃ fs : List Value, Φ1 y = some (o_ 14 fs) ∧ fs[0]? = some (.int 0)) ∧ ∀ b9 : Nat, y + 26 ≤ b9 → Φ1 b9 = Φ b9) := by
  refine Ct.of (cc := cX12_setSupport) (maxL := 5) (ret := (some .boolean)) (by decide) rfl (Nat.le_of_ble_eq_true rfl) ?_
  intro p9 e9 s9 m9 w9 t9 k9 B
  show Z p9 l e9 _ s9 m9 _ w9 t9 k9 _ G 5 0 [(0, .ref y), (1, .int 3), (2, .int 1)] [] Φ sz 0 0
  refine z_aload_n B dX12_setSupport_0 rfl 0 rfl ?_
  refine z_iconst (v := 0) B dX12_setSupport_1 rfl ?_
  refine z_put (ref := "FlowExporterModel") (C := RX12) (T := TX12) (N := 54) (ci := 14) (v := .int 0) B (by decide +kernel) tyX12 tyX12_ok nmX12 rfl 0 (by decide) (by decide +kernel) rfl (Or.inl rfl) hc0_ hna rfl rfl (Nat.le_of_ble_eq_true rfl) dX12_setSupport_2 (fun Φ1 hΦ1 => ?_)
  have h_1 : Φ1 y = some (o_ 14 [.int 0, .ref (y + 1), .ref (y + 2), .int 0, .int 1, .int 1, .int 0, .int 0, .ref (y + 3), .ref (y + 4), .int 0, .long 0, .ref (y + 5), .int 0, .int 0, .long 0, .long 0, .long 0, .long 0, .ref (y + 6), .ref (y + 7), .int 0, .ref (y + 8), .int 0, .ref (y + 9), .ref (y + 10), .int 0, .ref (y + 11), .ref (y + 12), .ref (y + 13), .ref (y + 14), .ref (y + 15), .ref (y + 16), .int 0, .long (-1), .ref (y + 17), .ref (y + 18), .ref (y + 19), .ref (y + 20), .ref (y + 21), .ref (y + 22), .int 0, .ref (y + 23), .ref (y + 24), .int 0, .ref (y + 25), .int 0, .int 0, .int 0, .int (-1), .int 0, .int 0, .int 0, .long 0]) := fset_at hΦ1
  refine z_aload_n B dX12_setSupport_5 rfl 0 rfl ?_
  refine z_iload_n B dX12_setSupport_6 rfl 1 rfl ?_
  refine z_i2l (v := 3) B dX12_setSupport_7 (by decide +kernel) ?_
  refine z_lconst (v := 0) B dX12_setSupport_8 rfl ?_
  refine z_ldc2 (v := 8) B (by decide +kernel) dX12_setSupport_9 ?_
  refine z_callS (As := [.long 3, .long 0, .long 8]) (rest := [.ref y]) B (c_X12_inRange_1 G l Φ1 sz 3 0 8 ⟨by decide +kernel, by decide +kernel⟩) (va_cwS 3 B.1.2.2.2.2 gX12_setSupport_X12_inRange rfl rfl rfl (by decide +kernel) ⟨Nat.le_of_ble_eq_true rfl, Nat.le_of_ble_eq_true rfl⟩) rfl rfl (Nat.le_of_ble_eq_true rfl) dX12_setSupport_12 ⟨Nat.le_of_ble_eq_true rfl, Nat.le_of_ble_eq_true rfl⟩ (fun v1 Φ2 sz1 st1 hp1 hs1 => ?_)
  obtain ⟨rfl, hq1, fr1⟩ := hp1
  replace hq1 : sz1 = sz := hq1
  subst sz1
  replace hs1 : st1 = [.int 1, .ref y] := hs1
  subst st1
  refine z_if_ne (tgt := 22) B dX12_setSupport_15 rfl (fun c_1 => ?_) (fun h9 => absurd h9 (by decide))
  refine z_iconst (v := 0) B dX12_setSupport_22 rfl ?_
  refine z_iconst (v := 1) B dX12_setSupport_23 rfl ?_
  have h_2 : Φ2 y = some (o_ 14 [.int 0, .ref (y + 1), .ref (y + 2), .int 0, .int 1, .int 1, .int 0, .int 0, .ref (y + 3), .ref (y + 4), .int 0, .long 0, .ref (y + 5), .int 0, .int 0, .long 0, .long 0, .long 0, .long 0, .ref (y + 6), .ref (y + 7), .int 0, .ref (y + 8), .int 0, .ref (y + 9), .ref (y + 10), .int 0, .ref (y + 11), .ref (y + 12), .ref (y + 13), .ref (y + 14), .ref (y + 15), .ref (y + 16), .int 0, .long (-1), .ref (y + 17), .ref (y + 18), .ref (y + 19), .ref (y + 20), .ref (y + 21), .ref (y + 22), .int 0, .ref (y + 23), .ref (y + 24), .int 0, .ref (y + 25), .int 0, .int 0, .int 0, .int (-1), .int 0, .int 0, .int 0, .long 0]) := ((fr1 y).trans h_1)
  refine z_callV (As := [.int 0, .int 1]) (rest := []) B (c_X12_throwsIf_0 G l Φ2 sz y 0 0 1 1 0 0 0 0 0 0 0 0 0 0 0 0 0 0 (-1) 0 0 0 0 0 (-1) 0 0 0 0 1 h_2 hna) (cwV 2 B.1.2.2.2.2 gX12_setSupport_X12_throwsIf rfl rfl rfl (by decide +kernel) ⟨Nat.le_of_ble_eq_true rfl, Nat.le_of_ble_eq_true rfl⟩) h_2 rfl rfl rfl rfl (Nat.le_of_ble_eq_true rfl) dX12_setSupport_24 ⟨Nat.le_of_ble_eq_true rfl, Nat.le_of_ble_eq_true rfl⟩ (fun v2 Φ3 sz2 st2 hp2 hs2 => ?_)
  obtain ⟨rfl, hq2, fr2⟩ := hp2
  replace hq2 : sz2 = sz := hq2
  subst sz2
  replace hs2 : st2 = [.int 0] := hs2
  subst st2
  refine z_if_eq (tgt := 32) B dX12_setSupport_27 rfl (fun c_2 => ?_) (fun h9 => absurd (by decide) h9)
  refine z_aload_n B dX12_setSupport_32 rfl 0 rfl ?_
  refine z_iload_n B dX12_setSupport_33 rfl 1 rfl ?_
  have h_3 : Φ3 y = some (o_ 14 [.int 0, .ref (y + 1), .ref (y + 2), .int 0, .int 1, .int 1, .int 0, .int 0, .ref (y + 3), .ref (y + 4), .int 0, .long 0, .ref (y + 5), .int 0, .int 0, .long 0, .long 0, .long 0, .long 0, .ref (y + 6), .ref (y + 7), .int 0, .ref (y + 8), .int 0, .ref (y + 9), .ref (y + 10), .int 0, .ref (y + 11), .ref (y + 12), .ref (y + 13), .ref (y + 14), .ref (y + 15), .ref (y + 16), .int 0, .long (-1), .ref (y + 17), .ref (y + 18), .ref (y + 19), .ref (y + 20), .ref (y + 21), .ref (y + 22), .int 0, .ref (y + 23), .ref (y + 24), .int 0, .ref (y + 25), .int 0, .int 0, .int 0, .int (-1), .int 0, .int 0, .int 0, .long 0]) := ((fr2 y).trans h_2)
  have h_4 : Φ3 (y + 2) = some (ai_ G 307 (upd (upd (upd (upd (upd (upd (upd (upd (upd (upd (upd (upd (upd (upd (upd (upd (upd (upd (upd (upd (upd (fun _ => 0) (0 : Int32).toNatClampNeg 1) (1 : Int32).toNatClampNeg 100) (2 : Int32).toNatClampNeg 1000) (3 : Int32).toNatClampNeg 100) (4 : Int32).toNatClampNeg 20) (5 : Int32).toNatClampNeg 1000) (6 : Int32).toNatClampNeg 5000) (7 : Int32).toNatClampNeg 512) (8 : Int32).toNatClampNeg 1) (9 : Int32).toNatClampNeg 511) (10 : Int32).toNatClampNeg 1) (11 : Int32).toNatClampNeg 9) (15 : Int32).toNatClampNeg 0) (16 : Int32).toNatClampNeg 1) (17 : Int32).toNatClampNeg 2) (18 : Int32).toNatClampNeg 3) (19 : Int32).toNatClampNeg 4) (20 : Int32).toNatClampNeg 5) (21 : Int32).toNatClampNeg 6) (22 : Int32).toNatClampNeg 7) (23 : Int32).toNatClampNeg 8)) := ((fr2 (y + 2)).trans ((fr1 (y + 2)).trans ((fset_fr hΦ1 (ne_off (x := y) (i := 2) (j := 0) rfl)).trans hc2_)))
  refine z_callV (As := [.int 3]) (rest := []) B (m_isSupported_3 G l Φ3 sz y h_3 h_4) (cwV 1 B.1.2.2.2.2 gX12_setSupport_X12_isSupported rfl rfl rfl (by decide +kernel) ⟨Nat.le_of_ble_eq_true rfl, Nat.le_of_ble_eq_true rfl⟩) h_3 rfl rfl rfl rfl (Nat.le_of_ble_eq_true rfl) dX12_setSupport_34 ⟨Nat.le_of_ble_eq_true rfl, Nat.le_of_ble_eq_true rfl⟩ (fun v3 Φ4 sz3 st3 hp3 hs3 => ?_)
  obtain ⟨rfl, hq3, fr3⟩ := hp3
  replace hq3 : sz3 = sz := hq3
  subst sz3
  replace hs3 : st3 = [.int 1] := hs3
  subst st3
  refine z_istore_n (lv' := [(3, .int 1), (0, .ref y), (1, .int 3), (2, .int 1)]) B dX12_setSupport_37 rfl (Nat.le_of_ble_eq_true rfl) rfl ?_
  refine z_iload_n B dX12_setSupport_38 rfl 0 rfl ?_
  refine z_iload_n B dX12_setSupport_39 rfl 3 rfl ?_
  refine z_icmp_ne (tgt := 45) B dX12_setSupport_40 rfl (fun h9 => absurd (by decide) h9) (fun c_3 => ?_)
  refine z_iload_n B dX12_setSupport_43 rfl 0 rfl ?_
  have h_5 : Φ4 y = some (o_ 14 [.int 0, .ref (y + 1), .ref (y + 2), .int 0, .int 1, .int 1, .int 0, .int 0, .ref (y + 3), .ref (y + 4), .int 0, .long 0, .ref (y + 5), .int 0, .int 0, .long 0, .long 0, .long 0, .long 0, .ref (y + 6), .ref (y + 7), .int 0, .ref (y + 8), .int 0, .ref (y + 9), .ref (y + 10), .int 0, .ref (y + 11), .ref (y + 12), .ref (y + 13), .ref (y + 14), .ref (y + 15), .ref (y + 16), .int 0, .long (-1), .ref (y + 17), .ref (y + 18), .ref (y + 19), .ref (y + 20), .ref (y + 21), .ref (y + 22), .int 0, .ref (y + 23), .ref (y + 24), .int 0, .ref (y + 25), .int 0, .int 0, .int 0, .int (-1), .int 0, .int 0, .int 0, .long 0]) := ((fr3 y).trans h_3)
  exact z_ret_z B dX12_setSupport_44 (by decide) ⟨rfl, ⟨_, h_5, rfl⟩, fun b9 h9 => ((fr3 b9).trans ((fr2 b9).trans ((fr1 b9).trans ((fset_fr hΦ1 (Nat.ne_of_gt (Nat.lt_of_lt_of_le (lt_off (x := y) (i := 0) (j := 26) rfl) h9))).trans rfl))))⟩

set_option maxHeartbeats 4000000 in
set_option maxRecDepth 100000 in
theorem m_isSupported_4 (G : EnvG) (l : Launch) (Φ : Hm) (sz : Nat) (y : Nat) (hc0_ : Φ y = some (o_ 14 [.int 0, .ref (y + 1), .ref (y + 2), .int 0, .int 1, .int 1, .int 0, .int 0, .ref (y + 3), .ref (y + 4), .int 0, .long 0, .ref (y + 5), .int 0, .int 0, .long 0, .long 0, .long 0, .long 0, .ref (y + 6), .ref (y + 7), .int 0, .ref (y + 8), .int 0, .ref (y + 9), .ref (y + 10), .int 0, .ref (y + 11), .ref (y + 12), .ref (y + 13), .ref (y + 14), .ref (y + 15), .ref (y + 16), .int 0, .long (-1), .ref (y + 17), .ref (y + 18), .ref (y + 19), .ref (y + 20), .ref (y + 21), .ref (y + 22), .int 0, .ref (y + 23), .ref (y + 24), .int 0, .ref (y + 25), .int 0, .int 0, .int 0, .int (-1), .int 0, .int 0, .int 0, .long 0])) (hc2_ : Φ (y + 2) = some (ai_ G 307 (upd (upd (upd (upd (upd (upd (upd (upd (upd (upd (upd (upd (upd (upd (upd (upd (upd (upd (upd (upd (upd (fun _ => 0) (0 : Int32).toNatClampNeg 1) (1 : Int32).toNatClampNeg 100) (2 : Int32).toNatClampNeg 1000) (3 : Int32).toNatClampNeg 100) (4 : Int32).toNatClampNeg 20) (5 : Int32).toNatClampNeg 1000) (6 : Int32).toNatClampNeg 5000) (7 : Int32).toNatClampNeg 512) (8 : Int32).toNatClampNeg 1) (9 : Int32).toNatClampNeg 511) (10 : Int32).toNatClampNeg 1) (11 : Int32).toNatClampNeg 9) (15 : Int32).toNatClampNeg 0) (16 : Int32).toNatClampNeg 1) (17 : Int32).toNatClampNeg 2) (18 : Int32).toNatClampNeg 3) (19 : Int32).toNatClampNeg 4) (20 : Int32).toNatClampNeg 5) (21 : Int32).toNatClampNeg 6) (22 : Int32).toNatClampNeg 7) (23 : Int32).toNatClampNeg 8))) : Ct G l yX12_isSupported wsX12_isSupported ({ frames := 0, cells := 0, slots := 0, locals := 0 }) 0 0 [.ref y, .int 4] Φ sz (fun v Φ1 sz1 => v = some (.int 1) ∧ sz1 = sz ∧ (∀ b9 : Nat, Φ1 b9 = Φ b9)) := by
  refine Ct.of (cc := cX12_isSupported) (maxL := 2) (ret := (some .boolean)) (by decide) rfl (Nat.le_of_ble_eq_true rfl) ?_
  intro p9 e9 s9 m9 w9 t9 k9 B
  show Z p9 l e9 _ s9 m9 _ w9 t9 k9 _ G 2 0 [(0, .ref y), (1, .int 4)] [] Φ sz 0 0
  refine z_aload_n B dX12_isSupported_0 rfl 0 rfl ?_
  refine z_get (ref := "FlowExporterModel") (C := RX12) (T := TX12) (N := 54) (ci := 14) (v := .ref (y + 2)) B (by decide +kernel) rfl 2 (by decide) (by decide +kernel) rfl hc0_ rfl dX12_isSupported_1 ?_
  refine z_bipush (v := 9) B dX12_isSupported_4 rfl ?_
  refine z_iald B hc2_ (vin rfl) dX12_isSupported_6 ?_
  refine z_top (st1 := [.int 511]) (by rfl) ?_
  refine z_iload_n B dX12_isSupported_7 rfl 1 rfl ?_
  refine z_ishr B dX12_isSupported_8 ?_
  refine z_top (st1 := [.int 31]) (congrArg (fun w9 : Int32 => ([.int w9] : List Value)) (show ((511 : Int32) >>> ((4 : Int32) &&& (31 : Int32)) : Int32) = 31 by decide +kernel)) ?_
  refine z_iconst (v := 1) B dX12_isSupported_9 rfl ?_
  refine z_iand B dX12_isSupported_10 ?_
  refine z_top (st1 := [.int 1]) (congrArg (fun w9 : Int32 => ([.int w9] : List Value)) (show (31 &&& 1 : Int32) = 1 by decide +kernel)) ?_
  refine z_iconst (v := 1) B dX12_isSupported_11 rfl ?_
  refine z_icmp_ne (tgt := 19) B dX12_isSupported_12 rfl (fun h9 => absurd (by decide) h9) (fun c_1 => ?_)
  refine z_iconst (v := 1) B dX12_isSupported_15 rfl ?_
  refine z_goto (tgt := 20) B dX12_isSupported_16 rfl ?_
  exact z_ret_z B dX12_isSupported_20 (by decide) ⟨rfl, rfl, (fun b9 => rfl)⟩

set_option maxHeartbeats 4000000 in
set_option maxRecDepth 100000 in
theorem m_X12_setSupport_4_0 (G : EnvG) (l : Launch) (Φ : Hm) (sz : Nat) (y : Nat) (hc0_ : Φ y = some (o_ 14 [.int 0, .ref (y + 1), .ref (y + 2), .int 0, .int 1, .int 1, .int 0, .int 0, .ref (y + 3), .ref (y + 4), .int 0, .long 0, .ref (y + 5), .int 0, .int 0, .long 0, .long 0, .long 0, .long 0, .ref (y + 6), .ref (y + 7), .int 0, .ref (y + 8), .int 0, .ref (y + 9), .ref (y + 10), .int 0, .ref (y + 11), .ref (y + 12), .ref (y + 13), .ref (y + 14), .ref (y + 15), .ref (y + 16), .int 0, .long (-1), .ref (y + 17), .ref (y + 18), .ref (y + 19), .ref (y + 20), .ref (y + 21), .ref (y + 22), .int 0, .ref (y + 23), .ref (y + 24), .int 0, .ref (y + 25), .int 0, .int 0, .int 0, .int (-1), .int 0, .int 0, .int 0, .long 0])) (hc2_ : Φ (y + 2) = some (ai_ G 307 (upd (upd (upd (upd (upd (upd (upd (upd (upd (upd (upd (upd (upd (upd (upd (upd (upd (upd (upd (upd (upd (fun _ => 0) (0 : Int32).toNatClampNeg 1) (1 : Int32).toNatClampNeg 100) (2 : Int32).toNatClampNeg 1000) (3 : Int32).toNatClampNeg 100) (4 : Int32).toNatClampNeg 20) (5 : Int32).toNatClampNeg 1000) (6 : Int32).toNatClampNeg 5000) (7 : Int32).toNatClampNeg 512) (8 : Int32).toNatClampNeg 1) (9 : Int32).toNatClampNeg 511) (10 : Int32).toNatClampNeg 1) (11 : Int32).toNatClampNeg 9) (15 : Int32).toNatClampNeg 0) (16 : Int32).toNatClampNeg 1) (17 : Int32).toNatClampNeg 2) (18 : Int32).toNatClampNeg 3) (19 : Int32).toNatClampNeg 4) (20 : Int32).toNatClampNeg 5) (21 : Int32).toNatClampNeg 6) (22 : Int32).toNatClampNeg 7) (23 : Int32).toNatClampNeg 8))) (hc3_ : Φ (y + 3) = some (ai_ G 4 (upd (upd (upd (upd (fun _ => 0) (0 : Int32).toNatClampNeg (-1)) (1 : Int32).toNatClampNeg (-1)) (2 : Int32).toNatClampNeg (-1)) (3 : Int32).toNatClampNeg (-1)))) (hna : G.2.2.2 ≤ y) : Ct G l yX12_setSupport wsX12_setSupport ({ frames := 2, cells := 0, slots := 0, locals := 45 }) 0 0 [.ref y, .int 4, .int 0] Φ sz (fun v Φ1 sz1 => v = some (.int 1) ∧ (∃ fs : List Value, Φ1 y = some (o_ 14 fs) ∧ fs[0]? = some (.int 0)) ∧ ∀ b9 : Nat, y + 26 ≤ b9 → Φ1 b9 = Φ b9) := by
  refine Ct.of (cc := cX12_setSupport) (maxL := 5) (ret := (some .boolean)) (by decide) rfl (Nat.le_of_ble_eq_true rfl) ?_
  intro p9 e9 s9 m9 w9 t9 k9 B
  show Z p9 l e9 _ s9 m9 _ w9 t9 k9 _ G 5 0 [(0, .ref y), (1, .int 4), (2, .int 0)] [] Φ sz 0 0
  refine z_aload_n B dX12_setSupport_0 rfl 0 rfl ?_
  refine z_iconst (v := 0) B dX12_setSupport_1 rfl ?_
  refine z_put (ref := "FlowExporterModel") (C := RX12) (T := TX12) (N := 54) (ci := 14) (v := .int 0) B (by decide +kernel) tyX12 tyX12_ok nmX12 rfl 0 (by decide) (by decide +kernel) rfl (Or.inl rfl) hc0_ hna rfl rfl (Nat.le_of_ble_eq_true rfl) dX12_setSupport_2 (fun Φ1 hΦ1 => ?_)
  have h_1 : Φ1 y = some (o_ 14 [.int 0, .ref (y + 1), .ref (y + 2), .int 0, .int 1, .int 1, .int 0, .int 0, .ref (y + 3), .ref (y + 4), .int 0, .long 0, .ref (y + 5), .int 0, .int 0, .long 0, .long 0, .long 0, .long 0, .ref (y + 6), .ref (y + 7), .int 0, .ref (y + 8), .int 0, .ref (y + 9), .ref (y + 10), .int 0, .ref (y + 11), .ref (y + 12), .ref (y + 13), .ref (y + 14), .ref (y + 15), .ref (y + 16), .int 0, .long (-1), .ref (y + 17), .ref (y + 18), .ref (y + 19), .ref (y + 20), .ref (y + 21), .ref (y + 22), .int 0, .ref (y + 23), .ref (y + 24), .int 0, .ref (y + 25), .int 0, .int 0, .int 0, .int (-1), .int 0, .int 0, .int 0, .long 0]) := fset_at hΦ1
  refine z_aload_n B dX12_setSupport_5 rfl 0 rfl ?_
  refine z_iload_n B dX12_setSupport_6 rfl 1 rfl ?_
  refine z_i2l (v := 4) B dX12_setSupport_7 (by decide +kernel) ?_
  refine z_lconst (v := 0) B dX12_setSupport_8 rfl ?_
  refine z_ldc2 (v := 8) B (by decide +kernel) dX12_setSupport_9 ?_
  refine z_callS (As := [.long 4, .long 0, .long 8]) (rest := [.ref y]) B (c_X12_inRange_1 G l Φ1 sz 4 0 8 ⟨by decide +kernel, by decide +kernel⟩) (va_cwS 3 B.1.2.2.2.2 gX12_setSupport_X12_inRange rfl rfl rfl (by decide +kernel) ⟨Nat.le_of_ble_eq_true rfl, Nat.le_of_ble_eq_true rfl⟩) rfl rfl (Nat.le_of_ble_eq_true rfl) dX12_setSupport_12 ⟨Nat.le_of_ble_eq_true rfl, Nat.le_of_ble_eq_true rfl⟩ (fun v1 Φ2 sz1 st1 hp1 hs1 => ?_)
  obtain ⟨rfl, hq1, fr1⟩ := hp1
  replace hq1 : sz1 = sz := hq1
  subst sz1
  replace hs1 : st1 = [.int 1, .ref y] := hs1
  subst st1
  refine z_if_ne (tgt := 22) B dX12_setSupport_15 rfl (fun c_1 => ?_) (fun h9 => absurd h9 (by decide))
  refine z_iconst (v := 0) B dX12_setSupport_22 rfl ?_
  refine z_iconst (v := 1) B dX12_setSupport_23 rfl ?_
  have h_2 : Φ2 y = some (o_ 14 [.int 0, .ref (y + 1), .ref (y + 2), .int 0, .int 1, .int 1, .int 0, .int 0, .ref (y + 3), .ref (y + 4), .int 0, .long 0, .ref (y + 5), .int 0, .int 0, .long 0, .long 0, .long 0, .long 0, .ref (y + 6), .ref (y + 7), .int 0, .ref (y + 8), .int 0, .ref (y + 9), .ref (y + 10), .int 0, .ref (y + 11), .ref (y + 12), .ref (y + 13), .ref (y + 14), .ref (y + 15), .ref (y + 16), .int 0, .long (-1), .ref (y + 17), .ref (y + 18), .ref (y + 19), .ref (y + 20), .ref (y + 21), .ref (y + 22), .int 0, .ref (y + 23), .ref (y + 24), .int 0, .ref (y + 25), .int 0, .int 0, .int 0, .int (-1), .int 0, .int 0, .int 0, .long 0]) := ((fr1 y).trans h_1)
  refine z_callV (As := [.int 0, .int 1]) (rest := []) B (c_X12_throwsIf_0 G l Φ2 sz y 0 0 1 1 0 0 0 0 0 0 0 0 0 0 0 0 0 0 (-1) 0 0 0 0 0 (-1) 0 0 0 0 1 h_2 hna) (cwV 2 B.1.2.2.2.2 gX12_setSupport_X12_throwsIf rfl rfl rfl (by decide +kernel) ⟨Nat.le_of_ble_eq_true rfl, Nat.le_of_ble_eq_true rfl⟩) h_2 rfl rfl rfl rfl (Nat.le_of_ble_eq_true rfl) dX12_setSupport_24 ⟨Nat.le_of_ble_eq_true rfl, Nat.le_of_ble_eq_true rfl⟩ (fun v2 Φ3 sz2 st2 hp2 hs2 => ?_)
  obtain ⟨rfl, hq2, fr2⟩ := hp2
  replace hq2 : sz2 = sz := hq2
  subst sz2
  replace hs2 : st2 = [.int 0] := hs2
  subst st2
  refine z_if_eq (tgt := 32) B dX12_setSupport_27 rfl (fun c_2 => ?_) (fun h9 => absurd (by decide) h9)
  refine z_aload_n B dX12_setSupport_32 rfl 0 rfl ?_
  refine z_iload_n B dX12_setSupport_33 rfl 1 rfl ?_
  have h_3 : Φ3 y = some (o_ 14 [.int 0, .ref (y + 1), .ref (y + 2), .int 0, .int 1, .int 1, .int 0, .int 0, .ref (y + 3), .ref (y + 4), .int 0, .long 0, .ref (y + 5), .int 0, .int 0, .long 0, .long 0, .long 0, .long 0, .ref (y + 6), .ref (y + 7), .int 0, .ref (y + 8), .int 0, .ref (y + 9), .ref (y + 10), .int 0, .ref (y + 11), .ref (y + 12), .ref (y + 13), .ref (y + 14), .ref (y + 15), .ref (y + 16), .int 0, .long (-1), .ref (y + 17), .ref (y + 18), .ref (y + 19), .ref (y + 20), .ref (y + 21), .ref (y + 22), .int 0, .ref (y + 23), .ref (y + 24), .int 0, .ref (y + 25), .int 0, .int 0, .int 0, .int (-1), .int 0, .int 0, .int 0, .long 0]) := ((fr2 y).trans h_2)
  have h_4 : Φ3 (y + 2) = some (ai_ G 307 (upd (upd (upd (upd (upd (upd (upd (upd (upd (upd (upd (upd (upd (upd (upd (upd (upd (upd (upd (upd (upd (fun _ => 0) (0 : Int32).toNatClampNeg 1) (1 : Int32).toNatClampNeg 100) (2 : Int32).toNatClampNeg 1000) (3 : Int32).toNatClampNeg 100) (4 : Int32).toNatClampNeg 20) (5 : Int32).toNatClampNeg 1000) (6 : Int32).toNatClampNeg 5000) (7 : Int32).toNatClampNeg 512) (8 : Int32).toNatClampNeg 1) (9 : Int32).toNatClampNeg 511) (10 : Int32).toNatClampNeg 1) (11 : Int32).toNatClampNeg 9) (15 : Int32).toNatClampNeg 0) (16 : Int32).toNatClampNeg 1) (17 : Int32).toNatClampNeg 2) (18 : Int32).toNatClampNeg 3) (19 : Int32).toNatClampNeg 4) (20 : Int32).toNatClampNeg 5) (21 : Int32).toNatClampNeg 6) (22 : Int32).toNatClampNeg 7) (23 : Int32).toNatClampNeg 8)) := ((fr2 (y + 2)).trans ((fr1 (y + 2)).trans ((fset_fr hΦ1 (ne_off (x := y) (i := 2) (j := 0) rfl)).trans hc2_)))
  refine z_callV (As := [.int 4]) (rest := []) B (m_isSupported_4 G l Φ3 sz y h_3 h_4) (cwV 1 B.1.2.2.2.2 gX12_setSupport_X12_isSupported rfl rfl rfl (by decide +kernel) ⟨Nat.le_of_ble_eq_true rfl, Nat.le_of_ble_eq_true rfl⟩) h_3 rfl rfl rfl rfl (Nat.le_of_ble_eq_true rfl) dX12_setSupport_34 ⟨Nat.le_of_ble_eq_true rfl, Nat.le_of_ble_eq_true rfl⟩ (fun v3 Φ4 sz3 st3 hp3 hs3 => ?_)
  obtain ⟨rfl, hq3, fr3⟩ := hp3
  replace hq3 : sz3 = sz := hq3
  subst sz3
  replace hs3 : st3 = [.int 1] := hs3
  subst st3
  refine z_istore_n (lv' := [(3, .int 1), (0, .ref y), (1, .int 4), (2, .int 0)]) B dX12_setSupport_37 rfl (Nat.le_of_ble_eq_true rfl) rfl ?_
  refine z_iload_n B dX12_setSupport_38 rfl 0 rfl ?_
  refine z_iload_n B dX12_setSupport_39 rfl 3 rfl ?_
  refine z_icmp_ne (tgt := 45) B dX12_setSupport_40 rfl (fun c_3 => ?_) (fun h9 => absurd h9 (by decide))
  refine z_aload_n B dX12_setSupport_45 rfl 1 rfl ?_
  have h_5 : Φ4 y = some (o_ 14 [.int 0, .ref (y + 1), .ref (y + 2), .int 0, .int 1, .int 1, .int 0, .int 0, .ref (y + 3), .ref (y + 4), .int 0, .long 0, .ref (y + 5), .int 0, .int 0, .long 0, .long 0, .long 0, .long 0, .ref (y + 6), .ref (y + 7), .int 0, .ref (y + 8), .int 0, .ref (y + 9), .ref (y + 10), .int 0, .ref (y + 11), .ref (y + 12), .ref (y + 13), .ref (y + 14), .ref (y + 15), .ref (y + 16), .int 0, .long (-1), .ref (y + 17), .ref (y + 18), .ref (y + 19), .ref (y + 20), .ref (y + 21), .ref (y + 22), .int 0, .ref (y + 23), .ref (y + 24), .int 0, .ref (y + 25), .int 0, .int 0, .int 0, .int (-1), .int 0, .int 0, .int 0, .long 0]) := ((fr3 y).trans h_3)
  refine z_get (ref := "FlowExporterModel") (C := RX12) (T := TX12) (N := 54) (ci := 14) (v := .ref (y + 2)) B (by decide +kernel) rfl 2 (by decide) (by decide +kernel) rfl h_5 rfl dX12_setSupport_46 ?_
  refine z_bipush (v := 9) B dX12_setSupport_49 rfl ?_
  refine z_dup2_11 B dX12_setSupport_51 rfl rfl ?_
  have h_6 : Φ4 (y + 2) = some (ai_ G 307 (upd (upd (upd (upd (upd (upd (upd (upd (upd (upd (upd (upd (upd (upd (upd (upd (upd (upd (upd (upd (upd (fun _ => 0) (0 : Int32).toNatClampNeg 1) (1 : Int32).toNatClampNeg 100) (2 : Int32).toNatClampNeg 1000) (3 : Int32).toNatClampNeg 100) (4 : Int32).toNatClampNeg 20) (5 : Int32).toNatClampNeg 1000) (6 : Int32).toNatClampNeg 5000) (7 : Int32).toNatClampNeg 512) (8 : Int32).toNatClampNeg 1) (9 : Int32).toNatClampNeg 511) (10 : Int32).toNatClampNeg 1) (11 : Int32).toNatClampNeg 9) (15 : Int32).toNatClampNeg 0) (16 : Int32).toNatClampNeg 1) (17 : Int32).toNatClampNeg 2) (18 : Int32).toNatClampNeg 3) (19 : Int32).toNatClampNeg 4) (20 : Int32).toNatClampNeg 5) (21 : Int32).toNatClampNeg 6) (22 : Int32).toNatClampNeg 7) (23 : Int32).toNatClampNeg 8)) := ((fr3 (y + 2)).trans h_4)
  refine z_iald B h_6 (vin rfl) dX12_setSupport_52 ?_
  refine z_top (st1 := [.int 511, .int 9, .ref (y + 2)]) (by rfl) ?_
  refine z_iconst (v := 1) B dX12_setSupport_53 rfl ?_
  refine z_iload_n B dX12_setSupport_54 rfl 2 rfl ?_
  refine z_ishl B dX12_setSupport_55 ?_
  refine z_top (st1 := [.int 16, .int 511, .int 9, .ref (y + 2)]) (congrArg (fun w9 : Int32 => ([.int w9, .int 511, .int 9, .ref (y + 2)] : List Value)) (show ((1 : Int32) <<< ((4 : Int32) &&& (31 : Int32)) : Int32) = 16 by decide +kernel)) ?_
  refine z_ixor B dX12_setSupport_56 ?_
  refine z_top (st1 := [.int 495, .int 9, .ref (y + 2)]) (congrArg (fun w9 : Int32 => ([.int w9, .int 9, .ref (y + 2)] : List Value)) (show (511 ^^^ 16 : Int32) = 495 by decide +kernel)) ?_
  refine z_iast B h_6 (Nat.le_trans hna (Nat.le_add_right y 2)) (vin rfl) dX12_setSupport_57 (fun Φ5 hΦ2 => ?_)
  have h_7 : Φ5 (y + 2) = some (ai_ G 307 (upd (upd (upd (upd (upd (upd (upd (upd (upd (upd (upd (upd (upd (upd (upd (upd (upd (upd (upd (upd (upd (upd (fun _ => 0) (0 : Int32).toNatClampNeg 1) (1 : Int32).toNatClampNeg 100) (2 : Int32).toNatClampNeg 1000) (3 : Int32).toNatClampNeg 100) (4 : Int32).toNatClampNeg 20) (5 : Int32).toNatClampNeg 1000) (6 : Int32).toNatClampNeg 5000) (7 : Int32).toNatClampNeg 512) (8 : Int32).toNatClampNeg 1) (9 : Int32).toNatClampNeg 511) (10 : Int32).toNatClampNeg 1) (11 : Int32).toNatClampNeg 9) (15 : Int32).toNatClampNeg 0) (16 : Int32).toNatClampNeg 1) (17 : Int32).toNatClampNeg 2) (18 : Int32).toNatClampNeg 3) (19 : Int32).toNatClampNeg 4) (20 : Int32).toNatClampNeg 5) (21 : Int32).toNatClampNeg 6) (22 : Int32).toNatClampNeg 7) (23 : Int32).toNatClampNeg 8) (9 : Int32).toNatClampNeg 495)) := fset_at hΦ2
  refine z_iconst (v := 0) B dX12_setSupport_58 rfl ?_
  refine z_istore (lv' := [(4, .int 0), (3, .int 1), (0, .ref y), (1, .int 4), (2, .int 0)]) B dX12_setSupport_59 (Nat.le_of_ble_eq_true rfl) rfl ?_
  refine z_iload B dX12_setSupport_61 0 rfl ?_
  refine z_aload_n B dX12_setSupport_63 rfl 2 rfl ?_
  have h_8 : Φ5 y = some (o_ 14 [.int 0, .ref (y + 1), .ref (y + 2), .int 0, .int 1, .int 1, .int 0, .int 0, .ref (y + 3), .ref (y + 4), .int 0, .long 0, .ref (y + 5), .int 0, .int 0, .long 0, .long 0, .long 0, .long 0, .ref (y + 6), .ref (y + 7), .int 0, .ref (y + 8), .int 0, .ref (y + 9), .ref (y + 10), .int 0, .ref (y + 11), .ref (y + 12), .ref (y + 13), .ref (y + 14), .ref (y + 15), .ref (y + 16), .int 0, .long (-1), .ref (y + 17), .ref (y + 18), .ref (y + 19), .ref (y + 20), .ref (y + 21), .ref (y + 22), .int 0, .ref (y + 23), .ref (y + 24), .int 0, .ref (y + 25), .int 0, .int 0, .int 0, .int (-1), .int 0, .int 0, .int 0, .long 0]) := ((fset_fr hΦ2 (ne_off (x := y) (i := 0) (j := 2) rfl)).trans h_5)
  refine z_get (ref := "FlowExporterModel") (C := RX12) (T := TX12) (N := 54) (ci := 14) (v := .ref (y + 2)) B (by decide +kernel) rfl 2 (by decide) (by decide +kernel) rfl h_8 rfl dX12_setSupport_64 ?_
  refine z_bipush (v := 10) B dX12_setSupport_67 rfl ?_
  refine z_iald B h_7 (vin rfl) dX12_setSupport_69 ?_
  refine z_top (st1 := [.int 1, .int 0]) (by rfl) ?_
  refine z_icmp_ge (tgt := 101) B dX12_setSupport_70 rfl (fun h9 => absurd h9 (by decide)) (fun c_4 => ?_)
  refine z_aload_n B dX12_setSupport_73 rfl 2 rfl ?_
  refine z_iload B dX12_setSupport_74 0 rfl ?_
  refine z_callV (As := [.int 0]) (rest := []) B (m_fieldsOf_s G l Φ5 sz y 495 h_8 h_7) (cwV 1 B.1.2.2.2.2 gX12_setSupport_X12_fieldsOf rfl rfl rfl (by decide +kernel) ⟨Nat.le_of_ble_eq_true rfl, Nat.le_of_ble_eq_true rfl⟩) h_8 rfl rfl rfl rfl (Nat.le_of_ble_eq_true rfl) dX12_setSupport_76 ⟨Nat.le_of_ble_eq_true rfl, Nat.le_of_ble_eq_true rfl⟩ (fun v4 Φ6 sz4 st4 hp4 hs4 => ?_)
  obtain ⟨rfl, hq4, fr4⟩ := hp4
  replace hq4 : sz4 = sz := hq4
  subst sz4
  replace hs4 : st4 = [.int 511] := hs4
  subst st4
  refine z_iload_n B dX12_setSupport_79 rfl 3 rfl ?_
  refine z_ishr B dX12_setSupport_80 ?_
  refine z_top (st1 := [.int 31]) (congrArg (fun w9 : Int32 => ([.int w9] : List Value)) (show ((511 : Int32) >>> ((4 : Int32) &&& (31 : Int32)) : Int32) = 31 by decide +kernel)) ?_
  refine z_iconst (v := 1) B dX12_setSupport_81 rfl ?_
  refine z_iand B dX12_setSupport_82 ?_
  refine z_top (st1 := [.int 1]) (congrArg (fun w9 : Int32 => ([.int w9] : List Value)) (show (31 &&& 1 : Int32) = 1 by decide +kernel)) ?_
  refine z_iconst (v := 1) B dX12_setSupport_83 rfl ?_
  refine z_icmp_ne (tgt := 95) B dX12_setSupport_84 rfl (fun h9 => absurd (by decide) h9) (fun c_5 => ?_)
  refine z_aload_n B dX12_setSupport_87 rfl 2 rfl ?_
  have h_9 : Φ6 y = some (o_ 14 [.int 0, .ref (y + 1), .ref (y + 2), .int 0, .int 1, .int 1, .int 0, .int 0, .ref (y + 3), .ref (y + 4), .int 0, .long 0, .ref (y + 5), .int 0, .int 0, .long 0, .long 0, .long 0, .long 0, .ref (y + 6), .ref (y + 7), .int 0, .ref (y + 8), .int 0, .ref (y + 9), .ref (y + 10), .int 0, .ref (y + 11), .ref (y + 12), .ref (y + 13), .ref (y + 14), .ref (y + 15), .ref (y + 16), .int 0, .long (-1), .ref (y + 17), .ref (y + 18), .ref (y + 19), .ref (y + 20), .ref (y + 21), .ref (y + 22), .int 0, .ref (y + 23), .ref (y + 24), .int 0, .ref (y + 25), .int 0, .int 0, .int 0, .int (-1), .int 0, .int 0, .int 0, .long 0]) := ((fr4 y).trans h_8)
  refine z_get (ref := "FlowExporterModel") (C := RX12) (T := TX12) (N := 54) (ci := 14) (v := .ref (y + 3)) B (by decide +kernel) rfl 8 (by decide) (by decide +kernel) rfl h_9 rfl dX12_setSupport_88 ?_
  refine z_iload B dX12_setSupport_91 0 rfl ?_
  refine z_iconst (v := (-1)) B dX12_setSupport_93 rfl ?_
  have h_10 : Φ6 (y + 3) = some (ai_ G 4 (upd (upd (upd (upd (fun _ => 0) (0 : Int32).toNatClampNeg (-1)) (1 : Int32).toNatClampNeg (-1)) (2 : Int32).toNatClampNeg (-1)) (3 : Int32).toNatClampNeg (-1))) := ((fr4 (y + 3)).trans ((fset_fr hΦ2 (ne_off (x := y) (i := 3) (j := 2) rfl)).trans ((fr3 (y + 3)).trans ((fr2 (y + 3)).trans ((fr1 (y + 3)).trans ((fset_fr hΦ1 (ne_off (x := y) (i := 3) (j := 0) rfl)).trans hc3_))))))
  refine z_iast B h_10 (Nat.le_trans hna (Nat.le_add_right y 3)) (vin rfl) dX12_setSupport_94 (fun Φ7 hΦ3 => ?_)
  have h_11 : Φ7 (y + 3) = some (ai_ G 4 (upd (upd (upd (upd (upd (fun _ => 0) (0 : Int32).toNatClampNeg (-1)) (1 : Int32).toNatClampNeg (-1)) (2 : Int32).toNatClampNeg (-1)) (3 : Int32).toNatClampNeg (-1)) (0 : Int32).toNatClampNeg (-1))) := fset_at hΦ3
  refine z_iinc (k := 0) (v := 1) (lv' := [(4, .int 1), (3, .int 1), (0, .ref y), (1, .int 4), (2, .int 0)]) B dX12_setSupport_95 rfl rfl (Nat.le_of_ble_eq_true rfl) rfl ?_
  refine z_goto (tgt := 61) B dX12_setSupport_98 rfl ?_
  refine z_iload B dX12_setSupport_61 0 rfl ?_
  refine z_aload_n B dX12_setSupport_63 rfl 2 rfl ?_
  have h_12 : Φ7 y = some (o_ 14 [.int 0, .ref (y + 1), .ref (y + 2), .int 0, .int 1, .int 1, .int 0, .int 0, .ref (y + 3), .ref (y + 4), .int 0, .long 0, .ref (y + 5), .int 0, .int 0, .long 0, .long 0, .long 0, .long 0, .ref (y + 6), .ref (y + 7), .int 0, .ref (y + 8), .int 0, .ref (y + 9), .ref (y + 10), .int 0, .ref (y + 11), .ref (y + 12), .ref (y + 13), .ref (y + 14), .ref (y + 15), .ref (y + 16), .int 0, .long (-1), .ref (y + 17), .ref (y + 18), .ref (y + 19), .ref (y + 20), .ref (y + 21), .ref (y + 22), .int 0, .ref (y + 23), .ref (y + 24), .int 0, .ref (y + 25), .int 0, .int 0, .int 0, .int (-1), .int 0, .int 0, .int 0, .long 0]) := ((fset_fr hΦ3 (ne_off (x := y) (i := 0) (j := 3) rfl)).trans h_9)
  refine z_get (ref := "FlowExporterModel") (C := RX12) (T := TX12) (N := 54) (ci := 14) (v := .ref (y + 2)) B (by decide +kernel) rfl 2 (by decide) (by decide +kernel) rfl h_12 rfl dX12_setSupport_64 ?_
  refine z_bipush (v := 10) B dX12_setSupport_67 rfl ?_
  have h_13 : Φ7 (y + 2) = some (ai_ G 307 (upd (upd (upd (upd (upd (upd (upd (upd (upd (upd (upd (upd (upd (upd (upd (upd (upd (upd (upd (upd (upd (upd (fun _ => 0) (0 : Int32).toNatClampNeg 1) (1 : Int32).toNatClampNeg 100) (2 : Int32).toNatClampNeg 1000) (3 : Int32).toNatClampNeg 100) (4 : Int32).toNatClampNeg 20) (5 : Int32).toNatClampNeg 1000) (6 : Int32).toNatClampNeg 5000) (7 : Int32).toNatClampNeg 512) (8 : Int32).toNatClampNeg 1) (9 : Int32).toNatClampNeg 511) (10 : Int32).toNatClampNeg 1) (11 : Int32).toNatClampNeg 9) (15 : Int32).toNatClampNeg 0) (16 : Int32).toNatClampNeg 1) (17 : Int32).toNatClampNeg 2) (18 : Int32).toNatClampNeg 3) (19 : Int32).toNatClampNeg 4) (20 : Int32).toNatClampNeg 5) (21 : Int32).toNatClampNeg 6) (22 : Int32).toNatClampNeg 7) (23 : Int32).toNatClampNeg 8) (9 : Int32).toNatClampNeg 495)) := ((fset_fr hΦ3 (ne_off (x := y) (i := 2) (j := 3) rfl)).trans ((fr4 (y + 2)).trans h_7))
  refine z_iald B h_13 (vin rfl) dX12_setSupport_69 ?_
  refine z_top (st1 := [.int 1, .int 1]) (by rfl) ?_
  refine z_icmp_ge (tgt := 101) B dX12_setSupport_70 rfl (fun c_6 => ?_) (fun h9 => absurd (by decide) h9)
  refine z_iload_n B dX12_setSupport_101 rfl 1 rfl ?_
  exact z_ret_z B dX12_setSupport_102 (by decide) ⟨rfl, ⟨_, h_12, rfl⟩, fun b9 h9 => ((fset_fr hΦ3 (Nat.ne_of_gt (Nat.lt_of_lt_of_le (lt_off (x := y) (i := 3) (j := 26) rfl) h9))).trans ((fr4 b9).trans ((fset_fr hΦ2 (Nat.ne_of_gt (Nat.lt_of_lt_of_le (lt_off (x := y) (i := 2) (j := 26) rfl) h9))).trans ((fr3 b9).trans ((fr2 b9).trans ((fr1 b9).trans ((fset_fr hΦ1 (Nat.ne_of_gt (Nat.lt_of_lt_of_le (lt_off (x := y) (i := 0) (j := 26) rfl) h9))).trans rfl)))))))⟩

set_option maxHeartbeats 4000000 in
set_option maxRecDepth 100000 in
theorem m_X12_setSupport_4_1 (G : EnvG) (l : Launch) (Φ : Hm) (sz : Nat) (y : Nat) (hc0_ : Φ y = some (o_ 14 [.int 0, .ref (y + 1), .ref (y + 2), .int 0, .int 1, .int 1, .int 0, .int 0, .ref (y + 3), .ref (y + 4), .int 0, .long 0, .ref (y + 5), .int 0, .int 0, .long 0, .long 0, .long 0, .long 0, .ref (y + 6), .ref (y + 7), .int 0, .ref (y + 8), .int 0, .ref (y + 9), .ref (y + 10), .int 0, .ref (y + 11), .ref (y + 12), .ref (y + 13), .ref (y + 14), .ref (y + 15), .ref (y + 16), .int 0, .long (-1), .ref (y + 17), .ref (y + 18), .ref (y + 19), .ref (y + 20), .ref (y + 21), .ref (y + 22), .int 0, .ref (y + 23), .ref (y + 24), .int 0, .ref (y + 25), .int 0, .int 0, .int 0, .int (-1), .int 0, .int 0, .int 0, .long 0])) (hc2_ : Φ (y + 2) = some (ai_ G 307 (upd (upd (upd (upd (upd (upd (upd (upd (upd (upd (upd (upd (upd (upd (upd (upd (upd (upd (upd (upd (upd (fun _ => 0) (0 : Int32).toNatClampNeg 1) (1 : Int32).toNatClampNeg 100) (2 : Int32).toNatClampNeg 1000) (3 : Int32).toNatClampNeg 100) (4 : Int32).toNatClampNeg 20) (5 : Int32).toNatClampNeg 1000) (6 : Int32).toNatClampNeg 5000) (7 : Int32).toNatClampNeg 512) (8 : Int32).toNatClampNeg 1) (9 : Int32).toNatClampNeg 511) (10 : Int32).toNatClampNeg 1) (11 : Int32).toNatClampNeg 9) (15 : Int32).toNatClampNeg 0) (16 : Int32).toNatClampNeg 1) (17 : Int32).toNatClampNeg 2) (18 : Int32).toNatClampNeg 3) (19 : Int32).toNatClampNeg 4) (20 : Int32).toNatClampNeg 5) (21 : Int32).toNatClampNeg 6) (22 : Int32).toNatClampNeg 7) (23 : Int32).toNatClampNeg 8))) (hna : G.2.2.2 ≤ y) : Ct G l yX12_setSupport wsX12_setSupport ({ frames := 1, cells := 0, slots := 0, locals := 25 }) 0 0 [.ref y, .int 4, .int 1] Φ sz (fun v Φ1 sz1 => v = some (.int 1) ∧ (∃ fs : List Value, Φ1 y = some (o_ 14 fs) ∧ fs[0]? = some (.int 0)) ∧ ∀ b9 : Nat, y + 26 ≤ b9 → Φ1 b9 = Φ b9) := by
  refine Ct.of (cc := cX12_setSupport) (maxL := 5) (ret := (some .boolean)) (by decide) rfl (Nat.le_of_ble_eq_true rfl) ?_
  intro p9 e9 s9 m9 w9 t9 k9 B
  show Z p9 l e9 _ s9 m9 _ w9 t9 k9 _ G 5 0 [(0, .ref y), (1, .int 4), (2, .int 1)] [] Φ sz 0 0
  refine z_aload_n B dX12_setSupport_0 rfl 0 rfl ?_
  refine z_iconst (v := 0) B dX12_setSupport_1 rfl ?_
  refine z_put (ref := "FlowExporterModel") (C := RX12) (T := TX12) (N := 54) (ci := 14) (v := .int 0) B (by decide +kernel) tyX12 tyX12_ok nmX12 rfl 0 (by decide) (by decide +kernel) rfl (Or.inl rfl) hc0_ hna rfl rfl (Nat.le_of_ble_eq_true rfl) dX12_setSupport_2 (fun Φ1 hΦ1 => ?_)
  have h_1 : Φ1 y = some (o_ 14 [.int 0, .ref (y + 1), .ref (y + 2), .int 0, .int 1, .int 1, .int 0, .int 0, .ref (y + 3), .ref (y + 4), .int 0, .long 0, .ref (y + 5), .int 0, .int 0, .long 0, .long 0, .long 0, .long 0, .ref (y + 6), .ref (y + 7), .int 0, .ref (y + 8), .int 0, .ref (y + 9), .ref (y + 10), .int 0, .ref (y + 11), .ref (y + 12), .ref (y + 13), .ref (y + 14), .ref (y + 15), .ref (y + 16), .int 0, .long (-1), .ref (y + 17), .ref (y + 18), .ref (y + 19), .ref (y + 20), .ref (y + 21), .ref (y + 22), .int 0, .ref (y + 23), .ref (y + 24), .int 0, .ref (y + 25), .int 0, .int 0, .int 0, .int (-1), .int 0, .int 0, .int 0, .long 0]) := fset_at hΦ1
  refine z_aload_n B dX12_setSupport_5 rfl 0 rfl ?_
  refine z_iload_n B dX12_setSupport_6 rfl 1 rfl ?_
  refine z_i2l (v := 4) B dX12_setSupport_7 (by decide +kernel) ?_
  refine z_lconst (v := 0) B dX12_setSupport_8 rfl ?_
  refine z_ldc2 (v := 8) B (by decide +kernel) dX12_setSupport_9 ?_
  refine z_callS (As := [.long 4, .long 0, .long 8]) (rest := [.ref y]) B (c_X12_inRange_1 G l Φ1 sz 4 0 8 ⟨by decide +kernel, by decide +kernel⟩) (va_cwS 3 B.1.2.2.2.2 gX12_setSupport_X12_inRange rfl rfl rfl (by decide +kernel) ⟨Nat.le_of_ble_eq_true rfl, Nat.le_of_ble_eq_true rfl⟩) rfl rfl (Nat.le_of_ble_eq_true rfl) dX12_setSupport_12 ⟨Nat.le_of_ble_eq_true rfl, Nat.le_of_ble_eq_true rfl⟩ (fun v1 Φ2 sz1 st1 hp1 hs1 => ?_)
  obtain ⟨rfl, hq1, fr1⟩ := hp1
  replace hq1 : sz1 = sz := hq1
  subst sz1
  replace hs1 : st1 = [.int 1, .ref y] := hs1
  subst st1
  refine z_if_ne (tgt := 22) B dX12_setSupport_15 rfl (fun c_1 => ?_) (fun h9 => absurd h9 (by decide))
  refine z_iconst (v := 0) B dX12_setSupport_22 rfl ?_
  refine z_iconst (v := 1) B dX12_setSupport_23 rfl ?_
  have h_2 : Φ2 y = some (o_ 14 [.int 0, .ref (y + 1), .ref (y + 2), .int 0, .int 1, .int 1, .int 0, .int 0, .ref (y + 3), .ref (y + 4), .int 0, .long 0, .ref (y + 5), .int 0, .int 0, .long 0, .long 0, .long 0, .long 0, .ref (y + 6), .ref (y + 7), .int 0, .ref (y + 8), .int 0, .ref (y + 9), .ref (y + 10), .int 0, .ref (y + 11), .ref (y + 12), .ref (y + 13), .ref (y + 14), .ref (y + 15), .ref (y + 16), .int 0, .long (-1), .ref (y + 17), .ref (y + 18), .ref (y + 19), .ref (y + 20), .ref (y + 21), .ref (y + 22), .int 0, .ref (y + 23), .ref (y + 24), .int 0, .ref (y + 25), .int 0, .int 0, .int 0, .int (-1), .int 0, .int 0, .int 0, .long 0]) := ((fr1 y).trans h_1)
  refine z_callV (As := [.int 0, .int 1]) (rest := []) B (c_X12_throwsIf_0 G l Φ2 sz y 0 0 1 1 0 0 0 0 0 0 0 0 0 0 0 0 0 0 (-1) 0 0 0 0 0 (-1) 0 0 0 0 1 h_2 hna) (cwV 2 B.1.2.2.2.2 gX12_setSupport_X12_throwsIf rfl rfl rfl (by decide +kernel) ⟨Nat.le_of_ble_eq_true rfl, Nat.le_of_ble_eq_true rfl⟩) h_2 rfl rfl rfl rfl (Nat.le_of_ble_eq_true rfl) dX12_setSupport_24 ⟨Nat.le_of_ble_eq_true rfl, Nat.le_of_ble_eq_true rfl⟩ (fun v2 Φ3 sz2 st2 hp2 hs2 => ?_)
  obtain ⟨rfl, hq2, fr2⟩ := hp2
  replace hq2 : sz2 = sz := hq2
  subst sz2
  replace hs2 : st2 = [.int 0] := hs2
  subst st2
  refine z_if_eq (tgt := 32) B dX12_setSupport_27 rfl (fun c_2 => ?_) (fun h9 => absurd (by decide) h9)
  refine z_aload_n B dX12_setSupport_32 rfl 0 rfl ?_
  refine z_iload_n B dX12_setSupport_33 rfl 1 rfl ?_
  have h_3 : Φ3 y = some (o_ 14 [.int 0, .ref (y + 1), .ref (y + 2), .int 0, .int 1, .int 1, .int 0, .int 0, .ref (y + 3), .ref (y + 4), .int 0, .long 0, .ref (y + 5), .int 0, .int 0, .long 0, .long 0, .long 0, .long 0, .ref (y + 6), .ref (y + 7), .int 0, .ref (y + 8), .int 0, .ref (y + 9), .ref (y + 10), .int 0, .ref (y + 11), .ref (y + 12), .ref (y + 13), .ref (y + 14), .ref (y + 15), .ref (y + 16), .int 0, .long (-1), .ref (y + 17), .ref (y + 18), .ref (y + 19), .ref (y + 20), .ref (y + 21), .ref (y + 22), .int 0, .ref (y + 23), .ref (y + 24), .int 0, .ref (y + 25), .int 0, .int 0, .int 0, .int (-1), .int 0, .int 0, .int 0, .long 0]) := ((fr2 y).trans h_2)
  have h_4 : Φ3 (y + 2) = some (ai_ G 307 (upd (upd (upd (upd (upd (upd (upd (upd (upd (upd (upd (upd (upd (upd (upd (upd (upd (upd (upd (upd (upd (fun _ => 0) (0 : Int32).toNatClampNeg 1) (1 : Int32).toNatClampNeg 100) (2 : Int32).toNatClampNeg 1000) (3 : Int32).toNatClampNeg 100) (4 : Int32).toNatClampNeg 20) (5 : Int32).toNatClampNeg 1000) (6 : Int32).toNatClampNeg 5000) (7 : Int32).toNatClampNeg 512) (8 : Int32).toNatClampNeg 1) (9 : Int32).toNatClampNeg 511) (10 : Int32).toNatClampNeg 1) (11 : Int32).toNatClampNeg 9) (15 : Int32).toNatClampNeg 0) (16 : Int32).toNatClampNeg 1) (17 : Int32).toNatClampNeg 2) (18 : Int32).toNatClampNeg 3) (19 : Int32).toNatClampNeg 4) (20 : Int32).toNatClampNeg 5) (21 : Int32).toNatClampNeg 6) (22 : Int32).toNatClampNeg 7) (23 : Int32).toNatClampNeg 8)) := ((fr2 (y + 2)).trans ((fr1 (y + 2)).trans ((fset_fr hΦ1 (ne_off (x := y) (i := 2) (j := 0) rfl)).trans hc2_)))
  refine z_callV (As := [.int 4]) (rest := []) B (m_isSupported_4 G l Φ3 sz y h_3 h_4) (cwV 1 B.1.2.2.2.2 gX12_setSupport_X12_isSupported rfl rfl rfl (by decide +kernel) ⟨Nat.le_of_ble_eq_true rfl, Nat.le_of_ble_eq_true rfl⟩) h_3 rfl rfl rfl rfl (Nat.le_of_ble_eq_true rfl) dX12_setSupport_34 ⟨Nat.le_of_ble_eq_true rfl, Nat.le_of_ble_eq_true rfl⟩ (fun v3 Φ4 sz3 st3 hp3 hs3 => ?_)
  obtain ⟨rfl, hq3, fr3⟩ := hp3
  replace hq3 : sz3 = sz := hq3
  subst sz3
  replace hs3 : st3 = [.int 1] := hs3
  subst st3
  refine z_istore_n (lv' := [(3, .int 1), (0, .ref y), (1, .int 4), (2, .int 1)]) B dX12_setSupport_37 rfl (Nat.le_of_ble_eq_true rfl) rfl ?_
  refine z_iload_n B dX12_setSupport_38 rfl 0 rfl ?_
  refine z_iload_n B dX12_setSupport_39 rfl 3 rfl ?_
  refine z_icmp_ne (tgt := 45) B dX12_setSupport_40 rfl (fun h9 => absurd (by decide) h9) (fun c_3 => ?_)
  refine z_iload_n B dX12_setSupport_43 rfl 0 rfl ?_
  have h_5 : Φ4 y = some (o_ 14 [.int 0, .ref (y + 1), .ref (y + 2), .int 0, .int 1, .int 1, .int 0, .int 0, .ref (y + 3), .ref (y + 4), .int 0, .long 0, .ref (y + 5), .int 0, .int 0, .long 0, .long 0, .long 0, .long 0, .ref (y + 6), .ref (y + 7), .int 0, .ref (y + 8), .int 0, .ref (y + 9), .ref (y + 10), .int 0, .ref (y + 11), .ref (y + 12), .ref (y + 13), .ref (y + 14), .ref (y + 15), .ref (y + 16), .int 0, .long (-1), .ref (y + 17), .ref (y + 18), .ref (y + 19), .ref (y + 20), .ref (y + 21), .ref (y + 22), .int 0, .ref (y + 23), .ref (y + 24), .int 0, .ref (y + 25), .int 0, .int 0, .int 0, .int (-1), .int 0, .int 0, .int 0, .long 0]) := ((fr3 y).trans h_3)
  exact z_ret_z B dX12_setSupport_44 (by decide) ⟨rfl, ⟨_, h_5, rfl⟩, fun b9 h9 => ((fr3 b9).trans ((fr2 b9).trans ((fr1 b9).trans ((fset_fr hΦ1 (Nat.ne_of_gt (Nat.lt_of_lt_of_le (lt_off (x := y) (i := 0) (j := 26) rfl) h9))).trans rfl))))⟩

set_option maxHeartbeats 4000000 in
set_option maxRecDepth 100000 in
theorem m_isSupported_5 (G : EnvG) (l : Launch) (Φ : Hm) (sz : Nat) (y : Nat) (hc0_ : Φ y = some (o_ 14 [.int 0, .ref (y + 1), .ref (y + 2), .int 0, .int 1, .int 1, .int 0, .int 0, .ref (y + 3), .ref (y + 4), .int 0, .long 0, .ref (y + 5), .int 0, .int 0, .long 0, .long 0, .long 0, .long 0, .ref (y + 6), .ref (y + 7), .int 0, .ref (y + 8), .int 0, .ref (y + 9), .ref (y + 10), .int 0, .ref (y + 11), .ref (y + 12), .ref (y + 13), .ref (y + 14), .ref (y + 15), .ref (y + 16), .int 0, .long (-1), .ref (y + 17), .ref (y + 18), .ref (y + 19), .ref (y + 20), .ref (y + 21), .ref (y + 22), .int 0, .ref (y + 23), .ref (y + 24), .int 0, .ref (y + 25), .int 0, .int 0, .int 0, .int (-1), .int 0, .int 0, .int 0, .long 0])) (hc2_ : Φ (y + 2) = some (ai_ G 307 (upd (upd (upd (upd (upd (upd (upd (upd (upd (upd (upd (upd (upd (upd (upd (upd (upd (upd (upd (upd (upd (fun _ => 0) (0 : Int32).toNatClampNeg 1) (1 : Int32).toNatClampNeg 100) (2 : Int32).toNatClampNeg 1000) (3 : Int32).toNatClampNeg 100) (4 : Int32).toNatClampNeg 20) (5 : Int32).toNatClampNeg 1000) (6 : Int32).toNatClampNeg 5000) (7 : Int32).toNatClampNeg 512) (8 : Int32).toNatClampNeg 1) (9 : Int32).toNatClampNeg 511) (10 : Int32).toNatClampNeg 1) (11 : Int32).toNatClampNeg 9) (15 : Int32).toNatClampNeg 0) (16 : Int32).toNatClampNeg 1) (17 : Int32).toNatClampNeg 2) (18 : Int32).toNatClampNeg 3) (19 : Int32).toNatClampNeg 4) (20 : Int32).toNatClampNeg 5) (21 : Int32).toNatClampNeg 6) (22 : Int32).toNatClampNeg 7) (23 : Int32).toNatClampNeg 8))) : Ct G l yX12_isSupported wsX12_isSupported ({ frames := 0, cells := 0, slots := 0, locals := 0 }) 0 0 [.ref y, .int 5] Φ sz (fun v Φ1 sz1 => v = some (.int 1) ∧ sz1 = sz ∧ (∀ b9 : Nat, Φ1 b9 = Φ b9)) := by
  refine Ct.of (cc := cX12_isSupported) (maxL := 2) (ret := (some .boolean)) (by decide) rfl (Nat.le_of_ble_eq_true rfl) ?_
  intro p9 e9 s9 m9 w9 t9 k9 B
  show Z p9 l e9 _ s9 m9 _ w9 t9 k9 _ G 2 0 [(0, .ref y), (1, .int 5)] [] Φ sz 0 0
  refine z_aload_n B dX12_isSupported_0 rfl 0 rfl ?_
  refine z_get (ref := "FlowExporterModel") (C := RX12) (T := TX12) (N := 54) (ci := 14) (v := .ref (y + 2)) B (by decide +kernel) rfl 2 (by decide) (by decide +kernel) rfl hc0_ rfl dX12_isSupported_1 ?_
  refine z_bipush (v := 9) B dX12_isSupported_4 rfl ?_
  refine z_iald B hc2_ (vin rfl) dX12_isSupported_6 ?_
  refine z_top (st1 := [.int 511]) (by rfl) ?_
  refine z_iload_n B dX12_isSupported_7 rfl 1 rfl ?_
  refine z_ishr B dX12_isSupported_8 ?_
  refine z_top (st1 := [.int 15]) (congrArg (fun w9 : Int32 => ([.int w9] : List Value)) (show ((511 : Int32) >>> ((5 : Int32) &&& (31 : Int32)) : Int32) = 15 by decide +kernel)) ?_
  refine z_iconst (v := 1) B dX12_isSupported_9 rfl ?_
  refine z_iand B dX12_isSupported_10 ?_
  refine z_top (st1 := [.int 1]) (congrArg (fun w9 : Int32 => ([.int w9] : List Value)) (show (15 &&& 1 : Int32) = 1 by decide +kernel)) ?_
  refine z_iconst (v := 1) B dX12_isSupported_11 rfl ?_
  refine z_icmp_ne (tgt := 19) B dX12_isSupported_12 rfl (fun h9 => absurd (by decide) h9) (fun c_1 => ?_)
  refine z_iconst (v := 1) B dX12_isSupported_15 rfl ?_
  refine z_goto (tgt := 20) B dX12_isSupported_16 rfl ?_
  exact z_ret_z B dX12_isSupported_20 (by decide) ⟨rfl, rfl, (fun b9 => rfl)⟩

set_option maxHeartbeats 4000000 in
set_option maxRecDepth 100000 in
theorem m_X12_setSupport_5_0 (G : EnvG) (l : Launch) (Φ : Hm) (sz : Nat) (y : Nat) (hc0_ : Φ y = some (o_ 14 [.int 0, .ref (y + 1), .ref (y + 2), .int 0, .int 1, .int 1, .int 0, .int 0, .ref (y + 3), .ref (y + 4), .int 0, .long 0, .ref (y + 5), .int 0, .int 0, .long 0, .long 0, .long 0, .long 0, .ref (y + 6), .ref (y + 7), .int 0, .ref (y + 8), .int 0, .ref (y + 9), .ref (y + 10), .int 0, .ref (y + 11), .ref (y + 12), .ref (y + 13), .ref (y + 14), .ref (y + 15), .ref (y + 16), .int 0, .long (-1), .ref (y + 17), .ref (y + 18), .ref (y + 19), .ref (y + 20), .ref (y + 21), .ref (y + 22), .int 0, .ref (y + 23), .ref (y + 24), .int 0, .ref (y + 25), .int 0, .int 0, .int 0, .int (-1), .int 0, .int 0, .int 0, .long 0])) (hc2_ : Φ (y + 2) = some (ai_ G 307 (upd (upd (upd (upd (upd (upd (upd (upd (upd (upd (upd (upd (upd (upd (upd (upd (upd (upd (upd (upd (upd (fun _ => 0) (0 : Int32).toNatClampNeg 1) (1 : Int32).toNatClampNeg 100) (2 : Int32).toNatClampNeg 1000) (3 : Int32).toNatClampNeg 100) (4 : Int32).toNatClampNeg 20) (5 : Int32).toNatClampNeg 1000) (6 : Int32).toNatClampNeg 5000) (7 : Int32).toNatClampNeg 512) (8 : Int32).toNatClampNeg 1) (9 : Int32).toNatClampNeg 511) (10 : Int32).toNatClampNeg 1) (11 : Int32).toNatClampNeg 9) (15 : Int32).toNatClampNeg 0) (16 : Int32).toNatClampNeg 1) (17 : Int32).toNatClampNeg 2) (18 : Int32).toNatClampNeg 3) (19 : Int32).toNatClampNeg 4) (20 : Int32).toNatClampNeg 5) (21 : Int32).toNatClampNeg 6) (22 : Int32).toNatClampNeg 7) (23 : Int32).toNatClampNeg 8))) (hc3_ : Φ (y + 3) = some (ai_ G 4 (upd (upd (upd (upd (fun _ => 0) (0 : Int32).toNatClampNeg (-1)) (1 : Int32).toNatClampNeg (-1)) (2 : Int32).toNatClampNeg (-1)) (3 : Int32).toNatClampNeg (-1)))) (hna : G.2.2.2 ≤ y) : Ct G l yX12_setSupport wsX12_setSupport ({ frames := 2, cells := 0, slots := 0, locals := 45 }) 0 0 [.ref y, .int 5, .int 0] Φ sz (fun v Φ1 sz1 => v = some (.int 1) ∧ (∃ fs : List Value, Φ1 y = some (o_ 14 fs) ∧ fs[0]? = some (.int 0)) ∧ ∀ b9 : Nat, y + 26 ≤ b9 → Φ1 b9 = Φ b9) := by
  refine Ct.of (cc := cX12_setSupport) (maxL := 5) (ret := (some .boolean)) (by decide) rfl (Nat.le_of_ble_eq_true rfl) ?_
  intro p9 e9 s9 m9 w9 t9 k9 B
  show Z p9 l e9 _ s9 m9 _ w9 t9 k9 _ G 5 0 [(0, .ref y), (1, .int 5), (2, .int 0)] [] Φ sz 0 0
  refine z_aload_n B dX12_setSupport_0 rfl 0 rfl ?_
  refine z_iconst (v := 0) B dX12_setSupport_1 rfl ?_
  refine z_put (ref := "FlowExporterModel") (C := RX12) (T := TX12) (N := 54) (ci := 14) (v := .int 0) B (by decide +kernel) tyX12 tyX12_ok nmX12 rfl 0 (by decide) (by decide +kernel) rfl (Or.inl rfl) hc0_ hna rfl rfl (Nat.le_of_ble_eq_true rfl) dX12_setSupport_2 (fun Φ1 hΦ1 => ?_)
  have h_1 : Φ1 y = some (o_ 14 [.int 0, .ref (y + 1), .ref (y + 2), .int 0, .int 1, .int 1, .int 0, .int 0, .ref (y + 3), .ref (y + 4), .int 0, .long 0, .ref (y + 5), .int 0, .int 0, .long 0, .long 0, .long 0, .long 0, .ref (y + 6), .ref (y + 7), .int 0, .ref (y + 8), .int 0, .ref (y + 9), .ref (y + 10), .int 0, .ref (y + 11), .ref (y + 12), .ref (y + 13), .ref (y + 14), .ref (y + 15), .ref (y + 16), .int 0, .long (-1), .ref (y + 17), .ref (y + 18), .ref (y + 19), .ref (y + 20), .ref (y + 21), .ref (y + 22), .int 0, .ref (y + 23), .ref (y + 24), .int 0, .ref (y + 25), .int 0, .int 0, .int 0, .int (-1), .int 0, .int 0, .int 0, .long 0]) := fset_at hΦ1
  refine z_aload_n B dX12_setSupport_5 rfl 0 rfl ?_
  refine z_iload_n B dX12_setSupport_6 rfl 1 rfl ?_
  refine z_i2l (v := 5) B dX12_setSupport_7 (by decide +kernel) ?_
  refine z_lconst (v := 0) B dX12_setSupport_8 rfl ?_
  refine z_ldc2 (v := 8) B (by decide +kernel) dX12_setSupport_9 ?_
  refine z_callS (As := [.long 5, .long 0, .long 8]) (rest := [.ref y]) B (c_X12_inRange_1 G l Φ1 sz 5 0 8 ⟨by decide +kernel, by decide +kernel⟩) (va_cwS 3 B.1.2.2.2.2 gX12_setSupport_X12_inRange rfl rfl rfl (by decide +kernel) ⟨Nat.le_of_ble_eq_true rfl, Nat.le_of_ble_eq_true rfl⟩) rfl rfl (Nat.le_of_ble_eq_true rfl) dX12_setSupport_12 ⟨Nat.le_of_ble_eq_true rfl, Nat.le_of_ble_eq_true rfl⟩ (fun v1 Φ2 sz1 st1 hp1 hs1 => ?_)
  obtain ⟨rfl, hq1, fr1⟩ := hp1
  replace hq1 : sz1 = sz := hq1
  subst sz1
  replace hs1 : st1 = [.int 1, .ref y] := hs1
  subst st1
  refine z_if_ne (tgt := 22) B dX12_setSupport_15 rfl (fun c_1 => ?_) (fun h9 => absurd h9 (by decide))
  refine z_iconst (v := 0) B dX12_setSupport_22 rfl ?_
  refine z_iconst (v := 1) B dX12_setSupport_23 rfl ?_
  have h_2 : Φ2 y = some (o_ 14 [.int 0, .ref (y + 1), .ref (y + 2), .int 0, .int 1, .int 1, .int 0, .int 0, .ref (y + 3), .ref (y + 4), .int 0, .long 0, .ref (y + 5), .int 0, .int 0, .long 0, .long 0, .long 0, .long 0, .ref (y + 6), .ref (y + 7), .int 0, .ref (y + 8), .int 0, .ref (y + 9), .ref (y + 10), .int 0, .ref (y + 11), .ref (y + 12), .ref (y + 13), .ref (y + 14), .ref (y + 15), .ref (y + 16), .int 0, .long (-1), .ref (y + 17), .ref (y + 18), .ref (y + 19), .ref (y + 20), .ref (y + 21), .ref (y + 22), .int 0, .ref (y + 23), .ref (y + 24), .int 0, .ref (y + 25), .int 0, .int 0, .int 0, .int (-1), .int 0, .int 0, .int 0, .long 0]) := ((fr1 y).trans h_1)
  refine z_callV (As := [.int 0, .int 1]) (rest := []) B (c_X12_throwsIf_0 G l Φ2 sz y 0 0 1 1 0 0 0 0 0 0 0 0 0 0 0 0 0 0 (-1) 0 0 0 0 0 (-1) 0 0 0 0 1 h_2 hna) (cwV 2 B.1.2.2.2.2 gX12_setSupport_X12_throwsIf rfl rfl rfl (by decide +kernel) ⟨Nat.le_of_ble_eq_true rfl, Nat.le_of_ble_eq_true rfl⟩) h_2 rfl rfl rfl rfl (Nat.le_of_ble_eq_true rfl) dX12_setSupport_24 ⟨Nat.le_of_ble_eq_true rfl, Nat.le_of_ble_eq_true rfl⟩ (fun v2 Φ3 sz2 st2 hp2 hs2 => ?_)
  obtain ⟨rfl, hq2, fr2⟩ := hp2
  replace hq2 : sz2 = sz := hq2
  subst sz2
  replace hs2 : st2 = [.int 0] := hs2
  subst st2
  refine z_if_eq (tgt := 32) B dX12_setSupport_27 rfl (fun c_2 => ?_) (fun h9 => absurd (by decide) h9)
  refine z_aload_n B dX12_setSupport_32 rfl 0 rfl ?_
  refine z_iload_n B dX12_setSupport_33 rfl 1 rfl ?_
  have h_3 : Φ3 y = some (o_ 14 [.int 0, .ref (y + 1), .ref (y + 2), .int 0, .int 1, .int 1, .int 0, .int 0, .ref (y + 3), .ref (y + 4), .int 0, .long 0, .ref (y + 5), .int 0, .int 0, .long 0, .long 0, .long 0, .long 0, .ref (y + 6), .ref (y + 7), .int 0, .ref (y + 8), .int 0, .ref (y + 9), .ref (y + 10), .int 0, .ref (y + 11), .ref (y + 12), .ref (y + 13), .ref (y + 14), .ref (y + 15), .ref (y + 16), .int 0, .long (-1), .ref (y + 17), .ref (y + 18), .ref (y + 19), .ref (y + 20), .ref (y + 21), .ref (y + 22), .int 0, .ref (y + 23), .ref (y + 24), .int 0, .ref (y + 25), .int 0, .int 0, .int 0, .int (-1), .int 0, .int 0, .int 0, .long 0]) := ((fr2 y).trans h_2)
  have h_4 : Φ3 (y + 2) = some (ai_ G 307 (upd (upd (upd (upd (upd (upd (upd (upd (upd (upd (upd (upd (upd (upd (upd (upd (upd (upd (upd (upd (upd (fun _ => 0) (0 : Int32).toNatClampNeg 1) (1 : Int32).toNatClampNeg 100) (2 : Int32).toNatClampNeg 1000) (3 : Int32).toNatClampNeg 100) (4 : Int32).toNatClampNeg 20) (5 : Int32).toNatClampNeg 1000) (6 : Int32).toNatClampNeg 5000) (7 : Int32).toNatClampNeg 512) (8 : Int32).toNatClampNeg 1) (9 : Int32).toNatClampNeg 511) (10 : Int32).toNatClampNeg 1) (11 : Int32).toNatClampNeg 9) (15 : Int32).toNatClampNeg 0) (16 : Int32).toNatClampNeg 1) (17 : Int32).toNatClampNeg 2) (18 : Int32).toNatClampNeg 3) (19 : Int32).toNatClampNeg 4) (20 : Int32).toNatClampNeg 5) (21 : Int32).toNatClampNeg 6) (22 : Int32).toNatClampNeg 7) (23 : Int32).toNatClampNeg 8)) := ((fr2 (y + 2)).trans ((fr1 (y + 2)).trans ((fset_fr hΦ1 (ne_off (x := y) (i := 2) (j := 0) rfl)).trans hc2_)))
  refine z_callV (As := [.int 5]) (rest := []) B (m_isSupported_5 G l Φ3 sz y h_3 h_4) (cwV 1 B.1.2.2.2.2 gX12_setSupport_X12_isSupported rfl rfl rfl (by decide +kernel) ⟨Nat.le_of_ble_eq_true rfl, Nat.le_of_ble_eq_true rfl⟩) h_3 rfl rfl rfl rfl (Nat.le_of_ble_eq_true rfl) dX12_setSupport_34 ⟨Nat.le_of_ble_eq_true rfl, Nat.le_of_ble_eq_true rfl⟩ (fun v3 Φ4 sz3 st3 hp3 hs3 => ?_)
  obtain ⟨rfl, hq3, fr3⟩ := hp3
  replace hq3 : sz3 = sz := hq3
  subst sz3
  replace hs3 : st3 = [.int 1] := hs3
  subst st3
  refine z_istore_n (lv' := [(3, .int 1), (0, .ref y), (1, .int 5), (2, .int 0)]) B dX12_setSupport_37 rfl (Nat.le_of_ble_eq_true rfl) rfl ?_
  refine z_iload_n B dX12_setSupport_38 rfl 0 rfl ?_
  refine z_iload_n B dX12_setSupport_39 rfl 3 rfl ?_
  refine z_icmp_ne (tgt := 45) B dX12_setSupport_40 rfl (fun c_3 => ?_) (fun h9 => absurd h9 (by decide))
  refine z_aload_n B dX12_setSupport_45 rfl 1 rfl ?_
  have h_5 : Φ4 y = some (o_ 14 [.int 0, .ref (y + 1), .ref (y + 2), .int 0, .int 1, .int 1, .int 0, .int 0, .ref (y + 3), .ref (y + 4), .int 0, .long 0, .ref (y + 5), .int 0, .int 0, .long 0, .long 0, .long 0, .long 0, .ref (y + 6), .ref (y + 7), .int 0, .ref (y + 8), .int 0, .ref (y + 9), .ref (y + 10), .int 0, .ref (y + 11), .ref (y + 12), .ref (y + 13), .ref (y + 14), .ref (y + 15), .ref (y + 16), .int 0, .long (-1), .ref (y + 17), .ref (y + 18), .ref (y + 19), .ref (y + 20), .ref (y + 21), .ref (y + 22), .int 0, .ref (y + 23), .ref (y + 24), .int 0, .ref (y + 25), .int 0, .int 0, .int 0, .int (-1), .int 0, .int 0, .int 0, .long 0]) := ((fr3 y).trans h_3)
  refine z_get (ref := "FlowExporterModel") (C := RX12) (T := TX12) (N := 54) (ci := 14) (v := .ref (y + 2)) B (by decide +kernel) rfl 2 (by decide) (by decide +kernel) rfl h_5 rfl dX12_setSupport_46 ?_
  refine z_bipush (v := 9) B dX12_setSupport_49 rfl ?_
  refine z_dup2_11 B dX12_setSupport_51 rfl rfl ?_
  have h_6 : Φ4 (y + 2) = some (ai_ G 307 (upd (upd (upd (upd (upd (upd (upd (upd (upd (upd (upd (upd (upd (upd (upd (upd (upd (upd (upd (upd (upd (fun _ => 0) (0 : Int32).toNatClampNeg 1) (1 : Int32).toNatClampNeg 100) (2 : Int32).toNatClampNeg 1000) (3 : Int32).toNatClampNeg 100) (4 : Int32).toNatClampNeg 20) (5 : Int32).toNatClampNeg 1000) (6 : Int32).toNatClampNeg 5000) (7 : Int32).toNatClampNeg 512) (8 : Int32).toNatClampNeg 1) (9 : Int32).toNatClampNeg 511) (10 : Int32).toNatClampNeg 1) (11 : Int32).toNatClampNeg 9) (15 : Int32).toNatClampNeg 0) (16 : Int32).toNatClampNeg 1) (17 : Int32).toNatClampNeg 2) (18 : Int32).toNatClampNeg 3) (19 : Int32).toNatClampNeg 4) (20 : Int32).toNatClampNeg 5) (21 : Int32).toNatClampNeg 6) (22 : Int32).toNatClampNeg 7) (23 : Int32).toNatClampNeg 8)) := ((fr3 (y + 2)).trans h_4)
  refine z_iald B h_6 (vin rfl) dX12_setSupport_52 ?_
  refine z_top (st1 := [.int 511, .int 9, .ref (y + 2)]) (by rfl) ?_
  refine z_iconst (v := 1) B dX12_setSupport_53 rfl ?_
  refine z_iload_n B dX12_setSupport_54 rfl 2 rfl ?_
  refine z_ishl B dX12_setSupport_55 ?_
  refine z_top (st1 := [.int 32, .int 511, .int 9, .ref (y + 2)]) (congrArg (fun w9 : Int32 => ([.int w9, .int 511, .int 9, .ref (y + 2)] : List Value)) (show ((1 : Int32) <<< ((5 : Int32) &&& (31 : Int32)) : Int32) = 32 by decide +kernel)) ?_
  refine z_ixor B dX12_setSupport_56 ?_
  refine z_top (st1 := [.int 479, .int 9, .ref (y + 2)]) (congrArg (fun w9 : Int32 => ([.int w9, .int 9, .ref (y + 2)] : List Value)) (show (511 ^^^ 32 : Int32) = 479 by decide +kernel)) ?_
  refine z_iast B h_6 (Nat.le_trans hna (Nat.le_add_right y 2)) (vin rfl) dX12_setSupport_57 (fun Φ5 hΦ2 => ?_)
  have h_7 : Φ5 (y + 2) = some (ai_ G 307 (upd (upd (upd (upd (upd (upd (upd (upd (upd (upd (upd (upd (upd (upd (upd (upd (upd (upd (upd (upd (upd (upd (fun _ => 0) (0 : Int32).toNatClampNeg 1) (1 : Int32).toNatClampNeg 100) (2 : Int32).toNatClampNeg 1000) (3 : Int32).toNatClampNeg 100) (4 : Int32).toNatClampNeg 20) (5 : Int32).toNatClampNeg 1000) (6 : Int32).toNatClampNeg 5000) (7 : Int32).toNatClampNeg 512) (8 : Int32).toNatClampNeg 1) (9 : Int32).toNatClampNeg 511) (10 : Int32).toNatClampNeg 1) (11 : Int32).toNatClampNeg 9) (15 : Int32).toNatClampNeg 0) (16 : Int32).toNatClampNeg 1) (17 : Int32).toNatClampNeg 2) (18 : Int32).toNatClampNeg 3) (19 : Int32).toNatClampNeg 4) (20 : Int32).toNatClampNeg 5) (21 : Int32).toNatClampNeg 6) (22 : Int32).toNatClampNeg 7) (23 : Int32).toNatClampNeg 8) (9 : Int32).toNatClampNeg 479)) := fset_at hΦ2
  refine z_iconst (v := 0) B dX12_setSupport_58 rfl ?_
  refine z_istore (lv' := [(4, .int 0), (3, .int 1), (0, .ref y), (1, .int 5), (2, .int 0)]) B dX12_setSupport_59 (Nat.le_of_ble_eq_true rfl) rfl ?_
  refine z_iload B dX12_setSupport_61 0 rfl ?_
  refine z_aload_n B dX12_setSupport_63 rfl 2 rfl ?_
  have h_8 : Φ5 y = some (o_ 14 [.int 0, .ref (y + 1), .ref (y + 2), .int 0, .int 1, .int 1, .int 0, .int 0, .ref (y + 3), .ref (y + 4), .int 0, .long 0, .ref (y + 5), .int 0, .int 0, .long 0, .long 0, .long 0, .long 0, .ref (y + 6), .ref (y + 7), .int 0, .ref (y + 8), .int 0, .ref (y + 9), .ref (y + 10), .int 0, .ref (y + 11), .ref (y + 12), .ref (y + 13), .ref (y + 14), .ref (y + 15), .ref (y + 16), .int 0, .long (-1), .ref (y + 17), .ref (y + 18), .ref (y + 19), .ref (y + 20), .ref (y + 21), .ref (y + 22), .int 0, .ref (y + 23), .ref (y + 24), .int 0, .ref (y + 25), .int 0, .int 0, .int 0, .int (-1), .int 0, .int 0, .int 0, .long 0]) := ((fset_fr hΦ2 (ne_off (x := y) (i := 0) (j := 2) rfl)).trans h_5)
  refine z_get (ref := "FlowExporterModel") (C := RX12) (T := TX12) (N := 54) (ci := 14) (v := .ref (y + 2)) B (by decide +kernel) rfl 2 (by decide) (by decide +kernel) rfl h_8 rfl dX12_setSupport_64 ?_
  refine z_bipush (v := 10) B dX12_setSupport_67 rfl ?_
  refine z_iald B h_7 (vin rfl) dX12_setSupport_69 ?_
  refine z_top (st1 := [.int 1, .int 0]) (by rfl) ?_
  refine z_icmp_ge (tgt := 101) B dX12_setSupport_70 rfl (fun h9 => absurd h9 (by decide)) (fun c_4 => ?_)
  refine z_aload_n B dX12_setSupport_73 rfl 2 rfl ?_
  refine z_iload B dX12_setSupport_74 0 rfl ?_
  refine z_callV (As := [.int 0]) (rest := []) B (m_fieldsOf_s G l Φ5 sz y 479 h_8 h_7) (cwV 1 B.1.2.2.2.2 gX12_setSupport_X12_fieldsOf rfl rfl rfl (by decide +kernel) ⟨Nat.le_of_ble_eq_true rfl, Nat.le_of_ble_eq_true rfl⟩) h_8 rfl rfl rfl rfl (Nat.le_of_ble_eq_true rfl) dX12_setSupport_76 ⟨Nat.le_of_ble_eq_true rfl, Nat.le_of_ble_eq_true rfl⟩ (fun v4 Φ6 sz4 st4 hp4 hs4 => ?_)
  obtain ⟨rfl, hq4, fr4⟩ := hp4
  replace hq4 : sz4 = sz := hq4
  subst sz4
  replace hs4 : st4 = [.int 511] := hs4
  subst st4
  refine z_iload_n B dX12_setSupport_79 rfl 3 rfl ?_
  refine z_ishr B dX12_setSupport_80 ?_
  refine z_top (st1 := [.int 15]) (congrArg (fun w9 : Int32 => ([.int w9] : List Value)) (show ((511 : Int32) >>> ((5 : Int32) &&& (31 : Int32)) : Int32) = 15 by decide +kernel)) ?_
  refine z_iconst (v := 1) B dX12_setSupport_81 rfl ?_
  refine z_iand B dX12_setSupport_82 ?_
  refine z_top (st1 := [.int 1]) (congrArg (fun w9 : Int32 => ([.int w9] : List Value)) (show (15 &&& 1 : Int32) = 1 by decide +kernel)) ?_
  refine z_iconst (v := 1) B dX12_setSupport_83 rfl ?_
  refine z_icmp_ne (tgt := 95) B dX12_setSupport_84 rfl (fun h9 => absurd (by decide) h9) (fun c_5 => ?_)
  refine z_aload_n B dX12_setSupport_87 rfl 2 rfl ?_
  have h_9 : Φ6 y = some (o_ 14 [.int 0, .ref (y + 1), .ref (y + 2), .int 0, .int 1, .int 1, .int 0, .int 0, .ref (y + 3), .ref (y + 4), .int 0, .long 0, .ref (y + 5), .int 0, .int 0, .long 0, .long 0, .long 0, .long 0, .ref (y + 6), .ref (y + 7), .int 0, .ref (y + 8), .int 0, .ref (y + 9), .ref (y + 10), .int 0, .ref (y + 11), .ref (y + 12), .ref (y + 13), .ref (y + 14), .ref (y + 15), .ref (y + 16), .int 0, .long (-1), .ref (y + 17), .ref (y + 18), .ref (y + 19), .ref (y + 20), .ref (y + 21), .ref (y + 22), .int 0, .ref (y + 23), .ref (y + 24), .int 0, .ref (y + 25), .int 0, .int 0, .int 0, .int (-1), .int 0, .int 0, .int 0, .long 0]) := ((fr4 y).trans h_8)
  refine z_get (ref := "FlowExporterModel") (C := RX12) (T := TX12) (N := 54) (ci := 14) (v := .ref (y + 3)) B (by decide +kernel) rfl 8 (by decide) (by decide +kernel) rfl h_9 rfl dX12_setSupport_88 ?_
  refine z_iload B dX12_setSupport_91 0 rfl ?_
  refine z_iconst (v := (-1)) B dX12_setSupport_93 rfl ?_
  have h_10 : Φ6 (y + 3) = some (ai_ G 4 (upd (upd (upd (upd (fun _ => 0) (0 : Int32).toNatClampNeg (-1)) (1 : Int32).toNatClampNeg (-1)) (2 : Int32).toNatClampNeg (-1)) (3 : Int32).toNatClampNeg (-1))) := ((fr4 (y + 3)).trans ((fset_fr hΦ2 (ne_off (x := y) (i := 3) (j := 2) rfl)).trans ((fr3 (y + 3)).trans ((fr2 (y + 3)).trans ((fr1 (y + 3)).trans ((fset_fr hΦ1 (ne_off (x := y) (i := 3) (j := 0) rfl)).trans hc3_))))))
  refine z_iast B h_10 (Nat.le_trans hna (Nat.le_add_right y 3)) (vin rfl) dX12_setSupport_94 (fun Φ7 hΦ3 => ?_)
  have h_11 : Φ7 (y + 3) = some (ai_ G 4 (upd (upd (upd (upd (upd (fun _ => 0) (0 : Int32).toNatClampNeg (-1)) (1 : Int32).toNatClampNeg (-1)) (2 : Int32).toNatClampNeg (-1)) (3 : Int32).toNatClampNeg (-1)) (0 : Int32).toNatClampNeg (-1))) := fset_at hΦ3
  refine z_iinc (k := 0) (v := 1) (lv' := [(4, .int 1), (3, .int 1), (0, .ref y), (1, .int 5), (2, .int 0)]) B dX12_setSupport_95 rfl rfl (Nat.le_of_ble_eq_true rfl) rfl ?_
  refine z_goto (tgt := 61) B dX12_setSupport_98 rfl ?_
  refine z_iload B dX12_setSupport_61 0 rfl ?_
  refine z_aload_n B dX12_setSupport_63 rfl 2 rfl ?_
  have h_12 : Φ7 y = some (o_ 14 [.int 0, .ref (y + 1), .ref (y + 2), .int 0, .int 1, .int 1, .int 0, .int 0, .ref (y + 3), .ref (y + 4), .int 0, .long 0, .ref (y + 5), .int 0, .int 0, .long 0, .long 0, .long 0, .long 0, .ref (y + 6), .ref (y + 7), .int 0, .ref (y + 8), .int 0, .ref (y + 9), .ref (y + 10), .int 0, .ref (y + 11), .ref (y + 12), .ref (y + 13), .ref (y + 14), .ref (y + 15), .ref (y + 16), .int 0, .long (-1), .ref (y + 17), .ref (y + 18), .ref (y + 19), .ref (y + 20), .ref (y + 21), .ref (y + 22), .int 0, .ref (y + 23), .ref (y + 24), .int 0, .ref (y + 25), .int 0, .int 0, .int 0, .int (-1), .int 0, .int 0, .int 0, .long 0]) := ((fset_fr hΦ3 (ne_off (x := y) (i := 0) (j := 3) rfl)).trans h_9)
  refine z_get (ref := "FlowExporterModel") (C := RX12) (T := TX12) (N := 54) (ci := 14) (v := .ref (y + 2)) B (by decide +kernel) rfl 2 (by decide) (by decide +kernel) rfl h_12 rfl dX12_setSupport_64 ?_
  refine z_bipush (v := 10) B dX12_setSupport_67 rfl ?_
  have h_13 : Φ7 (y + 2) = some (ai_ G 307 (upd (upd (upd (upd (upd (upd (upd (upd (upd (upd (upd (upd (upd (upd (upd (upd (upd (upd (upd (upd (upd (upd (fun _ => 0) (0 : Int32).toNatClampNeg 1) (1 : Int32).toNatClampNeg 100) (2 : Int32).toNatClampNeg 1000) (3 : Int32).toNatClampNeg 100) (4 : Int32).toNatClampNeg 20) (5 : Int32).toNatClampNeg 1000) (6 : Int32).toNatClampNeg 5000) (7 : Int32).toNatClampNeg 512) (8 : Int32).toNatClampNeg 1) (9 : Int32).toNatClampNeg 511) (10 : Int32).toNatClampNeg 1) (11 : Int32).toNatClampNeg 9) (15 : Int32).toNatClampNeg 0) (16 : Int32).toNatClampNeg 1) (17 : Int32).toNatClampNeg 2) (18 : Int32).toNatClampNeg 3) (19 : Int32).toNatClampNeg 4) (20 : Int32).toNatClampNeg 5) (21 : Int32).toNatClampNeg 6) (22 : Int32).toNatClampNeg 7) (23 : Int32).toNatClampNeg 8) (9 : Int32).toNatClampNeg 479)) := ((fset_fr hΦ3 (ne_off (x := y) (i := 2) (j := 3) rfl)).trans ((fr4 (y + 2)).trans h_7))
  refine z_iald B h_13 (vin rfl) dX12_setSupport_69 ?_
  refine z_top (st1 := [.int 1, .int 1]) (by rfl) ?_
  refine z_icmp_ge (tgt := 101) B dX12_setSupport_70 rfl (fun c_6 => ?_) (fun h9 => absurd (by decide) h9)
  refine z_iload_n B dX12_setSupport_101 rfl 1 rfl ?_
  exact z_ret_z B dX12_setSupport_102 (by decide) ⟨rfl, ⟨_, h_12, rfl⟩, fun b9 h9 => ((fset_fr hΦ3 (Nat.ne_of_gt (Nat.lt_of_lt_of_le (lt_off (x := y) (i := 3) (j := 26) rfl) h9))).trans ((fr4 b9).trans ((fset_fr hΦ2 (Nat.ne_of_gt (Nat.lt_of_lt_of_le (lt_off (x := y) (i := 2) (j := 26) rfl) h9))).trans ((fr3 b9).trans ((fr2 b9).trans ((fr1 b9).trans ((fset_fr hΦ1 (Nat.ne_of_gt (Nat.lt_of_lt_of_le (lt_off (x := y) (i := 0) (j := 26) rfl) h9))).trans rfl)))))))⟩

set_option maxHeartbeats 4000000 in
set_option maxRecDepth 100000 in
theorem m_X12_setSupport_5_1 (G : EnvG) (l : Launch) (Φ : Hm) (sz : Nat) (y : Nat) (hc0_ : Φ y = some (o_ 14 [.int 0, .ref (y + 1), .ref (y + 2), .int 0, .int 1, .int 1, .int 0, .int 0, .ref (y + 3), .ref (y + 4), .int 0, .long 0, .ref (y + 5), .int 0, .int 0, .long 0, .long 0, .long 0, .long 0, .ref (y + 6), .ref (y + 7), .int 0, .ref (y + 8), .int 0, .ref (y + 9), .ref (y + 10), .int 0, .ref (y + 11), .ref (y + 12), .ref (y + 13), .ref (y + 14), .ref (y + 15), .ref (y + 16), .int 0, .long (-1), .ref (y + 17), .ref (y + 18), .ref (y + 19), .ref (y + 20), .ref (y + 21), .ref (y + 22), .int 0, .ref (y + 23), .ref (y + 24), .int 0, .ref (y + 25), .int 0, .int 0, .int 0, .int (-1), .int 0, .int 0, .int 0, .long 0])) (hc2_ : Φ (y + 2) = some (ai_ G 307 (upd (upd (upd (upd (upd (upd (upd (upd (upd (upd (upd (upd (upd (upd (upd (upd (upd (upd (upd (upd (upd (fun _ => 0) (0 : Int32).toNatClampNeg 1) (1 : Int32).toNatClampNeg 100) (2 : Int32).toNatClampNeg 1000) (3 : Int32).toNatClampNeg 100) (4 : Int32).toNatClampNeg 20) (5 : Int32).toNatClampNeg 1000) (6 : Int32).toNatClampNeg 5000) (7 : Int32).toNatClampNeg 512) (8 : Int32).toNatClampNeg 1) (9 : Int32).toNatClampNeg 511) (10 : Int32).toNatClampNeg 1) (11 : Int32).toNatClampNeg 9) (15 : Int32).toNatClampNeg 0) (16 : Int32).toNatClampNeg 1) (17 : Int32).toNatClampNeg 2) (18 : Int32).toNatClampNeg 3) (19 : Int32).toNatClampNeg 4) (20 : Int32).toNatClampNeg 5) (21 : Int32).toNatClampNeg 6) (22 : Int32).toNatClampNeg 7) (23 : Int32).toNatClampNeg 8))) (hna : G.2.2.2 ≤ y) : Ct G l yX12_setSupport wsX12_setSupport ({ frames := 1, cells := 0, slots := 0, locals := 25 }) 0 0 [.ref y, .int 5, .int 1] Φ sz (fun v Φ1 sz1 => v = some (.int 1) ∧ (∃ fs : List Value, Φ1 y = some (o_ 14 fs) ∧ fs[0]? = some (.int 0)) ∧ ∀ b9 : Nat, y + 26 ≤ b9 → Φ1 b9 = Φ b9) := by
  refine Ct.of (cc := cX12_setSupport) (maxL := 5) (ret := (some .boolean)) (by decide) rfl (Nat.le_of_ble_eq_true rfl) ?_
  intro p9 e9 s9 m9 w9 t9 k9 B
  show Z p9 l e9 _ s9 m9 _ w9 t9 k9 _ G 5 0 [(0, .ref y), (1, .int 5), (2, .int 1)] [] Φ sz 0 0
  refine z_aload_n B dX12_setSupport_0 rfl 0 rfl ?_
  refine z_iconst (v := 0) B dX12_setSupport_1 rfl ?_
  refine z_put (ref := "FlowExporterModel") (C := RX12) (T := TX12) (N := 54) (ci := 14) (v := .int 0) B (by decide +kernel) tyX12 tyX12_ok nmX12 rfl 0 (by decide) (by decide +kernel) rfl (Or.inl rfl) hc0_ hna rfl rfl (Nat.le_of_ble_eq_true rfl) dX12_setSupport_2 (fun Φ1 hΦ1 => ?_)
  have h_1 : Φ1 y = some (o_ 14 [.int 0, .ref (y + 1), .ref (y + 2), .int 0, .int 1, .int 1, .int 0, .int 0, .ref (y + 3), .ref (y + 4), .int 0, .long 0, .ref (y + 5), .int 0, .int 0, .long 0, .long 0, .long 0, .long 0, .ref (y + 6), .ref (y + 7), .int 0, .ref (y + 8), .int 0, .ref (y + 9), .ref (y + 10), .int 0, .ref (y + 11), .ref (y + 12), .ref (y + 13), .ref (y + 14), .ref (y + 15), .ref (y + 16), .int 0, .long (-1), .ref (y + 17), .ref (y + 18), .ref (y + 19), .ref (y + 20), .ref (y + 21), .ref (y + 22), .int 0, .ref (y + 23), .ref (y + 24), .int 0, .ref (y + 25), .int 0, .int 0, .int 0, .int (-1), .int 0, .int 0, .int 0, .long 0]) := fset_at hΦ1
  refine z_aload_n B dX12_setSupport_5 rfl 0 rfl ?_
  refine z_iload_n B dX12_setSupport_6 rfl 1 rfl ?_
  refine z_i2l (v := 5) B dX12_setSupport_7 (by decide +kernel) ?_
  refine z_lconst (v := 0) B dX12_setSupport_8 rfl ?_
  refine z_ldc2 (v := 8) B (by decide +kernel) dX12_setSupport_9 ?_
  refine z_callS (As := [.long 5, .long 0, .long 8]) (rest := [.ref y]) B (c_X12_inRange_1 G l Φ1 sz 5 0 8 ⟨by decide +kernel, by decide +kernel⟩) (va_cwS 3 B.1.2.2.2.2 gX12_setSupport_X12_inRange rfl rfl rfl (by decide +kernel) ⟨Nat.le_of_ble_eq_true rfl, Nat.le_of_ble_eq_true rfl⟩) rfl rfl (Nat.le_of_ble_eq_true rfl) dX12_setSupport_12 ⟨Nat.le_of_ble_eq_true rfl, Nat.le_of_ble_eq_true rfl⟩ (fun v1 Φ2 sz1 st1 hp1 hs1 => ?_)
  obtain ⟨rfl, hq1, fr1⟩ := hp1
  replace hq1 : sz1 = sz := hq1
  subst sz1
  replace hs1 : st1 = [.int 1, .ref y] := hs1
  subst st1
  refine z_if_ne (tgt := 22) B dX12_setSupport_15 rfl (fun c_1 => ?_) (fun h9 => absurd h9 (by decide))
  refine z_iconst (v := 0) B dX12_setSupport_22 rfl ?_
  refine z_iconst (v := 1) B dX12_setSupport_23 rfl ?_
  have h_2 : Φ2 y = some (o_ 14 [.int 0, .ref (y + 1), .ref (y + 2), .int 0, .int 1, .int 1, .int 0, .int 0, .ref (y + 3), .ref (y + 4), .int 0, .long 0, .ref (y + 5), .int 0, .int 0, .long 0, .long 0, .long 0, .long 0, .ref (y + 6), .ref (y + 7), .int 0, .ref (y + 8), .int 0, .ref (y + 9), .ref (y + 10), .int 0, .ref (y + 11), .ref (y + 12), .ref (y + 13), .ref (y + 14), .ref (y + 15), .ref (y + 16), .int 0, .long (-1), .ref (y + 17), .ref (y + 18), .ref (y + 19), .ref (y + 20), .ref (y + 21), .ref (y + 22), .int 0, .ref (y + 23), .ref (y + 24), .int 0, .ref (y + 25), .int 0, .int 0, .int 0, .int (-1), .int 0, .int 0, .int 0, .long 0]) := ((fr1 y).trans h_1)
  refine z_callV (As := [.int 0, .int 1]) (rest := []) B (c_X12_throwsIf_0 G l Φ2 sz y 0 0 1 1 0 0 0 0 0 0 0 0 0 0 0 0 0 0 (-1) 0 0 0 0 0 (-1) 0 0 0 0 1 h_2 hna) (cwV 2 B.1.2.2.2.2 gX12_setSupport_X12_throwsIf rfl rfl rfl (by decide +kernel) ⟨Nat.le_of_ble_eq_true rfl, Nat.le_of_ble_eq_true rfl⟩) h_2 rfl rfl rfl rfl (Nat.le_of_ble_eq_true rfl) dX12_setSupport_24 ⟨Nat.le_of_ble_eq_true rfl, Nat.le_of_ble_eq_true rfl⟩ (fun v2 Φ3 sz2 st2 hp2 hs2 => ?_)
  obtain ⟨rfl, hq2, fr2⟩ := hp2
  replace hq2 : sz2 = sz := hq2
  subst sz2
  replace hs2 : st2 = [.int 0] := hs2
  subst st2
  refine z_if_eq (tgt := 32) B dX12_setSupport_27 rfl (fun c_2 => ?_) (fun h9 => absurd (by decide) h9)
  refine z_aload_n B dX12_setSupport_32 rfl 0 rfl ?_
  refine z_iload_n B dX12_setSupport_33 rfl 1 rfl ?_
  have h_3 : Φ3 y = some (o_ 14 [.int 0, .ref (y + 1), .ref (y + 2), .int 0, .int 1, .int 1, .int 0, .int 0, .ref (y + 3), .ref (y + 4), .int 0, .long 0, .ref (y + 5), .int 0, .int 0, .long 0, .long 0, .long 0, .long 0, .ref (y + 6), .ref (y + 7), .int 0, .ref (y + 8), .int 0, .ref (y + 9), .ref (y + 10), .int 0, .ref (y + 11), .ref (y + 12), .ref (y + 13), .ref (y + 14), .ref (y + 15), .ref (y + 16), .int 0, .long (-1), .ref (y + 17), .ref (y + 18), .ref (y + 19), .ref (y + 20), .ref (y + 21), .ref (y + 22), .int 0, .ref (y + 23), .ref (y + 24), .int 0, .ref (y + 25), .int 0, .int 0, .int 0, .int (-1), .int 0, .int 0, .int 0, .long 0]) := ((fr2 y).trans h_2)
  have h_4 : Φ3 (y + 2) = some (ai_ G 307 (upd (upd (upd (upd (upd (upd (upd (upd (upd (upd (upd (upd (upd (upd (upd (upd (upd (upd (upd (upd (upd (fun _ => 0) (0 : Int32).toNatClampNeg 1) (1 : Int32).toNatClampNeg 100) (2 : Int32).toNatClampNeg 1000) (3 : Int32).toNatClampNeg 100) (4 : Int32).toNatClampNeg 20) (5 : Int32).toNatClampNeg 1000) (6 : Int32).toNatClampNeg 5000) (7 : Int32).toNatClampNeg 512) (8 : Int32).toNatClampNeg 1) (9 : Int32).toNatClampNeg 511) (10 : Int32).toNatClampNeg 1) (11 : Int32).toNatClampNeg 9) (15 : Int32).toNatClampNeg 0) (16 : Int32).toNatClampNeg 1) (17 : Int32).toNatClampNeg 2) (18 : Int32).toNatClampNeg 3) (19 : Int32).toNatClampNeg 4) (20 : Int32).toNatClampNeg 5) (21 : Int32).toNatClampNeg 6) (22 : Int32).toNatClampNeg 7) (23 : Int32).toNatClampNeg 8)) := ((fr2 (y + 2)).trans ((fr1 (y + 2)).trans ((fset_fr hΦ1 (ne_off (x := y) (i := 2) (j := 0) rfl)).trans hc2_)))
  refine z_callV (As := [.int 5]) (rest := []) B (m_isSupported_5 G l Φ3 sz y h_3 h_4) (cwV 1 B.1.2.2.2.2 gX12_setSupport_X12_isSupported rfl rfl rfl (by decide +kernel) ⟨Nat.le_of_ble_eq_true rfl, Nat.le_of_ble_eq_true rfl⟩) h_3 rfl rfl rfl rfl (Nat.le_of_ble_eq_true rfl) dX12_setSupport_34 ⟨Nat.le_of_ble_eq_true rfl, Nat.le_of_ble_eq_true rfl⟩ (fun v3 Φ4 sz3 st3 hp3 hs3 => ?_)
  obtain ⟨rfl, hq3, fr3⟩ := hp3
  replace hq3 : sz3 = sz := hq3
  subst sz3
  replace hs3 : st3 = [.int 1] := hs3
  subst st3
  refine z_istore_n (lv' := [(3, .int 1), (0, .ref y), (1, .int 5), (2, .int 1)]) B dX12_setSupport_37 rfl (Nat.le_of_ble_eq_true rfl) rfl ?_
  refine z_iload_n B dX12_setSupport_38 rfl 0 rfl ?_
  refine z_iload_n B dX12_setSupport_39 rfl 3 rfl ?_
  refine z_icmp_ne (tgt := 45) B dX12_setSupport_40 rfl (fun h9 => absurd (by decide) h9) (fun c_3 => ?_)
  refine z_iload_n B dX12_setSupport_43 rfl 0 rfl ?_
  have h_5 : Φ4 y = some (o_ 14 [.int 0, .ref (y + 1), .ref (y + 2), .int 0, .int 1, .int 1, .int 0, .int 0, .ref (y + 3), .ref (y + 4), .int 0, .long 0, .ref (y + 5), .int 0, .int 0, .long 0, .long 0, .long 0, .long 0, .ref (y + 6), .ref (y + 7), .int 0, .ref (y + 8), .int 0, .ref (y + 9), .ref (y + 10), .int 0, .ref (y + 11), .ref (y + 12), .ref (y + 13), .ref (y + 14), .ref (y + 15), .ref (y + 16), .int 0, .long (-1), .ref (y + 17), .ref (y + 18), .ref (y + 19), .ref (y + 20), .ref (y + 21), .ref (y + 22), .int 0, .ref (y + 23), .ref (y + 24), .int 0, .ref (y + 25), .int 0, .int 0, .int 0, .int (-1), .int 0, .int 0, .int 0, .long 0]) := ((fr3 y).trans h_3)
  exact z_ret_z B dX12_setSupport_44 (by decide) ⟨rfl, ⟨_, h_5, rfl⟩, fun b9 h9 => ((fr3 b9).trans ((fr2 b9).trans ((fr1 b9).trans ((fset_fr hΦ1 (Nat.ne_of_gt (Nat.lt_of_lt_of_le (lt_off (x := y) (i := 0) (j := 26) rfl) h9))).trans rfl))))⟩

set_option maxHeartbeats 4000000 in
set_option maxRecDepth 100000 in
theorem m_isSupported_6 (G : EnvG) (l : Launch) (Φ : Hm) (sz : Nat) (y : Nat) (hc0_ : Φ y = some (o_ 14 [.int 0, .ref (y + 1), .ref (y + 2), .int 0, .int 1, .int 1, .int 0, .int 0, .ref (y + 3), .ref (y + 4), .int 0, .long 0, .ref (y + 5), .int 0, .int 0, .long 0, .long 0, .long 0, .long 0, .ref (y + 6), .ref (y + 7), .int 0, .ref (y + 8), .int 0, .ref (y + 9), .ref (y + 10), .int 0, .ref (y + 11), .ref (y + 12), .ref (y + 13), .ref (y + 14), .ref (y + 15), .ref (y + 16), .int 0, .long (-1), .ref (y + 17), .ref (y + 18), .ref (y + 19), .ref (y + 20), .ref (y + 21), .ref (y + 22), .int 0, .ref (y + 23), .ref (y + 24), .int 0, .ref (y + 25), .int 0, .int 0, .int 0, .int (-1), .int 0, .int 0, .int 0, .long 0])) (hc2_ : Φ (y + 2) = some (ai_ G 307 (upd (upd (upd (upd (upd (upd (upd (upd (upd (upd (upd (upd (upd (upd (upd (upd (upd (upd (upd (upd (upd (fun _ => 0) (0 : Int32).toNatClampNeg 1) (1 : Int32).toNatClampNeg 100) (2 : Int32).toNatClampNeg 1000) (3 : Int32).toNatClampNeg 100) (4 : Int32).toNatClampNeg 20) (5 : Int32).toNatClampNeg 1000) (6 : Int32).toNatClampNeg 5000) (7 : Int32).toNatClampNeg 512) (8 : Int32).toNatClampNeg 1) (9 : Int32).toNatClampNeg 511) (10 : Int32).toNatClampNeg 1) (11 : Int32).toNatClampNeg 9) (15 : Int32).toNatClampNeg 0) (16 : Int32).toNatClampNeg 1) (17 : Int32).toNatClampNeg 2) (18 : Int32).toNatClampNeg 3) (19 : Int32).toNatClampNeg 4) (20 : Int32).toNatClampNeg 5) (21 : Int32).toNatClampNeg 6) (22 : Int32).toNatClampNeg 7) (23 : Int32).toNatClampNeg 8))) : Ct G l yX12_isSupported wsX12_isSupported ({ frames := 0, cells := 0, slots := 0, locals := 0 }) 0 0 [.ref y, .int 6] Φ sz (fun v Φ1 sz1 => v = some (.int 1) ∧ sz1 = sz ∧ (∀ b9 : Nat, Φ1 b9 = Φ b9)) := by
  refine Ct.of (cc := cX12_isSupported) (maxL := 2) (ret := (some .boolean)) (by decide) rfl (Nat.le_of_ble_eq_true rfl) ?_
  intro p9 e9 s9 m9 w9 t9 k9 B
  show Z p9 l e9 _ s9 m9 _ w9 t9 k9 _ G 2 0 [(0, .ref y), (1, .int 6)] [] Φ sz 0 0
  refine z_aload_n B dX12_isSupported_0 rfl 0 rfl ?_
  refine z_get (ref := "FlowExporterModel") (C := RX12) (T := TX12) (N := 54) (ci := 14) (v := .ref (y + 2)) B (by decide +kernel) rfl 2 (by decide) (by decide +kernel) rfl hc0_ rfl dX12_isSupported_1 ?_
  refine z_bipush (v := 9) B dX12_isSupported_4 rfl ?_
  refine z_iald B hc2_ (vin rfl) dX12_isSupported_6 ?_
  refine z_top (st1 := [.int 511]) (by rfl) ?_
  refine z_iload_n B dX12_isSupported_7 rfl 1 rfl ?_
  refine z_ishr B dX12_isSupported_8 ?_
  refine z_top (st1 := [.int 7]) (congrArg (fun w9 : Int32 => ([.int w9] : List Value)) (show ((511 : Int32) >>> ((6 : Int32) &&& (31 : Int32)) : Int32) = 7 by decide +kernel)) ?_
  refine z_iconst (v := 1) B dX12_isSupported_9 rfl ?_
  refine z_iand B dX12_isSupported_10 ?_
  refine z_top (st1 := [.int 1]) (congrArg (fun w9 : Int32 => ([.int w9] : List Value)) (show (7 &&& 1 : Int32) = 1 by decide +kernel)) ?_
  refine z_iconst (v := 1) B dX12_isSupported_11 rfl ?_
  refine z_icmp_ne (tgt := 19) B dX12_isSupported_12 rfl (fun h9 => absurd (by decide) h9) (fun c_1 => ?_)
  refine z_iconst (v := 1) B dX12_isSupported_15 rfl ?_
  refine z_goto (tgt := 20) B dX12_isSupported_16 rfl ?_
  exact z_ret_z B dX12_isSupported_20 (by decide) ⟨rfl, rfl, (fun b9 => rfl)⟩

set_option maxHeartbeats 4000000 in
set_option maxRecDepth 100000 in
theorem m_X12_setSupport_6_0 (G : EnvG) (l : Launch) (Φ : Hm) (sz : Nat) (y : Nat) (hc0_ : Φ y = some (o_ 14 [.int 0, .ref (y + 1), .ref (y + 2), .int 0, .int 1, .int 1, .int 0, .int 0, .ref (y + 3), .ref (y + 4), .int 0, .long 0, .ref (y + 5), .int 0, .int 0, .long 0, .long 0, .long 0, .long 0, .ref (y + 6), .ref (y + 7), .int 0, .ref (y + 8), .int 0, .ref (y + 9), .ref (y + 10), .int 0, .ref (y + 11), .ref (y + 12), .ref (y + 13), .ref (y + 14), .ref (y + 15), .ref (y + 16), .int 0, .long (-1), .ref (y + 17), .ref (y + 18), .ref (y + 19), .ref (y + 20), .ref (y + 21), .ref (y + 22), .int 0, .ref (y + 23), .ref (y + 24), .int 0, .ref (y + 25), .int 0, .int 0, .int 0, .int (-1), .int 0, .int 0, .int 0, .long 0])) (hc2_ : Φ (y + 2) = some (ai_ G 307 (upd (upd (upd (upd (upd (upd (upd (upd (upd (upd (upd (upd (upd (upd (upd (upd (upd (upd (upd (upd (upd (fun _ => 0) (0 : Int32).toNatClampNeg 1) (1 : Int32).toNatClampNeg 100) (2 : Int32).toNatClampNeg 1000) (3 : Int32).toNatClampNeg 100) (4 : Int32).toNatClampNeg 20) (5 : Int32).toNatClampNeg 1000) (6 : Int32).toNatClampNeg 5000) (7 : Int32).toNatClampNeg 512) (8 : Int32).toNatClampNeg 1) (9 : Int32).toNatClampNeg 511) (10 : Int32).toNatClampNeg 1) (11 : Int32).toNatClampNeg 9) (15 : Int32).toNatClampNeg 0) (16 : Int32).toNatClampNeg 1) (17 : Int32).toNatClampNeg 2) (18 : Int32).toNatClampNeg 3) (19 : Int32).toNatClampNeg 4) (20 : Int32).toNatClampNeg 5) (21 : Int32).toNatClampNeg 6) (22 : Int32).toNatClampNeg 7) (23 : Int32).toNatClampNeg 8))) (hc3_ : Φ (y + 3) = some (ai_ G 4 (upd (upd (upd (upd (fun _ => 0) (0 : Int32).toNatClampNeg (-1)) (1 : Int32).toNatClampNeg (-1)) (2 : Int32).toNatClampNeg (-1)) (3 : Int32).toNatClampNeg (-1)))) (hna : G.2.2.2 ≤ y) : Ct G l yX12_setSupport wsX12_setSupport ({ frames := 2, cells := 0, slots := 0, locals := 45 }) 0 0 [.ref y, .int 6, .int 0] Φ sz (fun v Φ1 sz1 => v = some (.int 1) ∧ (∃ fs : List Value, Φ1 y = some (o_ 14 fs) ∧ fs[0]? = some (.int 0)) ∧ ∀ b9 : Nat, y + 26 ≤ b9 → Φ1 b9 = Φ b9) := by
  refine Ct.of (cc := cX12_setSupport) (maxL := 5) (ret := (some .boolean)) (by decide) rfl (Nat.le_of_ble_eq_true rfl) ?_
  intro p9 e9 s9 m9 w9 t9 k9 B
  show Z p9 l e9 _ s9 m9 _ w9 t9 k9 _ G 5 0 [(0, .ref y), (1, .int 6), (2, .int 0)] [] Φ sz 0 0
  refine z_aload_n B dX12_setSupport_0 rfl 0 rfl ?_
  refine z_iconst (v := 0) B dX12_setSupport_1 rfl ?_
  refine z_put (ref := "FlowExporterModel") (C := RX12) (T := TX12) (N := 54) (ci := 14) (v := .int 0) B (by decide +kernel) tyX12 tyX12_ok nmX12 rfl 0 (by decide) (by decide +kernel) rfl (Or.inl rfl) hc0_ hna rfl rfl (Nat.le_of_ble_eq_true rfl) dX12_setSupport_2 (fun Φ1 hΦ1 => ?_)
  have h_1 : Φ1 y = some (o_ 14 [.int 0, .ref (y + 1), .ref (y + 2), .int 0, .int 1, .int 1, .int 0, .int 0, .ref (y + 3), .ref (y + 4), .int 0, .long 0, .ref (y + 5), .int 0, .int 0, .long 0, .long 0, .long 0, .long 0, .ref (y + 6), .ref (y + 7), .int 0, .ref (y + 8), .int 0, .ref (y + 9), .ref (y + 10), .int 0, .ref (y + 11), .ref (y + 12), .ref (y + 13), .ref (y + 14), .ref (y + 15), .ref (y + 16), .int 0, .long (-1), .ref (y + 17), .ref (y + 18), .ref (y + 19), .ref (y + 20), .ref (y + 21), .ref (y + 22), .int 0, .ref (y + 23), .ref (y + 24), .int 0, .ref (y + 25), .int 0, .int 0, .int 0, .int (-1), .int 0, .int 0, .int 0, .long 0]) := fset_at hΦ1
  refine z_aload_n B dX12_setSupport_5 rfl 0 rfl ?_
  refine z_iload_n B dX12_setSupport_6 rfl 1 rfl ?_
  refine z_i2l (v := 6) B dX12_setSupport_7 (by decide +kernel) ?_
  refine z_lconst (v := 0) B dX12_setSupport_8 rfl ?_
  refine z_ldc2 (v := 8) B (by decide +kernel) dX12_setSupport_9 ?_
  refine z_callS (As := [.long 6, .long 0, .long 8]) (rest := [.ref y]) B (c_X12_inRange_1 G l Φ1 sz 6 0 8 ⟨by decide +kernel, by decide +kernel⟩) (va_cwS 3 B.1.2.2.2.2 gX12_setSupport_X12_inRange rfl rfl rfl (by decide +kernel) ⟨Nat.le_of_ble_eq_true rfl, Nat.le_of_ble_eq_true rfl⟩) rfl rfl (Nat.le_of_ble_eq_true rfl) dX12_setSupport_12 ⟨Nat.le_of_ble_eq_true rfl, Nat.le_of_ble_eq_true rfl⟩ (fun v1 Φ2 sz1 st1 hp1 hs1 => ?_)
  obtain ⟨rfl, hq1, fr1⟩ := hp1
  replace hq1 : sz1 = sz := hq1
  subst sz1
  replace hs1 : st1 = [.int 1, .ref y] := hs1
  subst st1
  refine z_if_ne (tgt := 22) B dX12_setSupport_15 rfl (fun c_1 => ?_) (fun h9 => absurd h9 (by decide))
  refine z_iconst (v := 0) B dX12_setSupport_22 rfl ?_
  refine z_iconst (v := 1) B dX12_setSupport_23 rfl ?_
  have h_2 : Φ2 y = some (o_ 14 [.int 0, .ref (y + 1), .ref (y + 2), .int 0, .int 1, .int 1, .int 0, .int 0, .ref (y + 3), .ref (y + 4), .int 0, .long 0, .ref (y + 5), .int 0, .int 0, .long 0, .long 0, .long 0, .long 0, .ref (y + 6), .ref (y + 7), .int 0, .ref (y + 8), .int 0, .ref (y + 9), .ref (y + 10), .int 0, .ref (y + 11), .ref (y + 12), .ref (y + 13), .ref (y + 14), .ref (y + 15), .ref (y + 16), .int 0, .long (-1), .ref (y + 17), .ref (y + 18), .ref (y + 19), .ref (y + 20), .ref (y + 21), .ref (y + 22), .int 0, .ref (y + 23), .ref (y + 24), .int 0, .ref (y + 25), .int 0, .int 0, .int 0, .int (-1), .int 0, .int 0, .int 0, .long 0]) := ((fr1 y).trans h_1)
  refine z_callV (As := [.int 0, .int 1]) (rest := []) B (c_X12_throwsIf_0 G l Φ2 sz y 0 0 1 1 0 0 0 0 0 0 0 0 0 0 0 0 0 0 (-1) 0 0 0 0 0 (-1) 0 0 0 0 1 h_2 hna) (cwV 2 B.1.2.2.2.2 gX12_setSupport_X12_throwsIf rfl rfl rfl (by decide +kernel) ⟨Nat.le_of_ble_eq_true rfl, Nat.le_of_ble_eq_true rfl⟩) h_2 rfl rfl rfl rfl (Nat.le_of_ble_eq_true rfl) dX12_setSupport_24 ⟨Nat.le_of_ble_eq_true rfl, Nat.le_of_ble_eq_true rfl⟩ (fun v2 Φ3 sz2 st2 hp2 hs2 => ?_)
  obtain ⟨rfl, hq2, fr2⟩ := hp2
  replace hq2 : sz2 = sz := hq2
  subst sz2
  replace hs2 : st2 = [.int 0] := hs2
  subst st2
  refine z_if_eq (tgt := 32) B dX12_setSupport_27 rfl (fun c_2 => ?_) (fun h9 => absurd (by decide) h9)
  refine z_aload_n B dX12_setSupport_32 rfl 0 rfl ?_
  refine z_iload_n B dX12_setSupport_33 rfl 1 rfl ?_
  have h_3 : Φ3 y = some (o_ 14 [.int 0, .ref (y + 1), .ref (y + 2), .int 0, .int 1, .int 1, .int 0, .int 0, .ref (y + 3), .ref (y + 4), .int 0, .long 0, .ref (y + 5), .int 0, .int 0, .long 0, .long 0, .long 0, .long 0, .ref (y + 6), .ref (y + 7), .int 0, .ref (y + 8), .int 0, .ref (y + 9), .ref (y + 10), .int 0, .ref (y + 11), .ref (y + 12), .ref (y + 13), .ref (y + 14), .ref (y + 15), .ref (y + 16), .int 0, .long (-1), .ref (y + 17), .ref (y + 18), .ref (y + 19), .ref (y + 20), .ref (y + 21), .ref (y + 22), .int 0, .ref (y + 23), .ref (y + 24), .int 0, .ref (y + 25), .int 0, .int 0, .int 0, .int (-1), .int 0, .int 0, .int 0, .long 0]) := ((fr2 y).trans h_2)
  have h_4 : Φ3 (y + 2) = some (ai_ G 307 (upd (upd (upd (upd (upd (upd (upd (upd (upd (upd (upd (upd (upd (upd (upd (upd (upd (upd (upd (upd (upd (fun _ => 0) (0 : Int32).toNatClampNeg 1) (1 : Int32).toNatClampNeg 100) (2 : Int32).toNatClampNeg 1000) (3 : Int32).toNatClampNeg 100) (4 : Int32).toNatClampNeg 20) (5 : Int32).toNatClampNeg 1000) (6 : Int32).toNatClampNeg 5000) (7 : Int32).toNatClampNeg 512) (8 : Int32).toNatClampNeg 1) (9 : Int32).toNatClampNeg 511) (10 : Int32).toNatClampNeg 1) (11 : Int32).toNatClampNeg 9) (15 : Int32).toNatClampNeg 0) (16 : Int32).toNatClampNeg 1) (17 : Int32).toNatClampNeg 2) (18 : Int32).toNatClampNeg 3) (19 : Int32).toNatClampNeg 4) (20 : Int32).toNatClampNeg 5) (21 : Int32).toNatClampNeg 6) (22 : Int32).toNatClampNeg 7) (23 : Int32).toNatClampNeg 8)) := ((fr2 (y + 2)).trans ((fr1 (y + 2)).trans ((fset_fr hΦ1 (ne_off (x := y) (i := 2) (j := 0) rfl)).trans hc2_)))
  refine z_callV (As := [.int 6]) (rest := []) B (m_isSupported_6 G l Φ3 sz y h_3 h_4) (cwV 1 B.1.2.2.2.2 gX12_setSupport_X12_isSupported rfl rfl rfl (by decide +kernel) ⟨Nat.le_of_ble_eq_true rfl, Nat.le_of_ble_eq_true rfl⟩) h_3 rfl rfl rfl rfl (Nat.le_of_ble_eq_true rfl) dX12_setSupport_34 ⟨Nat.le_of_ble_eq_true rfl, Nat.le_of_ble_eq_true rfl⟩ (fun v3 Φ4 sz3 st3 hp3 hs3 => ?_)
  obtain ⟨rfl, hq3, fr3⟩ := hp3
  replace hq3 : sz3 = sz := hq3
  subst sz3
  replace hs3 : st3 = [.int 1] := hs3
  subst st3
  refine z_istore_n (lv' := [(3, .int 1), (0, .ref y), (1, .int 6), (2, .int 0)]) B dX12_setSupport_37 rfl (Nat.le_of_ble_eq_true rfl) rfl ?_
  refine z_iload_n B dX12_setSupport_38 rfl 0 rfl ?_
  refine z_iload_n B dX12_setSupport_39 rfl 3 rfl ?_
  refine z_icmp_ne (tgt := 45) B dX12_setSupport_40 rfl (fun c_3 => ?_) (fun h9 => absurd h9 (by decide))
  refine z_aload_n B dX12_setSupport_45 rfl 1 rfl ?_
  have h_5 : Φ4 y = some (o_ 14 [.int 0, .ref (y + 1), .ref (y + 2), .int 0, .int 1, .int 1, .int 0, .int 0, .ref (y + 3), .ref (y + 4), .int 0, .long 0, .ref (y + 5), .int 0, .int 0, .long 0, .long 0, .long 0, .long 0, .ref (y + 6), .ref (y + 7), .int 0, .ref (y + 8), .int 0, .ref (y + 9), .ref (y + 10), .int 0, .ref (y + 11), .ref (y + 12), .ref (y + 13), .ref (y + 14), .ref (y + 15), .ref (y + 16), .int 0, .long (-1), .ref (y + 17), .ref (y + 18), .ref (y + 19), .ref (y + 20), .ref (y + 21), .ref (y + 22), .int 0, .ref (y + 23), .ref (y + 24), .int 0, .ref (y + 25), .int 0, .int 0, .int 0, .int (-1), .int 0, .int 0, .int 0, .long 0]) := ((fr3 y).trans h_3)
  refine z_get (ref := "FlowExporterModel") (C := RX12) (T := TX12) (N := 54) (ci := 14) (v := .ref (y + 2)) B (by decide +kernel) rfl 2 (by decide) (by decide +kernel) rfl h_5 rfl dX12_setSupport_46 ?_
  refine z_bipush (v := 9) B dX12_setSupport_49 rfl ?_
  refine z_dup2_11 B dX12_setSupport_51 rfl rfl ?_
  have h_6 : Φ4 (y + 2) = some (ai_ G 307 (upd (upd (upd (upd (upd (upd (upd (upd (upd (upd (upd (upd (upd (upd (upd (upd (upd (upd (upd (upd (upd (fun _ => 0) (0 : Int32).toNatClampNeg 1) (1 : Int32).toNatClampNeg 100) (2 : Int32).toNatClampNeg 1000) (3 : Int32).toNatClampNeg 100) (4 : Int32).toNatClampNeg 20) (5 : Int32).toNatClampNeg 1000) (6 : Int32).toNatClampNeg 5000) (7 : Int32).toNatClampNeg 512) (8 : Int32).toNatClampNeg 1) (9 : Int32).toNatClampNeg 511) (10 : Int32).toNatClampNeg 1) (11 : Int32).toNatClampNeg 9) (15 : Int32).toNatClampNeg 0) (16 : Int32).toNatClampNeg 1) (17 : Int32).toNatClampNeg 2) (18 : Int32).toNatClampNeg 3) (19 : Int32).toNatClampNeg 4) (20 : Int32).toNatClampNeg 5) (21 : Int32).toNatClampNeg 6) (22 : Int32).toNatClampNeg 7) (23 : Int32).toNatClampNeg 8)) := ((fr3 (y + 2)).trans h_4)
  refine z_iald B h_6 (vin rfl) dX12_setSupport_52 ?_
  refine z_top (st1 := [.int 511, .int 9, .ref (y + 2)]) (by rfl) ?_
  refine z_iconst (v := 1) B dX12_setSupport_53 rfl ?_
  refine z_iload_n B dX12_setSupport_54 rfl 2 rfl ?_
  refine z_ishl B dX12_setSupport_55 ?_
  refine z_top (st1 := [.int 64, .int 511, .int 9, .ref (y + 2)]) (congrArg (fun w9 : Int32 => ([.int w9, .int 511, .int 9, .ref (y + 2)] : List Value)) (show ((1 : Int32) <<< ((6 : Int32) &&& (31 : Int32)) : Int32) = 64 by decide +kernel)) ?_
  refine z_ixor B dX12_setSupport_56 ?_
  refine z_top (st1 := [.int 447, .int 9, .ref (y + 2)]) (congrArg (fun w9 : Int32 => ([.int w9, .int 9, .ref (y + 2)] : List Value)) (show (511 ^^^ 64 : Int32) = 447 by decide +kernel)) ?_
  refine z_iast B h_6 (Nat.le_trans hna (Nat.le_add_right y 2)) (vin rfl) dX12_setSupport_57 (fun Φ5 hΦ2 => ?_)
  have h_7 : Φ5 (y + 2) = some (ai_ G 307 (upd (upd (upd (upd (upd (upd (upd (upd (upd (upd (upd (upd (upd (upd (upd (upd (upd (upd (upd (upd (upd (upd (fun _ => 0) (0 : Int32).toNatClampNeg 1) (1 : Int32).toNatClampNeg 100) (2 : Int32).toNatClampNeg 1000) (3 : Int32).toNatClampNeg 100) (4 : Int32).toNatClampNeg 20) (5 : Int32).toNatClampNeg 1000) (6 : Int32).toNatClampNeg 5000) (7 : Int32).toNatClampNeg 512) (8 : Int32).toNatClampNeg 1) (9 : Int32).toNatClampNeg 511) (10 : Int32).toNatClampNeg 1) (11 : Int32).toNatClampNeg 9) (15 : Int32).toNatClampNeg 0) (16 : Int32).toNatClampNeg 1) (17 : Int32).toNatClampNeg 2) (18 : Int32).toNatClampNeg 3) (19 : Int32).toNatClampNeg 4) (20 : Int32).toNatClampNeg 5) (21 : Int32).toNatClampNeg 6) (22 : Int32).toNatClampNeg 7) (23 : Int32).toNatClampNeg 8) (9 : Int32).toNatClampNeg 447)) := fset_at hΦ2
  refine z_iconst (v := 0) B dX12_setSupport_58 rfl ?_
  refine z_istore (lv' := [(4, .int 0), (3, .int 1), (0, .ref y), (1, .int 6), (2, .int 0)]) B dX12_setSupport_59 (Nat.le_of_ble_eq_true rfl) rfl ?_
  refine z_iload B dX12_setSupport_61 0 rfl ?_
  refine z_aload_n B dX12_setSupport_63 rfl 2 rfl ?_
  have h_8 : Φ5 y = some (o_ 14 [.int 0, .ref (y + 1), .ref (y + 2), .int 0, .int 1, .int 1, .int 0, .int 0, .ref (y + 3), .ref (y + 4), .int 0, .long 0, .ref (y + 5), .int 0, .int 0, .long 0, .long 0, .long 0, .long 0, .ref (y + 6), .ref (y + 7), .int 0, .ref (y + 8), .int 0, .ref (y + 9), .ref (y + 10), .int 0, .ref (y + 11), .ref (y + 12), .ref (y + 13), .ref (y + 14), .ref (y + 15), .ref (y + 16), .int 0, .long (-1), .ref (y + 17), .ref (y + 18), .ref (y + 19), .ref (y + 20), .ref (y + 21), .ref (y + 22), .int 0, .ref (y + 23), .ref (y + 24), .int 0, .ref (y + 25), .int 0, .int 0, .int 0, .int (-1), .int 0, .int 0, .int 0, .long 0]) := ((fset_fr hΦ2 (ne_off (x := y) (i := 0) (j := 2) rfl)).trans h_5)
  refine z_get (ref := "FlowExporterModel") (C := RX12) (T := TX12) (N := 54) (ci := 14) (v := .ref (y + 2)) B (by decide +kernel) rfl 2 (by decide) (by decide +kernel) rfl h_8 rfl dX12_setSupport_64 ?_
  refine z_bipush (v := 10) B dX12_setSupport_67 rfl ?_
  refine z_iald B h_7 (vin rfl) dX12_setSupport_69 ?_
  refine z_top (st1 := [.int 1, .int 0]) (by rfl) ?_
  refine z_icmp_ge (tgt := 101) B dX12_setSupport_70 rfl (fun h9 => absurd h9 (by decide)) (fun c_4 => ?_)
  refine z_aload_n B dX12_setSupport_73 rfl 2 rfl ?_
  refine z_iload B dX12_setSupport_74 0 rfl ?_
  refine z_callV (As := [.int 0]) (rest := []) B (m_fieldsOf_s G l Φ5 sz y 447 h_8 h_7) (cwV 1 B.1.2.2.2.2 gX12_setSupport_X12_fieldsOf rfl rfl rfl (by decide +kernel) ⟨Nat.le_of_ble_eq_true rfl, Nat.le_of_ble_eq_true rfl⟩) h_8 rfl rfl rfl rfl (Nat.le_of_ble_eq_true rfl) dX12_setSupport_76 ⟨Nat.le_of_ble_eq_true rfl, Nat.le_of_ble_eq_true rfl⟩ (fun v4 Φ6 sz4 st4 hp4 hs4 => ?_)
  obtain ⟨rfl, hq4, fr4⟩ := hp4
  replace hq4 : sz4 = sz := hq4
  subst sz4
  replace hs4 : st4 = [.int 511] := hs4
  subst st4
  refine z_iload_n B dX12_setSupport_79 rfl 3 rfl ?_
  refine z_ishr B dX12_setSupport_80 ?_
  refine z_top (st1 := [.int 7]) (congrArg (fun w9 : Int32 => ([.int w9] : List Value)) (show ((511 : Int32) >>> ((6 : Int32) &&& (31 : Int32)) : Int32) = 7 by decide +kernel)) ?_
  refine z_iconst (v := 1) B dX12_setSupport_81 rfl ?_
  refine z_iand B dX12_setSupport_82 ?_
  refine z_top (st1 := [.int 1]) (congrArg (fun w9 : Int32 => ([.int w9] : List Value)) (show (7 &&& 1 : Int32) = 1 by decide +kernel)) ?_
  refine z_iconst (v := 1) B dX12_setSupport_83 rfl ?_
  refine z_icmp_ne (tgt := 95) B dX12_setSupport_84 rfl (fun h9 => absurd (by decide) h9) (fun c_5 => ?_)
  refine z_aload_n B dX12_setSupport_87 rfl 2 rfl ?_
  have h_9 : Φ6 y = some (o_ 14 [.int 0, .ref (y + 1), .ref (y + 2), .int 0, .int 1, .int 1, .int 0, .int 0, .ref (y + 3), .ref (y + 4), .int 0, .long 0, .ref (y + 5), .int 0, .int 0, .long 0, .long 0, .long 0, .long 0, .ref (y + 6), .ref (y + 7), .int 0, .ref (y + 8), .int 0, .ref (y + 9), .ref (y + 10), .int 0, .ref (y + 11), .ref (y + 12), .ref (y + 13), .ref (y + 14), .ref (y + 15), .ref (y + 16), .int 0, .long (-1), .ref (y + 17), .ref (y + 18), .ref (y + 19), .ref (y + 20), .ref (y + 21), .ref (y + 22), .int 0, .ref (y + 23), .ref (y + 24), .int 0, .ref (y + 25), .int 0, .int 0, .int 0, .int (-1), .int 0, .int 0, .int 0, .long 0]) := ((fr4 y).trans h_8)
  refine z_get (ref := "FlowExporterModel") (C := RX12) (T := TX12) (N := 54) (ci := 14) (v := .ref (y + 3)) B (by decide +kernel) rfl 8 (by decide) (by decide +kernel) rfl h_9 rfl dX12_setSupport_88 ?_
  refine z_iload B dX12_setSupport_91 0 rfl ?_
  refine z_iconst (v := (-1)) B dX12_setSupport_93 rfl ?_
  have h_10 : Φ6 (y + 3) = some (ai_ G 4 (upd (upd (upd (upd (fun _ => 0) (0 : Int32).toNatClampNeg (-1)) (1 : Int32).toNatClampNeg (-1)) (2 : Int32).toNatClampNeg (-1)) (3 : Int32).toNatClampNeg (-1))) := ((fr4 (y + 3)).trans ((fset_fr hΦ2 (ne_off (x := y) (i := 3) (j := 2) rfl)).trans ((fr3 (y + 3)).trans ((fr2 (y + 3)).trans ((fr1 (y + 3)).trans ((fset_fr hΦ1 (ne_off (x := y) (i := 3) (j := 0) rfl)).trans hc3_))))))
  refine z_iast B h_10 (Nat.le_trans hna (Nat.le_add_right y 3)) (vin rfl) dX12_setSupport_94 (fun Φ7 hΦ3 => ?_)
  have h_11 : Φ7 (y + 3) = some (ai_ G 4 (upd (upd (upd (upd (upd (fun _ => 0) (0 : Int32).toNatClampNeg (-1)) (1 : Int32).toNatClampNeg (-1)) (2 : Int32).toNatClampNeg (-1)) (3 : Int32).toNatClampNeg (-1)) (0 : Int32).toNatClampNeg (-1))) := fset_at hΦ3
  refine z_iinc (k := 0) (v := 1) (lv' := [(4, .int 1), (3, .int 1), (0, .ref y), (1, .int 6), (2, .int 0)]) B dX12_setSupport_95 rfl rfl (Nat.le_of_ble_eq_true rfl) rfl ?_
  refine z_goto (tgt := 61) B dX12_setSupport_98 rfl ?_
  refine z_iload B dX12_setSupport_61 0 rfl ?_
  refine z_aload_n B dX12_setSupport_63 rfl 2 rfl ?_
  have h_12 : Φ7 y = some (o_ 14 [.int 0, .ref (y + 1), .ref (y + 2), .int 0, .int 1, .int 1, .int 0, .int 0, .ref (y + 3), .ref (y + 4), .int 0, .long 0, .ref (y + 5), .int 0, .int 0, .long 0, .long 0, .long 0, .long 0, .ref (y + 6), .ref (y + 7), .int 0, .ref (y + 8), .int 0, .ref (y + 9), .ref (y + 10), .int 0, .ref (y + 11), .ref (y + 12), .ref (y + 13), .ref (y + 14), .ref (y + 15), .ref (y + 16), .int 0, .long (-1), .ref (y + 17), .ref (y + 18), .ref (y + 19), .ref (y + 20), .ref (y + 21), .ref (y + 22), .int 0, .ref (y + 23), .ref (y + 24), .int 0, .ref (y + 25), .int 0, .int 0, .int 0, .int (-1), .int 0, .int 0, .int 0, .long 0]) := ((fset_fr hΦ3 (ne_off (x := y) (i := 0) (j := 3) rfl)).trans h_9)
  refine z_get (ref := "FlowExporterModel") (C := RX12) (T := TX12) (N := 54) (ci := 14) (v := .ref (y + 2)) B (by decide +kernel) rfl 2 (by decide) (by decide +kernel) rfl h_12 rfl dX12_setSupport_64 ?_
  refine z_bipush (v := 10) B dX12_setSupport_67 rfl ?_
  have h_13 : Φ7 (y + 2) = some (ai_ G 307 (upd (upd (upd (upd (upd (upd (upd (upd (upd (upd (upd (upd (upd (upd (upd (upd (upd (upd (upd (upd (upd (upd (fun _ => 0) (0 : Int32).toNatClampNeg 1) (1 : Int32).toNatClampNeg 100) (2 : Int32).toNatClampNeg 1000) (3 : Int32).toNatClampNeg 100) (4 : Int32).toNatClampNeg 20) (5 : Int32).toNatClampNeg 1000) (6 : Int32).toNatClampNeg 5000) (7 : Int32).toNatClampNeg 512) (8 : Int32).toNatClampNeg 1) (9 : Int32).toNatClampNeg 511) (10 : Int32).toNatClampNeg 1) (11 : Int32).toNatClampNeg 9) (15 : Int32).toNatClampNeg 0) (16 : Int32).toNatClampNeg 1) (17 : Int32).toNatClampNeg 2) (18 : Int32).toNatClampNeg 3) (19 : Int32).toNatClampNeg 4) (20 : Int32).toNatClampNeg 5) (21 : Int32).toNatClampNeg 6) (22 : Int32).toNatClampNeg 7) (23 : Int32).toNatClampNeg 8) (9 : Int32).toNatClampNeg 447)) := ((fset_fr hΦ3 (ne_off (x := y) (i := 2) (j := 3) rfl)).trans ((fr4 (y + 2)).trans h_7))
  refine z_iald B h_13 (vin rfl) dX12_setSupport_69 ?_
  refine z_top (st1 := [.int 1, .int 1]) (by rfl) ?_
  refine z_icmp_ge (tgt := 101) B dX12_setSupport_70 rfl (fun c_6 => ?_) (fun h9 => absurd (by decide) h9)
  refine z_iload_n B dX12_setSupport_101 rfl 1 rfl ?_
  exact z_ret_z B dX12_setSupport_102 (by decide) ⟨rfl, ⟨_, h_12, rfl⟩, fun b9 h9 => ((fset_fr hΦ3 (Nat.ne_of_gt (Nat.lt_of_lt_of_le (lt_off (x := y) (i := 3) (j := 26) rfl) h9))).trans ((fr4 b9).trans ((fset_fr hΦ2 (Nat.ne_of_gt (Nat.lt_of_lt_of_le (lt_off (x := y) (i := 2) (j := 26) rfl) h9))).trans ((fr3 b9).trans ((fr2 b9).trans ((fr1 b9).trans ((fset_fr hΦ1 (Nat.ne_of_gt (Nat.lt_of_lt_of_le (lt_off (x := y) (i := 0) (j := 26) rfl) h9))).trans rfl)))))))⟩

set_option maxHeartbeats 4000000 in
set_option maxRecDepth 100000 in
theorem m_X12_setSupport_6_1 (G : EnvG) (l : Launch) (Φ : Hm) (sz : Nat) (y : Nat) (hc0_ : Φ y = some (o_ 14 [.int 0, .ref (y + 1), .ref (y + 2), .int 0, .int 1, .int 1, .int 0, .int 0, .ref (y + 3), .ref (y + 4), .int 0, .long 0, .ref (y + 5), .int 0, .int 0, .long 0, .long 0, .long 0, .long 0, .ref (y + 6), .ref (y + 7), .int 0, .ref (y + 8), .int 0, .ref (y + 9), .ref (y + 10), .int 0, .ref (y + 11), .ref (y + 12), .ref (y + 13), .ref (y + 14), .ref (y + 15), .ref (y + 16), .int 0, .long (-1), .ref (y + 17), .ref (y + 18), .ref (y + 19), .ref (y + 20), .ref (y + 21), .ref (y + 22), .int 0, .ref (y + 23), .ref (y + 24), .int 0, .ref (y + 25), .int 0, .int 0, .int 0, .int (-1), .int 0, .int 0, .int 0, .long 0])) (hc2_ : Φ (y + 2) = some (ai_ G 307 (upd (upd (upd (upd (upd (upd (upd (upd (upd (upd (upd (upd (upd (upd (upd (upd (upd (upd (upd (upd (upd (fun _ => 0) (0 : Int32).toNatClampNeg 1) (1 : Int32).toNatClampNeg 100) (2 : Int32).toNatClampNeg 1000) (3 : Int32).toNatClampNeg 100) (4 : Int32).toNatClampNeg 20) (5 : Int32).toNatClampNeg 1000) (6 : Int32).toNatClampNeg 5000) (7 : Int32).toNatClampNeg 512) (8 : Int32).toNatClampNeg 1) (9 : Int32).toNatClampNeg 511) (10 : Int32).toNatClampNeg 1) (11 : Int32).toNatClampNeg 9) (15 : Int32).toNatClampNeg 0) (16 : Int32).toNatClampNeg 1) (17 : Int32).toNatClampNeg 2) (18 : Int32).toNatClampNeg 3) (19 : Int32).toNatClampNeg 4) (20 : Int32).toNatClampNeg 5) (21 : Int32).toNatClampNeg 6) (22 : Int32).toNatClampNeg 7) (23 : Int32).toNatClampNeg 8))) (hna : G.2.2.2 ≤ y) : Ct G l yX12_setSupport wsX12_setSupport ({ frames := 1, cells := 0, slots := 0, locals := 25 }) 0 0 [.ref y, .int 6, .int 1] Φ sz (fun v Φ1 sz1 => v = some (.int 1) ∧ (∃ fs : List Value, Φ1 y = some (o_ 14 fs) ∧ fs[0]? = some (.int 0)) ∧ ∀ b9 : Nat, y + 26 ≤ b9 → Φ1 b9 = Φ b9) := by
  refine Ct.of (cc := cX12_setSupport) (maxL := 5) (ret := (some .boolean)) (by decide) rfl (Nat.le_of_ble_eq_true rfl) ?_
  intro p9 e9 s9 m9 w9 t9 k9 B
  show Z p9 l e9 _ s9 m9 _ w9 t9 k9 _ G 5 0 [(0, .ref y), (1, .int 6), (2, .int 1)] [] Φ sz 0 0
  refine z_aload_n B dX12_setSupport_0 rfl 0 rfl ?_
  refine z_iconst (v := 0) B dX12_setSupport_1 rfl ?_
  refine z_put (ref := "FlowExporterModel") (C := RX12) (T := TX12) (N := 54) (ci := 14) (v := .int 0) B (by decide +kernel) tyX12 tyX12_ok nmX12 rfl 0 (by decide) (by decide +kernel) rfl (Or.inl rfl) hc0_ hna rfl rfl (Nat.le_of_ble_eq_true rfl) dX12_setSupport_2 (fun Φ1 hΦ1 => ?_)
  have h_1 : Φ1 y = some (o_ 14 [.int 0, .ref (y + 1), .ref (y + 2), .int 0, .int 1, .int 1, .int 0, .int 0, .ref (y + 3), .ref (y + 4), .int 0, .long 0, .ref (y + 5), .int 0, .int 0, .long 0, .long 0, .long 0, .long 0, .ref (y + 6), .ref (y + 7), .int 0, .ref (y + 8), .int 0, .ref (y + 9), .ref (y + 10), .int 0, .ref (y + 11), .ref (y + 12), .ref (y + 13), .ref (y + 14), .ref (y + 15), .ref (y + 16), .int 0, .long (-1), .ref (y + 17), .ref (y + 18), .ref (y + 19), .ref (y + 20), .ref (y + 21), .ref (y + 22), .int 0, .ref (y + 23), .ref (y + 24), .int 0, .ref (y + 25), .int 0, .int 0, .int 0, .int (-1), .int 0, .int 0, .int 0, .long 0]) := fset_at hΦ1
  refine z_aload_n B dX12_setSupport_5 rfl 0 rfl ?_
  refine z_iload_n B dX12_setSupport_6 rfl 1 rfl ?_
  refine z_i2l (v := 6) B dX12_setSupport_7 (by decide +kernel) ?_
  refine z_lconst (v := 0) B dX12_setSupport_8 rfl ?_
  refine z_ldc2 (v := 8) B (by decide +kernel) dX12_setSupport_9 ?_
  refine z_callS (As := [.long 6, .long 0, .long 8]) (rest := [.ref y]) B (c_X12_inRange_1 G l Φ1 sz 6 0 8 ⟨by decide +kernel, by decide +kernel⟩) (va_cwS 3 B.1.2.2.2.2 gX12_setSupport_X12_inRange rfl rfl rfl (by decide +kernel) ⟨Nat.le_of_ble_eq_true rfl, Nat.le_of_ble_eq_true rfl⟩) rfl rfl (Nat.le_of_ble_eq_true rfl) dX12_setSupport_12 ⟨Nat.le_of_ble_eq_true rfl, Nat.le_of_ble_eq_true rfl⟩ (fun v1 Φ2 sz1 st1 hp1 hs1 => ?_)
  obtain ⟨rfl, hq1, fr1⟩ := hp1
  replace hq1 : sz1 = sz := hq1
  subst sz1
  replace hs1 : st1 = [.int 1, .ref y] := hs1
  subst st1
  refine z_if_ne (tgt := 22) B dX12_setSupport_15 rfl (fun c_1 => ?_) (fun h9 => absurd h9 (by decide))
  refine z_iconst (v := 0) B dX12_setSupport_22 rfl ?_
  refine z_iconst (v := 1) B dX12_setSupport_23 rfl ?_
  have h_2 : Φ2 y = some (o_ 14 [.int 0, .ref (y + 1), .ref (y + 2), .int 0, .int 1, .int 1, .int 0, .int 0, .ref (y + 3), .ref (y + 4), .int 0, .long 0, .ref (y + 5), .int 0, .int 0, .long 0, .long 0, .long 0, .long 0, .ref (y + 6), .ref (y + 7), .int 0, .ref (y + 8), .int 0, .ref (y + 9), .ref (y + 10), .int 0, .ref (y + 11), .ref (y + 12), .ref (y + 13), .ref (y + 14), .ref (y + 15), .ref (y + 16), .int 0, .long (-1), .ref (y + 17), .ref (y + 18), .ref (y + 19), .ref (y + 20), .ref (y + 21), .ref (y + 22), .int 0, .ref (y + 23), .ref (y + 24), .int 0, .ref (y + 25), .int 0, .int 0, .int 0, .int (-1), .int 0, .int 0, .int 0, .long 0]) := ((fr1 y).trans h_1)
  refine z_callV (As := [.int 0, .int 1]) (rest := []) B (c_X12_throwsIf_0 G l Φ2 sz y 0 0 1 1 0 0 0 0 0 0 0 0 0 0 0 0 0 0 (-1) 0 0 0 0 0 (-1) 0 0 0 0 1 h_2 hna) (cwV 2 B.1.2.2.2.2 gX12_setSupport_X12_throwsIf rfl rfl rfl (by decide +kernel) ⟨Nat.le_of_ble_eq_true rfl, Nat.le_of_ble_eq_true rfl⟩) h_2 rfl rfl rfl rfl (Nat.le_of_ble_eq_true rfl) dX12_setSupport_24 ⟨Nat.le_of_ble_eq_true rfl, Nat.le_of_ble_eq_true rfl⟩ (fun v2 Φ3 sz2 st2 hp2 hs2 => ?_)
  obtain ⟨rfl, hq2, fr2⟩ := hp2
  replace hq2 : sz2 = sz := hq2
  subst sz2
  replace hs2 : st2 = [.int 0] := hs2
  subst st2
  refine z_if_eq (tgt := 32) B dX12_setSupport_27 rfl (fun c_2 => ?_) (fun h9 => absurd (by decide) h9)
  refine z_aload_n B dX12_setSupport_32 rfl 0 rfl ?_
  refine z_iload_n B dX12_setSupport_33 rfl 1 rfl ?_
  have h_3 : Φ3 y = some (o_ 14 [.int 0, .ref (y + 1), .ref (y + 2), .int 0, .int 1, .int 1, .int 0, .int 0, .ref (y + 3), .ref (y + 4), .int 0, .long 0, .ref (y + 5), .int 0, .int 0, .long 0, .long 0, .long 0, .long 0, .ref (y + 6), .ref (y + 7), .int 0, .ref (y + 8), .int 0, .ref (y + 9), .ref (y + 10), .int 0, .ref (y + 11), .ref (y + 12), .ref (y + 13), .ref (y + 14), .ref (y + 15), .ref (y + 16), .int 0, .long (-1), .ref (y + 17), .ref (y + 18), .ref (y + 19), .ref (y + 20), .ref (y + 21), .ref (y + 22), .int 0, .ref (y + 23), .ref (y + 24), .int 0, .ref (y + 25), .int 0, .int 0, .int 0, .int (-1), .int 0, .int 0, .int 0, .long 0]) := ((fr2 y).trans h_2)
  have h_4 : Φ3 (y + 2) = some (ai_ G 307 (upd (upd (upd (upd (upd (upd (upd (upd (upd (upd (upd (upd (upd (upd (upd (upd (upd (upd (upd (upd (upd (fun _ => 0) (0 : Int32).toNatClampNeg 1) (1 : Int32).toNatClampNeg 100) (2 : Int32).toNatClampNeg 1000) (3 : Int32).toNatClampNeg 100) (4 : Int32).toNatClampNeg 20) (5 : Int32).toNatClampNeg 1000) (6 : Int32).toNatClampNeg 5000) (7 : Int32).toNatClampNeg 512) (8 : Int32).toNatClampNeg 1) (9 : Int32).toNatClampNeg 511) (10 : Int32).toNatClampNeg 1) (11 : Int32).toNatClampNeg 9) (15 : Int32).toNatClampNeg 0) (16 : Int32).toNatClampNeg 1) (17 : Int32).toNatClampNeg 2) (18 : Int32).toNatClampNeg 3) (19 : Int32).toNatClampNeg 4) (20 : Int32).toNatClampNeg 5) (21 : Int32).toNatClampNeg 6) (22 : Int32).toNatClampNeg 7) (23 : Int32).toNatClampNeg 8)) := ((fr2 (y + 2)).trans ((fr1 (y + 2)).trans ((fset_fr hΦ1 (ne_off (x := y) (i := 2) (j := 0) rfl)).trans hc2_)))
  refine z_callV (As := [.int 6]) (rest := []) B (m_isSupported_6 G l Φ3 sz y h_3 h_4) (cwV 1 B.1.2.2.2.2 gX12_setSupport_X12_isSupported rfl rfl rfl (by decide +kernel) ⟨Nat.le_of_ble_eq_true rfl, Nat.le_of_ble_eq_true rfl⟩) h_3 rfl rfl rfl rfl (Nat.le_of_ble_eq_true rfl) dX12_setSupport_34 ⟨Nat.le_of_ble_eq_true rfl, Nat.le_of_ble_eq_true rfl⟩ (fun v3 Φ4 sz3 st3 hp3 hs3 => ?_)
  obtain ⟨rfl, hq3, fr3⟩ := hp3
  replace hq3 : sz3 = sz := hq3
  subst sz3
  replace hs3 : st3 = [.int 1] := hs3
  subst st3
  refine z_istore_n (lv' := [(3, .int 1), (0, .ref y), (1, .int 6), (2, .int 1)]) B dX12_setSupport_37 rfl (Nat.le_of_ble_eq_true rfl) rfl ?_
  refine z_iload_n B dX12_setSupport_38 rfl 0 rfl ?_
  refine z_iload_n B dX12_setSupport_39 rfl 3 rfl ?_
  refine z_icmp_ne (tgt := 45) B dX12_setSupport_40 rfl (fun h9 => absurd (by decide) h9) (fun c_3 => ?_)
  refine z_iload_n B dX12_setSupport_43 rfl 0 rfl ?_
  have h_5 : Φ4 y = some (o_ 14 [.int 0, .ref (y + 1), .ref (y + 2), .int 0, .int 1, .int 1, .int 0, .int 0, .ref (y + 3), .ref (y + 4), .int 0, .long 0, .ref (y + 5), .int 0, .int 0, .long 0, .long 0, .long 0, .long 0, .ref (y + 6), .ref (y + 7), .int 0, .ref (y + 8), .int 0, .ref (y + 9), .ref (y + 10), .int 0, .ref (y + 11), .ref (y + 12), .ref (y + 13), .ref (y + 14), .ref (y + 15), .ref (y + 16), .int 0, .long (-1), .ref (y + 17), .ref (y + 18), .ref (y + 19), .ref (y + 20), .ref (y + 21), .ref (y + 22), .int 0, .ref (y + 23), .ref (y + 24), .int 0, .ref (y + 25), .int 0, .int 0, .int 0, .int (-1), .int 0, .int 0, .int 0, .long 0]) := ((fr3 y).trans h_3)
  exact z_ret_z B dX12_setSupport_44 (by decide) ⟨rfl, ⟨_, h_5, rfl⟩, fun b9 h9 => ((fr3 b9).trans ((fr2 b9).trans ((fr1 b9).trans ((fset_fr hΦ1 (Nat.ne_of_gt (Nat.lt_of_lt_of_le (lt_off (x := y) (i := 0) (j := 26) rfl) h9))).trans rfl))))⟩

set_option maxHeartbeats 4000000 in
set_option maxRecDepth 100000 in
theorem m_isSupported_7 (G : EnvG) (l : Launch) (Φ : Hm) (sz : Nat) (y : Nat) (hc0_ : Φ y = some (o_ 14 [.int 0, .ref (y + 1), .ref (y + 2), .int 0, .int 1, .int 1, .int 0, .int 0, .ref (y + 3), .ref (y + 4), .int 0, .long 0, .ref (y + 5), .int 0, .int 0, .long 0, .long 0, .long 0, .long 0, .ref (y + 6), .ref (y + 7), .int 0, .ref (y + 8), .int 0, .ref (y + 9), .ref (y + 10), .int 0, .ref (y + 11), .ref (y + 12), .ref (y + 13), .ref (y + 14), .ref (y + 15), .ref (y + 16), .int 0, .long (-1), .ref (y + 17), .ref (y + 18), .ref (y + 19), .ref (y + 20), .ref (y + 21), .ref (y + 22), .int 0, .ref (y + 23), .ref (y + 24), .int 0, .ref (y + 25), .int 0, .int 0, .int 0, .int (-1), .int 0, .int 0, .int 0, .long 0])) (hc2_ : Φ (y + 2) = some (ai_ G 307 (upd (upd (upd (upd (upd (upd (upd (upd (upd (upd (upd (upd (upd (upd (upd (upd (upd (upd (upd (upd (upd (fun _ => 0) (0 : Int32).toNatClampNeg 1) (1 : Int32).toNatClampNeg 100) (2 : Int32).toNatClampNeg 1000) (3 : Int32).toNatClampNeg 100) (4 : Int32).toNatClampNeg 20) (5 : Int32).toNatClampNeg 1000) (6 : Int32).toNatClampNeg 5000) (7 : Int32).toNatClampNeg 512) (8 : Int32).toNatClampNeg 1) (9 : Int32).toNatClampNeg 511) (10 : Int32).toNatClampNeg 1) (11 : Int32).toNatClampNeg 9) (15 : Int32).toNatClampNeg 0) (16 : Int32).toNatClampNeg 1) (17 : Int32).toNatClampNeg 2) (18 : Int32).toNatClampNeg 3) (19 : Int32).toNatClampNeg 4) (20 : Int32).toNatClampNeg 5) (21 : Int32).toNatClampNeg 6) (22 : Int32).toNatClampNeg 7) (23 : Int32).toNatClampNeg 8))) : Ct G l yX12_isSupported wsX12_isSupported ({ frames := 0, cells := 0, slots := 0, locals := 0 }) 0 0 [.ref y, .int 7] Φ sz (fun v Φ1 sz1 => v = some (.int 1) ∧ sz1 = sz ∧ (∀ b9 : Nat, Φ1 b9 = Φ b9)) := by
  refine Ct.of (cc := cX12_isSupported) (maxL := 2) (ret := (some .boolean)) (by decide) rfl (Nat.le_of_ble_eq_true rfl) ?_
  intro p9 e9 s9 m9 w9 t9 k9 B
  show Z p9 l e9 _ s9 m9 _ w9 t9 k9 _ G 2 0 [(0, .ref y), (1, .int 7)] [] Φ sz 0 0
  refine z_aload_n B dX12_isSupported_0 rfl 0 rfl ?_
  refine z_get (ref := "FlowExporterModel") (C := RX12) (T := TX12) (N := 54) (ci := 14) (v := .ref (y + 2)) B (by decide +kernel) rfl 2 (by decide) (by decide +kernel) rfl hc0_ rfl dX12_isSupported_1 ?_
  refine z_bipush (v := 9) B dX12_isSupported_4 rfl ?_
  refine z_iald B hc2_ (vin rfl) dX12_isSupported_6 ?_
  refine z_top (st1 := [.int 511]) (by rfl) ?_
  refine z_iload_n B dX12_isSupported_7 rfl 1 rfl ?_
  refine z_ishr B dX12_isSupported_8 ?_
  refine z_top (st1 := [.int 3]) (congrArg (fun w9 : Int32 => ([.int w9] : List Value)) (show ((511 : Int32) >>> ((7 : Int32) &&& (31 : Int32)) : Int32) = 3 by decide +kernel)) ?_
  refine z_iconst (v := 1) B dX12_isSupported_9 rfl ?_
  refine z_iand B dX12_isSupported_10 ?_
  refine z_top (st1 := [.int 1]) (congrArg (fun w9 : Int32 => ([.int w9] : List Value)) (show (3 &&& 1 : Int32) = 1 by decide +kernel)) ?_
  refine z_iconst (v := 1) B dX12_isSupported_11 rfl ?_
  refine z_icmp_ne (tgt := 19) B dX12_isSupported_12 rfl (fun h9 => absurd (by decide) h9) (fun c_1 => ?_)
  refine z_iconst (v := 1) B dX12_isSupported_15 rfl ?_
  refine z_goto (tgt := 20) B dX12_isSupported_16 rfl ?_
  exact z_ret_z B dX12_isSupported_20 (by decide) ⟨rfl, rfl, (fun b9 => rfl)⟩

set_option maxHeartbeats 4000000 in
set_option maxRecDepth 100000 in
theorem m_X12_setSupport_7_0 (G : EnvG) (l : Launch) (Φ : Hm) (sz : Nat) (y : Nat) (hc0_ : Φ y = some (o_ 14 [.int 0, .ref (y + 1), .ref (y + 2), .int 0, .int 1, .int 1, .int 0, .int 0, .ref (y + 3), .ref (y + 4), .int 0, .long 0, .ref (y + 5), .int 0, .int 0, .long 0, .long 0, .long 0, .long 0, .ref (y + 6), .ref (y + 7), .int 0, .ref (y + 8), .int 0, .ref (y + 9), .ref (y + 10), .int 0, .ref (y + 11), .ref (y + 12), .ref (y + 13), .ref (y + 14), .ref (y + 15), .ref (y + 16), .int 0, .long (-1), .ref (y + 17), .ref (y + 18), .ref (y + 19), .ref (y + 20), .ref (y + 21), .ref (y + 22), .int 0, .ref (y + 23), .ref (y + 24), .int 0, .ref (y + 25), .int 0, .int 0, .int 0, .int (-1), .int 0, .int 0, .int 0, .long 0])) (hc2_ : Φ (y + 2) = some (ai_ G 307 (upd (upd (upd (upd (upd (upd (upd (upd (upd (upd (upd (upd (upd (upd (upd (upd (upd (upd (upd (upd (upd (fun _ => 0) (0 : Int32).toNatClampNeg 1) (1 : Int32).toNatClampNeg 100) (2 : Int32).toNatClampNeg 1000) (3 : Int32).toNatClampNeg 100) (4 : Int32).toNatClampNeg 20) (5 : Int32).toNatClampNeg 1000) (6 : Int32).toNatClampNeg 5000) (7 : Int32).toNatClampNeg 512) (8 : Int32).toNatClampNeg 1) (9 : Int32).toNatClampNeg 511) (10 : Int32).toNatClampNeg 1) (11 : Int32).toNatClampNeg 9) (15 : Int32).toNatClampNeg 0) (16 : Int32).toNatClampNeg 1) (17 : Int32).toNatClampNeg 2) (18 : Int32).toNatClampNeg 3) (19 : Int32).toNatClampNeg 4) (20 : Int32).toNatClampNeg 5) (21 : Int32).toNatClampNeg 6) (22 : Int32).toNatClampNeg 7) (23 : Int32).toNatClampNeg 8))) (hc3_ : Φ (y + 3) = some (ai_ G 4 (upd (upd (upd (upd (fun _ => 0) (0 : Int32).toNatClampNeg (-1)) (1 : Int32).toNatClampNeg (-1)) (2 : Int32).toNatClampNeg (-1)) (3 : Int32).toNatClampNeg (-1)))) (hna : G.2.2.2 ≤ y) : Ct G l yX12_setSupport wsX12_setSupport ({ frames := 2, cells := 0, slots := 0, locals := 45 }) 0 0 [.ref y, .int 7, .int 0] Φ sz (fun v Φ1 sz1 => v = some (.int 1) ∧ (∃ fs : List Value, Φ1 y = some (o_ 14 fs) ∧ fs[0]? = some (.int 0)) ∧ ∀ b9 : Nat, y + 26 ≤ b9 → Φ1 b9 = Φ b9) := by
  refine Ct.of (cc := cX12_setSupport) (maxL := 5) (ret := (some .boolean)) (by decide) rfl (Nat.le_of_ble_eq_true rfl) ?_
  intro p9 e9 s9 m9 w9 t9 k9 B
  show Z p9 l e9 _ s9 m9 _ w9 t9 k9 _ G 5 0 [(0, .ref y), (1, .int 7), (2, .int 0)] [] Φ sz 0 0
  refine z_aload_n B dX12_setSupport_0 rfl 0 rfl ?_
  refine z_iconst (v := 0) B dX12_setSupport_1 rfl ?_
  refine z_put (ref := "FlowExporterModel") (C := RX12) (T := TX12) (N := 54) (ci := 14) (v := .int 0) B (by decide +kernel) tyX12 tyX12_ok nmX12 rfl 0 (by decide) (by decide +kernel) rfl (Or.inl rfl) hc0_ hna rfl rfl (Nat.le_of_ble_eq_true rfl) dX12_setSupport_2 (fun Φ1 hΦ1 => ?_)
  have h_1 : Φ1 y = some (o_ 14 [.int 0, .ref (y + 1), .ref (y + 2), .int 0, .int 1, .int 1, .int 0, .int 0, .ref (y + 3), .ref (y + 4), .int 0, .long 0, .ref (y + 5), .int 0, .int 0, .long 0, .long 0, .long 0, .long 0, .ref (y + 6), .ref (y + 7), .int 0, .ref (y + 8), .int 0, .ref (y + 9), .ref (y + 10), .int 0, .ref (y + 11), .ref (y + 12), .ref (y + 13), .ref (y + 14), .ref (y + 15), .ref (y + 16), .int 0, .long (-1), .ref (y + 17), .ref (y + 18), .ref (y + 19), .ref (y + 20), .ref (y + 21), .ref (y + 22), .int 0, .ref (y + 23), .ref (y + 24), .int 0, .ref (y + 25), .int 0, .int 0, .int 0, .int (-1), .int 0, .int 0, .int 0, .long 0]) := fset_at hΦ1
  refine z_aload_n B dX12_setSupport_5 rfl 0 rfl ?_
  refine z_iload_n B dX12_setSupport_6 rfl 1 rfl ?_
  refine z_i2l (v := 7) B dX12_setSupport_7 (by decide +kernel) ?_
  refine z_lconst (v := 0) B dX12_setSupport_8 rfl ?_
  refine z_ldc2 (v := 8) B (by decide +kernel) dX12_setSupport_9 ?_
  refine z_callS (As := [.long 7, .long 0, .long 8]) (rest := [.ref y]) B (c_X12_inRange_1 G l Φ1 sz 7 0 8 ⟨by decide +kernel, by decide +kernel⟩) (va_cwS 3 B.1.2.2.2.2 gX12_setSupport_X12_inRange rfl rfl rfl (by decide +kernel) ⟨Nat.le_of_ble_eq_true rfl, Nat.le_of_ble_eq_true rfl⟩) rfl rfl (Nat.le_of_ble_eq_true rfl) dX12_setSupport_12 ⟨Nat.le_of_ble_eq_true rfl, Nat.le_of_ble_eq_true rfl⟩ (fun v1 Φ2 sz1 st1 hp1 hs1 => ?_)
  obtain ⟨rfl, hq1, fr1⟩ := hp1
  replace hq1 : sz1 = sz := hq1
  subst sz1
  replace hs1 : st1 = [.int 1, .ref y] := hs1
  subst st1
  refine z_if_ne (tgt := 22) B dX12_setSupport_15 rfl (fun c_1 => ?_) (fun h9 => absurd h9 (by decide))
  refine z_iconst (v := 0) B dX12_setSupport_22 rfl ?_
  refine z_iconst (v := 1) B dX12_setSupport_23 rfl ?_
  have h_2 : Φ2 y = some (o_ 14 [.int 0, .ref (y + 1), .ref (y + 2), .int 0, .int 1, .int 1, .int 0, .int 0, .ref (y + 3), .ref (y + 4), .int 0, .long 0, .ref (y + 5), .int 0, .int 0, .long 0, .long 0, .long 0, .long 0, .ref (y + 6), .ref (y + 7), .int 0, .ref (y + 8), .int 0, .ref (y + 9), .ref (y + 10), .int 0, .ref (y + 11), .ref (y + 12), .ref (y + 13), .ref (y + 14), .ref (y + 15), .ref (y + 16), .int 0, .long (-1), .ref (y + 17), .ref (y + 18), .ref (y + 19), .ref (y + 20), .ref (y + 21), .ref (y + 22), .int 0, .ref (y + 23), .ref (y + 24), .int 0, .ref (y + 25), .int 0, .int 0, .int 0, .int (-1), .int 0, .int 0, .int 0, .long 0]) := ((fr1 y).trans h_1)
  refine z_callV (As := [.int 0, .int 1]) (rest := []) B (c_X12_throwsIf_0 G l Φ2 sz y 0 0 1 1 0 0 0 0 0 0 0 0 0 0 0 0 0 0 (-1) 0 0 0 0 0 (-1) 0 0 0 0 1 h_2 hna) (cwV 2 B.1.2.2.2.2 gX12_setSupport_X12_throwsIf rfl rfl rfl (by decide +kernel) ⟨Nat.le_of_ble_eq_true rfl, Nat.le_of_ble_eq_true rfl⟩) h_2 rfl rfl rfl rfl (Nat.le_of_ble_eq_true rfl) dX12_setSupport_24 ⟨Nat.le_of_ble_eq_true rfl, Nat.le_of_ble_eq_true rfl⟩ (fun v2 Φ3 sz2 st2 hp2 hs2 => ?_)
  obtain ⟨rfl, hq2, fr2⟩ := hp2
  replace hq2 : sz2 = sz := hq2
  subst sz2
  replace hs2 : st2 = [.int 0] := hs2
  subst st2
  refine z_if_eq (tgt := 32) B dX12_setSupport_27 rfl (fun c_2 => ?_) (fun h9 => absurd (by decide) h9)
  refine z_aload_n B dX12_setSupport_32 rfl 0 rfl ?_
  refine z_iload_n B dX12_setSupport_33 rfl 1 rfl ?_
  have h_3 : Φ3 y = some (o_ 14 [.int 0, .ref (y + 1), .ref (y + 2), .int 0, .int 1, .int 1, .int 0, .int 0, .ref (y + 3), .ref (y + 4), .int 0, .long 0, .ref (y + 5), .int 0, .int 0, .long 0, .long 0, .long 0, .long 0, .ref (y + 6), .ref (y + 7), .int 0, .ref (y + 8), .int 0, .ref (y + 9), .ref (y + 10), .int 0, .ref (y + 11), .ref (y + 12), .ref (y + 13), .ref (y + 14), .ref (y + 15), .ref (y + 16), .int 0, .long (-1), .ref (y + 17), .ref (y + 18), .ref (y + 19), .ref (y + 20), .ref (y + 21), .ref (y + 22), .int 0, .ref (y + 23), .ref (y + 24), .int 0, .ref (y + 25), .int 0, .int 0, .int 0, .int (-1), .int 0, .int 0, .int 0, .long 0]) := ((fr2 y).trans h_2)
  have h_4 : Φ3 (y + 2) = some (ai_ G 307 (upd (upd (upd (upd (upd (upd (upd (upd (upd (upd (upd (upd (upd (upd (upd (upd (upd (upd (upd (upd (upd (fun _ => 0) (0 : Int32).toNatClampNeg 1) (1 : Int32).toNatClampNeg 100) (2 : Int32).toNatClampNeg 1000) (3 : Int32).toNatClampNeg 100) (4 : Int32).toNatClampNeg 20) (5 : Int32).toNatClampNeg 1000) (6 : Int32).toNatClampNeg 5000) (7 : Int32).toNatClampNeg 512) (8 : Int32).toNatClampNeg 1) (9 : Int32).toNatClampNeg 511) (10 : Int32).toNatClampNeg 1) (11 : Int32).toNatClampNeg 9) (15 : Int32).toNatClampNeg 0) (16 : Int32).toNatClampNeg 1) (17 : Int32).toNatClampNeg 2) (18 : Int32).toNatClampNeg 3) (19 : Int32).toNatClampNeg 4) (20 : Int32).toNatClampNeg 5) (21 : Int32).toNatClampNeg 6) (22 : Int32).toNatClampNeg 7) (23 : Int32).toNatClampNeg 8)) := ((fr2 (y + 2)).trans ((fr1 (y + 2)).trans ((fset_fr hΦ1 (ne_off (x := y) (i := 2) (j := 0) rfl)).trans hc2_)))
  refine z_callV (As := [.int 7]) (rest := []) B (m_isSupported_7 G l Φ3 sz y h_3 h_4) (cwV 1 B.1.2.2.2.2 gX12_setSupport_X12_isSupported rfl rfl rfl (by decide +kernel) ⟨Nat.le_of_ble_eq_true rfl, Nat.le_of_ble_eq_true rfl⟩) h_3 rfl rfl rfl rfl (Nat.le_of_ble_eq_true rfl) dX12_setSupport_34 ⟨Nat.le_of_ble_eq_true rfl, Nat.le_of_ble_eq_true rfl⟩ (fun v3 Φ4 sz3 st3 hp3 hs3 => ?_)
  obtain ⟨rfl, hq3, fr3⟩ := hp3
  replace hq3 : sz3 = sz := hq3
  subst sz3
  replace hs3 : st3 = [.int 1] := hs3
  subst st3
  refine z_istore_n (lv' := [(3, .int 1), (0, .ref y), (1, .int 7), (2, .int 0)]) B dX12_setSupport_37 rfl (Nat.le_of_ble_eq_true rfl) rfl ?_
  refine z_iload_n B dX12_setSupport_38 rfl 0 rfl ?_
  refine z_iload_n B dX12_setSupport_39 rfl 3 rfl ?_
  refine z_icmp_ne (tgt := 45) B dX12_setSupport_40 rfl (fun c_3 => ?_) (fun h9 => absurd h9 (by decide))
  refine z_aload_n B dX12_setSupport_45 rfl 1 rfl ?_
  have h_5 : Φ4 y = some (o_ 14 [.int 0, .ref (y + 1), .ref (y + 2), .int 0, .int 1, .int 1, .int 0, .int 0, .ref (y + 3), .ref (y + 4), .int 0, .long 0, .ref (y + 5), .int 0, .int 0, .long 0, .long 0, .long 0, .long 0, .ref (y + 6), .ref (y + 7), .int 0, .ref (y + 8), .int 0, .ref (y + 9), .ref (y + 10), .int 0, .ref (y + 11), .ref (y + 12), .ref (y + 13), .ref (y + 14), .ref (y + 15), .ref (y + 16), .int 0, .long (-1), .ref (y + 17), .ref (y + 18), .ref (y + 19), .ref (y + 20), .ref (y + 21), .ref (y + 22), .int 0, .ref (y + 23), .ref (y + 24), .int 0, .ref (y + 25), .int 0, .int 0, .int 0, .int (-1), .int 0, .int 0, .int 0, .long 0]) := ((fr3 y).trans h_3)
  refine z_get (ref := "FlowExporterModel") (C := RX12) (T := TX12) (N := 54) (ci := 14) (v := .ref (y + 2)) B (by decide +kernel) rfl 2 (by decide) (by decide +kernel) rfl h_5 rfl dX12_setSupport_46 ?_
  refine z_bipush (v := 9) B dX12_setSupport_49 rfl ?_
  refine z_dup2_11 B dX12_setSupport_51 rfl rfl ?_
  have h_6 : Φ4 (y + 2) = some (ai_ G 307 (upd (upd (upd (upd (upd (upd (upd (upd (upd (upd (upd (upd (upd (upd (upd (upd (upd (upd (upd (upd (upd (fun _ => 0) (0 : Int32).toNatClampNeg 1) (1 : Int32).toNatClampNeg 100) (2 : Int32).toNatClampNeg 1000) (3 : Int32).toNatClampNeg 100) (4 : Int32).toNatClampNeg 20) (5 : Int32).toNatClampNeg 1000) (6 : Int32).toNatClampNeg 5000) (7 : Int32).toNatClampNeg 512) (8 : Int32).toNatClampNeg 1) (9 : Int32).toNatClampNeg 511) (10 : Int32).toNatClampNeg 1) (11 : Int32).toNatClampNeg 9) (15 : Int32).toNatClampNeg 0) (16 : Int32).toNatClampNeg 1) (17 : Int32).toNatClampNeg 2) (18 : Int32).toNatClampNeg 3) (19 : Int32).toNatClampNeg 4) (20 : Int32).toNatClampNeg 5) (21 : Int32).toNatClampNeg 6) (22 : Int32).toNatClampNeg 7) (23 : Int32).toNatClampNeg 8)) := ((fr3 (y + 2)).trans h_4)
  refine z_iald B h_6 (vin rfl) dX12_setSupport_52 ?_
  refine z_top (st1 := [.int 511, .int 9, .ref (y + 2)]) (by rfl) ?_
  refine z_iconst (v := 1) B dX12_setSupport_53 rfl ?_
  refine z_iload_n B dX12_setSupport_54 rfl 2 rfl ?_
  refine z_ishl B dX12_setSupport_55 ?_
  refine z_top (st1 := [.int 128, .int 511, .int 9, .ref (y + 2)]) (congrArg (fun w9 : Int32 => ([.int w9, .int 511, .int 9, .ref (y + 2)] : List Value)) (show ((1 : Int32) <<< ((7 : Int32) &&& (31 : Int32)) : Int32) = 128 by decide +kernel)) ?_
  refine z_ixor B dX12_setSupport_56 ?_
  refine z_top (st1 := [.int 383, .int 9, .ref (y + 2)]) (congrArg (fun w9 : Int32 => ([.int w9, .int 9, .ref (y + 2)] : List Value)) (show (511 ^^^ 128 : Int32) = 383 by decide +kernel)) ?_
  refine z_iast B h_6 (Nat.le_trans hna (Nat.le_add_right y 2)) (vin rfl) dX12_setSupport_57 (fun Φ5 hΦ2 => ?_)
  have h_7 : Φ5 (y + 2) = some (ai_ G 307 (upd (upd (upd (upd (upd (upd (upd (upd (upd (upd (upd (upd (upd (upd (upd (upd (upd (upd (upd (upd (upd (upd (fun _ => 0) (0 : Int32).toNatClampNeg 1) (1 : Int32).toNatClampNeg 100) (2 : Int32).toNatClampNeg 1000) (3 : Int32).toNatClampNeg 100) (4 : Int32).toNatClampNeg 20) (5 : Int32).toNatClampNeg 1000) (6 : Int32).toNatClampNeg 5000) (7 : Int32).toNatClampNeg 512) (8 : Int32).toNatClampNeg 1) (9 : Int32).toNatClampNeg 511) (10 : Int32).toNatClampNeg 1) (11 : Int32).toNatClampNeg 9) (15 : Int32).toNatClampNeg 0) (16 : Int32).toNatClampNeg 1) (17 : Int32).toNatClampNeg 2) (18 : Int32).toNatClampNeg 3) (19 : Int32).toNatClampNeg 4) (20 : Int32).toNatClampNeg 5) (21 : Int32).toNatClampNeg 6) (22 : Int32).toNatClampNeg 7) (23 : Int32).toNatClampNeg 8) (9 : Int32).toNatClampNeg 383)) := fset_at hΦ2
  refine z_iconst (v := 0) B dX12_setSupport_58 rfl ?_
  refine z_istore (lv' := [(4, .int 0), (3, .int 1), (0, .ref y), (1, .int 7), (2, .int 0)]) B dX12_setSupport_59 (Nat.le_of_ble_eq_true rfl) rfl ?_
  refine z_iload B dX12_setSupport_61 0 rfl ?_
  refine z_aload_n B dX12_setSupport_63 rfl 2 rfl ?_
  have h_8 : Φ5 y = some (o_ 14 [.int 0, .ref (y + 1), .ref (y + 2), .int 0, .int 1, .int 1, .int 0, .int 0, .ref (y + 3), .ref (y + 4), .int 0, .long 0, .ref (y + 5), .int 0, .int 0, .long 0, .long 0, .long 0, .long 0, .ref (y + 6), .ref (y + 7), .int 0, .ref (y + 8), .int 0, .ref (y + 9), .ref (y + 10), .int 0, .ref (y + 11), .ref (y + 12), .ref (y + 13), .ref (y + 14), .ref (y + 15), .ref (y + 16), .int 0, .long (-1), .ref (y + 17), .ref (y + 18), .ref (y + 19), .ref (y + 20), .ref (y + 21), .ref (y + 22), .int 0, .ref (y + 23), .ref (y + 24), .int 0, .ref (y + 25), .int 0, .int 0, .int 0, .int (-1), .int 0, .int 0, .int 0, .long 0]) := ((fset_fr hΦ2 (ne_off (x := y) (i := 0) (j := 2) rfl)).trans h_5)
  refine z_get (ref := "FlowExporterModel") (C := RX12) (T := TX12) (N := 54) (ci := 14) (v := .ref (y + 2)) B (by decide +kernel) rfl 2 (by decide) (by decide +kernel) rfl h_8 rfl dX12_setSupport_64 ?_
  refine z_bipush (v := 10) B dX12_setSupport_67 rfl ?_
  refine z_iald B h_7 (vin rfl) dX12_setSupport_69 ?_
  refine z_top (st1 := [.int 1, .int 0]) (by rfl) ?_
  refine z_icmp_ge (tgt := 101) B dX12_setSupport_70 rfl (fun h9 => absurd h9 (by decide)) (fun c_4 => ?_)
  refine z_aload_n B dX12_setSupport_73 rfl 2 rfl ?_
  refine z_iload B dX12_setSupport_74 0 rfl ?_
  refine z_callV (As := [.int 0]) (rest := []) B (m_fieldsOf_s G l Φ5 sz y 383 h_8 h_7) (cwV 1 B.1.2.2.2.2 gX12_setSupport_X12_fieldsOf rfl rfl rfl (by decide +kernel) ⟨Nat.le_of_ble_eq_true rfl, Nat.le_of_ble_eq_true rfl⟩) h_8 rfl rfl rfl rfl (Nat.le_of_ble_eq_true rfl) dX12_setSupport_76 ⟨Nat.le_of_ble_eq_true rfl, Nat.le_of_ble_eq_true rfl⟩ (fun v4 Φ6 sz4 st4 hp4 hs4 => ?_)
  obtain ⟨rfl, hq4, fr4⟩ := hp4
  replace hq4 : sz4 = sz := hq4
  subst sz4
  replace hs4 : st4 = [.int 511] := hs4
  subst st4
  refine z_iload_n B dX12_setSupport_79 rfl 3 rfl ?_
  refine z_ishr B dX12_setSupport_80 ?_
  refine z_top (st1 := [.int 3]) (congrArg (fun w9 : Int32 => ([.int w9] : List Value)) (show ((511 : Int32) >>> ((7 : Int32) &&& (31 : Int32)) : Int32) = 3 by decide +kernel)) ?_
  refine z_iconst (v := 1) B dX12_setSupport_81 rfl ?_
  refine z_iand B dX12_setSupport_82 ?_
  refine z_top (st1 := [.int 1]) (congrArg (fun w9 : Int32 => ([.int w9] : List Value)) (show (3 &&& 1 : Int32) = 1 by decide +kernel)) ?_
  refine z_iconst (v := 1) B dX12_setSupport_83 rfl ?_
  refine z_icmp_ne (tgt := 95) B dX12_setSupport_84 rfl (fun h9 => absurd (by decide) h9) (fun c_5 => ?_)
  refine z_aload_n B dX12_setSupport_87 rfl 2 rfl ?_
  have h_9 : Φ6 y = some (o_ 14 [.int 0, .ref (y + 1), .ref (y + 2), .int 0, .int 1, .int 1, .int 0, .int 0, .ref (y + 3), .ref (y + 4), .int 0, .long 0, .ref (y + 5), .int 0, .int 0, .long 0, .long 0, .long 0, .long 0, .ref (y + 6), .ref (y + 7), .int 0, .ref (y + 8), .int 0, .ref (y + 9), .ref (y + 10), .int 0, .ref (y + 11), .ref (y + 12), .ref (y + 13), .ref (y + 14), .ref (y + 15), .ref (y + 16), .int 0, .long (-1), .ref (y + 17), .ref (y + 18), .ref (y + 19), .ref (y + 20), .ref (y + 21), .ref (y + 22), .int 0, .ref (y + 23), .ref (y + 24), .int 0, .ref (y + 25), .int 0, .int 0, .int 0, .int (-1), .int 0, .int 0, .int 0, .long 0]) := ((fr4 y).trans h_8)
  refine z_get (ref := "FlowExporterModel") (C := RX12) (T := TX12) (N := 54) (ci := 14) (v := .ref (y + 3)) B (by decide +kernel) rfl 8 (by decide) (by decide +kernel) rfl h_9 rfl dX12_setSupport_88 ?_
  refine z_iload B dX12_setSupport_91 0 rfl ?_
  refine z_iconst (v := (-1)) B dX12_setSupport_93 rfl ?_
  have h_10 : Φ6 (y + 3) = some (ai_ G 4 (upd (upd (upd (upd (fun _ => 0) (0 : Int32).toNatClampNeg (-1)) (1 : Int32).toNatClampNeg (-1)) (2 : Int32).toNatClampNeg (-1)) (3 : Int32).toNatClampNeg (-1))) := ((fr4 (y + 3)).trans ((fset_fr hΦ2 (ne_off (x := y) (i := 3) (j := 2) rfl)).trans ((fr3 (y + 3)).trans ((fr2 (y + 3)).trans ((fr1 (y + 3)).trans ((fset_fr hΦ1 (ne_off (x := y) (i := 3) (j := 0) rfl)).trans hc3_))))))
  refine z_iast B h_10 (Nat.le_trans hna (Nat.le_add_right y 3)) (vin rfl) dX12_setSupport_94 (fun Φ7 hΦ3 => ?_)
  have h_11 : Φ7 (y + 3) = some (ai_ G 4 (upd (upd (upd (upd (upd (fun _ => 0) (0 : Int32).toNatClampNeg (-1)) (1 : Int32).toNatClampNeg (-1)) (2 : Int32).toNatClampNeg (-1)) (3 : Int32).toNatClampNeg (-1)) (0 : Int32).toNatClampNeg (-1))) := fset_at hΦ3
  refine z_iinc (k := 0) (v := 1) (lv' := [(4, .int 1), (3, .int 1), (0, .ref y), (1, .int 7), (2, .int 0)]) B dX12_setSupport_95 rfl rfl (Nat.le_of_ble_eq_true rfl) rfl ?_
  refine z_goto (tgt := 61) B dX12_setSupport_98 rfl ?_
  refine z_iload B dX12_setSupport_61 0 rfl ?_
  refine z_aload_n B dX12_setSupport_63 rfl 2 rfl ?_
  have h_12 : Φ7 y = some (o_ 14 [.int 0, .ref (y + 1), .ref (y + 2), .int 0, .int 1, .int 1, .int 0, .int 0, .ref (y + 3), .ref (y + 4), .int 0, .long 0, .ref (y + 5), .int 0, .int 0, .long 0, .long 0, .long 0, .long 0, .ref (y + 6), .ref (y + 7), .int 0, .ref (y + 8), .int 0, .ref (y + 9), .ref (y + 10), .int 0, .ref (y + 11), .ref (y + 12), .ref (y + 13), .ref (y + 14), .ref (y + 15), .ref (y + 16), .int 0, .long (-1), .ref (y + 17), .ref (y + 18), .ref (y + 19), .ref (y + 20), .ref (y + 21), .ref (y + 22), .int 0, .ref (y + 23), .ref (y + 24), .int 0, .ref (y + 25), .int 0, .int 0, .int 0, .int (-1), .int 0, .int 0, .int 0, .long 0]) := ((fset_fr hΦ3 (ne_off (x := y) (i := 0) (j := 3) rfl)).trans h_9)
  refine z_get (ref := "FlowExporterModel") (C := RX12) (T := TX12) (N := 54) (ci := 14) (v := .ref (y + 2)) B (by decide +kernel) rfl 2 (by decide) (by decide +kernel) rfl h_12 rfl dX12_setSupport_64 ?_
  refine z_bipush (v := 10) B dX12_setSupport_67 rfl ?_
  have h_13 : Φ7 (y + 2) = some (ai_ G 307 (upd (upd (upd (upd (upd (upd (upd (upd (upd (upd (upd (upd (upd (upd (upd (upd (upd (upd (upd (upd (upd (upd (fun _ => 0) (0 : Int32).toNatClampNeg 1) (1 : Int32).toNatClampNeg 100) (2 : Int32).toNatClampNeg 1000) (3 : Int32).toNatClampNeg 100) (4 : Int32).toNatClampNeg 20) (5 : Int32).toNatClampNeg 1000) (6 : Int32).toNatClampNeg 5000) (7 : Int32).toNatClampNeg 512) (8 : Int32).toNatClampNeg 1) (9 : Int32).toNatClampNeg 511) (10 : Int32).toNatClampNeg 1) (11 : Int32).toNatClampNeg 9) (15 : Int32).toNatClampNeg 0) (16 : Int32).toNatClampNeg 1) (17 : Int32).toNatClampNeg 2) (18 : Int32).toNatClampNeg 3) (19 : Int32).toNatClampNeg 4) (20 : Int32).toNatClampNeg 5) (21 : Int32).toNatClampNeg 6) (22 : Int32).toNatClampNeg 7) (23 : Int32).toNatClampNeg 8) (9 : Int32).toNatClampNeg 383)) := ((fset_fr hΦ3 (ne_off (x := y) (i := 2) (j := 3) rfl)).trans ((fr4 (y + 2)).trans h_7))
  refine z_iald B h_13 (vin rfl) dX12_setSupport_69 ?_
  refine z_top (st1 := [.int 1, .int 1]) (by rfl) ?_
  refine z_icmp_ge (tgt := 101) B dX12_setSupport_70 rfl (fun c_6 => ?_) (fun h9 => absurd (by decide) h9)
  refine z_iload_n B dX12_setSupport_101 rfl 1 rfl ?_
  exact z_ret_z B dX12_setSupport_102 (by decide) ⟨rfl, ⟨_, h_12, rfl⟩, fun b9 h9 => ((fset_fr hΦ3 (Nat.ne_of_gt (Nat.lt_of_lt_of_le (lt_off (x := y) (i := 3) (j := 26) rfl) h9))).trans ((fr4 b9).trans ((fset_fr hΦ2 (Nat.ne_of_gt (Nat.lt_of_lt_of_le (lt_off (x := y) (i := 2) (j := 26) rfl) h9))).trans ((fr3 b9).trans ((fr2 b9).trans ((fr1 b9).trans ((fset_fr hΦ1 (Nat.ne_of_gt (Nat.lt_of_lt_of_le (lt_off (x := y) (i := 0) (j := 26) rfl) h9))).trans rfl)))))))⟩

set_option maxHeartbeats 4000000 in
set_option maxRecDepth 100000 in
theorem m_X12_setSupport_7_1 (G : EnvG) (l : Launch) (Φ : Hm) (sz : Nat) (y : Nat) (hc0_ : Φ y = some (o_ 14 [.int 0, .ref (y + 1), .ref (y + 2), .int 0, .int 1, .int 1, .int 0, .int 0, .ref (y + 3), .ref (y + 4), .int 0, .long 0, .ref (y + 5), .int 0, .int 0, .long 0, .long 0, .long 0, .long 0, .ref (y + 6), .ref (y + 7), .int 0, .ref (y + 8), .int 0, .ref (y + 9), .ref (y + 10), .int 0, .ref (y + 11), .ref (y + 12), .ref (y + 13), .ref (y + 14), .ref (y + 15), .ref (y + 16), .int 0, .long (-1), .ref (y + 17), .ref (y + 18), .ref (y + 19), .ref (y + 20), .ref (y + 21), .ref (y + 22), .int 0, .ref (y + 23), .ref (y + 24), .int 0, .ref (y + 25), .int 0, .int 0, .int 0, .int (-1), .int 0, .int 0, .int 0, .long 0])) (hc2_ : Φ (y + 2) = some (ai_ G 307 (upd (upd (upd (upd (upd (upd (upd (upd (upd (upd (upd (upd (upd (upd (upd (upd (upd (upd (upd (upd (upd (fun _ => 0) (0 : Int32).toNatClampNeg 1) (1 : Int32).toNatClampNeg 100) (2 : Int32).toNatClampNeg 1000) (3 : Int32).toNatClampNeg 100) (4 : Int32).toNatClampNeg 20) (5 : Int32).toNatClampNeg 1000) (6 : Int32).toNatClampNeg 5000) (7 : Int32).toNatClampNeg 512) (8 : Int32).toNatClampNeg 1) (9 : Int32).toNatClampNeg 511) (10 : Int32).toNatClampNeg 1) (11 : Int32).toNatClampNeg 9) (15 : Int32).toNatClampNeg 0) (16 : Int32).toNatClampNeg 1) (17 : Int32).toNatClampNeg 2) (18 : Int32).toNatClampNeg 3) (19 : Int32).toNatClampNeg 4) (20 : Int32).toNatClampNeg 5) (21 : Int32).toNatClampNeg 6) (22 : Int32).toNatClampNeg 7) (23 : Int32).toNatClampNeg 8))) (hna : G.2.2.2 ≤ y) : Ct G l yX12_setSupport wsX12_setSupport ({ frames := 1, cells := 0, slots := 0, locals := 25 }) 0 0 [.ref y, .int 7, .int 1] Φ sz (fun v Φ1 sz1 => v = some (.int 1) ∧ (∃ fs : List Value, Φ1 y = some (o_ 14 fs) ∧ fs[0]? = some (.int 0)) ∧ ∀ b9 : Nat, y + 26 ≤ b9 → Φ1 b9 = Φ b9) := by
  refine Ct.of (cc := cX12_setSupport) (maxL := 5) (ret := (some .boolean)) (by decide) rfl (Nat.le_of_ble_eq_true rfl) ?_
  intro p9 e9 s9 m9 w9 t9 k9 B
  show Z p9 l e9 _ s9 m9 _ w9 t9 k9 _ G 5 0 [(0, .ref y), (1, .int 7), (2, .int 1)] [] Φ sz 0 0
  refine z_aload_n B dX12_setSupport_0 rfl 0 rfl ?_
  refine z_iconst (v := 0) B dX12_setSupport_1 rfl ?_
  refine z_put (ref := "FlowExporterModel") (C := RX12) (T := TX12) (N := 54) (ci := 14) (v := .int 0) B (by decide +kernel) tyX12 tyX12_ok nmX12 rfl 0 (by decide) (by decide +kernel) rfl (Or.inl rfl) hc0_ hna rfl rfl (Nat.le_of_ble_eq_true rfl) dX12_setSupport_2 (fun Φ1 hΦ1 => ?_)
  have h_1 : Φ1 y = some (o_ 14 [.int 0, .ref (y + 1), .ref (y + 2), .int 0, .int 1, .int 1, .int 0, .int 0, .ref (y + 3), .ref (y + 4), .int 0, .long 0, .ref (y + 5), .int 0, .int 0, .long 0, .long 0, .long 0, .long 0, .ref (y + 6), .ref (y + 7), .int 0, .ref (y + 8), .int 0, .ref (y + 9), .ref (y + 10), .int 0, .ref (y + 11), .ref (y + 12), .ref (y + 13), .ref (y + 14), .ref (y + 15), .ref (y + 16), .int 0, .long (-1), .ref (y + 17), .ref (y + 18), .ref (y + 19), .ref (y + 20), .ref (y + 21), .ref (y + 22), .int 0, .ref (y + 23), .ref (y + 24), .int 0, .ref (y + 25), .int 0, .int 0, .int 0, .int (-1), .int 0, .int 0, .int 0, .long 0]) := fset_at hΦ1
  refine z_aload_n B dX12_setSupport_5 rfl 0 rfl ?_
  refine z_iload_n B dX12_setSupport_6 rfl 1 rfl ?_
  refine z_i2l (v := 7) B dX12_setSupport_7 (by decide +kernel) ?_
  refine z_lconst (v := 0) B dX12_setSupport_8 rfl ?_
  refine z_ldc2 (v := 8) B (by decide +kernel) dX12_setSupport_9 ?_
  refine z_callS (As := [.long 7, .long 0, .long 8]) (rest := [.ref y]) B (c_X12_inRange_1 G l Φ1 sz 7 0 8 ⟨by decide +kernel, by decide +kernel⟩) (va_cwS 3 B.1.2.2.2.2 gX12_setSupport_X12_inRange rfl rfl rfl (by decide +kernel) ⟨Nat.le_of_ble_eq_true rfl, Nat.le_of_ble_eq_true rfl⟩) rfl rfl (Nat.le_of_ble_eq_true rfl) dX12_setSupport_12 ⟨Nat.le_of_ble_eq_true rfl, Nat.le_of_ble_eq_true rfl⟩ (fun v1 Φ2 sz1 st1 hp1 hs1 => ?_)
  obtain ⟨rfl, hq1, fr1⟩ := hp1
  replace hq1 : sz1 = sz := hq1
  subst sz1
  replace hs1 : st1 = [.int 1, .ref y] := hs1
  subst st1
  refine z_if_ne (tgt := 22) B dX12_setSupport_15 rfl (fun c_1 => ?_) (fun h9 => absurd h9 (by decide))
  refine z_iconst (v := 0) B dX12_setSupport_22 rfl ?_
  refine z_iconst (v := 1) B dX12_setSupport_23 rfl ?_
  have h_2 : Φ2 y = some (o_ 14 [.int 0, .ref (y + 1), .ref (y + 2), .int 0, .int 1, .int 1, .int 0, .int 0, .ref (y + 3), .ref (y + 4), .int 0, .long 0, .ref (y + 5), .int 0, .int 0, .long 0, .long 0, .long 0, .long 0, .ref (y + 6), .ref (y + 7), .int 0, .ref (y + 8), .int 0, .ref (y + 9), .ref (y + 10), .int 0, .ref (y + 11), .ref (y + 12), .ref (y + 13), .ref (y + 14), .ref (y + 15), .ref (y + 16), .int 0, .long (-1), .ref (y + 17), .ref (y + 18), .ref (y + 19), .ref (y + 20), .ref (y + 21), .ref (y + 22), .int 0, .ref (y + 23), .ref (y + 24), .int 0, .ref (y + 25), .int 0, .int 0, .int 0, .int (-1), .int 0, .int 0, .int 0, .long 0]) := ((fr1 y).trans h_1)
  refine z_callV (As := [.int 0, .int 1]) (rest := []) B (c_X12_throwsIf_0 G l Φ2 sz y 0 0 1 1 0 0 0 0 0 0 0 0 0 0 0 0 0 0 (-1) 0 0 0 0 0 (-1) 0 0 0 0 1 h_2 hna) (cwV 2 B.1.2.2.2.2 gX12_setSupport_X12_throwsIf rfl rfl rfl (by decide +kernel) ⟨Nat.le_of_ble_eq_true rfl, Nat.le_of_ble_eq_true rfl⟩) h_2 rfl rfl rfl rfl (Nat.le_of_ble_eq_true rfl) dX12_setSupport_24 ⟨Nat.le_of_ble_eq_true rfl, Nat.le_of_ble_eq_true rfl⟩ (fun v2 Φ3 sz2 st2 hp2 hs2 => ?_)
  obtain ⟨rfl, hq2, fr2⟩ := hp2
  replace hq2 : sz2 = sz := hq2
  subst sz2
  replace hs2 : st2 = [.int 0] := hs2
  subst st2
  refine z_if_eq (tgt := 32) B dX12_setSupport_27 rfl (fun c_2 => ?_) (fun h9 => absurd (by decide) h9)
  refine z_aload_n B dX12_setSupport_32 rfl 0 rfl ?_
  refine z_iload_n B dX12_setSupport_33 rfl 1 rfl ?_
  have h_3 : Φ3 y = some (o_ 14 [.int 0, .ref (y + 1), .ref (y + 2), .int 0, .int 1, .int 1, .int 0, .int 0, .ref (y + 3), .ref (y + 4), .int 0, .long 0, .ref (y + 5), .int 0, .int 0, .long 0, .long 0, .long 0, .long 0, .ref (y + 6), .ref (y + 7), .int 0, .ref (y + 8), .int 0, .ref (y + 9), .ref (y + 10), .int 0, .ref (y + 11), .ref (y + 12), .ref (y + 13), .ref (y + 14), .ref (y + 15), .ref (y + 16), .int 0, .long (-1), .ref (y + 17), .ref (y + 18), .ref (y + 19), .ref (y + 20), .ref (y + 21), .ref (y + 22), .int 0, .ref (y + 23), .ref (y + 24), .int 0, .ref (y + 25), .int 0, .int 0, .int 0, .int (-1), .int 0, .int 0, .int 0, .long 0]) := ((fr2 y).trans h_2)
  have h_4 : Φ3 (y + 2) = some (ai_ G 307 (upd (upd (upd (upd (upd (upd (upd (upd (upd (upd (upd (upd (upd (upd (upd (upd (upd (upd (upd (upd (upd (fun _ => 0) (0 : Int32).toNatClampNeg 1) (1 : Int32).toNatClampNeg 100) (2 : Int32).toNatClampNeg 1000) (3 : Int32).toNatClampNeg 100) (4 : Int32).toNatClampNeg 20) (5 : Int32).toNatClampNeg 1000) (6 : Int32).toNatClampNeg 5000) (7 : Int32).toNatClampNeg 512) (8 : Int32).toNatClampNeg 1) (9 : Int32).toNatClampNeg 511) (10 : Int32).toNatClampNeg 1) (11 : Int32).toNatClampNeg 9) (15 : Int32).toNatClampNeg 0) (16 : Int32).toNatClampNeg 1) (17 : Int32).toNatClampNeg 2) (18 : Int32).toNatClampNeg 3) (19 : Int32).toNatClampNeg 4) (20 : Int32).toNatClampNeg 5) (21 : Int32).toNatClampNeg 6) (22 : Int32).toNatClampNeg 7) (23 : Int32).toNatClampNeg 8)) := ((fr2 (y + 2)).trans ((fr1 (y + 2)).trans ((fset_fr hΦ1 (ne_off (x := y) (i := 2) (j := 0) rfl)).trans hc2_)))
  refine z_callV (As := [.int 7]) (rest := []) B (m_isSupported_7 G l Φ3 sz y h_3 h_4) (cwV 1 B.1.2.2.2.2 gX12_setSupport_X12_isSupported rfl rfl rfl (by decide +kernel) ⟨Nat.le_of_ble_eq_true rfl, Nat.le_of_ble_eq_true rfl⟩) h_3 rfl rfl rfl rfl (Nat.le_of_ble_eq_true rfl) dX12_setSupport_34 ⟨Nat.le_of_ble_eq_true rfl, Nat.le_of_ble_eq_true rfl⟩ (fun v3 Φ4 sz3 st3 hp3 hs3 => ?_)
  obtain ⟨rfl, hq3, fr3⟩ := hp3
  replace hq3 : sz3 = sz := hq3
  subst sz3
  replace hs3 : st3 = [.int 1] := hs3
  subst st3
  refine z_istore_n (lv' := [(3, .int 1), (0, .ref y), (1, .int 7), (2, .int 1)]) B dX12_setSupport_37 rfl (Nat.le_of_ble_eq_true rfl) rfl ?_
  refine z_iload_n B dX12_setSupport_38 rfl 0 rfl ?_
  refine z_iload_n B dX12_setSupport_39 rfl 3 rfl ?_
  refine z_icmp_ne (tgt := 45) B dX12_setSupport_40 rfl (fun h9 => absurd (by decide) h9) (fun c_3 => ?_)
  refine z_iload_n B dX12_setSupport_43 rfl 0 rfl ?_
  have h_5 : Φ4 y = some (o_ 14 [.int 0, .ref (y + 1), .ref (y + 2), .int 0, .int 1, .int 1, .int 0, .int 0, .ref (y + 3), .ref (y + 4), .int 0, .long 0, .ref (y + 5), .int 0, .int 0, .long 0, .long 0, .long 0, .long 0, .ref (y + 6), .ref (y + 7), .int 0, .ref (y + 8), .int 0, .ref (y + 9), .ref (y + 10), .int 0, .ref (y + 11), .ref (y + 12), .ref (y + 13), .ref (y + 14), .ref (y + 15), .ref (y + 16), .int 0, .long (-1), .ref (y + 17), .ref (y + 18), .ref (y + 19), .ref (y + 20), .ref (y + 21), .ref (y + 22), .int 0, .ref (y + 23), .ref (y + 24), .int 0, .ref (y + 25), .int 0, .int 0, .int 0, .int (-1), .int 0, .int 0, .int 0, .long 0]) := ((fr3 y).trans h_3)
  exact z_ret_z B dX12_setSupport_44 (by decide) ⟨rfl, ⟨_, h_5, rfl⟩, fun b9 h9 => ((fr3 b9).trans ((fr2 b9).trans ((fr1 b9).trans ((fset_fr hΦ1 (Nat.ne_of_gt (Nat.lt_of_lt_of_le (lt_off (x := y) (i := 0) (j := 26) rfl) h9))).trans rfl))))⟩

set_option maxHeartbeats 4000000 in
set_option maxRecDepth 100000 in
theorem m_isSupported_8 (G : EnvG) (l : Launch) (Φ : Hm) (sz : Nat) (y : Nat) (hc0_ : Φ y = some (o_ 14 [.int 0, .ref (y + 1), .ref (y + 2), .int 0, .int 1, .int 1, .int 0, .int 0, .ref (y + 3), .ref (y + 4), .int 0, .long 0, .ref (y + 5), .int 0, .int 0, .long 0, .long 0, .long 0, .long 0, .ref (y + 6), .ref (y + 7), .int 0, .ref (y + 8), .int 0, .ref (y + 9), .ref (y + 10), .int 0, .ref (y + 11), .ref (y + 12), .ref (y + 13), .ref (y + 14), .ref (y + 15), .ref (y + 16), .int 0, .long (-1), .ref (y + 17), .ref (y + 18), .ref (y + 19), .ref (y + 20), .ref (y + 21), .ref (y + 22), .int 0, .ref (y + 23), .ref (y + 24), .int 0, .ref (y + 25), .int 0, .int 0, .int 0, .int (-1), .int 0, .int 0, .int 0, .long 0])) (hc2_ : Φ (y + 2) = some (ai_ G 307 (upd (upd (upd (upd (upd (upd (upd (upd (upd (upd (upd (upd (upd (upd (upd (upd (upd (upd (upd (upd (upd (fun _ => 0) (0 : Int32).toNatClampNeg 1) (1 : Int32).toNatClampNeg 100) (2 : Int32).toNatClampNeg 1000) (3 : Int32).toNatClampNeg 100) (4 : Int32).toNatClampNeg 20) (5 : Int32).toNatClampNeg 1000) (6 : Int32).toNatClampNeg 5000) (7 : Int32).toNatClampNeg 512) (8 : Int32).toNatClampNeg 1) (9 : Int32).toNatClampNeg 511) (10 : Int32).toNatClampNeg 1) (11 : Int32).toNatClampNeg 9) (15 : Int32).toNatClampNeg 0) (16 : Int32).toNatClampNeg 1) (17 : Int32).toNatClampNeg 2) (18 : Int32).toNatClampNeg 3) (19 : Int32).toNatClampNeg 4) (20 : Int32).toNatClampNeg 5) (21 : Int32).toNatClampNeg 6) (22 : Int32).toNatClampNeg 7) (23 : Int32).toNatClampNeg 8))) : Ct G l yX12_isSupported wsX12_isSupported ({ frames := 0, cells := 0, slots := 0, locals := 0 }) 0 0 [.ref y, .int 8] Φ sz (fun v Φ1 sz1 => v = some (.int 1) ∧ sz1 = sz ∧ (∀ b9 : Nat, Φ1 b9 = Φ b9)) := by
  refine Ct.of (cc := cX12_isSupported) (maxL := 2) (ret := (some .boolean)) (by decide) rfl (Nat.le_of_ble_eq_true rfl) ?_
  intro p9 e9 s9 m9 w9 t9 k9 B
  show Z p9 l e9 _ s9 m9 _ w9 t9 k9 _ G 2 0 [(0, .ref y), (1, .int 8)] [] Φ sz 0 0
  refine z_aload_n B dX12_isSupported_0 rfl 0 rfl ?_
  refine z_get (ref := "FlowExporterModel") (C := RX12) (T := TX12) (N := 54) (ci := 14) (v := .ref (y + 2)) B (by decide +kernel) rfl 2 (by decide) (by decide +kernel) rfl hc0_ rfl dX12_isSupported_1 ?_
  refine z_bipush (v := 9) B dX12_isSupported_4 rfl ?_
  refine z_iald B hc2_ (vin rfl) dX12_isSupported_6 ?_
  refine z_top (st1 := [.int 511]) (by rfl) ?_
  refine z_iload_n B dX12_isSupported_7 rfl 1 rfl ?_
  refine z_ishr B dX12_isSupported_8 ?_
  refine z_top (st1 := [.int 1]) (congrArg (fun w9 : Int32 => ([.int w9] : List Value)) (show ((511 : Int32) >>> ((8 : Int32) &&& (31 : Int32)) : Int32) = 1 by decide +kernel)) ?_
  refine z_iconst (v := 1) B dX12_isSupported_9 rfl ?_
  refine z_iand B dX12_isSupported_10 ?_
  refine z_top (st1 := [.int 1]) (congrArg (fun w9 : Int32 => ([.int w9] : List Value)) (show (1 &&& 1 : Int32) = 1 by decide +kernel)) ?_
  refine z_iconst (v := 1) B dX12_isSupported_11 rfl ?_
  refine z_icmp_ne (tgt := 19) B dX12_isSupported_12 rfl (fun h9 => absurd (by decide) h9) (fun c_1 => ?_)
  refine z_iconst (v := 1) B dX12_isSupported_15 rfl ?_
  refine z_goto (tgt := 20) B dX12_isSupported_16 rfl ?_
  exact z_ret_z B dX12_isSupported_20 (by decide) ⟨rfl, rfl, (fun b9 => rfl)⟩

set_option maxHeartbeats 4000000 in
set_option maxRecDepth 100000 in
theorem m_X12_setSupport_8_0 (G : EnvG) (l : Launch) (Φ : Hm) (sz : Nat) (y : Nat) (hc0_ : Φ y = some (o_ 14 [.int 0, .ref (y + 1), .ref (y + 2), .int 0, .int 1, .int 1, .int 0, .int 0, .ref (y + 3), .ref (y + 4), .int 0, .long 0, .ref (y + 5), .int 0, .int 0, .long 0, .long 0, .long 0, .long 0, .ref (y + 6), .ref (y + 7), .int 0, .ref (y + 8), .int 0, .ref (y + 9), .ref (y + 10), .int 0, .ref (y + 11), .ref (y + 12), .ref (y + 13), .ref (y + 14), .ref (y + 15), .ref (y + 16), .int 0, .long (-1), .ref (y + 17), .ref (y + 18), .ref (y + 19), .ref (y + 20), .ref (y + 21), .ref (y + 22), .int 0, .ref (y + 23), .ref (y + 24), .int 0, .ref (y + 25), .int 0, .int 0, .int 0, .int (-1), .int 0, .int 0, .int 0, .long 0])) (hc2_ : Φ (y + 2) = some (ai_ G 307 (upd (upd (upd (upd (upd (upd (upd (upd (upd (upd (upd (upd (upd (upd (upd (upd (upd (upd (upd (upd (upd (fun _ => 0) (0 : Int32).toNatClampNeg 1) (1 : Int32).toNatClampNeg 100) (2 : Int32).toNatClampNeg 1000) (3 : Int32).toNatClampNeg 100) (4 : Int32).toNatClampNeg 20) (5 : Int32).toNatClampNeg 1000) (6 : Int32).toNatClampNeg 5000) (7 : Int32).toNatClampNeg 512) (8 : Int32).toNatClampNeg 1) (9 : Int32).toNatClampNeg 511) (10 : Int32).toNatClampNeg 1) (11 : Int32).toNatClampNeg 9) (15 : Int32).toNatClampNeg 0) (16 : Int32).toNatClampNeg 1) (17 : Int32).toNatClampNeg 2) (18 : Int32).toNatClampNeg 3) (19 : Int32).toNatClampNeg 4) (20 : Int32).toNatClampNeg 5) (21 : Int32).toNatClampNeg 6) (22 : Int32).toNatClampNeg 7) (23 : Int32).toNatClampNeg 8))) (hc3_ : Φ (y + 3) = some (ai_ G 4 (upd (upd (upd (upd (fun _ => 0) (0 : Int32).toNatClampNeg (-1)) (1 : Int32).toNatClampNeg (-1)) (2 : Int32).toNatClampNeg (-1)) (3 : Int32).toNatClampNeg (-1)))) (hna : G.2.2.2 ≤ y) : Ct G l yX12_setSupport wsX12_setSupport ({ frames := 2, cells := 0, slots := 0, locals := 45 }) 0 0 [.ref y, .int 8, .int 0] Φ sz (fun v Φ1 sz1 => v = some (.int 1) ∧ (∃ fs : List Value, Φ1 y = some (o_ 14 fs) ∧ fs[0]? = some (.int 0)) ∧ ∀ b9 : Nat, y + 26 ≤ b9 → Φ1 b9 = Φ b9) := by
  refine Ct.of (cc := cX12_setSupport) (maxL := 5) (ret := (some .boolean)) (by decide) rfl (Nat.le_of_ble_eq_true rfl) ?_
  intro p9 e9 s9 m9 w9 t9 k9 B
  show Z p9 l e9 _ s9 m9 _ w9 t9 k9 _ G 5 0 [(0, .ref y), (1, .int 8), (2, .int 0)] [] Φ sz 0 0
  refine z_aload_n B dX12_setSupport_0 rfl 0 rfl ?_
  refine z_iconst (v := 0) B dX12_setSupport_1 rfl ?_
  refine z_put (ref := "FlowExporterModel") (C := RX12) (T := TX12) (N := 54) (ci := 14) (v := .int 0) B (by decide +kernel) tyX12 tyX12_ok nmX12 rfl 0 (by decide) (by decide +kernel) rfl (Or.inl rfl) hc0_ hna rfl rfl (Nat.le_of_ble_eq_true rfl) dX12_setSupport_2 (fun Φ1 hΦ1 => ?_)
  have h_1 : Φ1 y = some (o_ 14 [.int 0, .ref (y + 1), .ref (y + 2), .int 0, .int 1, .int 1, .int 0, .int 0, .ref (y + 3), .ref (y + 4), .int 0, .long 0, .ref (y + 5), .int 0, .int 0, .long 0, .long 0, .long 0, .long 0, .ref (y + 6), .ref (y + 7), .int 0, .ref (y + 8), .int 0, .ref (y + 9), .ref (y + 10), .int 0, .ref (y + 11), .ref (y + 12), .ref (y + 13), .ref (y + 14), .ref (y + 15), .ref (y + 16), .int 0, .long (-1), .ref (y + 17), .ref (y + 18), .ref (y + 19), .ref (y + 20), .ref (y + 21), .ref (y + 22), .int 0, .ref (y + 23), .ref (y + 24), .int 0, .ref (y + 25), .int 0, .int 0, .int 0, .int (-1), .int 0, .int 0, .int 0, .long 0]) := fset_at hΦ1
  refine z_aload_n B dX12_setSupport_5 rfl 0 rfl ?_
  refine z_iload_n B dX12_setSupport_6 rfl 1 rfl ?_
  refine z_i2l (v := 8) B dX12_setSupport_7 (by decide +kernel) ?_
  refine z_lconst (v := 0) B dX12_setSupport_8 rfl ?_
  refine z_ldc2 (v := 8) B (by decide +kernel) dX12_setSupport_9 ?_
  refine z_callS (As := [.long 8, .long 0, .long 8]) (rest := [.ref y]) B (c_X12_inRange_1 G l Φ1 sz 8 0 8 ⟨by decide +kernel, by decide +kernel⟩) (va_cwS 3 B.1.2.2.2.2 gX12_setSupport_X12_inRange rfl rfl rfl (by decide +kernel) ⟨Nat.le_of_ble_eq_true rfl, Nat.le_of_ble_eq_true rfl⟩) rfl rfl (Nat.le_of_ble_eq_true rfl) dX12_setSupport_12 ⟨Nat.le_of_ble_eq_true rfl, Nat.le_of_ble_eq_true rfl⟩ (fun v1 Φ2 sz1 st1 hp1 hs1 => ?_)
  obtain ⟨rfl, hq1, fr1⟩ := hp1
  replace hq1 : sz1 = sz := hq1
  subst sz1
  replace hs1 : st1 = [.int 1, .ref y] := hs1
  subst st1
  refine z_if_ne (tgt := 22) B dX12_setSupport_15 rfl (fun c_1 => ?_) (fun h9 => absurd h9 (by decide))
  refine z_iconst (v := 0) B dX12_setSupport_22 rfl ?_
  refine z_iconst (v := 1) B dX12_setSupport_23 rfl ?_
  have h_2 : Φ2 y = some (o_ 14 [.int 0, .ref (y + 1), .ref (y + 2), .int 0, .int 1, .int 1, .int 0, .int 0, .ref (y + 3), .ref (y + 4), .int 0, .long 0, .ref (y + 5), .int 0, .int 0, .long 0, .long 0, .long 0, .long 0, .ref (y + 6), .ref (y + 7), .int 0, .ref (y + 8), .int 0, .ref (y + 9), .ref (y + 10), .int 0, .ref (y + 11), .ref (y + 12), .ref (y + 13), .ref (y + 14), .ref (y + 15), .ref (y + 16), .int 0, .long (-1), .ref (y + 17), .ref (y + 18), .ref (y + 19), .ref (y + 20), .ref (y + 21), .ref (y + 22), .int 0, .ref (y + 23), .ref (y + 24), .int 0, .ref (y + 25), .int 0, .int 0, .int 0, .int (-1), .int 0, .int 0, .int 0, .long 0]) := ((fr1 y).trans h_1)
  refine z_callV (As := [.int 0, .int 1]) (rest := []) B (c_X12_throwsIf_0 G l Φ2 sz y 0 0 1 1 0 0 0 0 0 0 0 0 0 0 0 0 0 0 (-1) 0 0 0 0 0 (-1) 0 0 0 0 1 h_2 hna) (cwV 2 B.1.2.2.2.2 gX12_setSupport_X12_throwsIf rfl rfl rfl (by decide +kernel) ⟨Nat.le_of_ble_eq_true rfl, Nat.le_of_ble_eq_true rfl⟩) h_2 rfl rfl rfl rfl (Nat.le_of_ble_eq_true rfl) dX12_setSupport_24 ⟨Nat.le_of_ble_eq_true rfl, Nat.le_of_ble_eq_true rfl⟩ (fun v2 Φ3 sz2 st2 hp2 hs2 => ?_)
  obtain ⟨rfl, hq2, fr2⟩ := hp2
  replace hq2 : sz2 = sz := hq2
  subst sz2
  replace hs2 : st2 = [.int 0] := hs2
  subst st2
  refine z_if_eq (tgt := 32) B dX12_setSupport_27 rfl (fun c_2 => ?_) (fun h9 => absurd (by decide) h9)
  refine z_aload_n B dX12_setSupport_32 rfl 0 rfl ?_
  refine z_iload_n B dX12_setSupport_33 rfl 1 rfl ?_
  have h_3 : Φ3 y = some (o_ 14 [.int 0, .ref (y + 1), .ref (y + 2), .int 0, .int 1, .int 1, .int 0, .int 0, .ref (y + 3), .ref (y + 4), .int 0, .long 0, .ref (y + 5), .int 0, .int 0, .long 0, .long 0, .long 0, .long 0, .ref (y + 6), .ref (y + 7), .int 0, .ref (y + 8), .int 0, .ref (y + 9), .ref (y + 10), .int 0, .ref (y + 11), .ref (y + 12), .ref (y + 13), .ref (y + 14), .ref (y + 15), .ref (y + 16), .int 0, .long (-1), .ref (y + 17), .ref (y + 18), .ref (y + 19), .ref (y + 20), .ref (y + 21), .ref (y + 22), .int 0, .ref (y + 23), .ref (y + 24), .int 0, .ref (y + 25), .int 0, .int 0, .int 0, .int (-1), .int 0, .int 0, .int 0, .long 0]) := ((fr2 y).trans h_2)
  have h_4 : Φ3 (y + 2) = some (ai_ G 307 (upd (upd (upd (upd (upd (upd (upd (upd (upd (upd (upd (upd (upd (upd (upd (upd (upd (upd (upd (upd (upd (fun _ => 0) (0 : Int32).toNatClampNeg 1) (1 : Int32).toNatClampNeg 100) (2 : Int32).toNatClampNeg 1000) (3 : Int32).toNatClampNeg 100) (4 : Int32).toNatClampNeg 20) (5 : Int32).toNatClampNeg 1000) (6 : Int32).toNatClampNeg 5000) (7 : Int32).toNatClampNeg 512) (8 : Int32).toNatClampNeg 1) (9 : Int32).toNatClampNeg 511) (10 : Int32).toNatClampNeg 1) (11 : Int32).toNatClampNeg 9) (15 : Int32).toNatClampNeg 0) (16 : Int32).toNatClampNeg 1) (17 : Int32).toNatClampNeg 2) (18 : Int32).toNatClampNeg 3) (19 : Int32).toNatClampNeg 4) (20 : Int32).toNatClampNeg 5) (21 : Int32).toNatClampNeg 6) (22 : Int32).toNatClampNeg 7) (23 : Int32).toNatClampNeg 8)) := ((fr2 (y + 2)).trans ((fr1 (y + 2)).trans ((fset_fr hΦ1 (ne_off (x := y) (i := 2) (j := 0) rfl)).trans hc2_)))
  refine z_callV (As := [.int 8]) (rest := []) B (m_isSupported_8 G l Φ3 sz y h_3 h_4) (cwV 1 B.1.2.2.2.2 gX12_setSupport_X12_isSupported rfl rfl rfl (by decide +kernel) ⟨Nat.le_of_ble_eq_true rfl, Nat.le_of_ble_eq_true rfl⟩) h_3 rfl rfl rfl rfl (Nat.le_of_ble_eq_true rfl) dX12_setSupport_34 ⟨Nat.le_of_ble_eq_true rfl, Nat.le_of_ble_eq_true rfl⟩ (fun v3 Φ4 sz3 st3 hp3 hs3 => ?_)
  obtain ⟨rfl, hq3, fr3⟩ := hp3
  replace hq3 : sz3 = sz := hq3
  subst sz3
  replace hs3 : st3 = [.int 1] := hs3
  subst st3
  refine z_istore_n (lv' := [(3, .int 1), (0, .ref y), (1, .int 8), (2, .int 0)]) B dX12_setSupport_37 rfl (Nat.le_of_ble_eq_true rfl) rfl ?_
  refine z_iload_n B dX12_setSupport_38 rfl 0 rfl ?_
  refine z_iload_n B dX12_setSupport_39 rfl 3 rfl ?_
  refine z_icmp_ne (tgt := 45) B dX12_setSupport_40 rfl (fun c_3 => ?_) (fun h9 => absurd h9 (by decide))
  refine z_aload_n B dX12_setSupport_45 rfl 1 rfl ?_
  have h_5 : Φ4 y = some (o_ 14 [.int 0, .ref (y + 1), .ref (y + 2), .int 0, .int 1, .int 1, .int 0, .int 0, .ref (y + 3), .ref (y + 4), .int 0, .long 0, .ref (y + 5), .int 0, .int 0, .long 0, .long 0, .long 0, .long 0, .ref (y + 6), .ref (y + 7), .int 0, .ref (y + 8), .int 0, .ref (y + 9), .ref (y + 10), .int 0, .ref (y + 11), .ref (y + 12), .ref (y + 13), .ref (y + 14), .ref (y + 15), .ref (y + 16), .int 0, .long (-1), .ref (y + 17), .ref (y + 18), .ref (y + 19), .ref (y + 20), .ref (y + 21), .ref (y + 22), .int 0, .ref (y + 23), .ref (y + 24), .int 0, .ref (y + 25), .int 0, .int 0, .int 0, .int (-1), .int 0, .int 0, .int 0, .long 0]) := ((fr3 y).trans h_3)
  refine z_get (ref := "FlowExporterModel") (C := RX12) (T := TX12) (N := 54) (ci := 14) (v := .ref (y + 2)) B (by decide +kernel) rfl 2 (by decide) (by decide +kernel) rfl h_5 rfl dX12_setSupport_46 ?_
  refine z_bipush (v := 9) B dX12_setSupport_49 rfl ?_
  refine z_dup2_11 B dX12_setSupport_51 rfl rfl ?_
  have h_6 : Φ4 (y + 2) = some (ai_ G 307 (upd (upd (upd (upd (upd (upd (upd (upd (upd (upd (upd (upd (upd (upd (upd (upd (upd (upd (upd (upd (upd (fun _ => 0) (0 : Int32).toNatClampNeg 1) (1 : Int32).toNatClampNeg 100) (2 : Int32).toNatClampNeg 1000) (3 : Int32).toNatClampNeg 100) (4 : Int32).toNatClampNeg 20) (5 : Int32).toNatClampNeg 1000) (6 : Int32).toNatClampNeg 5000) (7 : Int32).toNatClampNeg 512) (8 : Int32).toNatClampNeg 1) (9 : Int32).toNatClampNeg 511) (10 : Int32).toNatClampNeg 1) (11 : Int32).toNatClampNeg 9) (15 : Int32).toNatClampNeg 0) (16 : Int32).toNatClampNeg 1) (17 : Int32).toNatClampNeg 2) (18 : Int32).toNatClampNeg 3) (19 : Int32).toNatClampNeg 4) (20 : Int32).toNatClampNeg 5) (21 : Int32).toNatClampNeg 6) (22 : Int32).toNatClampNeg 7) (23 : Int32).toNatClampNeg 8)) := ((fr3 (y + 2)).trans h_4)
  refine z_iald B h_6 (vin rfl) dX12_setSupport_52 ?_
  refine z_top (st1 := [.int 511, .int 9, .ref (y + 2)]) (by rfl) ?_
  refine z_iconst (v := 1) B dX12_setSupport_53 rfl ?_
  refine z_iload_n B dX12_setSupport_54 rfl 2 rfl ?_
  refine z_ishl B dX12_setSupport_55 ?_
  refine z_top (st1 := [.int 256, .int 511, .int 9, .ref (y + 2)]) (congrArg (fun w9 : Int32 => ([.int w9, .int 511, .int 9, .ref (y + 2)] : List Value)) (show ((1 : Int32) <<< ((8 : Int32) &&& (31 : Int32)) : Int32) = 256 by decide +kernel)) ?_
  refine z_ixor B dX12_setSupport_56 ?_
  refine z_top (st1 := [.int 255, .int 9, .ref (y + 2)]) (congrArg (fun w9 : Int32 => ([.int w9, .int 9, .ref (y + 2)] : List Value)) (show (511 ^^^ 256 : Int32) = 255 by decide +kernel)) ?_
  refine z_iast B h_6 (Nat.le_trans hna (Nat.le_add_right y 2)) (vin rfl) dX12_setSupport_57 (fun Φ5 hΦ2 => ?_)
  have h_7 : Φ5 (y + 2) = some (ai_ G 307 (upd (upd (upd (upd (upd (upd (upd (upd (upd (upd (upd (upd (upd (upd (upd (upd (upd (upd (upd (upd (upd (upd (fun _ => 0) (0 : Int32).toNatClampNeg 1) (1 : Int32).toNatClampNeg 100) (2 : Int32).toNatClampNeg 1000) (3 : Int32).toNatClampNeg 100) (4 : Int32).toNatClampNeg 20) (5 : Int32).toNatClampNeg 1000) (6 : Int32).toNatClampNeg 5000) (7 : Int32).toNatClampNeg 512) (8 : Int32).toNatClampNeg 1) (9 : Int32).toNatClampNeg 511) (10 : Int32).toNatClampNeg 1) (11 : Int32).toNatClampNeg 9) (15 : Int32).toNatClampNeg 0) (16 : Int32).toNatClampNeg 1) (17 : Int32).toNatClampNeg 2) (18 : Int32).toNatClampNeg 3) (19 : Int32).toNatClampNeg 4) (20 : Int32).toNatClampNeg 5) (21 : Int32).toNatClampNeg 6) (22 : Int32).toNatClampNeg 7) (23 : Int32).toNatClampNeg 8) (9 : Int32).toNatClampNeg 255)) := fset_at hΦ2
  refine z_iconst (v := 0) B dX12_setSupport_58 rfl ?_
  refine z_istore (lv' := [(4, .int 0), (3, .int 1), (0, .ref y), (1, .int 8), (2, .int 0)]) B dX12_setSupport_59 (Nat.le_of_ble_eq_true rfl) rfl ?_
  refine z_iload B dX12_setSupport_61 0 rfl ?_
  refine z_aload_n B dX12_setSupport_63 rfl 2 rfl ?_
  have h_8 : Φ5 y = some (o_ 14 [.int 0, .ref (y + 1), .ref (y + 2), .int 0, .int 1, .int 1, .int 0, .int 0, .ref (y + 3), .ref (y + 4), .int 0, .long 0, .ref (y + 5), .int 0, .int 0, .long 0, .long 0, .long 0, .long 0, .ref (y + 6), .ref (y + 7), .int 0, .ref (y + 8), .int 0, .ref (y + 9), .ref (y + 10), .int 0, .ref (y + 11), .ref (y + 12), .ref (y + 13), .ref (y + 14), .ref (y + 15), .ref (y + 16), .int 0, .long (-1), .ref (y + 17), .ref (y + 18), .ref (y + 19), .ref (y + 20), .ref (y + 21), .ref (y + 22), .int 0, .ref (y + 23), .ref (y + 24), .int 0, .ref (y + 25), .int 0, .int 0, .int 0, .int (-1), .int 0, .int 0, .int 0, .long 0]) := ((fset_fr hΦ2 (ne_off (x := y) (i := 0) (j := 2) rfl)).trans h_5)
  refine z_get (ref := "FlowExporterModel") (C := RX12) (T := TX12) (N := 54) (ci := 14) (v := .ref (y + 2)) B (by decide +kernel) rfl 2 (by decide) (by decide +kernel) rfl h_8 rfl dX12_setSupport_64 ?_
  refine z_bipush (v := 10) B dX12_setSupport_67 rfl ?_
  refine z_iald B h_7 (vin rfl) dX12_setSupport_69 ?_
  refine z_top (st1 := [.int 1, .int 0]) (by rfl) ?_
  refine z_icmp_ge (tgt := 101) B dX12_setSupport_70 rfl (fun h9 => absurd h9 (by decide)) (fun c_4 => ?_)
  refine z_aload_n B dX12_setSupport_73 rfl 2 rfl ?_
  refine z_iload B dX12_setSupport_74 0 rfl ?_
  refine z_callV (As := [.int 0]) (rest := []) B (m_fieldsOf_s G l Φ5 sz y 255 h_8 h_7) (cwV 1 B.1.2.2.2.2 gX12_setSupport_X12_fieldsOf rfl rfl rfl (by decide +kernel) ⟨Nat.le_of_ble_eq_true rfl, Nat.le_of_ble_eq_true rfl⟩) h_8 rfl rfl rfl rfl (Nat.le_of_ble_eq_true rfl) dX12_setSupport_76 ⟨Nat.le_of_ble_eq_true rfl, Nat.le_of_ble_eq_true rfl⟩ (fun v4 Φ6 sz4 st4 hp4 hs4 => ?_)
  obtain ⟨rfl, hq4, fr4⟩ := hp4
  replace hq4 : sz4 = sz := hq4
  subst sz4
  replace hs4 : st4 = [.int 511] := hs4
  subst st4
  refine z_iload_n B dX12_setSupport_79 rfl 3 rfl ?_
  refine z_ishr B dX12_setSupport_80 ?_
  refine z_top (st1 := [.int 1]) (congrArg (fun w9 : Int32 => ([.int w9] : List Value)) (show ((511 : Int32) >>> ((8 : Int32) &&& (31 : Int32)) : Int32) = 1 by decide +kernel)) ?_
  refine z_iconst (v := 1) B dX12_setSupport_81 rfl ?_
  refine z_iand B dX12_setSupport_82 ?_
  refine z_top (st1 := [.int 1]) (congrArg (fun w9 : Int32 => ([.int w9] : List Value)) (show (1 &&& 1 : Int32) = 1 by decide +kernel)) ?_
  refine z_iconst (v := 1) B dX12_setSupport_83 rfl ?_
  refine z_icmp_ne (tgt := 95) B dX12_setSupport_84 rfl (fun h9 => absurd (by decide) h9) (fun c_5 => ?_)
  refine z_aload_n B dX12_setSupport_87 rfl 2 rfl ?_
  have h_9 : Φ6 y = some (o_ 14 [.int 0, .ref (y + 1), .ref (y + 2), .int 0, .int 1, .int 1, .int 0, .int 0, .ref (y + 3), .ref (y + 4), .int 0, .long 0, .ref (y + 5), .int 0, .int 0, .long 0, .long 0, .long 0, .long 0, .ref (y + 6), .ref (y + 7), .int 0, .ref (y + 8), .int 0, .ref (y + 9), .ref (y + 10), .int 0, .ref (y + 11), .ref (y + 12), .ref (y + 13), .ref (y + 14), .ref (y + 15), .ref (y + 16), .int 0, .long (-1), .ref (y + 17), .ref (y + 18), .ref (y + 19), .ref (y + 20), .ref (y + 21), .ref (y + 22), .int 0, .ref (y + 23), .ref (y + 24), .int 0, .ref (y + 25), .int 0, .int 0, .int 0, .int (-1), .int 0, .int 0, .int 0, .long 0]) := ((fr4 y).trans h_8)
  refine z_get (ref := "FlowExporterModel") (C := RX12) (T := TX12) (N := 54) (ci := 14) (v := .ref (y + 3)) B (by decide +kernel) rfl 8 (by decide) (by decide +kernel) rfl h_9 rfl dX12_setSupport_88 ?_
  refine z_iload B dX12_setSupport_91 0 rfl ?_
  refine z_iconst (v := (-1)) B dX12_setSupport_93 rfl ?_
  have h_10 : Φ6 (y + 3) = some (ai_ G 4 (upd (upd (upd (upd (fun _ => 0) (0 : Int32).toNatClampNeg (-1)) (1 : Int32).toNatClampNeg (-1)) (2 : Int32).toNatClampNeg (-1)) (3 : Int32).toNatClampNeg (-1))) := ((fr4 (y + 3)).trans ((fset_fr hΦ2 (ne_off (x := y) (i := 3) (j := 2) rfl)).trans ((fr3 (y + 3)).trans ((fr2 (y + 3)).trans ((fr1 (y + 3)).trans ((fset_fr hΦ1 (ne_off (x := y) (i := 3) (j := 0) rfl)).trans hc3_))))))
  refine z_iast B h_10 (Nat.le_trans hna (Nat.le_add_right y 3)) (vin rfl) dX12_setSupport_94 (fun Φ7 hΦ3 => ?_)
  have h_11 : Φ7 (y + 3) = some (ai_ G 4 (upd (upd (upd (upd (upd (fun _ => 0) (0 : Int32).toNatClampNeg (-1)) (1 : Int32).toNatClampNeg (-1)) (2 : Int32).toNatClampNeg (-1)) (3 : Int32).toNatClampNeg (-1)) (0 : Int32).toNatClampNeg (-1))) := fset_at hΦ3
  refine z_iinc (k := 0) (v := 1) (lv' := [(4, .int 1), (3, .int 1), (0, .ref y), (1, .int 8), (2, .int 0)]) B dX12_setSupport_95 rfl rfl (Nat.le_of_ble_eq_true rfl) rfl ?_
  refine z_goto (tgt := 61) B dX12_setSupport_98 rfl ?_
  refine z_iload B dX12_setSupport_61 0 rfl ?_
  refine z_aload_n B dX12_setSupport_63 rfl 2 rfl ?_
  have h_12 : Φ7 y = some (o_ 14 [.int 0, .ref (y + 1), .ref (y + 2), .int 0, .int 1, .int 1, .int 0, .int 0, .ref (y + 3), .ref (y + 4), .int 0, .long 0, .ref (y + 5), .int 0, .int 0, .long 0, .long 0, .long 0, .long 0, .ref (y + 6), .ref (y + 7), .int 0, .ref (y + 8), .int 0, .ref (y + 9), .ref (y + 10), .int 0, .ref (y + 11), .ref (y + 12), .ref (y + 13), .ref (y + 14), .ref (y + 15), .ref (y + 16), .int 0, .long (-1), .ref (y + 17), .ref (y + 18), .ref (y + 19), .ref (y + 20), .ref (y + 21), .ref (y + 22), .int 0, .ref (y + 23), .ref (y + 24), .int 0, .ref (y + 25), .int 0, .int 0, .int 0, .int (-1), .int 0, .int 0, .int 0, .long 0]) := ((fset_fr hΦ3 (ne_off (x := y) (i := 0) (j := 3) rfl)).trans h_9)
  refine z_get (ref := "FlowExporterModel") (C := RX12) (T := TX12) (N := 54) (ci := 14) (v := .ref (y + 2)) B (by decide +kernel) rfl 2 (by decide) (by decide +kernel) rfl h_12 rfl dX12_setSupport_64 ?_
  refine z_bipush (v := 10) B dX12_setSupport_67 rfl ?_
  have h_13 : Φ7 (y + 2) = some (ai_ G 307 (upd (upd (upd (upd (upd (upd (upd (upd (upd (upd (upd (upd (upd (upd (upd (upd (upd (upd (upd (upd (upd (upd (fun _ => 0) (0 : Int32).toNatClampNeg 1) (1 : Int32).toNatClampNeg 100) (2 : Int32).toNatClampNeg 1000) (3 : Int32).toNatClampNeg 100) (4 : Int32).toNatClampNeg 20) (5 : Int32).toNatClampNeg 1000) (6 : Int32).toNatClampNeg 5000) (7 : Int32).toNatClampNeg 512) (8 : Int32).toNatClampNeg 1) (9 : Int32).toNatClampNeg 511) (10 : Int32).toNatClampNeg 1) (11 : Int32).toNatClampNeg 9) (15 : Int32).toNatClampNeg 0) (16 : Int32).toNatClampNeg 1) (17 : Int32).toNatClampNeg 2) (18 : Int32).toNatClampNeg 3) (19 : Int32).toNatClampNeg 4) (20 : Int32).toNatClampNeg 5) (21 : Int32).toNatClampNeg 6) (22 : Int32).toNatClampNeg 7) (23 : Int32).toNatClampNeg 8) (9 : Int32).toNatClampNeg 255)) := ((fset_fr hΦ3 (ne_off (x := y) (i := 2) (j := 3) rfl)).trans ((fr4 (y + 2)).trans h_7))
  refine z_iald B h_13 (vin rfl) dX12_setSupport_69 ?_
  refine z_top (st1 := [.int 1, .int 1]) (by rfl) ?_
  refine z_icmp_ge (tgt := 101) B dX12_setSupport_70 rfl (fun c_6 => ?_) (fun h9 => absurd (by decide) h9)
  refine z_iload_n B dX12_setSupport_101 rfl 1 rfl ?_
  exact z_ret_z B dX12_setSupport_102 (by decide) ⟨rfl, ⟨_, h_12, rfl⟩, fun b9 h9 => ((fset_fr hΦ3 (Nat.ne_of_gt (Nat.lt_of_lt_of_le (lt_off (x := y) (i := 3) (j := 26) rfl) h9))).trans ((fr4 b9).trans ((fset_fr hΦ2 (Nat.ne_of_gt (Nat.lt_of_lt_of_le (lt_off (x := y) (i := 2) (j := 26) rfl) h9))).trans ((fr3 b9).trans ((fr2 b9).trans ((fr1 b9).trans ((fset_fr hΦ1 (Nat.ne_of_gt (Nat.lt_of_lt_of_le (lt_off (x := y) (i := 0) (j := 26) rfl) h9))).trans rfl)))))))⟩

set_option maxHeartbeats 4000000 in
set_option maxRecDepth 100000 in
theorem m_X12_setSupport_8_1 (G : EnvG) (l : Launch) (Φ : Hm) (sz : Nat) (y : Nat) (hc0_ : Φ y = some (o_ 14 [.int 0, .ref (y + 1), .ref (y + 2), .int 0, .int 1, .int 1, .int 0, .int 0, .ref (y + 3), .ref (y + 4), .int 0, .long 0, .ref (y + 5), .int 0, .int 0, .long 0, .long 0, .long 0, .long 0, .ref (y + 6), .ref (y + 7), .int 0, .ref (y + 8), .int 0, .ref (y + 9), .ref (y + 10), .int 0, .ref (y + 11), .ref (y + 12), .ref (y + 13), .ref (y + 14), .ref (y + 15), .ref (y + 16), .int 0, .long (-1), .ref (y + 17), .ref (y + 18), .ref (y + 19), .ref (y + 20), .ref (y + 21), .ref (y + 22), .int 0, .ref (y + 23), .ref (y + 24), .int 0, .ref (y + 25), .int 0, .int 0, .int 0, .int (-1), .int 0, .int 0, .int 0, .long 0])) (hc2_ : Φ (y + 2) = some (ai_ G 307 (upd (upd (upd (upd (upd (upd (upd (upd (upd (upd (upd (upd (upd (upd (upd (upd (upd (upd (upd (upd (upd (fun _ => 0) (0 : Int32).toNatClampNeg 1) (1 : Int32).toNatClampNeg 100) (2 : Int32).toNatClampNeg 1000) (3 : Int32).toNatClampNeg 100) (4 : Int32).toNatClampNeg 20) (5 : Int32).toNatClampNeg 1000) (6 : Int32).toNatClampNeg 5000) (7 : Int32).toNatClampNeg 512) (8 : Int32).toNatClampNeg 1) (9 : Int32).toNatClampNeg 511) (10 : Int32).toNatClampNeg 1) (11 : Int32).toNatClampNeg 9) (15 : Int32).toNatClampNeg 0) (16 : Int32).toNatClampNeg 1) (17 : Int32).toNatClampNeg 2) (18 : Int32).toNatClampNeg 3) (19 : Int32).toNatClampNeg 4) (20 : Int32).toNatClampNeg 5) (21 : Int32).toNatClampNeg 6) (22 : Int32).toNatClampNeg 7) (23 : Int32).toNatClampNeg 8))) (hna : G.2.2.2 ≤ y) : Ct G l yX12_setSupport wsX12_setSupport ({ frames := 1, cells := 0, slots := 0, locals := 25 }) 0 0 [.ref y, .int 8, .int 1] Φ sz (fun v Φ1 sz1 => v = some (.int 1) ∧ (∃ fs : List Value, Φ1 y = some (o_ 14 fs) ∧ fs[0]? = some (.int 0)) ∧ ∀ b9 : Nat, y + 26 ≤ b9 → Φ1 b9 = Φ b9) := by
  refine Ct.of (cc := cX12_setSupport) (maxL := 5) (ret := (some .boolean)) (by decide) rfl (Nat.le_of_ble_eq_true rfl) ?_
  intro p9 e9 s9 m9 w9 t9 k9 B
  show Z p9 l e9 _ s9 m9 _ w9 t9 k9 _ G 5 0 [(0, .ref y), (1, .int 8), (2, .int 1)] [] Φ sz 0 0
  refine z_aload_n B dX12_setSupport_0 rfl 0 rfl ?_
  refine z_iconst (v := 0) B dX12_setSupport_1 rfl ?_
  refine z_put (ref := "FlowExporterModel") (C := RX12) (T := TX12) (N := 54) (ci := 14) (v := .int 0) B (by decide +kernel) tyX12 tyX12_ok nmX12 rfl 0 (by decide) (by decide +kernel) rfl (Or.inl rfl) hc0_ hna rfl rfl (Nat.le_of_ble_eq_true rfl) dX12_setSupport_2 (fun Φ1 hΦ1 => ?_)
  have h_1 : Φ1 y = some (o_ 14 [.int 0, .ref (y + 1), .ref (y + 2), .int 0, .int 1, .int 1, .int 0, .int 0, .ref (y + 3), .ref (y + 4), .int 0, .long 0, .ref (y + 5), .int 0, .int 0, .long 0, .long 0, .long 0, .long 0, .ref (y + 6), .ref (y + 7), .int 0, .ref (y + 8), .int 0, .ref (y + 9), .ref (y + 10), .int 0, .ref (y + 11), .ref (y + 12), .ref (y + 13), .ref (y + 14), .ref (y + 15), .ref (y + 16), .int 0, .long (-1), .ref (y + 17), .ref (y + 18), .ref (y + 19), .ref (y + 20), .ref (y + 21), .ref (y + 22), .int 0, .ref (y + 23), .ref (y + 24), .int 0, .ref (y + 25), .int 0, .int 0, .int 0, .int (-1), .int 0, .int 0, .int 0, .long 0]) := fset_at hΦ1
  refine z_aload_n B dX12_setSupport_5 rfl 0 rfl ?_
  refine z_iload_n B dX12_setSupport_6 rfl 1 rfl ?_
  refine z_i2l (v := 8) B dX12_setSupport_7 (by decide +kernel) ?_
  refine z_lconst (v := 0) B dX12_setSupport_8 rfl ?_
  refine z_ldc2 (v := 8) B (by decide +kernel) dX12_setSupport_9 ?_
  refine z_callS (As := [.long 8, .long 0, .long 8]) (rest := [.ref y]) B (c_X12_inRange_1 G l Φ1 sz 8 0 8 ⟨by decide +kernel, by decide +kernel⟩) (va_cwS 3 B.1.2.2.2.2 gX12_setSupport_X12_inRange rfl rfl rfl (by decide +kernel) ⟨Nat.le_of_ble_eq_true rfl, Nat.le_of_ble_eq_true rfl⟩) rfl rfl (Nat.le_of_ble_eq_true rfl) dX12_setSupport_12 ⟨Nat.le_of_ble_eq_true rfl, Nat.le_of_ble_eq_true rfl⟩ (fun v1 Φ2 sz1 st1 hp1 hs1 => ?_)
  obtain ⟨rfl, hq1, fr1⟩ := hp1
  replace hq1 : sz1 = sz := hq1
  subst sz1
  replace hs1 : st1 = [.int 1, .ref y] := hs1
  subst st1
  refine z_if_ne (tgt := 22) B dX12_setSupport_15 rfl (fun c_1 => ?_) (fun h9 => absurd h9 (by decide))
  refine z_iconst (v := 0) B dX12_setSupport_22 rfl ?_
  refine z_iconst (v := 1) B dX12_setSupport_23 rfl ?_
  have h_2 : Φ2 y = some (o_ 14 [.int 0, .ref (y + 1), .ref (y + 2), .int 0, .int 1, .int 1, .int 0, .int 0, .ref (y + 3), .ref (y + 4), .int 0, .long 0, .ref (y + 5), .int 0, .int 0, .long 0, .long 0, .long 0, .long 0, .ref (y + 6), .ref (y + 7), .int 0, .ref (y + 8), .int 0, .ref (y + 9), .ref (y + 10), .int 0, .ref (y + 11), .ref (y + 12), .ref (y + 13), .ref (y + 14), .ref (y + 15), .ref (y + 16), .int 0, .long (-1), .ref (y + 17), .ref (y + 18), .ref (y + 19), .ref (y + 20), .ref (y + 21), .ref (y + 22), .int 0, .ref (y + 23), .ref (y + 24), .int 0, .ref (y + 25), .int 0, .int 0, .int 0, .int (-1), .int 0, .int 0, .int 0, .long 0]) := ((fr1 y).trans h_1)
  refine z_callV (As := [.int 0, .int 1]) (rest := []) B (c_X12_throwsIf_0 G l Φ2 sz y 0 0 1 1 0 0 0 0 0 0 0 0 0 0 0 0 0 0 (-1) 0 0 0 0 0 (-1) 0 0 0 0 1 h_2 hna) (cwV 2 B.1.2.2.2.2 gX12_setSupport_X12_throwsIf rfl rfl rfl (by decide +kernel) ⟨Nat.le_of_ble_eq_true rfl, Nat.le_of_ble_eq_true rfl⟩) h_2 rfl rfl rfl rfl (Nat.le_of_ble_eq_true rfl) dX12_setSupport_24 ⟨Nat.le_of_ble_eq_true rfl, Nat.le_of_ble_eq_true rfl⟩ (fun v2 Φ3 sz2 st2 hp2 hs2 => ?_)
  obtain ⟨rfl, hq2, fr2⟩ := hp2
  replace hq2 : sz2 = sz := hq2
  subst sz2
  replace hs2 : st2 = [.int 0] := hs2
  subst st2
  refine z_if_eq (tgt := 32) B dX12_setSupport_27 rfl (fun c_2 => ?_) (fun h9 => absurd (by decide) h9)
  refine z_aload_n B dX12_setSupport_32 rfl 0 rfl ?_
  refine z_iload_n B dX12_setSupport_33 rfl 1 rfl ?_
  have h_3 : Φ3 y = some (o_ 14 [.int 0, .ref (y + 1), .ref (y + 2), .int 0, .int 1, .int 1, .int 0, .int 0, .ref (y + 3), .ref (y + 4), .int 0, .long 0, .ref (y + 5), .int 0, .int 0, .long 0, .long 0, .long 0, .long 0, .ref (y + 6), .ref (y + 7), .int 0, .ref (y + 8), .int 0, .ref (y + 9), .ref (y + 10), .int 0, .ref (y + 11), .ref (y + 12), .ref (y + 13), .ref (y + 14), .ref (y + 15), .ref (y + 16), .int 0, .long (-1), .ref (y + 17), .ref (y + 18), .ref (y + 19), .ref (y + 20), .ref (y + 21), .ref (y + 22), .int 0, .ref (y + 23), .ref (y + 24), .int 0, .ref (y + 25), .int 0, .int 0, .int 0, .int (-1), .int 0, .int 0, .int 0, .long 0]) := ((fr2 y).trans h_2)
  have h_4 : Φ3 (y + 2) = some (ai_ G 307 (upd (upd (upd (upd (upd (upd (upd (upd (upd (upd (upd (upd (upd (upd (upd (upd (upd (upd (upd (upd (upd (fun _ => 0) (0 : Int32).toNatClampNeg 1) (1 : Int32).toNatClampNeg 100) (2 : Int32).toNatClampNeg 1000) (3 : Int32).toNatClampNeg 100) (4 : Int32).toNatClampNeg 20) (5 : Int32).toNatClampNeg 1000) (6 : Int32).toNatClampNeg 5000) (7 : Int32).toNatClampNeg 512) (8 : Int32).toNatClampNeg 1) (9 : Int32).toNatClampNeg 511) (10 : Int32).toNatClampNeg 1) (11 : Int32).toNatClampNeg 9) (15 : Int32).toNatClampNeg 0) (16 : Int32).toNatClampNeg 1) (17 : Int32).toNatClampNeg 2) (18 : Int32).toNatClampNeg 3) (19 : Int32).toNatClampNeg 4) (20 : Int32).toNatClampNeg 5) (21 : Int32).toNatClampNeg 6) (22 : Int32).toNatClampNeg 7) (23 : Int32).toNatClampNeg 8)) := ((fr2 (y + 2)).trans ((fr1 (y + 2)).trans ((fset_fr hΦ1 (ne_off (x := y) (i := 2) (j := 0) rfl)).trans hc2_)))
  refine z_callV (As := [.int 8]) (rest := []) B (m_isSupported_8 G l Φ3 sz y h_3 h_4) (cwV 1 B.1.2.2.2.2 gX12_setSupport_X12_isSupported rfl rfl rfl (by decide +kernel) ⟨Nat.le_of_ble_eq_true rfl, Nat.le_of_ble_eq_true rfl⟩) h_3 rfl rfl rfl rfl (Nat.le_of_ble_eq_true rfl) dX12_setSupport_34 ⟨Nat.le_of_ble_eq_true rfl, Nat.le_of_ble_eq_true rfl⟩ (fun v3 Φ4 sz3 st3 hp3 hs3 => ?_)
  obtain ⟨rfl, hq3, fr3⟩ := hp3
  replace hq3 : sz3 = sz := hq3
  subst sz3
  replace hs3 : st3 = [.int 1] := hs3
  subst st3
  refine z_istore_n (lv' := [(3, .int 1), (0, .ref y), (1, .int 8), (2, .int 1)]) B dX12_setSupport_37 rfl (Nat.le_of_ble_eq_true rfl) rfl ?_
  refine z_iload_n B dX12_setSupport_38 rfl 0 rfl ?_
  refine z_iload_n B dX12_setSupport_39 rfl 3 rfl ?_
  refine z_icmp_ne (tgt := 45) B dX12_setSupport_40 rfl (fun h9 => absurd (by decide) h9) (fun c_3 => ?_)
  refine z_iload_n B dX12_setSupport_43 rfl 0 rfl ?_
  have h_5 : Φ4 y = some (o_ 14 [.int 0, .ref (y + 1), .ref (y + 2), .int 0, .int 1, .int 1, .int 0, .int 0, .ref (y + 3), .ref (y + 4), .int 0, .long 0, .ref (y + 5), .int 0, .int 0, .long 0, .long 0, .long 0, .long 0, .ref (y + 6), .ref (y + 7), .int 0, .ref (y + 8), .int 0, .ref (y + 9), .ref (y + 10), .int 0, .ref (y + 11), .ref (y + 12), .ref (y + 13), .ref (y + 14), .ref (y + 15), .ref (y + 16), .int 0, .long (-1), .ref (y + 17), .ref (y + 18), .ref (y + 19), .ref (y + 20), .ref (y + 21), .ref (y + 22), .int 0, .ref (y + 23), .ref (y + 24), .int 0, .ref (y + 25), .int 0, .int 0, .int 0, .int (-1), .int 0, .int 0, .int 0, .long 0]) := ((fr3 y).trans h_3)
  exact z_ret_z B dX12_setSupport_44 (by decide) ⟨rfl, ⟨_, h_5, rfl⟩, fun b9 h9 => ((fr3 b9).trans ((fr2 b9).trans ((fr1 b9).trans ((fset_fr hΦ1 (Nat.ne_of_gt (Nat.lt_of_lt_of_le (lt_off (x := y) (i := 0) (j := 26) rfl) h9))).trans rfl))))⟩

set_option maxHeartbeats 4000000 in
set_option maxRecDepth 100000 in
theorem m_X12_setSupport_x (G : EnvG) (l : Launch) (Φ : Hm) (sz : Nat) (y : Nat) (a : Int32) (b : Int32) (hc0_ : Φ y = some (o_ 14 [.int 0, .ref (y + 1), .ref (y + 2), .int 0, .int 1, .int 1, .int 0, .int 0, .ref (y + 3), .ref (y + 4), .int 0, .long 0, .ref (y + 5), .int 0, .int 0, .long 0, .long 0, .long 0, .long 0, .ref (y + 6), .ref (y + 7), .int 0, .ref (y + 8), .int 0, .ref (y + 9), .ref (y + 10), .int 0, .ref (y + 11), .ref (y + 12), .ref (y + 13), .ref (y + 14), .ref (y + 15), .ref (y + 16), .int 0, .long (-1), .ref (y + 17), .ref (y + 18), .ref (y + 19), .ref (y + 20), .ref (y + 21), .ref (y + 22), .int 0, .ref (y + 23), .ref (y + 24), .int 0, .ref (y + 25), .int 0, .int 0, .int 0, .int (-1), .int 0, .int 0, .int 0, .long 0])) (hna : G.2.2.2 ≤ y) (hp : ¬ inP a.toInt64 0 8) : Ct G l yX12_setSupport wsX12_setSupport ({ frames := 1, cells := 0, slots := 0, locals := 25 }) 0 0 [.ref y, .int a, .int b] Φ sz (fun v Φ1 sz1 => v = some (.int 0) ∧ (∃ fs : List Value, Φ1 y = some (o_ 14 fs) ∧ fs[0]? = some (.int 1)) ∧ ∀ b9 : Nat, y + 26 ≤ b9 → Φ1 b9 = Φ b9) := by
  refine Ct.of (cc := cX12_setSupport) (maxL := 5) (ret := (some .boolean)) (by decide) rfl (Nat.le_of_ble_eq_true rfl) ?_
  intro p9 e9 s9 m9 w9 t9 k9 B
  show Z p9 l e9 _ s9 m9 _ w9 t9 k9 _ G 5 0 [(0, .ref y), (1, .int a), (2, .int b)] [] Φ sz 0 0
  refine z_aload_n B dX12_setSupport_0 rfl 0 rfl ?_
  refine z_iconst (v := 0) B dX12_setSupport_1 rfl ?_
  refine z_put (ref := "FlowExporterModel") (C := RX12) (T := TX12) (N := 54) (ci := 14) (v := .int 0) B (by decide +kernel) tyX12 tyX12_ok nmX12 rfl 0 (by decide) (by decide +kernel) rfl (Or.inl rfl) hc0_ hna rfl rfl (Nat.le_of_ble_eq_true rfl) dX12_setSupport_2 (fun Φ1 hΦ1 => ?_)
  have h_1 : Φ1 y = some (o_ 14 [.int 0, .ref (y + 1), .ref (y + 2), .int 0, .int 1, .int 1, .int 0, .int 0, .ref (y + 3), .ref (y + 4), .int 0, .long 0, .ref (y + 5), .int 0, .int 0, .long 0, .long 0, .long 0, .long 0, .ref (y + 6), .ref (y + 7), .int 0, .ref (y + 8), .int 0, .ref (y + 9), .ref (y + 10), .int 0, .ref (y + 11), .ref (y + 12), .ref (y + 13), .ref (y + 14), .ref (y + 15), .ref (y + 16), .int 0, .long (-1), .ref (y + 17), .ref (y + 18), .ref (y + 19), .ref (y + 20), .ref (y + 21), .ref (y + 22), .int 0, .ref (y + 23), .ref (y + 24), .int 0, .ref (y + 25), .int 0, .int 0, .int 0, .int (-1), .int 0, .int 0, .int 0, .long 0]) := fset_at hΦ1
  refine z_aload_n B dX12_setSupport_5 rfl 0 rfl ?_
  refine z_iload_n B dX12_setSupport_6 rfl 1 rfl ?_
  refine z_i2l (v := a.toInt64) B dX12_setSupport_7 rfl ?_
  refine z_lconst (v := 0) B dX12_setSupport_8 rfl ?_
  refine z_ldc2 (v := 8) B (by decide +kernel) dX12_setSupport_9 ?_
  refine z_callS (As := [.long a.toInt64, .long 0, .long 8]) (rest := [.ref y]) B (c_X12_inRange_0 G l Φ1 sz a.toInt64 0 8 hp) (va_cwS 3 B.1.2.2.2.2 gX12_setSupport_X12_inRange rfl rfl rfl (by decide +kernel) ⟨Nat.le_of_ble_eq_true rfl, Nat.le_of_ble_eq_true rfl⟩) rfl rfl (Nat.le_of_ble_eq_true rfl) dX12_setSupport_12 ⟨Nat.le_of_ble_eq_true rfl, Nat.le_of_ble_eq_true rfl⟩ (fun v1 Φ2 sz1 st1 hp1 hs1 => ?_)
  obtain ⟨rfl, hq1, fr1⟩ := hp1
  replace hq1 : sz1 = sz := hq1
  subst sz1
  replace hs1 : st1 = [.int 0, .ref y] := hs1
  subst st1
  refine z_if_ne (tgt := 22) B dX12_setSupport_15 rfl (fun h9 => absurd (by decide) h9) (fun c_1 => ?_)
  refine z_iconst (v := 1) B dX12_setSupport_18 rfl ?_
  refine z_goto (tgt := 23) B dX12_setSupport_19 rfl ?_
  refine z_iconst (v := 1) B dX12_setSupport_23 rfl ?_
  have h_2 : Φ2 y = some (o_ 14 [.int 0, .ref (y + 1), .ref (y + 2), .int 0, .int 1, .int 1, .int 0, .int 0, .ref (y + 3), .ref (y + 4), .int 0, .long 0, .ref (y + 5), .int 0, .int 0, .long 0, .long 0, .long 0, .long 0, .ref (y + 6), .ref (y + 7), .int 0, .ref (y + 8), .int 0, .ref (y + 9), .ref (y + 10), .int 0, .ref (y + 11), .ref (y + 12), .ref (y + 13), .ref (y + 14), .ref (y + 15), .ref (y + 16), .int 0, .long (-1), .ref (y + 17), .ref (y + 18), .ref (y + 19), .ref (y + 20), .ref (y + 21), .ref (y + 22), .int 0, .ref (y + 23), .ref (y + 24), .int 0, .ref (y + 25), .int 0, .int 0, .int 0, .int (-1), .int 0, .int 0, .int 0, .long 0]) := ((fr1 y).trans h_1)
  refine z_callV (As := [.int 1, .int 1]) (rest := []) B (c_X12_throwsIf_1 G l Φ2 sz y 0 0 1 1 0 0 0 0 0 0 0 0 0 0 0 0 0 0 (-1) 0 0 0 0 0 (-1) 0 0 0 0 1 h_2 hna) (cwV 2 B.1.2.2.2.2 gX12_setSupport_X12_throwsIf rfl rfl rfl (by decide +kernel) ⟨Nat.le_of_ble_eq_true rfl, Nat.le_of_ble_eq_true rfl⟩) h_2 rfl rfl rfl rfl (Nat.le_of_ble_eq_true rfl) dX12_setSupport_24 ⟨Nat.le_of_ble_eq_true rfl, Nat.le_of_ble_eq_true rfl⟩ (fun v2 Φ3 sz2 st2 hp2 hs2 => ?_)
  obtain ⟨rfl, hq2, fr2, h_3⟩ := hp2
  replace hq2 : sz2 = sz := hq2
  subst sz2
  replace hs2 : st2 = [.int 1] := hs2
  subst st2
  have h_4 : Φ3 y = some (o_ 14 [.int 1, .ref (y + 1), .ref (y + 2), .int 0, .int 1, .int 1, .int 0, .int 0, .ref (y + 3), .ref (y + 4), .int 0, .long 0, .ref (y + 5), .int 0, .int 0, .long 0, .long 0, .long 0, .long 0, .ref (y + 6), .ref (y + 7), .int 0, .ref (y + 8), .int 0, .ref (y + 9), .ref (y + 10), .int 0, .ref (y + 11), .ref (y + 12), .ref (y + 13), .ref (y + 14), .ref (y + 15), .ref (y + 16), .int 0, .long (-1), .ref (y + 17), .ref (y + 18), .ref (y + 19), .ref (y + 20), .ref (y + 21), .ref (y + 22), .int 0, .ref (y + 23), .ref (y + 24), .int 0, .ref (y + 25), .int 0, .int 0, .int 0, .int (-1), .int 0, .int 0, .int 0, .long 0]) := h_3
  refine z_if_eq (tgt := 32) B dX12_setSupport_27 rfl (fun h9 => absurd h9 (by decide)) (fun c_2 => ?_)
  refine z_iconst (v := 0) B dX12_setSupport_30 rfl ?_
  exact z_ret_z B dX12_setSupport_31 (by decide) ⟨rfl, ⟨_, h_4, rfl⟩, fun b9 h9 => ((fr2 b9 (Nat.ne_of_gt (Nat.lt_of_lt_of_le (lt_off (x := y) (i := 0) (j := 26) rfl) h9))).trans ((fr1 b9).trans ((fset_fr hΦ1 (Nat.ne_of_gt (Nat.lt_of_lt_of_le (lt_off (x := y) (i := 0) (j := 26) rfl) h9))).trans rfl)))⟩

set_option maxRecDepth 20000 in
theorem ggX12_rateBits_Jxf58ca_floatToIntBits_5c35a : GoodIn wsX12_rateBits wsJxf58ca_floatToIntBits_5c35a := (goodIn_r _ [6, 7, 8, 9, 10, 11, 12, 13, 5, 14] rfl (by decide +kernel))
set_option maxRecDepth 20000 in
theorem gX12_rateBits_Jxf58ca_floatToIntBits_5c35a : GoodIn wsX12_rateBits (va_wsS RX12 163 yJxf58ca_floatToIntBits_5c35a wsJxf58ca_floatToIntBits_5c35a) := goodIn_app (goodIn_m (mem_cA (List.mem_cons_of_mem _ (List.mem_append_left _ (List.mem_of_getElem? (i := 2) rfl))) (mem_cA (List.mem_cons_of_mem _ (List.mem_append_left _ (List.mem_of_getElem? (i := 3) rfl))) (mem_cA (List.mem_cons_of_mem _ (List.mem_append_left _ (List.mem_of_getElem? (i := 4) rfl))) mem_cZ))) (by decide +kernel)) ggX12_rateBits_Jxf58ca_floatToIntBits_5c35a
theorem dX12_rateBits_0 : decode cX12_rateBits 0 = .ok (.aload_n 0, 1) := by decide +kernel
theorem dX12_rateBits_1 : decode cX12_rateBits 1 = .ok (.iconst 0, 1) := by decide +kernel
theorem dX12_rateBits_2 : decode cX12_rateBits 2 = .ok (.putfield 1, 3) := by decide +kernel
theorem dX12_rateBits_5 : decode cX12_rateBits 5 = .ok (.fconst 1, 1) := by decide +kernel
theorem dX12_rateBits_6 : decode cX12_rateBits 6 = .ok (.aload_n 0, 1) := by decide +kernel
theorem dX12_rateBits_7 : decode cX12_rateBits 7 = .ok (.getfield 107, 3) := by decide +kernel
theorem dX12_rateBits_10 : decode cX12_rateBits 10 = .ok (.i2f, 1) := by decide +kernel
theorem dX12_rateBits_11 : decode cX12_rateBits 11 = .ok (.fdiv, 1) := by decide +kernel
theorem dX12_rateBits_12 : decode cX12_rateBits 12 = .ok (.invokestatic 163, 3) := by decide +kernel
theorem dX12_rateBits_15 : decode cX12_rateBits 15 = .ok (.ireturn, 1) := by decide +kernel
set_option maxRecDepth 20000 in
theorem ggX12_contentOf_Jxf58ca_floatToIntBits_5c35a : GoodIn wsX12_contentOf wsJxf58ca_floatToIntBits_5c35a := (goodIn_r _ [6, 7, 8, 9, 10, 11, 12, 13, 5, 14] rfl (by decide +kernel))
set_option maxRecDepth 20000 in
theorem gX12_contentOf_Jxf58ca_floatToIntBits_5c35a : GoodIn wsX12_contentOf (va_wsS RX12 163 yJxf58ca_floatToIntBits_5c35a wsJxf58ca_floatToIntBits_5c35a) := goodIn_app (goodIn_m (mem_cA (List.mem_cons_of_mem _ (List.mem_append_left _ (List.mem_append_left _ (List.mem_of_getElem? (i := 2) rfl)))) (mem_cA (List.mem_cons_of_mem _ (List.mem_append_left _ (List.mem_append_left _ (List.mem_of_getElem? (i := 3) rfl)))) (mem_cA (List.mem_cons_of_mem _ (List.mem_append_left _ (List.mem_append_left _ (List.mem_of_getElem? (i := 4) rfl)))) mem_cZ))) (by decide +kernel)) ggX12_contentOf_Jxf58ca_floatToIntBits_5c35a
theorem dX12_contentOf_0 : decode cX12_contentOf 0 = .ok (.iload_n 2, 1) := by decide +kernel
theorem dX12_contentOf_1 : decode cX12_contentOf 1 = .ok (.bipush 8, 2) := by decide +kernel
theorem dX12_contentOf_3 : decode cX12_contentOf 3 = .ok (.if_icmp .ne 17, 3) := by decide +kernel
theorem dX12_contentOf_6 : decode cX12_contentOf 6 = .ok (.fconst 1, 1) := by decide +kernel
theorem dX12_contentOf_7 : decode cX12_contentOf 7 = .ok (.aload_n 0, 1) := by decide +kernel
theorem dX12_contentOf_8 : decode cX12_contentOf 8 = .ok (.getfield 107, 3) := by decide +kernel
theorem dX12_contentOf_11 : decode cX12_contentOf 11 = .ok (.i2f, 1) := by decide +kernel
theorem dX12_contentOf_12 : decode cX12_contentOf 12 = .ok (.fdiv, 1) := by decide +kernel
theorem dX12_contentOf_13 : decode cX12_contentOf 13 = .ok (.invokestatic 163, 3) := by decide +kernel
theorem dX12_contentOf_16 : decode cX12_contentOf 16 = .ok (.i2l, 1) := by decide +kernel
theorem dX12_contentOf_17 : decode cX12_contentOf 17 = .ok (.goto 14, 3) := by decide +kernel
theorem dX12_contentOf_20 : decode cX12_contentOf 20 = .ok (.aload_n 0, 1) := by decide +kernel
theorem dX12_contentOf_21 : decode cX12_contentOf 21 = .ok (.getfield 26, 3) := by decide +kernel
theorem dX12_contentOf_24 : decode cX12_contentOf 24 = .ok (.bipush 8, 2) := by decide +kernel
theorem dX12_contentOf_26 : decode cX12_contentOf 26 = .ok (.iload_n 1, 1) := by decide +kernel
theorem dX12_contentOf_27 : decode cX12_contentOf 27 = .ok (.imul, 1) := by decide +kernel
theorem dX12_contentOf_28 : decode cX12_contentOf 28 = .ok (.iload_n 2, 1) := by decide +kernel
theorem dX12_contentOf_29 : decode cX12_contentOf 29 = .ok (.iadd, 1) := by decide +kernel
theorem dX12_contentOf_30 : decode cX12_contentOf 30 = .ok (.laload, 1) := by decide +kernel
theorem dX12_contentOf_31 : decode cX12_contentOf 31 = .ok (.lreturn, 1) := by decide +kernel
theorem dX12_isSame_0 : decode cX12_isSame 0 = .ok (.aload_n 0, 1) := by decide +kernel
theorem dX12_isSame_1 : decode cX12_isSame 1 = .ok (.iconst 4, 1) := by decide +kernel
theorem dX12_isSame_2 : decode cX12_isSame 2 = .ok (.iload_n 1, 1) := by decide +kernel
theorem dX12_isSame_3 : decode cX12_isSame 3 = .ok (.imul, 1) := by decide +kernel
theorem dX12_isSame_4 : decode cX12_isSame 4 = .ok (.iaload, 1) := by decide +kernel
theorem dX12_isSame_5 : decode cX12_isSame 5 = .ok (.i2l, 1) := by decide +kernel
theorem dX12_isSame_6 : decode cX12_isSame 6 = .ok (.lload_n 2, 1) := by decide +kernel
theorem dX12_isSame_7 : decode cX12_isSame 7 = .ok (.lcmp, 1) := by decide +kernel
theorem dX12_isSame_8 : decode cX12_isSame 8 = .ok (.ifCond .ne 49, 3) := by decide +kernel
theorem dX12_isSame_11 : decode cX12_isSame 11 = .ok (.aload_n 0, 1) := by decide +kernel
theorem dX12_isSame_12 : decode cX12_isSame 12 = .ok (.iconst 4, 1) := by decide +kernel
theorem dX12_isSame_13 : decode cX12_isSame 13 = .ok (.iload_n 1, 1) := by decide +kernel
theorem dX12_isSame_14 : decode cX12_isSame 14 = .ok (.imul, 1) := by decide +kernel
theorem dX12_isSame_15 : decode cX12_isSame 15 = .ok (.iconst 1, 1) := by decide +kernel
theorem dX12_isSame_16 : decode cX12_isSame 16 = .ok (.iadd, 1) := by decide +kernel
theorem dX12_isSame_17 : decode cX12_isSame 17 = .ok (.iaload, 1) := by decide +kernel
theorem dX12_isSame_18 : decode cX12_isSame 18 = .ok (.i2l, 1) := by decide +kernel
theorem dX12_isSame_19 : decode cX12_isSame 19 = .ok (.lload 4, 2) := by decide +kernel
theorem dX12_isSame_21 : decode cX12_isSame 21 = .ok (.lcmp, 1) := by decide +kernel
theorem dX12_isSame_22 : decode cX12_isSame 22 = .ok (.ifCond .ne 35, 3) := by decide +kernel
theorem dX12_isSame_25 : decode cX12_isSame 25 = .ok (.aload_n 0, 1) := by decide +kernel
theorem dX12_isSame_26 : decode cX12_isSame 26 = .ok (.iconst 4, 1) := by decide +kernel
theorem dX12_isSame_27 : decode cX12_isSame 27 = .ok (.iload_n 1, 1) := by decide +kernel
theorem dX12_isSame_28 : decode cX12_isSame 28 = .ok (.imul, 1) := by decide +kernel
theorem dX12_isSame_29 : decode cX12_isSame 29 = .ok (.iconst 2, 1) := by decide +kernel
theorem dX12_isSame_30 : decode cX12_isSame 30 = .ok (.iadd, 1) := by decide +kernel
theorem dX12_isSame_31 : decode cX12_isSame 31 = .ok (.iaload, 1) := by decide +kernel
theorem dX12_isSame_32 : decode cX12_isSame 32 = .ok (.i2l, 1) := by decide +kernel
theorem dX12_isSame_33 : decode cX12_isSame 33 = .ok (.lload 6, 2) := by decide +kernel
theorem dX12_isSame_35 : decode cX12_isSame 35 = .ok (.lcmp, 1) := by decide +kernel
theorem dX12_isSame_36 : decode cX12_isSame 36 = .ok (.ifCond .ne 21, 3) := by decide +kernel
theorem dX12_isSame_39 : decode cX12_isSame 39 = .ok (.aload_n 0, 1) := by decide +kernel
theorem dX12_isSame_40 : decode cX12_isSame 40 = .ok (.iconst 4, 1) := by decide +kernel
theorem dX12_isSame_41 : decode cX12_isSame 41 = .ok (.iload_n 1, 1) := by decide +kernel
theorem dX12_isSame_42 : decode cX12_isSame 42 = .ok (.imul, 1) := by decide +kernel
theorem dX12_isSame_43 : decode cX12_isSame 43 = .ok (.iconst 3, 1) := by decide +kernel
theorem dX12_isSame_44 : decode cX12_isSame 44 = .ok (.iadd, 1) := by decide +kernel
theorem dX12_isSame_45 : decode cX12_isSame 45 = .ok (.iaload, 1) := by decide +kernel
theorem dX12_isSame_46 : decode cX12_isSame 46 = .ok (.i2l, 1) := by decide +kernel
theorem dX12_isSame_47 : decode cX12_isSame 47 = .ok (.lload 8, 2) := by decide +kernel
theorem dX12_isSame_49 : decode cX12_isSame 49 = .ok (.lcmp, 1) := by decide +kernel
theorem dX12_isSame_50 : decode cX12_isSame 50 = .ok (.ifCond .ne 7, 3) := by decide +kernel
theorem dX12_isSame_53 : decode cX12_isSame 53 = .ok (.iconst 1, 1) := by decide +kernel
theorem dX12_isSame_54 : decode cX12_isSame 54 = .ok (.goto 4, 3) := by decide +kernel
theorem dX12_isSame_57 : decode cX12_isSame 57 = .ok (.iconst 0, 1) := by decide +kernel
theorem dX12_isSame_58 : decode cX12_isSame 58 = .ok (.ireturn, 1) := by decide +kernel
set_option maxRecDepth 20000 in
theorem ggX12_trueKeyOf_X12_isSame : GoodIn wsX12_trueKeyOf wsX12_isSame := goodIn_ca ((goodIn_r _ [6] rfl (by decide +kernel))) (goodIn_sub (fun _ h => List.mem_cons_of_mem _ (List.mem_append_right _ h)) (all_fg _))
set_option maxRecDepth 20000 in
theorem gX12_trueKeyOf_X12_isSame : GoodIn wsX12_trueKeyOf (va_wsS RX12 386 yX12_isSame wsX12_isSame) := goodIn_app (goodIn_m (mem_cA (List.mem_cons_of_mem _ (List.mem_append_left _ (List.mem_append_left _ (List.mem_of_getElem? (i := 2) rfl)))) (mem_cA (List.mem_cons_of_mem _ (List.mem_append_left _ (List.mem_append_left _ (List.mem_of_getElem? (i := 3) rfl)))) (mem_cA (List.mem_cons_of_mem _ (List.mem_append_left _ (List.mem_append_left _ (List.mem_of_getElem? (i := 4) rfl)))) mem_cZ))) (by decide +kernel)) ggX12_trueKeyOf_X12_isSame
theorem dX12_trueKeyOf_0 : decode cX12_trueKeyOf 0 = .ok (.iconst 0, 1) := by decide +kernel
theorem dX12_trueKeyOf_1 : decode cX12_trueKeyOf 1 = .ok (.istore 5, 2) := by decide +kernel
theorem dX12_trueKeyOf_3 : decode cX12_trueKeyOf 3 = .ok (.iload 5, 2) := by decide +kernel
theorem dX12_trueKeyOf_5 : decode cX12_trueKeyOf 5 = .ok (.aload_n 0, 1) := by decide +kernel
theorem dX12_trueKeyOf_6 : decode cX12_trueKeyOf 6 = .ok (.getfield 145, 3) := by decide +kernel
theorem dX12_trueKeyOf_9 : decode cX12_trueKeyOf 9 = .ok (.if_icmp .ge 33, 3) := by decide +kernel
theorem dX12_trueKeyOf_12 : decode cX12_trueKeyOf 12 = .ok (.aload_n 0, 1) := by decide +kernel
theorem dX12_trueKeyOf_13 : decode cX12_trueKeyOf 13 = .ok (.getfield 82, 3) := by decide +kernel
theorem dX12_trueKeyOf_16 : decode cX12_trueKeyOf 16 = .ok (.iload 5, 2) := by decide +kernel
theorem dX12_trueKeyOf_18 : decode cX12_trueKeyOf 18 = .ok (.iload_n 1, 1) := by decide +kernel
theorem dX12_trueKeyOf_19 : decode cX12_trueKeyOf 19 = .ok (.i2l, 1) := by decide +kernel
theorem dX12_trueKeyOf_20 : decode cX12_trueKeyOf 20 = .ok (.iload_n 2, 1) := by decide +kernel
theorem dX12_trueKeyOf_21 : decode cX12_trueKeyOf 21 = .ok (.i2l, 1) := by decide +kernel
theorem dX12_trueKeyOf_22 : decode cX12_trueKeyOf 22 = .ok (.iload_n 3, 1) := by decide +kernel
theorem dX12_trueKeyOf_23 : decode cX12_trueKeyOf 23 = .ok (.i2l, 1) := by decide +kernel
theorem dX12_trueKeyOf_24 : decode cX12_trueKeyOf 24 = .ok (.iload 4, 2) := by decide +kernel
theorem dX12_trueKeyOf_26 : decode cX12_trueKeyOf 26 = .ok (.i2l, 1) := by decide +kernel
theorem dX12_trueKeyOf_27 : decode cX12_trueKeyOf 27 = .ok (.invokestatic 386, 3) := by decide +kernel
theorem dX12_trueKeyOf_30 : decode cX12_trueKeyOf 30 = .ok (.ifCond .eq 6, 3) := by decide +kernel
theorem dX12_trueKeyOf_33 : decode cX12_trueKeyOf 33 = .ok (.iload 5, 2) := by decide +kernel
theorem dX12_trueKeyOf_35 : decode cX12_trueKeyOf 35 = .ok (.ireturn, 1) := by decide +kernel
theorem dX12_trueKeyOf_36 : decode cX12_trueKeyOf 36 = .ok (.iinc 5 1, 3) := by decide +kernel
theorem dX12_trueKeyOf_39 : decode cX12_trueKeyOf 39 = .ok (.goto (-36), 3) := by decide +kernel
theorem dX12_trueKeyOf_42 : decode cX12_trueKeyOf 42 = .ok (.iconst (-1), 1) := by decide +kernel
theorem dX12_trueKeyOf_43 : decode cX12_trueKeyOf 43 = .ok (.ireturn, 1) := by decide +kernel
theorem dJxf58ca_isNaN_12338_0 : decode cJxf58ca_isNaN_12338 0 = .ok (.fload_n 0, 1) := by decide +kernel
theorem dJxf58ca_isNaN_12338_1 : decode cJxf58ca_isNaN_12338 1 = .ok (.fload_n 0, 1) := by decide +kernel
theorem dJxf58ca_isNaN_12338_2 : decode cJxf58ca_isNaN_12338 2 = .ok (.fcmp .l, 1) := by decide +kernel
theorem dJxf58ca_isNaN_12338_3 : decode cJxf58ca_isNaN_12338 3 = .ok (.ifCond .eq 7, 3) := by decide +kernel
theorem dJxf58ca_isNaN_12338_6 : decode cJxf58ca_isNaN_12338 6 = .ok (.iconst 1, 1) := by decide +kernel
theorem dJxf58ca_isNaN_12338_7 : decode cJxf58ca_isNaN_12338 7 = .ok (.goto 4, 3) := by decide +kernel
theorem dJxf58ca_isNaN_12338_10 : decode cJxf58ca_isNaN_12338 10 = .ok (.iconst 0, 1) := by decide +kernel
theorem dJxf58ca_isNaN_12338_11 : decode cJxf58ca_isNaN_12338 11 = .ok (.ireturn, 1) := by decide +kernel
set_option maxRecDepth 20000 in
theorem ggJxf58ca_floatToIntBits_5c35a_Jxf58ca_isNaN_12338 : GoodIn wsJxf58ca_floatToIntBits_5c35a wsJxf58ca_isNaN_12338 := (goodIn_r _ [9] rfl (by decide +kernel))
set_option maxRecDepth 20000 in
theorem gJxf58ca_floatToIntBits_5c35a_Jxf58ca_isNaN_12338 : GoodIn wsJxf58ca_floatToIntBits_5c35a (va_wsS RJxf58ca 59 yJxf58ca_isNaN_12338 wsJxf58ca_isNaN_12338) := goodIn_app (goodIn_m (mem_cA (List.mem_cons_of_mem _ (List.mem_of_getElem? (i := 5) rfl)) (mem_cA (List.mem_cons_of_mem _ (List.mem_of_getElem? (i := 6) rfl)) (mem_cA (List.mem_cons_of_mem _ (List.mem_of_getElem? (i := 7) rfl)) mem_cZ))) (by decide +kernel)) ggJxf58ca_floatToIntBits_5c35a_Jxf58ca_isNaN_12338
theorem dJxf58ca_floatToIntBits_5c35a_0 : decode cJxf58ca_floatToIntBits_5c35a 0 = .ok (.fload_n 0, 1) := by decide +kernel
theorem dJxf58ca_floatToIntBits_5c35a_1 : decode cJxf58ca_floatToIntBits_5c35a 1 = .ok (.invokestatic 59, 3) := by decide +kernel
theorem dJxf58ca_floatToIntBits_5c35a_4 : decode cJxf58ca_floatToIntBits_5c35a 4 = .ok (.ifCond .ne 8, 3) := by decide +kernel
theorem dJxf58ca_floatToIntBits_5c35a_7 : decode cJxf58ca_floatToIntBits_5c35a 7 = .ok (.fload_n 0, 1) := by decide +kernel
theorem dJxf58ca_floatToIntBits_5c35a_8 : decode cJxf58ca_floatToIntBits_5c35a 8 = .ok (.invokestatic 74, 3) := by decide +kernel
theorem dJxf58ca_floatToIntBits_5c35a_11 : decode cJxf58ca_floatToIntBits_5c35a 11 = .ok (.ireturn, 1) := by decide +kernel
theorem dJxf58ca_floatToIntBits_5c35a_12 : decode cJxf58ca_floatToIntBits_5c35a 12 = .ok (.ldc 77, 2) := by decide +kernel
theorem dJxf58ca_floatToIntBits_5c35a_14 : decode cJxf58ca_floatToIntBits_5c35a 14 = .ok (.ireturn, 1) := by decide +kernel
section ZP
variable {p : Program} {l : Launch} {e : Env} {R : Room} {s : State} {m : MethodId} {args : Array Value} {below : List Frame} {meth : Method} {c : Code} {Q : State → Prop} {G : EnvG} {nL pc : Nat} {lv : List (Nat × Value)} {rest : List Value} {Φ : Hm} {sz cells slots : Nat}
variable {cc : ByteArray} {own : String} {ws : List Cond} {ret : Option FieldType} {nm : String}
theorem z_fbits (B : Bd p s m args meth c G cc nL own ws ret nm) {index : Nat} {q : UInt32} (h1 : Cond.methodLink own index ⟨"java/lang/Float", "floatToRawIntBits", "(F)I"⟩ ∈ ws) (h2 : Cond.native ⟨"java/lang/Float", "floatToRawIntBits", "(F)I"⟩ ∈ ws) (h3 : Cond.static ⟨"java/lang/Float", "floatToRawIntBits", "(F)I"⟩ ∈ ws) (h4 : Cond.initialized "java/lang/Float" ∈ ws) (hR : 1 ≤ R.frames ∧ (rest.map fun v => v.category).sum + 15 ≤ R.locals) (hdg : decode cc pc = .ok (.invokestatic index, 3)) (kk : Z p l e R s m args below meth c Q G nL (pc + 3) lv (.int q.toInt32 :: rest) Φ sz cells slots) : Z p l e R s m args below meth c Q G nL pc lv (.float q :: rest) Φ sz cells slots := by
  intro H locs ls hl hP hS
  exact vn_f2i B.1.1 B.1.2.1 (by rw [B.1.2.2.1]; exact hl.1.symm) B.1.2.2.2.1 (B.1.2.2.2.2 _ h1) (B.1.2.2.2.2 _ h2) (B.1.2.2.2.2 _ h3) (B.1.2.2.2.2 _ h4) hR.1 hR.2 hdg (kk H locs ls hl hP hS)
theorem z_dbits (B : Bd p s m args meth c G cc nL own ws ret nm) {index : Nat} {q : UInt64} (h1 : Cond.methodLink own index ⟨"java/lang/Double", "doubleToRawLongBits", "(D)J"⟩ ∈ ws) (h2 : Cond.native ⟨"java/lang/Double", "doubleToRawLongBits", "(D)J"⟩ ∈ ws) (h3 : Cond.static ⟨"java/lang/Double", "doubleToRawLongBits", "(D)J"⟩ ∈ ws) (h4 : Cond.initialized "java/lang/Double" ∈ ws) (hR : 1 ≤ R.frames ∧ (rest.map fun v => v.category).sum + 15 ≤ R.locals) (hdg : decode cc pc = .ok (.invokestatic index, 3)) (kk : Z p l e R s m args below meth c Q G nL (pc + 3) lv (.long q.toInt64 :: rest) Φ sz cells slots) : Z p l e R s m args below meth c Q G nL pc lv (.double q :: rest) Φ sz cells slots := by
  intro H locs ls hl hP hS
  exact vn_d2l B.1.1 B.1.2.1 (by rw [B.1.2.2.1]; exact hl.1.symm) B.1.2.2.2.1 (B.1.2.2.2.2 _ h1) (B.1.2.2.2.2 _ h2) (B.1.2.2.2.2 _ h3) (B.1.2.2.2.2 _ h4) hR.1 hR.2 hdg (kk H locs ls hl hP hS)
theorem z_bitsd (B : Bd p s m args meth c G cc nL own ws ret nm) {index : Nat} {q : Int64} (hv : vn_snl2d q = false) (h1 : Cond.methodLink own index ⟨"java/lang/Double", "longBitsToDouble", "(J)D"⟩ ∈ ws) (h2 : Cond.native ⟨"java/lang/Double", "longBitsToDouble", "(J)D"⟩ ∈ ws) (h3 : Cond.static ⟨"java/lang/Double", "longBitsToDouble", "(J)D"⟩ ∈ ws) (h4 : Cond.initialized "java/lang/Double" ∈ ws) (hR : 1 ≤ R.frames ∧ (rest.map fun v => v.category).sum + 15 ≤ R.locals) (hdg : decode cc pc = .ok (.invokestatic index, 3)) (kk : Z p l e R s m args below meth c Q G nL (pc + 3) lv (.double q.toUInt64 :: rest) Φ sz cells slots) : Z p l e R s m args below meth c Q G nL pc lv (.long q :: rest) Φ sz cells slots := by
  intro H locs ls hl hP hS
  exact vn_l2d B.1.1 B.1.2.1 (by rw [B.1.2.2.1]; exact hl.1.symm) B.1.2.2.2.1 (B.1.2.2.2.2 _ h1) (B.1.2.2.2.2 _ h2) (B.1.2.2.2.2 _ h3) (B.1.2.2.2.2 _ h4) hv hR.1 hR.2 hdg (kk H locs ls hl hP hS)
end ZP
theorem Ct.ofF {G : EnvG} {l : Launch} {y : MethodName} {ws ws' : List Cond} {rm : Room} {mc ms : Nat} {av : List Value} {Φ : Hm} {sz : Nat} {P : Option Value → Hm → Nat → Prop} {cc : ByteArray} {maxL : Nat} {ret : Option FieldType} (hy : plainFor y = true) (hw : ws = Cond.code y cc maxL ret :: ws') (hlen : (lg_sl av).length ≤ maxL)
    (body : ∀ (p : Program) (e : Env) (s : State) (m : MethodId) (below : List Frame) (meth : Method) (c : Code), Bd p s m av.toArray meth c G cc maxL y.cls ws ret y.name → Z p l e rm s m av.toArray below meth c (MQ below (QU G P) av.toArray s mc ms (fun q => G.2.2.2 ≤ q)) G maxL 0 (lv_args 0 av) [] Φ sz 0 0) : Ct G l y ws rm mc ms av Φ sz P := by
  refine va_MetF (cc := cc) (maxL := maxL) (ret := ret) hy hw ?_
  intro p e s m args below meth c s₁ B hml hv
  obtain ⟨rfl, hP, hK, hS, hn⟩ := hv
  have hl := lv_entry av hlen
  rw [lg_entry_eq]
  refine body p e s m below meth c ⟨⟨B.exec, B.bytes, hml, findClass_of_methodNamed B.named, atoms_spec (ws := ws) B.pre⟩, B.returns, B.notSynchronized, (name_of_methodNamed B.named B.method).1, hK, hS, by rw [hP.1]; exact hn⟩ s.heap [] _ hl hP va_S.rf
theorem c_J_isNaN (G : EnvG) (l : Launch) (Φ : Hm) (sz : Nat) (q : UInt32) (P : Option Value → Hm → Nat → Prop) (hP : ∀ r : Int32, P (some (.int r)) Φ sz) : Ct G l yJxf58ca_isNaN_12338 wsJxf58ca_isNaN_12338 ({ frames := 0, cells := 0, slots := 0, locals := 0 }) 0 0 [.float q] Φ sz P := by
  refine Ct.ofF (cc := cJxf58ca_isNaN_12338) (maxL := 1) (ret := (some .boolean)) (by decide +kernel) rfl (Nat.le_of_ble_eq_true rfl) ?_
  intro p9 e9 s9 m9 w9 t9 k9 B
  show Z p9 l e9 _ s9 m9 _ w9 t9 k9 _ G 1 0 [(0, .float q)] [] Φ (sz) 0 0
  refine z_fload_n B dJxf58ca_isNaN_12338_0 rfl 0 rfl ?_
  refine z_fload_n B dJxf58ca_isNaN_12338_1 rfl 0 rfl ?_
  refine z_fcmp B dJxf58ca_isNaN_12338_2 ?_
  refine z_if_eq (tgt := 10) B dJxf58ca_isNaN_12338_3 rfl (fun c_1 => ?_) (fun c_1 => ?_)
  · refine z_iconst (v := 0) B dJxf58ca_isNaN_12338_10 rfl ?_
    exact z_ret_z B dJxf58ca_isNaN_12338_11 (by decide) (hP _)
  · refine z_iconst (v := 1) B dJxf58ca_isNaN_12338_6 rfl ?_
    refine z_goto (tgt := 11) B dJxf58ca_isNaN_12338_7 rfl ?_
    exact z_ret_z B dJxf58ca_isNaN_12338_11 (by decide) (hP _)
theorem c_J_f2i (G : EnvG) (l : Launch) (Φ : Hm) (sz : Nat) (q : UInt32) (P : Option Value → Hm → Nat → Prop) (hP : ∀ r : Int32, P (some (.int r)) Φ sz) : Ct G l yJxf58ca_floatToIntBits_5c35a wsJxf58ca_floatToIntBits_5c35a ({ frames := 1, cells := 0, slots := 0, locals := 20 }) 0 0 [.float q] Φ sz P := by
  refine Ct.ofF (cc := cJxf58ca_floatToIntBits_5c35a) (maxL := 1) (ret := (some .int)) (by decide +kernel) rfl (Nat.le_of_ble_eq_true rfl) ?_
  intro p9 e9 s9 m9 w9 t9 k9 B
  show Z p9 l e9 _ s9 m9 _ w9 t9 k9 _ G 1 0 [(0, .float q)] [] Φ (sz) 0 0
  refine z_fload_n B dJxf58ca_floatToIntBits_5c35a_0 rfl 0 rfl ?_
  refine z_callS (As := [.float q]) (rest := []) B (c_J_isNaN G l Φ sz q (fun v Φ1 sz1 => (∃ r : Int32, v = some (.int r)) ∧ Φ1 = Φ ∧ sz1 = sz) (fun r => ⟨⟨r, rfl⟩, rfl, rfl⟩)) (va_cwS 1 B.1.2.2.2.2 gJxf58ca_floatToIntBits_5c35a_Jxf58ca_isNaN_12338 rfl rfl rfl (by decide +kernel) ⟨Nat.le_of_ble_eq_true rfl, Nat.le_of_ble_eq_true rfl⟩) rfl rfl (Nat.le_of_ble_eq_true rfl) dJxf58ca_floatToIntBits_5c35a_1 ⟨Nat.le_of_ble_eq_true rfl, Nat.le_of_ble_eq_true rfl⟩ (fun v1 Φ1 sz1 st1 hp1 hs1 => ?_)
  obtain ⟨⟨r, rfl⟩, h2, h3⟩ := hp1
  subst h2
  subst h3
  subst hs1
  refine z_if_ne (tgt := 12) B dJxf58ca_floatToIntBits_5c35a_4 rfl (fun c_1 => ?_) (fun c_1 => ?_)
  · refine z_ldc (v := 2143289344) B (by decide +kernel) dJxf58ca_floatToIntBits_5c35a_12 ?_
    exact z_ret_i B dJxf58ca_floatToIntBits_5c35a_14 (hP _)
  · refine z_fload_n B dJxf58ca_floatToIntBits_5c35a_7 rfl 0 rfl ?_
    refine z_fbits B (by decide +kernel) (by decide +kernel) (by decide +kernel) (by decide +kernel) ⟨Nat.le_of_ble_eq_true rfl, Nat.le_of_ble_eq_true rfl⟩ dJxf58ca_floatToIntBits_5c35a_8 ?_
    exact z_ret_i B dJxf58ca_floatToIntBits_5c35a_11 (hP _)
theorem i2f_nn {a : Int32} (h : ¬ a = 0) : nn32 (Jvm.FP.Core.i2f a) := by
  have hw := i2f_w h
  intro e
  rw [e] at hw
  exact hw

theorem m8_lt {j : Nat} (hj : j < 1000) : (nI (8 * j) - 8 < 0 → j = 0) ∧ (¬ nI (8 * j) - 8 < 0 → 1 ≤ j) := by
  by_cases h : j = 0
  · subst h
    exact ⟨fun _ => rfl, fun q => absurd (show nI (8 * 0) - 8 < 0 by decide) q⟩
  · have e : nI (8 * j) - 8 = nI (8 * j - 8) := by
      show nI (8 * j) - nI 8 = nI (8 * j - 8)
      exact nI_sub (by omega)
    refine ⟨fun q => ?_, fun _ => by omega⟩
    rw [e] at q
    exact absurd q (nI_pos (by omega))
theorem m8_dec {j : Nat} (h : 1 ≤ j) : nI (8 * j) - 8 + (-8) = nI (8 * (j - 1)) - 8 := by
  have e : nI (8 * j) - 8 = nI (8 * (j - 1)) := by
    show nI (8 * j) - nI 8 = nI (8 * (j - 1))
    rw [nI_sub (by omega)]
    exact congrArg nI (by omega)
  rw [e]
  exact (Int32.sub_eq_add_neg _ _).symm
theorem lsm_s {f : Nat → Int32} {b q n : Nat} (h : f (b + q) = nI n) (hn : n < 2 ^ 31) : lsm f b (q + 1) = lsm f b q + lnN n := by
  show lsm f b q + lnN (f (b + q)).toNatClampNeg = _
  rw [h, nI_clamp hn]
theorem toL {n : Nat} (h : n < 2 ^ 31) : (nI n).toInt64 = Int64.ofNat n := by
  apply Int64.toInt_inj.mp
  rw [natL h, Int64.toInt_ofNat_of_lt (by omega)]
theorem ofL {n : Nat} (h : n < 2 ^ 31) : (Int64.ofNat n).toInt32 = nI n := by
  rw [← toL h]
  exact Int32.toInt32_toInt64 _
theorem CC.up {f : Nat → Int64} {i : Nat} {v : Int64} (h : CC f) (hi : i % 8 ≠ 3) : CC (vp_updL f i v) := by
  intro j hj
  obtain ⟨n, h1, h2⟩ := h j hj
  refine ⟨n, h1, ?_⟩
  show (if 8 * j + 3 = i then v else f (8 * j + 3)) = _
  rw [if_neg (by omega)]
  exact h2
theorem CC.up3 {f : Nat → Int64} {i n : Nat} {v : Int64} (h : CC f) (hn : n ≤ 255) (hv : v = Int64.ofNat n) : CC (vp_updL f i v) := by
  intro j hj
  show ∃ n : Nat, n ≤ 255 ∧ (if 8 * j + 3 = i then v else f (8 * j + 3)) = _
  by_cases e : 8 * j + 3 = i
  · rw [if_pos e]
    exact ⟨n, hn, hv⟩
  · rw [if_neg e]
    exact h j hj
theorem CC.sh {f : Nat → Int64} {i k : Nat} (h : CC f) (hk : k = i + 8) (hi : i + 8 < 96) : CC (vp_updL f i (f k)) := by
  subst hk
  intro j hj
  show ∃ n : Nat, n ≤ 255 ∧ (if 8 * j + 3 = i then f (i + 8) else f (8 * j + 3)) = _
  by_cases e : 8 * j + 3 = i
  · rw [if_pos e]
    have q := h (j + 1) (by omega)
    rw [show 8 * (j + 1) + 3 = i + 8 by omega] at q
    exact q
  · rw [if_neg e]
    exact h j hj
/-- a key lies in the cache -/
noncomputable def rK (f : Nat → Int64) (n : Nat) (a b d g : Int32) : Prop := f (8 * n) = a.toInt64 ∧ f (8 * n + 1) = b.toInt64 ∧ f (8 * n + 2) = d.toInt64 ∧ f (8 * n + 3) = g.toInt64
noncomputable def InC (f : Nat → Int64) (fl : Nat) (a b d g : Int32) : Prop := ∃ n, n < fl ∧ rK f n a b d g
theorem rK.up {f : Nat → Int64} {n i : Nat} {v : Int64} {a b d g : Int32} (h : rK f n a b d g) (hi : 4 ≤ i % 8 ∨ i / 8 ≠ n) : rK (vp_updL f i v) n a b d g := by
  obtain ⟨h1, h2, h3, h4⟩ := h
  refine ⟨?_, ?_, ?_, ?_⟩
  · show (if 8 * n = i then v else f (8 * n)) = _
    rw [if_neg (by omega)]; exact h1
  · show (if 8 * n + 1 = i then v else f (8 * n + 1)) = _
    rw [if_neg (by omega)]; exact h2
  · show (if 8 * n + 2 = i then v else f (8 * n + 2)) = _
    rw [if_neg (by omega)]; exact h3
  · show (if 8 * n + 3 = i then v else f (8 * n + 3)) = _
    rw [if_neg (by omega)]; exact h4
theorem rK.new {f : Nat → Int64} {n i0 i1 i2 i3 : Nat} {a b d g : Int32} (h0 : i0 = 8 * n) (h1 : i1 = 8 * n + 1) (h2 : i2 = 8 * n + 2) (h3 : i3 = 8 * n + 3) : rK (vp_updL (vp_updL (vp_updL (vp_updL f i0 a.toInt64) i1 b.toInt64) i2 d.toInt64) i3 g.toInt64) n a b d g := by
  subst h0 h1 h2 h3
  refine ⟨?_, ?_, ?_, ?_⟩
  · show (if 8 * n = 8 * n + 3 then _ else if 8 * n = 8 * n + 2 then _ else if 8 * n = 8 * n + 1 then _ else if 8 * n = 8 * n then _ else _) = _
    rw [if_neg (by omega), if_neg (by omega), if_neg (by omega), if_pos rfl]
  · show (if 8 * n + 1 = 8 * n + 3 then _ else if 8 * n + 1 = 8 * n + 2 then _ else if 8 * n + 1 = 8 * n + 1 then _ else _) = _
    rw [if_neg (by omega), if_neg (by omega), if_pos rfl]
  · show (if 8 * n + 2 = 8 * n + 3 then _ else if 8 * n + 2 = 8 * n + 2 then _ else _) = _
    rw [if_neg (by omega), if_pos rfl]
  · show (if 8 * n + 3 = 8 * n + 3 then _ else _) = _
    rw [if_pos rfl]
theorem lcmp_eq {x y : Int64} (h : lg_cmp x y = 0) : x = y := (lg_cmp_eq x y).mp h

theorem hu_X12_rateBits_X12 : ∀ w ∈ u_ws RX12 TX12 54, w ∈ wsX12_rateBits := fun _ h => List.mem_cons_of_mem _ (List.mem_append_right _ (h))

theorem hv_X12_rateBits_1 : Cond.fieldLink RX12 1 "FlowExporterModel" (TX12 0).2.1 (TX12 0).2.2.1 ∈ wsX12_rateBits := List.mem_cons_of_mem _ (List.mem_append_left _ (List.mem_of_getElem? (i := 0) rfl))

theorem hv_X12_rateBits_107 : Cond.fieldLink RX12 107 "FlowExporterModel" (TX12 5).2.1 (TX12 5).2.2.1 ∈ wsX12_rateBits := List.mem_cons_of_mem _ (List.mem_append_left _ (List.mem_of_getElem? (i := 1) rfl))

set_option maxHeartbeats 4000000 in
set_option maxRecDepth 100000 in
theorem r_rateBits (G : EnvG) (l : Launch) (Φ : Hm) (sz x : Nat) (rd : (Nat → Int32) → Prop) (nw : (Nat → Int32) → Prop) (cr : (Nat → Int64) → Prop) (tp : (Nat → Int32) → Prop) (tt : (Nat → Int64) → Prop) (sI : (Nat → Int32) → Prop) (sT : (Nat → Int32) → Prop) (pt : (Nat → Int32) → Prop) (ql : (Nat → Int32) → Prop) (fl : Nat) (pe : Nat) (le : Nat) (nx : Nat) (il : Nat) (qu : Nat) (kn : Int32) (ec : Int32) (nu : Int32) (va : Int64) (st : Nat) (ep : Int32) (ti : Int32) (ad : Int32) (ob : Int64) (ra : Int32) (rt : Nat) (ex : Int32) (sa : Int64) (us : Int64) (tk : Nat) (th : Int32) (me : Int32) (dr : Int32) (se : Int64) (sn : Int64)  (hx : G.2.2.2 ≤ x) (hI : Im G x (rd, nw, cr, tp, tt, sI, sT, pt, ql, fl, pe, le, nx, il, qu, kn, ec, nu, va, st, ep, ti, ad, ob, ra, rt, ex, sa, us, tk, th, me, dr, se, sn) Φ) (hnw : ∀ f9 : Nat → Int32, nw f9 → NN f9) : Ct G l yX12_rateBits wsX12_rateBits ({ frames := 2, cells := 0, slots := 0, locals := 40 }) 0 0 [.ref x] Φ sz (fun v Φ1 sz1 => (∃ r9 : Int32, v = some (.int r9)) ∧ sz1 = sz ∧ (∃ (th1 : Int32), Im G x (rd, nw, cr, tp, tt, sI, sT, pt, ql, fl, pe, le, nx, il, qu, kn, ec, nu, va, st, ep, ti, ad, ob, ra, rt, ex, sa, us, tk, th1, me, dr, se, sn) Φ1) ∧ Fr x (fun j9 => j9 = 0) Φ Φ1) := by
  refine Ct.of (cc := cX12_rateBits) (maxL := 1) (ret := (some .int)) (by decide) rfl (Nat.le_of_ble_eq_true rfl) ?_
  intro p9 e9 s9 m9 w9 t9 k9 B
  show Z p9 l e9 _ s9 m9 _ w9 t9 k9 _ G 1 0 [(0, .ref x)] [] Φ sz 0 0
  refine z_aload_n B dX12_rateBits_0 rfl 0 rfl ?_
  refine z_iconst (v := 0) B dX12_rateBits_1 rfl ?_
  obtain ⟨n_1, v_1, n_2, h_1, b_13, b_1, b_2, b_3, b_4, b_5, b_6, b_7, b_8, b_9, b_10, b_11, b_12⟩ := im0 hI
  replace b_1 : 1 ≤ rt := b_1
  replace b_2 : rt ≤ 1024 := b_2
  replace b_3 : fl ≤ 12 := b_3
  replace b_4 : pe ≤ 24 := b_4
  replace b_5 : le ≤ 700 := b_5
  replace b_6 : qu ≤ 12 := b_6
  replace b_7 : n_1 ≤ 8 := b_7
  replace b_8 : n_2 ≤ 24 := b_8
  replace b_9 : tk ≤ 24 := b_9
  replace b_10 : il ≤ 700 := b_10
  replace b_11 : nx ≤ 701 := b_11
  replace b_12 : st ≤ 701 := b_12
  have h_2 : Φ x = some (o_ 14 [.int th, .ref (x + 1), .ref (x + 2), .int ti, .int ra, .int (nI rt), .int ex, .int ad, .ref (x + 3), .ref (x + 4), .int me, .long se, .ref (x + 5), .int (nI fl), .int dr, .long ob, .long sa, .long sn, .long us, .ref (x + 6), .ref (x + 7), .int (nI pe), .ref (x + 8), .int (nI le), .ref (x + 9), .ref (x + 10), .int (nI qu), .ref (x + 11), .ref (x + 12), .ref (x + 13), .ref (x + 14), .ref (x + 15), .ref (x + 16), .int (nI n_1), .long v_1, .ref (x + 17), .ref (x + 18), .ref (x + 19), .ref (x + 20), .ref (x + 21), .ref (x + 22), .int (nI n_2), .ref (x + 23), .ref (x + 24), .int (nI tk), .ref (x + 25), .int (nI il), .int (nI nx), .int ec, .int ep, .int kn, .int (nI st), .int nu, .long va]) := h_1
  refine z_put (ref := "FlowExporterModel") (C := RX12) (T := TX12) (N := 54) (ci := 14) (v := .int 0) B hu_X12_rateBits_X12 tyX12 tyX12_ok nmX12 rfl 0 (Nat.le_of_ble_eq_true rfl) hv_X12_rateBits_1 rfl (Or.inl rfl) h_2 hx rfl rfl (Nat.le_of_ble_eq_true rfl) dX12_rateBits_2 (fun Φ1 hΦ1 => ?_)
  have h_3 : Φ1 x = some (o_ 14 [.int 0, .ref (x + 1), .ref (x + 2), .int ti, .int ra, .int (nI rt), .int ex, .int ad, .ref (x + 3), .ref (x + 4), .int me, .long se, .ref (x + 5), .int (nI fl), .int dr, .long ob, .long sa, .long sn, .long us, .ref (x + 6), .ref (x + 7), .int (nI pe), .ref (x + 8), .int (nI le), .ref (x + 9), .ref (x + 10), .int (nI qu), .ref (x + 11), .ref (x + 12), .ref (x + 13), .ref (x + 14), .ref (x + 15), .ref (x + 16), .int (nI n_1), .long v_1, .ref (x + 17), .ref (x + 18), .ref (x + 19), .ref (x + 20), .ref (x + 21), .ref (x + 22), .int (nI n_2), .ref (x + 23), .ref (x + 24), .int (nI tk), .ref (x + 25), .int (nI il), .int (nI nx), .int ec, .int ep, .int kn, .int (nI st), .int nu, .long va]) := fset_at hΦ1
  have hI1 : Im G x (rd, nw, cr, tp, tt, sI, sT, pt, ql, fl, pe, le, nx, il, qu, kn, ec, nu, va, st, ep, ti, ad, ob, ra, rt, ex, sa, us, tk, 0, me, dr, se, sn) Φ1 := Im.put0 hI hΦ1 ⟨n_1, v_1, n_2, rfl, b_13, b_1, b_2, b_3, b_4, b_5, b_6, b_7, b_8, b_9, b_10, b_11, b_12⟩
  refine z_fconst1 B dX12_rateBits_5 ?_
  refine z_aload_n B dX12_rateBits_6 rfl 0 rfl ?_
  refine z_get (ref := "FlowExporterModel") (C := RX12) (T := TX12) (N := 54) (ci := 14) (v := .int (nI rt)) B hu_X12_rateBits_X12 rfl 5 (Nat.le_of_ble_eq_true rfl) hv_X12_rateBits_107 rfl h_3 rfl dX12_rateBits_7 ?_
  refine z_i2f B dX12_rateBits_10 ?_
  refine z_fdiv B dX12_rateBits_11 (vf32_of (inv_nn (i2f_nn (fun h9 => absurd ((nI_eq (a := rt) (b := 0) (by omega) (by omega)).mp h9) (by omega))))) ?_
  refine z_ff (fun v_2 => ?_)
  refine z_callS (As := [.float v_2]) (rest := []) B (c_J_f2i G l Φ1 sz v_2 (fun v8 Φ8 sz8 => (∃ r9 : Int32, v8 = some (.int r9)) ∧ sz8 = sz ∧ Im G x (rd, nw, cr, tp, tt, sI, sT, pt, ql, fl, pe, le, nx, il, qu, kn, ec, nu, va, st, ep, ti, ad, ob, ra, rt, ex, sa, us, tk, 0, me, dr, se, sn) Φ8 ∧ Fr x (fun j9 => False) Φ1 Φ8) (fun r9 => ⟨⟨r9, rfl⟩, rfl, hI1, fun _ _ => rfl⟩)) (va_cwS 1 B.1.2.2.2.2 gX12_rateBits_Jxf58ca_floatToIntBits_5c35a rfl rfl rfl (by decide +kernel) ⟨Nat.le_of_ble_eq_true rfl, Nat.le_of_ble_eq_true rfl⟩) rfl rfl (Nat.le_of_ble_eq_true rfl) dX12_rateBits_12 ⟨Nat.le_of_ble_eq_true rfl, Nat.le_of_ble_eq_true rfl⟩ (fun r_1 Φ2 sz1 st1 hp1 hs1 => ?_)
  obtain ⟨⟨v_3, rfl⟩, hq1, hI2, hF1⟩ := hp1
  subst sz1
  replace hs1 : st1 = [.int v_3] := hs1
  subst st1
  exact z_ret_i B dX12_rateBits_15 ⟨⟨_, rfl⟩, rfl, ⟨0, hI2⟩, (fun b9 h9 => ((hF1 b9 (fun j9 h8 h7 => (show False from h7).elim)).trans ((fset_fr hΦ1 (fun h8 => h9 (0) h8 (show 0 = 0 by decide))).trans rfl)))⟩

theorem hu_X12_contentOf_X12 : ∀ w ∈ u_ws RX12 TX12 54, w ∈ wsX12_contentOf := fun _ h => List.mem_cons_of_mem _ (List.mem_append_left _ (List.mem_append_right _ (h)))

theorem hv_X12_contentOf_26 : Cond.fieldLink RX12 26 "FlowExporterModel" (TX12 12).2.1 (TX12 12).2.2.1 ∈ wsX12_contentOf := List.mem_cons_of_mem _ (List.mem_append_left _ (List.mem_append_left _ (List.mem_of_getElem? (i := 1) rfl)))

theorem hv_X12_contentOf_107 : Cond.fieldLink RX12 107 "FlowExporterModel" (TX12 5).2.1 (TX12 5).2.2.1 ∈ wsX12_contentOf := List.mem_cons_of_mem _ (List.mem_append_left _ (List.mem_append_left _ (List.mem_of_getElem? (i := 0) rfl)))

set_option maxHeartbeats 4000000 in
set_option maxRecDepth 100000 in
theorem r_contentOf (G : EnvG) (l : Launch) (Φ : Hm) (sz x : Nat) (rd : (Nat → Int32) → Prop) (nw : (Nat → Int32) → Prop) (cr : (Nat → Int64) → Prop) (tp : (Nat → Int32) → Prop) (tt : (Nat → Int64) → Prop) (sI : (Nat → Int32) → Prop) (sT : (Nat → Int32) → Prop) (pt : (Nat → Int32) → Prop) (ql : (Nat → Int32) → Prop) (fl : Nat) (pe : Nat) (le : Nat) (nx : Nat) (il : Nat) (qu : Nat) (kn : Int32) (ec : Int32) (nu : Int32) (va : Int64) (st : Nat) (ep : Int32) (ti : Int32) (ad : Int32) (ob : Int64) (ra : Int32) (rt : Nat) (ex : Int32) (sa : Int64) (us : Int64) (tk : Nat) (th : Int32) (me : Int32) (dr : Int32) (se : Int64) (sn : Int64) (f : Nat) (d : Nat) (hx : G.2.2.2 ≤ x) (hI : Im G x (rd, nw, cr, tp, tt, sI, sT, pt, ql, fl, pe, le, nx, il, qu, kn, ec, nu, va, st, ep, ti, ad, ob, ra, rt, ex, sa, us, tk, th, me, dr, se, sn) Φ) (hf : f < 12) (hd : d ≤ 8) (hnw : ∀ f9 : Nat → Int32, nw f9 → NN f9) : Ct G l yX12_contentOf wsX12_contentOf ({ frames := 2, cells := 0, slots := 0, locals := 40 }) 0 0 [.ref x, .int (nI f), .int (nI d)] Φ sz (fun v Φ1 sz1 => (∃ r9 : Int64, v = some (.long r9)) ∧ sz1 = sz ∧ (Im G x (rd, nw, cr, tp, tt, sI, sT, pt, ql, fl, pe, le, nx, il, qu, kn, ec, nu, va, st, ep, ti, ad, ob, ra, rt, ex, sa, us, tk, th, me, dr, se, sn) Φ1) ∧ Fr x (fun j9 => False) Φ Φ1) := by
  refine Ct.of (cc := cX12_contentOf) (maxL := 3) (ret := (some .long)) (by decide) rfl (Nat.le_of_ble_eq_true rfl) ?_
  intro p9 e9 s9 m9 w9 t9 k9 B
  show Z p9 l e9 _ s9 m9 _ w9 t9 k9 _ G 3 0 [(0, .ref x), (1, .int (nI f)), (2, .int (nI d))] [] Φ sz 0 0
  refine z_iload_n B dX12_contentOf_0 rfl 2 rfl ?_
  refine z_bipush (v := 8) B dX12_contentOf_1 rfl ?_
  refine z_icmp_ne (tgt := 20) B dX12_contentOf_3 rfl (fun c_1 => ?_) (fun c_1 => ?_)
  · have e_1 : ¬ (d = 8) := fun h9 => c_1 ((nI_eq (a := d) (b := 8) (by omega) (by omega)).mpr h9)
    refine z_aload_n B dX12_contentOf_20 rfl 0 rfl ?_
    obtain ⟨n_1, v_1, n_2, h_1, b_13, b_1, b_2, b_3, b_4, b_5, b_6, b_7, b_8, b_9, b_10, b_11, b_12⟩ := im0 hI
    replace b_1 : 1 ≤ rt := b_1
    replace b_2 : rt ≤ 1024 := b_2
    replace b_3 : fl ≤ 12 := b_3
    replace b_4 : pe ≤ 24 := b_4
    replace b_5 : le ≤ 700 := b_5
    replace b_6 : qu ≤ 12 := b_6
    replace b_7 : n_1 ≤ 8 := b_7
    replace b_8 : n_2 ≤ 24 := b_8
    replace b_9 : tk ≤ 24 := b_9
    replace b_10 : il ≤ 700 := b_10
    replace b_11 : nx ≤ 701 := b_11
    replace b_12 : st ≤ 701 := b_12
    have h_2 : Φ x = some (o_ 14 [.int th, .ref (x + 1), .ref (x + 2), .int ti, .int ra, .int (nI rt), .int ex, .int ad, .ref (x + 3), .ref (x + 4), .int me, .long se, .ref (x + 5), .int (nI fl), .int dr, .long ob, .long sa, .long sn, .long us, .ref (x + 6), .ref (x + 7), .int (nI pe), .ref (x + 8), .int (nI le), .ref (x + 9), .ref (x + 10), .int (nI qu), .ref (x + 11), .ref (x + 12), .ref (x + 13), .ref (x + 14), .ref (x + 15), .ref (x + 16), .int (nI n_1), .long v_1, .ref (x + 17), .ref (x + 18), .ref (x + 19), .ref (x + 20), .ref (x + 21), .ref (x + 22), .int (nI n_2), .ref (x + 23), .ref (x + 24), .int (nI tk), .ref (x + 25), .int (nI il), .int (nI nx), .int ec, .int ep, .int kn, .int (nI st), .int nu, .long va]) := h_1
    refine z_get (ref := "FlowExporterModel") (C := RX12) (T := TX12) (N := 54) (ci := 14) (v := .ref (x + 5)) B hu_X12_contentOf_X12 rfl 12 (Nat.le_of_ble_eq_true rfl) hv_X12_contentOf_26 rfl h_2 rfl dX12_contentOf_21 ?_
    refine z_bipush (v := 8) B dX12_contentOf_24 rfl ?_
    refine z_iload_n B dX12_contentOf_26 rfl 1 rfl ?_
    refine z_imul B dX12_contentOf_27 ?_
    refine z_top (st1 := [.int (nI (8 * f)), .ref (x + 5)]) (congrArg (fun w9 : Int32 => ([.int w9, .ref (x + 5)] : List Value)) (nI_mul 8 f)) ?_
    refine z_iload_n B dX12_contentOf_28 rfl 2 rfl ?_
    refine z_iadd B dX12_contentOf_29 ?_
    refine z_top (st1 := [.int (nI (8 * f + d)), .ref (x + 5)]) (congrArg (fun w9 : Int32 => ([.int w9, .ref (x + 5)] : List Value)) (nI_add (8 * f) d)) ?_
    obtain ⟨f_1, h_3, r_1, r_2⟩ := imk (k := 5) hI
    replace r_2 : cr f_1 := r_2
    replace r_1 : CC f_1 := r_1
    have h_4 : Φ (x + 5) = some (al_ G 96 f_1) := h_3
    refine z_lald B h_4 (vp_in_nI (by omega) (by omega)) dX12_contentOf_30 ?_
    refine z_fl (fun v_2 => ?_)
    exact z_ret_l B dX12_contentOf_31 ⟨⟨_, rfl⟩, rfl, hI, (fun b9 h9 => rfl)⟩
  · have e_2 : d = 8 := (nI_eq (a := d) (b := 8) (by omega) (by omega)).mp c_1
    refine z_fconst1 B dX12_contentOf_6 ?_
    refine z_aload_n B dX12_contentOf_7 rfl 0 rfl ?_
    obtain ⟨n_3, v_3, n_4, h_5, b_26, b_14, b_15, b_16, b_17, b_18, b_19, b_20, b_21, b_22, b_23, b_24, b_25⟩ := im0 hI
    replace b_14 : 1 ≤ rt := b_14
    replace b_15 : rt ≤ 1024 := b_15
    replace b_16 : fl ≤ 12 := b_16
    replace b_17 : pe ≤ 24 := b_17
    replace b_18 : le ≤ 700 := b_18
    replace b_19 : qu ≤ 12 := b_19
    replace b_20 : n_3 ≤ 8 := b_20
    replace b_21 : n_4 ≤ 24 := b_21
    replace b_22 : tk ≤ 24 := b_22
    replace b_23 : il ≤ 700 := b_23
    replace b_24 : nx ≤ 701 := b_24
    replace b_25 : st ≤ 701 := b_25
    have h_6 : Φ x = some (o_ 14 [.int th, .ref (x + 1), .ref (x + 2), .int ti, .int ra, .int (nI rt), .int ex, .int ad, .ref (x + 3), .ref (x + 4), .int me, .long se, .ref (x + 5), .int (nI fl), .int dr, .long ob, .long sa, .long sn, .long us, .ref (x + 6), .ref (x + 7), .int (nI pe), .ref (x + 8), .int (nI le), .ref (x + 9), .ref (x + 10), .int (nI qu), .ref (x + 11), .ref (x + 12), .ref (x + 13), .ref (x + 14), .ref (x + 15), .ref (x + 16), .int (nI n_3), .long v_3, .ref (x + 17), .ref (x + 18), .ref (x + 19), .ref (x + 20), .ref (x + 21), .ref (x + 22), .int (nI n_4), .ref (x + 23), .ref (x + 24), .int (nI tk), .ref (x + 25), .int (nI il), .int (nI nx), .int ec, .int ep, .int kn, .int (nI st), .int nu, .long va]) := h_5
    refine z_get (ref := "FlowExporterModel") (C := RX12) (T := TX12) (N := 54) (ci := 14) (v := .int (nI rt)) B hu_X12_contentOf_X12 rfl 5 (Nat.le_of_ble_eq_true rfl) hv_X12_contentOf_107 rfl h_6 rfl dX12_contentOf_8 ?_
    refine z_i2f B dX12_contentOf_11 ?_
    refine z_fdiv B dX12_contentOf_12 (vf32_of (inv_nn (i2f_nn (fun h9 => absurd ((nI_eq (a := rt) (b := 0) (by omega) (by omega)).mp h9) (by omega))))) ?_
    refine z_ff (fun v_4 => ?_)
    refine z_callS (As := [.float v_4]) (rest := []) B (c_J_f2i G l Φ sz v_4 (fun v8 Φ8 sz8 => (∃ r9 : Int32, v8 = some (.int r9)) ∧ sz8 = sz ∧ Im G x (rd, nw, cr, tp, tt, sI, sT, pt, ql, fl, pe, le, nx, il, qu, kn, ec, nu, va, st, ep, ti, ad, ob, ra, rt, ex, sa, us, tk, th, me, dr, se, sn) Φ8 ∧ Fr x (fun j9 => False) Φ Φ8) (fun r9 => ⟨⟨r9, rfl⟩, rfl, hI, fun _ _ => rfl⟩)) (va_cwS 1 B.1.2.2.2.2 gX12_contentOf_Jxf58ca_floatToIntBits_5c35a rfl rfl rfl (by decide +kernel) ⟨Nat.le_of_ble_eq_true rfl, Nat.le_of_ble_eq_true rfl⟩) rfl rfl (Nat.le_of_ble_eq_true rfl) dX12_contentOf_13 ⟨Nat.le_of_ble_eq_true rfl, Nat.le_of_ble_eq_true rfl⟩ (fun r_3 Φ1 sz1 st1 hp1 hs1 => ?_)
    obtain ⟨⟨v_5, rfl⟩, hq1, hI1, hF1⟩ := hp1
    subst sz1
    replace hs1 : st1 = [.int v_5] := hs1
    subst st1
    refine z_i2l (v := v_5.toInt64) B dX12_contentOf_16 rfl ?_
    refine z_goto (tgt := 31) B dX12_contentOf_17 rfl ?_
    exact z_ret_l B dX12_contentOf_31 ⟨⟨_, rfl⟩, rfl, hI1, (fun b9 h9 => ((hF1 b9 (fun j9 h8 h7 => (show False from h7).elim)).trans rfl))⟩

set_option maxHeartbeats 4000000 in
set_option maxRecDepth 100000 in
theorem r_sizeOfE (G : EnvG) (l : Launch) (Φ : Hm) (sz x : Nat) (rd : (Nat → Int32) → Prop) (nw : (Nat → Int32) → Prop) (cr : (Nat → Int64) → Prop) (tp : (Nat → Int32) → Prop) (tt : (Nat → Int64) → Prop) (sI : (Nat → Int32) → Prop) (sT : (Nat → Int32) → Prop) (pt : (Nat → Int32) → Prop) (ql : (Nat → Int32) → Prop) (fl : Nat) (pe : Nat) (le : Nat) (nx : Nat) (il : Nat) (qu : Nat) (kn : Int32) (ec : Int32) (nu : Int32) (va : Int64) (st : Nat) (ep : Int32) (ti : Int32) (ad : Int32) (ob : Int64) (ra : Int32) (rt : Nat) (ex : Int32) (sa : Int64) (us : Int64) (tk : Nat) (th : Int32) (me : Int32) (dr : Int32) (se : Int64) (sn : Int64) (fN : Nat → Int32) (t : Nat) (hx : G.2.2.2 ≤ x) (hI : Im G x (rd, nw, cr, tp, tt, sI, sT, pt, ql, fl, pe, le, nx, il, qu, kn, ec, nu, va, st, ep, ti, ad, ob, ra, rt, ex, sa, us, tk, th, me, dr, se, sn) Φ) (hc0 : Φ (x + 2) = some (ai_ G 307 fN)) (hN : NN fN) (ht : t < 4) (hnw : ∀ f9 : Nat → Int32, nw f9 → NN f9) : Ct G l yX12_sizeOf wsX12_sizeOf ({ frames := 0, cells := 0, slots := 0, locals := 0 }) 0 0 [.ref x, .int (nI t)] Φ sz (fun v Φ1 sz1 => (∃ n9 : Nat, v = some (.int (nI n9)) ∧ n9 ≤ 9 ∧ fN (11 + t) = nI n9 ∧ lsm fN (15 + 9 * t) n9 ≤ 29) ∧ sz1 = sz ∧ (Im G x (rd, nw, cr, tp, tt, sI, sT, pt, ql, fl, pe, le, nx, il, qu, kn, ec, nu, va, st, ep, ti, ad, ob, ra, rt, ex, sa, us, tk, th, me, dr, se, sn) Φ1) ∧ Fr x (fun j9 => False) Φ Φ1) := by
  refine Ct.of (cc := cX12_sizeOf) (maxL := 2) (ret := (some .int)) (by decide) rfl (Nat.le_of_ble_eq_true rfl) ?_
  intro p9 e9 s9 m9 w9 t9 k9 B
  show Z p9 l e9 _ s9 m9 _ w9 t9 k9 _ G 2 0 [(0, .ref x), (1, .int (nI t))] [] Φ sz 0 0
  refine z_aload_n B dX12_sizeOf_0 rfl 0 rfl ?_
  obtain ⟨n_1, v_1, n_2, h_1, b_13, b_1, b_2, b_3, b_4, b_5, b_6, b_7, b_8, b_9, b_10, b_11, b_12⟩ := im0 hI
  replace b_1 : 1 ≤ rt := b_1
  replace b_2 : rt ≤ 1024 := b_2
  replace b_3 : fl ≤ 12 := b_3
  replace b_4 : pe ≤ 24 := b_4
  replace b_5 : le ≤ 700 := b_5
  replace b_6 : qu ≤ 12 := b_6
  replace b_7 : n_1 ≤ 8 := b_7
  replace b_8 : n_2 ≤ 24 := b_8
  replace b_9 : tk ≤ 24 := b_9
  replace b_10 : il ≤ 700 := b_10
  replace b_11 : nx ≤ 701 := b_11
  replace b_12 : st ≤ 701 := b_12
  have h_2 : Φ x = some (o_ 14 [.int th, .ref (x + 1), .ref (x + 2), .int ti, .int ra, .int (nI rt), .int ex, .int ad, .ref (x + 3), .ref (x + 4), .int me, .long se, .ref (x + 5), .int (nI fl), .int dr, .long ob, .long sa, .long sn, .long us, .ref (x + 6), .ref (x + 7), .int (nI pe), .ref (x + 8), .int (nI le), .ref (x + 9), .ref (x + 10), .int (nI qu), .ref (x + 11), .ref (x + 12), .ref (x + 13), .ref (x + 14), .ref (x + 15), .ref (x + 16), .int (nI n_1), .long v_1, .ref (x + 17), .ref (x + 18), .ref (x + 19), .ref (x + 20), .ref (x + 21), .ref (x + 22), .int (nI n_2), .ref (x + 23), .ref (x + 24), .int (nI tk), .ref (x + 25), .int (nI il), .int (nI nx), .int ec, .int ep, .int kn, .int (nI st), .int nu, .long va]) := h_1
  refine z_get (ref := "FlowExporterModel") (C := RX12) (T := TX12) (N := 54) (ci := 14) (v := .ref (x + 2)) B hu_X12_sizeOf_X12 rfl 2 (Nat.le_of_ble_eq_true rfl) hv_X12_sizeOf_17 rfl h_2 rfl dX12_sizeOf_1 ?_
  refine z_bipush (v := 11) B dX12_sizeOf_4 rfl ?_
  refine z_iload_n B dX12_sizeOf_6 rfl 1 rfl ?_
  refine z_iadd B dX12_sizeOf_7 ?_
  refine z_top (st1 := [.int (nI (11 + t)), .ref (x + 2)]) (congrArg (fun w9 : Int32 => ([.int w9, .ref (x + 2)] : List Value)) (nI_add 11 t)) ?_
  refine z_iald B hc0 (vp_in_nI (by omega) (by omega)) dX12_sizeOf_8 ?_
  obtain ⟨n_3, hs1, hs2, hs3⟩ := NN.size hN ht
  refine z_top (st1 := [.int (nI n_3)]) (congrArg (fun w9 : Int32 => ([.int w9] : List Value)) ((congrArg fN (nI_clamp (by omega))).trans hs2)) ?_
  exact z_ret_i B dX12_sizeOf_9 ⟨⟨_, rfl, hs1, hs2, hs3⟩, rfl, hI, (fun b9 h9 => rfl)⟩

set_option maxHeartbeats 4000000 in
set_option maxRecDepth 100000 in
theorem r_fieldOfE (G : EnvG) (l : Launch) (Φ : Hm) (sz x : Nat) (rd : (Nat → Int32) → Prop) (nw : (Nat → Int32) → Prop) (cr : (Nat → Int64) → Prop) (tp : (Nat → Int32) → Prop) (tt : (Nat → Int64) → Prop) (sI : (Nat → Int32) → Prop) (sT : (Nat → Int32) → Prop) (pt : (Nat → Int32) → Prop) (ql : (Nat → Int32) → Prop) (fl : Nat) (pe : Nat) (le : Nat) (nx : Nat) (il : Nat) (qu : Nat) (kn : Int32) (ec : Int32) (nu : Int32) (va : Int64) (st : Nat) (ep : Int32) (ti : Int32) (ad : Int32) (ob : Int64) (ra : Int32) (rt : Nat) (ex : Int32) (sa : Int64) (us : Int64) (tk : Nat) (th : Int32) (me : Int32) (dr : Int32) (se : Int64) (sn : Int64) (fN : Nat → Int32) (t : Nat) (q : Nat) (hx : G.2.2.2 ≤ x) (hI : Im G x (rd, nw, cr, tp, tt, sI, sT, pt, ql, fl, pe, le, nx, il, qu, kn, ec, nu, va, st, ep, ti, ad, ob, ra, rt, ex, sa, us, tk, th, me, dr, se, sn) Φ) (hc0 : Φ (x + 2) = some (ai_ G 307 fN)) (hN : NN fN) (ht : t < 4) (hq : q < 9) (hnw : ∀ f9 : Nat → Int32, nw f9 → NN f9) : Ct G l yX12_fieldOf wsX12_fieldOf ({ frames := 0, cells := 0, slots := 0, locals := 0 }) 0 0 [.ref x, .int (nI t), .int (nI q)] Φ sz (fun v Φ1 sz1 => (∃ n9 : Nat, v = some (.int (nI n9)) ∧ n9 ≤ 8 ∧ fN (15 + 9 * t + q) = nI n9) ∧ sz1 = sz ∧ (Im G x (rd, nw, cr, tp, tt, sI, sT, pt, ql, fl, pe, le, nx, il, qu, kn, ec, nu, va, st, ep, ti, ad, ob, ra, rt, ex, sa, us, tk, th, me, dr, se, sn) Φ1) ∧ Fr x (fun j9 => False) Φ Φ1) := by
  refine Ct.of (cc := cX12_fieldOf) (maxL := 3) (ret := (some .int)) (by decide) rfl (Nat.le_of_ble_eq_true rfl) ?_
  intro p9 e9 s9 m9 w9 t9 k9 B
  show Z p9 l e9 _ s9 m9 _ w9 t9 k9 _ G 3 0 [(0, .ref x), (1, .int (nI t)), (2, .int (nI q))] [] Φ sz 0 0
  refine z_aload_n B dX12_fieldOf_0 rfl 0 rfl ?_
  obtain ⟨n_1, v_1, n_2, h_1, b_13, b_1, b_2, b_3, b_4, b_5, b_6, b_7, b_8, b_9, b_10, b_11, b_12⟩ := im0 hI
  replace b_1 : 1 ≤ rt := b_1
  replace b_2 : rt ≤ 1024 := b_2
  replace b_3 : fl ≤ 12 := b_3
  replace b_4 : pe ≤ 24 := b_4
  replace b_5 : le ≤ 700 := b_5
  replace b_6 : qu ≤ 12 := b_6
  replace b_7 : n_1 ≤ 8 := b_7
  replace b_8 : n_2 ≤ 24 := b_8
  replace b_9 : tk ≤ 24 := b_9
  replace b_10 : il ≤ 700 := b_10
  replace b_11 : nx ≤ 701 := b_11
  replace b_12 : st ≤ 701 := b_12
  have h_2 : Φ x = some (o_ 14 [.int th, .ref (x + 1), .ref (x + 2), .int ti, .int ra, .int (nI rt), .int ex, .int ad, .ref (x + 3), .ref (x + 4), .int me, .long se, .ref (x + 5), .int (nI fl), .int dr, .long ob, .long sa, .long sn, .long us, .ref (x + 6), .ref (x + 7), .int (nI pe), .ref (x + 8), .int (nI le), .ref (x + 9), .ref (x + 10), .int (nI qu), .ref (x + 11), .ref (x + 12), .ref (x + 13), .ref (x + 14), .ref (x + 15), .ref (x + 16), .int (nI n_1), .long v_1, .ref (x + 17), .ref (x + 18), .ref (x + 19), .ref (x + 20), .ref (x + 21), .ref (x + 22), .int (nI n_2), .ref (x + 23), .ref (x + 24), .int (nI tk), .ref (x + 25), .int (nI il), .int (nI nx), .int ec, .int ep, .int kn, .int (nI st), .int nu, .long va]) := h_1
  refine z_get (ref := "FlowExporterModel") (C := RX12) (T := TX12) (N := 54) (ci := 14) (v := .ref (x + 2)) B hu_X12_fieldOf_X12 rfl 2 (Nat.le_of_ble_eq_true rfl) hv_X12_fieldOf_17 rfl h_2 rfl dX12_fieldOf_1 ?_
  refine z_bipush (v := 15) B dX12_fieldOf_4 rfl ?_
  refine z_bipush (v := 9) B dX12_fieldOf_6 rfl ?_
  refine z_iload_n B dX12_fieldOf_8 rfl 1 rfl ?_
  refine z_imul B dX12_fieldOf_9 ?_
  refine z_top (st1 := [.int (nI (9 * t)), .int 15, .ref (x + 2)]) (congrArg (fun w9 : Int32 => ([.int w9, .int 15, .ref (x + 2)] : List Value)) (nI_mul 9 t)) ?_
  refine z_iadd B dX12_fieldOf_10 ?_
  refine z_top (st1 := [.int (nI (15 + 9 * t)), .ref (x + 2)]) (congrArg (fun w9 : Int32 => ([.int w9, .ref (x + 2)] : List Value)) (nI_add 15 (9 * t))) ?_
  refine z_iload_n B dX12_fieldOf_11 rfl 2 rfl ?_
  refine z_iadd B dX12_fieldOf_12 ?_
  refine z_top (st1 := [.int (nI (15 + 9 * t + q)), .ref (x + 2)]) (congrArg (fun w9 : Int32 => ([.int w9, .ref (x + 2)] : List Value)) (nI_add (15 + 9 * t) q)) ?_
  refine z_iald B hc0 (vp_in_nI (by omega) (by omega)) dX12_fieldOf_13 ?_
  obtain ⟨n_3, hs1, hs2⟩ := hN.2.1 (15 + 9 * t + q) (by omega) (by omega)
  refine z_top (st1 := [.int (nI n_3)]) (congrArg (fun w9 : Int32 => ([.int w9] : List Value)) ((congrArg fN (nI_clamp (by omega))).trans hs2)) ?_
  exact z_ret_i B dX12_fieldOf_14 ⟨⟨_, rfl, hs1, hs2⟩, rfl, hI, (fun b9 h9 => rfl)⟩

theorem al_inj {G : EnvG} {n : Nat} {f g : Nat → Int64} (h : some (al_ G n f) = some (al_ G n g)) : f = g := by
  have h1 := Option.some.inj h
  have h2 := Sum.inl.inj h1
  have h3 := (Prod.mk.inj (Prod.mk.inj h2).2).2
  exact Sum.inl.inj (Sum.inr.inj h3)
theorem ai_inj {G : EnvG} {n : Nat} {f g : Nat → Int32} (h : some (ai_ G n f) = some (ai_ G n g)) : f = g := by
  have h1 := Option.some.inj h
  have h2 := Sum.inl.inj h1
  have h3 := (Prod.mk.inj (Prod.mk.inj h2).2).2
  exact Sum.inl.inj h3
theorem no_s {P : Nat → Prop} {i : Nat} (h : ∀ j, j < i → ¬ P j) (hi : ¬ P i) : ∀ j, j < i + 1 → ¬ P j := by
  intro j hj
  by_cases e : j = i
  · subst e
    exact hi
  · exact h j (by omega)

set_option maxHeartbeats 4000000 in
set_option maxRecDepth 100000 in
theorem r_isSame_19 (G : EnvG) (l : Launch) (Φ : Hm) (sz x : Nat) (rd : (Nat → Int32) → Prop) (nw : (Nat → Int32) → Prop) (cr : (Nat → Int64) → Prop) (tp : (Nat → Int32) → Prop) (tt : (Nat → Int64) → Prop) (sI : (Nat → Int32) → Prop) (sT : (Nat → Int32) → Prop) (pt : (Nat → Int32) → Prop) (ql : (Nat → Int32) → Prop) (fl : Nat) (pe : Nat) (le : Nat) (nx : Nat) (il : Nat) (qu : Nat) (kn : Int32) (ec : Int32) (nu : Int32) (va : Int64) (st : Nat) (ep : Int32) (ti : Int32) (ad : Int32) (ob : Int64) (ra : Int32) (rt : Nat) (ex : Int32) (sa : Int64) (us : Int64) (tk : Nat) (th : Int32) (me : Int32) (dr : Int32) (se : Int64) (sn : Int64) (i : Nat) (a : Int64) (b : Int64) (d : Int64) (f : Int64) (hx : G.2.2.2 ≤ x) (hI : Im G x (rd, nw, cr, tp, tt, sI, sT, pt, ql, fl, pe, le, nx, il, qu, kn, ec, nu, va, st, ep, ti, ad, ob, ra, rt, ex, sa, us, tk, th, me, dr, se, sn) Φ) (hi : i < 24) (hnw : ∀ f9 : Nat → Int32, nw f9 → NN f9) : Ct G l yX12_isSame wsX12_isSame ({ frames := 0, cells := 0, slots := 0, locals := 0 }) 0 0 [.ref (x + 19), .int (nI i), .long a, .long b, .long d, .long f] Φ sz (fun v Φ1 sz1 => (∃ r9 : Int32, v = some (.int r9) ∧ (r9 = 0 ∨ r9 = 1)) ∧ sz1 = sz ∧ (Im G x (rd, nw, cr, tp, tt, sI, sT, pt, ql, fl, pe, le, nx, il, qu, kn, ec, nu, va, st, ep, ti, ad, ob, ra, rt, ex, sa, us, tk, th, me, dr, se, sn) Φ1) ∧ Fr x (fun j9 => False) Φ Φ1) := by
  refine Ct.of (cc := cX12_isSame) (maxL := 10) (ret := (some .boolean)) (by decide) rfl (Nat.le_of_ble_eq_true rfl) ?_
  intro p9 e9 s9 m9 w9 t9 k9 B
  show Z p9 l e9 _ s9 m9 _ w9 t9 k9 _ G 10 0 [(0, .ref (x + 19)), (1, .int (nI i)), (2, .long a), (4, .long b), (6, .long d), (8, .long f)] [] Φ sz 0 0
  refine z_aload_n B dX12_isSame_0 rfl 0 rfl ?_
  refine z_iconst (v := 4) B dX12_isSame_1 rfl ?_
  refine z_iload_n B dX12_isSame_2 rfl 1 rfl ?_
  refine z_imul B dX12_isSame_3 ?_
  refine z_top (st1 := [.int (nI (4 * i)), .ref (x + 19)]) (congrArg (fun w9 : Int32 => ([.int w9, .ref (x + 19)] : List Value)) (nI_mul 4 i)) ?_
  obtain ⟨f_1, h_1⟩ := imk (k := 19) hI
  have h_2 : Φ (x + 19) = some (ai_ G 96 f_1) := h_1
  refine z_iald B h_2 (vp_in_nI (by omega) (by omega)) dX12_isSame_4 ?_
  refine z_fi (fun v_1 => ?_)
  refine z_i2l (v := v_1.toInt64) B dX12_isSame_5 rfl ?_
  refine z_lload_n B dX12_isSame_6 rfl 2 rfl ?_
  refine z_lcmp B dX12_isSame_7 ?_
  refine z_fi (fun v_2 => ?_)
  refine z_if_ne (tgt := 57) B dX12_isSame_8 rfl (fun c_1 => ?_) (fun c_1 => ?_)
  · refine z_iconst (v := 0) B dX12_isSame_57 rfl ?_
    exact z_ret_z B dX12_isSame_58 (by decide) ⟨⟨_, rfl, by decide⟩, rfl, hI, (fun b9 h9 => rfl)⟩
  · refine z_aload_n B dX12_isSame_11 rfl 0 rfl ?_
    refine z_iconst (v := 4) B dX12_isSame_12 rfl ?_
    refine z_iload_n B dX12_isSame_13 rfl 1 rfl ?_
    refine z_imul B dX12_isSame_14 ?_
    refine z_top (st1 := [.int (nI (4 * i)), .ref (x + 19)]) (congrArg (fun w9 : Int32 => ([.int w9, .ref (x + 19)] : List Value)) (nI_mul 4 i)) ?_
    refine z_iconst (v := 1) B dX12_isSame_15 rfl ?_
    refine z_iadd B dX12_isSame_16 ?_
    refine z_top (st1 := [.int (nI (4 * i + 1)), .ref (x + 19)]) (congrArg (fun w9 : Int32 => ([.int w9, .ref (x + 19)] : List Value)) (nI_add (4 * i) 1)) ?_
    refine z_iald B h_2 (vp_in_nI (by omega) (by omega)) dX12_isSame_17 ?_
    refine z_fi (fun v_3 => ?_)
    refine z_i2l (v := v_3.toInt64) B dX12_isSame_18 rfl ?_
    refine z_lload B dX12_isSame_19 3 rfl ?_
    refine z_lcmp B dX12_isSame_21 ?_
    refine z_fi (fun v_4 => ?_)
    refine z_if_ne (tgt := 57) B dX12_isSame_22 rfl (fun c_2 => ?_) (fun c_2 => ?_)
    · refine z_iconst (v := 0) B dX12_isSame_57 rfl ?_
      exact z_ret_z B dX12_isSame_58 (by decide) ⟨⟨_, rfl, by decide⟩, rfl, hI, (fun b9 h9 => rfl)⟩
    · refine z_aload_n B dX12_isSame_25 rfl 0 rfl ?_
      refine z_iconst (v := 4) B dX12_isSame_26 rfl ?_
      refine z_iload_n B dX12_isSame_27 rfl 1 rfl ?_
      refine z_imul B dX12_isSame_28 ?_
      refine z_top (st1 := [.int (nI (4 * i)), .ref (x + 19)]) (congrArg (fun w9 : Int32 => ([.int w9, .ref (x + 19)] : List Value)) (nI_mul 4 i)) ?_
      refine z_iconst (v := 2) B dX12_isSame_29 rfl ?_
      refine z_iadd B dX12_isSame_30 ?_
      refine z_top (st1 := [.int (nI (4 * i + 2)), .ref (x + 19)]) (congrArg (fun w9 : Int32 => ([.int w9, .ref (x + 19)] : List Value)) (nI_add (4 * i) 2)) ?_
      refine z_iald B h_2 (vp_in_nI (by omega) (by omega)) dX12_isSame_31 ?_
      refine z_fi (fun v_5 => ?_)
      refine z_i2l (v := v_5.toInt64) B dX12_isSame_32 rfl ?_
      refine z_lload B dX12_isSame_33 4 rfl ?_
      refine z_lcmp B dX12_isSame_35 ?_
      refine z_fi (fun v_6 => ?_)
      refine z_if_ne (tgt := 57) B dX12_isSame_36 rfl (fun c_3 => ?_) (fun c_3 => ?_)
      · refine z_iconst (v := 0) B dX12_isSame_57 rfl ?_
        exact z_ret_z B dX12_isSame_58 (by decide) ⟨⟨_, rfl, by decide⟩, rfl, hI, (fun b9 h9 => rfl)⟩
      · refine z_aload_n B dX12_isSame_39 rfl 0 rfl ?_
        refine z_iconst (v := 4) B dX12_isSame_40 rfl ?_
        refine z_iload_n B dX12_isSame_41 rfl 1 rfl ?_
        refine z_imul B dX12_isSame_42 ?_
        refine z_top (st1 := [.int (nI (4 * i)), .ref (x + 19)]) (congrArg (fun w9 : Int32 => ([.int w9, .ref (x + 19)] : List Value)) (nI_mul 4 i)) ?_
        refine z_iconst (v := 3) B dX12_isSame_43 rfl ?_
        refine z_iadd B dX12_isSame_44 ?_
        refine z_top (st1 := [.int (nI (4 * i + 3)), .ref (x + 19)]) (congrArg (fun w9 : Int32 => ([.int w9, .ref (x + 19)] : List Value)) (nI_add (4 * i) 3)) ?_
        refine z_iald B h_2 (vp_in_nI (by omega) (by omega)) dX12_isSame_45 ?_
        refine z_fi (fun v_7 => ?_)
        refine z_i2l (v := v_7.toInt64) B dX12_isSame_46 rfl ?_
        refine z_lload B dX12_isSame_47 5 rfl ?_
        refine z_lcmp B dX12_isSame_49 ?_
        refine z_fi (fun v_8 => ?_)
        refine z_if_ne (tgt := 57) B dX12_isSame_50 rfl (fun c_4 => ?_) (fun c_4 => ?_)
        · refine z_iconst (v := 0) B dX12_isSame_57 rfl ?_
          exact z_ret_z B dX12_isSame_58 (by decide) ⟨⟨_, rfl, by decide⟩, rfl, hI, (fun b9 h9 => rfl)⟩
        · refine z_iconst (v := 1) B dX12_isSame_53 rfl ?_
          refine z_goto (tgt := 58) B dX12_isSame_54 rfl ?_
          exact z_ret_z B dX12_isSame_58 (by decide) ⟨⟨_, rfl, by decide⟩, rfl, hI, (fun b9 h9 => rfl)⟩

set_option maxHeartbeats 4000000 in
set_option maxRecDepth 100000 in
theorem r_isSame_23 (G : EnvG) (l : Launch) (Φ : Hm) (sz x : Nat) (rd : (Nat → Int32) → Prop) (nw : (Nat → Int32) → Prop) (cr : (Nat → Int64) → Prop) (tp : (Nat → Int32) → Prop) (tt : (Nat → Int64) → Prop) (sI : (Nat → Int32) → Prop) (sT : (Nat → Int32) → Prop) (pt : (Nat → Int32) → Prop) (ql : (Nat → Int32) → Prop) (fl : Nat) (pe : Nat) (le : Nat) (nx : Nat) (il : Nat) (qu : Nat) (kn : Int32) (ec : Int32) (nu : Int32) (va : Int64) (st : Nat) (ep : Int32) (ti : Int32) (ad : Int32) (ob : Int64) (ra : Int32) (rt : Nat) (ex : Int32) (sa : Int64) (us : Int64) (tk : Nat) (th : Int32) (me : Int32) (dr : Int32) (se : Int64) (sn : Int64) (i : Nat) (a : Int64) (b : Int64) (d : Int64) (f : Int64) (hx : G.2.2.2 ≤ x) (hI : Im G x (rd, nw, cr, tp, tt, sI, sT, pt, ql, fl, pe, le, nx, il, qu, kn, ec, nu, va, st, ep, ti, ad, ob, ra, rt, ex, sa, us, tk, th, me, dr, se, sn) Φ) (hi : i < 24) (hnw : ∀ f9 : Nat → Int32, nw f9 → NN f9) : Ct G l yX12_isSame wsX12_isSame ({ frames := 0, cells := 0, slots := 0, locals := 0 }) 0 0 [.ref (x + 23), .int (nI i), .long a, .long b, .long d, .long f] Φ sz (fun v Φ1 sz1 => (∃ r9 : Int32, v = some (.int r9) ∧ (r9 = 0 ∨ r9 = 1)) ∧ sz1 = sz ∧ (Im G x (rd, nw, cr, tp, tt, sI, sT, pt, ql, fl, pe, le, nx, il, qu, kn, ec, nu, va, st, ep, ti, ad, ob, ra, rt, ex, sa, us, tk, th, me, dr, se, sn) Φ1) ∧ Fr x (fun j9 => False) Φ Φ1) := by
  refine Ct.of (cc := cX12_isSame) (maxL := 10) (ret := (some .boolean)) (by decide) rfl (Nat.le_of_ble_eq_true rfl) ?_
  intro p9 e9 s9 m9 w9 t9 k9 B
  show Z p9 l e9 _ s9 m9 _ w9 t9 k9 _ G 10 0 [(0, .ref (x + 23)), (1, .int (nI i)), (2, .long a), (4, .long b), (6, .long d), (8, .long f)] [] Φ sz 0 0
  refine z_aload_n B dX12_isSame_0 rfl 0 rfl ?_
  refine z_iconst (v := 4) B dX12_isSame_1 rfl ?_
  refine z_iload_n B dX12_isSame_2 rfl 1 rfl ?_
  refine z_imul B dX12_isSame_3 ?_
  refine z_top (st1 := [.int (nI (4 * i)), .ref (x + 23)]) (congrArg (fun w9 : Int32 => ([.int w9, .ref (x + 23)] : List Value)) (nI_mul 4 i)) ?_
  obtain ⟨f_1, h_1, r_1⟩ := imk (k := 23) hI
  replace r_1 : tp f_1 := r_1
  have h_2 : Φ (x + 23) = some (ai_ G 96 f_1) := h_1
  refine z_iald B h_2 (vp_in_nI (by omega) (by omega)) dX12_isSame_4 ?_
  refine z_fi (fun v_1 => ?_)
  refine z_i2l (v := v_1.toInt64) B dX12_isSame_5 rfl ?_
  refine z_lload_n B dX12_isSame_6 rfl 2 rfl ?_
  refine z_lcmp B dX12_isSame_7 ?_
  refine z_fi (fun v_2 => ?_)
  refine z_if_ne (tgt := 57) B dX12_isSame_8 rfl (fun c_1 => ?_) (fun c_1 => ?_)
  · refine z_iconst (v := 0) B dX12_isSame_57 rfl ?_
    exact z_ret_z B dX12_isSame_58 (by decide) ⟨⟨_, rfl, by decide⟩, rfl, hI, (fun b9 h9 => rfl)⟩
  · refine z_aload_n B dX12_isSame_11 rfl 0 rfl ?_
    refine z_iconst (v := 4) B dX12_isSame_12 rfl ?_
    refine z_iload_n B dX12_isSame_13 rfl 1 rfl ?_
    refine z_imul B dX12_isSame_14 ?_
    refine z_top (st1 := [.int (nI (4 * i)), .ref (x + 23)]) (congrArg (fun w9 : Int32 => ([.int w9, .ref (x + 23)] : List Value)) (nI_mul 4 i)) ?_
    refine z_iconst (v := 1) B dX12_isSame_15 rfl ?_
    refine z_iadd B dX12_isSame_16 ?_
    refine z_top (st1 := [.int (nI (4 * i + 1)), .ref (x + 23)]) (congrArg (fun w9 : Int32 => ([.int w9, .ref (x + 23)] : List Value)) (nI_add (4 * i) 1)) ?_
    refine z_iald B h_2 (vp_in_nI (by omega) (by omega)) dX12_isSame_17 ?_
    refine z_fi (fun v_3 => ?_)
    refine z_i2l (v := v_3.toInt64) B dX12_isSame_18 rfl ?_
    refine z_lload B dX12_isSame_19 3 rfl ?_
    refine z_lcmp B dX12_isSame_21 ?_
    refine z_fi (fun v_4 => ?_)
    refine z_if_ne (tgt := 57) B dX12_isSame_22 rfl (fun c_2 => ?_) (fun c_2 => ?_)
    · refine z_iconst (v := 0) B dX12_isSame_57 rfl ?_
      exact z_ret_z B dX12_isSame_58 (by decide) ⟨⟨_, rfl, by decide⟩, rfl, hI, (fun b9 h9 => rfl)⟩
    · refine z_aload_n B dX12_isSame_25 rfl 0 rfl ?_
      refine z_iconst (v := 4) B dX12_isSame_26 rfl ?_
      refine z_iload_n B dX12_isSame_27 rfl 1 rfl ?_
      refine z_imul B dX12_isSame_28 ?_
      refine z_top (st1 := [.int (nI (4 * i)), .ref (x + 23)]) (congrArg (fun w9 : Int32 => ([.int w9, .ref (x + 23)] : List Value)) (nI_mul 4 i)) ?_
      refine z_iconst (v := 2) B dX12_isSame_29 rfl ?_
      refine z_iadd B dX12_isSame_30 ?_
      refine z_top (st1 := [.int (nI (4 * i + 2)), .ref (x + 23)]) (congrArg (fun w9 : Int32 => ([.int w9, .ref (x + 23)] : List Value)) (nI_add (4 * i) 2)) ?_
      refine z_iald B h_2 (vp_in_nI (by omega) (by omega)) dX12_isSame_31 ?_
      refine z_fi (fun v_5 => ?_)
      refine z_i2l (v := v_5.toInt64) B dX12_isSame_32 rfl ?_
      refine z_lload B dX12_isSame_33 4 rfl ?_
      refine z_lcmp B dX12_isSame_35 ?_
      refine z_fi (fun v_6 => ?_)
      refine z_if_ne (tgt := 57) B dX12_isSame_36 rfl (fun c_3 => ?_) (fun c_3 => ?_)
      · refine z_iconst (v := 0) B dX12_isSame_57 rfl ?_
        exact z_ret_z B dX12_isSame_58 (by decide) ⟨⟨_, rfl, by decide⟩, rfl, hI, (fun b9 h9 => rfl)⟩
      · refine z_aload_n B dX12_isSame_39 rfl 0 rfl ?_
        refine z_iconst (v := 4) B dX12_isSame_40 rfl ?_
        refine z_iload_n B dX12_isSame_41 rfl 1 rfl ?_
        refine z_imul B dX12_isSame_42 ?_
        refine z_top (st1 := [.int (nI (4 * i)), .ref (x + 23)]) (congrArg (fun w9 : Int32 => ([.int w9, .ref (x + 23)] : List Value)) (nI_mul 4 i)) ?_
        refine z_iconst (v := 3) B dX12_isSame_43 rfl ?_
        refine z_iadd B dX12_isSame_44 ?_
        refine z_top (st1 := [.int (nI (4 * i + 3)), .ref (x + 23)]) (congrArg (fun w9 : Int32 => ([.int w9, .ref (x + 23)] : List Value)) (nI_add (4 * i) 3)) ?_
        refine z_iald B h_2 (vp_in_nI (by omega) (by omega)) dX12_isSame_45 ?_
        refine z_fi (fun v_7 => ?_)
        refine z_i2l (v := v_7.toInt64) B dX12_isSame_46 rfl ?_
        refine z_lload B dX12_isSame_47 5 rfl ?_
        refine z_lcmp B dX12_isSame_49 ?_
        refine z_fi (fun v_8 => ?_)
        refine z_if_ne (tgt := 57) B dX12_isSame_50 rfl (fun c_4 => ?_) (fun c_4 => ?_)
        · refine z_iconst (v := 0) B dX12_isSame_57 rfl ?_
          exact z_ret_z B dX12_isSame_58 (by decide) ⟨⟨_, rfl, by decide⟩, rfl, hI, (fun b9 h9 => rfl)⟩
        · refine z_iconst (v := 1) B dX12_isSame_53 rfl ?_
          refine z_goto (tgt := 58) B dX12_isSame_54 rfl ?_
          exact z_ret_z B dX12_isSame_58 (by decide) ⟨⟨_, rfl, by decide⟩, rfl, hI, (fun b9 h9 => rfl)⟩

theorem hu_X12_trueKeyOf_X12 : ∀ w ∈ u_ws RX12 TX12 54, w ∈ wsX12_trueKeyOf := fun _ h => List.mem_cons_of_mem _ (List.mem_append_left _ (List.mem_append_right _ (h)))

theorem hv_X12_trueKeyOf_145 : Cond.fieldLink RX12 145 "FlowExporterModel" (TX12 44).2.1 (TX12 44).2.2.1 ∈ wsX12_trueKeyOf := List.mem_cons_of_mem _ (List.mem_append_left _ (List.mem_append_left _ (List.mem_of_getElem? (i := 0) rfl)))

theorem hv_X12_trueKeyOf_82 : Cond.fieldLink RX12 82 "FlowExporterModel" (TX12 42).2.1 (TX12 42).2.2.1 ∈ wsX12_trueKeyOf := List.mem_cons_of_mem _ (List.mem_append_left _ (List.mem_append_left _ (List.mem_of_getElem? (i := 1) rfl)))

set_option maxHeartbeats 4000000 in
set_option maxRecDepth 100000 in
theorem r_trueKeyOf (G : EnvG) (l : Launch) (Φ : Hm) (sz x : Nat) (rd : (Nat → Int32) → Prop) (nw : (Nat → Int32) → Prop) (cr : (Nat → Int64) → Prop) (tp : (Nat → Int32) → Prop) (tt : (Nat → Int64) → Prop) (sI : (Nat → Int32) → Prop) (sT : (Nat → Int32) → Prop) (pt : (Nat → Int32) → Prop) (ql : (Nat → Int32) → Prop) (fl : Nat) (pe : Nat) (le : Nat) (nx : Nat) (il : Nat) (qu : Nat) (kn : Int32) (ec : Int32) (nu : Int32) (va : Int64) (st : Nat) (ep : Int32) (ti : Int32) (ad : Int32) (ob : Int64) (ra : Int32) (rt : Nat) (ex : Int32) (sa : Int64) (us : Int64) (tk : Nat) (th : Int32) (me : Int32) (dr : Int32) (se : Int64) (sn : Int64) (a : Int32) (b : Int32) (d : Int32) (f : Int32) (hx : G.2.2.2 ≤ x) (hI : Im G x (rd, nw, cr, tp, tt, sI, sT, pt, ql, fl, pe, le, nx, il, qu, kn, ec, nu, va, st, ep, ti, ad, ob, ra, rt, ex, sa, us, tk, th, me, dr, se, sn) Φ) (hnw : ∀ f9 : Nat → Int32, nw f9 → NN f9) : Ct G l yX12_trueKeyOf wsX12_trueKeyOf ({ frames := 1, cells := 0, slots := 0, locals := 29 }) 0 0 [.ref x, .int a, .int b, .int d, .int f] Φ sz (fun v Φ1 sz1 => (v = some (.int (-1)) ∨ ∃ n9 : Nat, n9 < 24 ∧ v = some (.int (nI n9))) ∧ sz1 = sz ∧ (Im G x (rd, nw, cr, tp, tt, sI, sT, pt, ql, fl, pe, le, nx, il, qu, kn, ec, nu, va, st, ep, ti, ad, ob, ra, rt, ex, sa, us, tk, th, me, dr, se, sn) Φ1) ∧ Fr x (fun j9 => False) Φ Φ1) := by
  refine Ct.of (cc := cX12_trueKeyOf) (maxL := 6) (ret := (some .int)) (by decide) rfl (Nat.le_of_ble_eq_true rfl) ?_
  intro p9 e9 s9 m9 w9 t9 k9 B
  show Z p9 l e9 _ s9 m9 _ w9 t9 k9 _ G 6 0 [(0, .ref x), (1, .int a), (2, .int b), (3, .int d), (4, .int f)] [] Φ sz 0 0
  refine z_iconst (v := 0) B dX12_trueKeyOf_0 rfl ?_
  refine z_istore (lv' := [(5, .int 0), (0, .ref x), (1, .int a), (2, .int b), (3, .int d), (4, .int f)]) B dX12_trueKeyOf_1 (Nat.le_of_ble_eq_true rfl) rfl ?_
  refine z_lv [0, 1, 2, 3, 4, 5] rfl ?_
  refine z_loop (α := Nat) (fun (a9 : Nat) Φi => Im G x (rd, nw, cr, tp, tt, sI, sT, pt, ql, fl, pe, le, nx, il, qu, kn, ec, nu, va, st, ep, ti, ad, ob, ra, rt, ex, sa, us, tk, th, me, dr, se, sn) Φi ∧ Fr x (fun j9 => False) Φ Φi ∧ (a9 ≤ 24) ∧ True) (fun a9 => [(5, .int (nI a9)), (0, .ref x), (1, .int a), (2, .int b), (3, .int d), (4, .int f)]) (fun a9 => 24 - a9) ?_ (0) ⟨hI, fun _ _ => rfl, (show 0 ≤ 24 by omega), trivial⟩
  rintro i_1 Φl1 ⟨hI1, hF1, b_1, -⟩ ih1
  replace hI1 : Im G x (rd, nw, cr, tp, tt, sI, sT, pt, ql, fl, pe, le, nx, il, qu, kn, ec, nu, va, st, ep, ti, ad, ob, ra, rt, ex, sa, us, tk, th, me, dr, se, sn) Φl1 := hI1
  replace b_1 : i_1 ≤ 24 := b_1
  show Z p9 l e9 _ s9 m9 _ w9 t9 k9 _ G 6 3 [(5, .int (nI i_1)), (0, .ref x), (1, .int a), (2, .int b), (3, .int d), (4, .int f)] [] Φl1 _ _ _
  refine z_iload B dX12_trueKeyOf_3 0 rfl ?_
  refine z_aload_n B dX12_trueKeyOf_5 rfl 1 rfl ?_
  obtain ⟨n_1, v_1, n_2, h_1, b_14, b_2, b_3, b_4, b_5, b_6, b_7, b_8, b_9, b_10, b_11, b_12, b_13⟩ := im0 hI1
  replace b_2 : 1 ≤ rt := b_2
  replace b_3 : rt ≤ 1024 := b_3
  replace b_4 : fl ≤ 12 := b_4
  replace b_5 : pe ≤ 24 := b_5
  replace b_6 : le ≤ 700 := b_6
  replace b_7 : qu ≤ 12 := b_7
  replace b_8 : n_1 ≤ 8 := b_8
  replace b_9 : n_2 ≤ 24 := b_9
  replace b_10 : tk ≤ 24 := b_10
  replace b_11 : il ≤ 700 := b_11
  replace b_12 : nx ≤ 701 := b_12
  replace b_13 : st ≤ 701 := b_13
  have h_2 : Φl1 x = some (o_ 14 [.int th, .ref (x + 1), .ref (x + 2), .int ti, .int ra, .int (nI rt), .int ex, .int ad, .ref (x + 3), .ref (x + 4), .int me, .long se, .ref (x + 5), .int (nI fl), .int dr, .long ob, .long sa, .long sn, .long us, .ref (x + 6), .ref (x + 7), .int (nI pe), .ref (x + 8), .int (nI le), .ref (x + 9), .ref (x + 10), .int (nI qu), .ref (x + 11), .ref (x + 12), .ref (x + 13), .ref (x + 14), .ref (x + 15), .ref (x + 16), .int (nI n_1), .long v_1, .ref (x + 17), .ref (x + 18), .ref (x + 19), .ref (x + 20), .ref (x + 21), .ref (x + 22), .int (nI n_2), .ref (x + 23), .ref (x + 24), .int (nI tk), .ref (x + 25), .int (nI il), .int (nI nx), .int ec, .int ep, .int kn, .int (nI st), .int nu, .long va]) := h_1
  refine z_get (ref := "FlowExporterModel") (C := RX12) (T := TX12) (N := 54) (ci := 14) (v := .int (nI tk)) B hu_X12_trueKeyOf_X12 rfl 44 (Nat.le_of_ble_eq_true rfl) hv_X12_trueKeyOf_145 rfl h_2 rfl dX12_trueKeyOf_6 ?_
  refine z_icmp_ge (tgt := 42) B dX12_trueKeyOf_9 rfl (fun c_1 => ?_) (fun c_1 => ?_)
  · have e_1 : tk ≤ i_1 := (nI_leI (a := tk) (b := i_1) (by omega) (by omega)).mp c_1
    refine z_iconst (v := (-1)) B dX12_trueKeyOf_42 rfl ?_
    exact z_ret_i B dX12_trueKeyOf_43 ⟨(Or.inl rfl), rfl, hI1, (fun b9 h9 => ((hF1 b9 (fun j9 h8 h7 => (show False from h7).elim)).trans rfl))⟩
  · have e_2 : ¬ (tk ≤ i_1) := fun h9 => c_1 ((nI_leI (a := tk) (b := i_1) (by omega) (by omega)).mpr h9)
    refine z_aload_n B dX12_trueKeyOf_12 rfl 1 rfl ?_
    refine z_get (ref := "FlowExporterModel") (C := RX12) (T := TX12) (N := 54) (ci := 14) (v := .ref (x + 23)) B hu_X12_trueKeyOf_X12 rfl 42 (Nat.le_of_ble_eq_true rfl) hv_X12_trueKeyOf_82 rfl h_2 rfl dX12_trueKeyOf_13 ?_
    refine z_iload B dX12_trueKeyOf_16 0 rfl ?_
    refine z_iload_n B dX12_trueKeyOf_18 rfl 2 rfl ?_
    refine z_i2l (v := a.toInt64) B dX12_trueKeyOf_19 rfl ?_
    refine z_iload_n B dX12_trueKeyOf_20 rfl 3 rfl ?_
    refine z_i2l (v := b.toInt64) B dX12_trueKeyOf_21 rfl ?_
    refine z_iload_n B dX12_trueKeyOf_22 rfl 4 rfl ?_
    refine z_i2l (v := d.toInt64) B dX12_trueKeyOf_23 rfl ?_
    refine z_iload B dX12_trueKeyOf_24 5 rfl ?_
    refine z_i2l (v := f.toInt64) B dX12_trueKeyOf_26 rfl ?_
    refine z_callS (As := [.ref (x + 23), .int (nI i_1), .long a.toInt64, .long b.toInt64, .long d.toInt64, .long f.toInt64]) (rest := []) B (r_isSame_23 G l Φl1 sz x rd nw cr tp tt sI sT pt ql fl pe le nx il qu kn ec nu va st ep ti ad ob ra rt ex sa us tk th me dr se sn i_1 a.toInt64 b.toInt64 d.toInt64 f.toInt64 hx hI1 (show i_1 < 24 by omega) hnw) (va_cwS 6 B.1.2.2.2.2 gX12_trueKeyOf_X12_isSame rfl rfl rfl (by decide +kernel) ⟨Nat.le_of_ble_eq_true rfl, Nat.le_of_ble_eq_true rfl⟩) rfl rfl (Nat.le_of_ble_eq_true rfl) dX12_trueKeyOf_27 ⟨Nat.le_of_ble_eq_true rfl, Nat.le_of_ble_eq_true rfl⟩ (fun r_1 Φ1 sz1 st1 hp1 hs1 => ?_)
    obtain ⟨⟨v_2, rfl, b_15⟩, hq1, hI2, hF2⟩ := hp1
    subst sz1
    replace hs1 : st1 = [.int v_2] := hs1
    subst st1
    replace hI2 : Im G x (rd, nw, cr, tp, tt, sI, sT, pt, ql, fl, pe, le, nx, il, qu, kn, ec, nu, va, st, ep, ti, ad, ob, ra, rt, ex, sa, us, tk, th, me, dr, se, sn) Φ1 := hI2
    refine z_if_eq (tgt := 36) B dX12_trueKeyOf_30 rfl (fun c_2 => ?_) (fun c_2 => ?_)
    · refine z_iinc (k := 0) (v := nI (i_1 + 1)) (lv' := [(5, .int (nI (i_1 + 1))), (0, .ref x), (1, .int a), (2, .int b), (3, .int d), (4, .int f)]) B dX12_trueKeyOf_36 rfl (nI_add i_1 1) (Nat.le_of_ble_eq_true rfl) rfl ?_
      refine z_goto (tgt := 3) B dX12_trueKeyOf_39 rfl ?_
      refine z_lv [0, 1, 2, 3, 4, 5] rfl ?_
      exact ih1 (i_1 + 1) Φ1 (show 24 - (i_1 + 1) < 24 - i_1 by omega) ⟨hI2, (fun b9 h9 => ((hF2 b9 (fun j9 h8 h7 => (show False from h7).elim)).trans ((hF1 b9 (fun j9 h8 h7 => (show False from h7).elim)).trans rfl))), (show (i_1 + 1) ≤ 24 by omega), trivial⟩
    · refine z_iload B dX12_trueKeyOf_33 0 rfl ?_
      exact z_ret_i B dX12_trueKeyOf_35 ⟨(Or.inr ⟨i_1, (show i_1 < 24 by omega), rfl⟩), rfl, hI2, (fun b9 h9 => ((hF2 b9 (fun j9 h8 h7 => (show False from h7).elim)).trans ((hF1 b9 (fun j9 h8 h7 => (show False from h7).elim)).trans rfl)))⟩

theorem hu_X12_keyOf_X12 : ∀ w ∈ u_ws RX12 TX12 54, w ∈ wsX12_keyOf := fun _ h => List.mem_cons_of_mem _ (List.mem_append_left _ (List.mem_append_right _ (h)))

theorem hv_X12_keyOf_148 : Cond.fieldLink RX12 148 "FlowExporterModel" (TX12 41).2.1 (TX12 41).2.2.1 ∈ wsX12_keyOf := List.mem_cons_of_mem _ (List.mem_append_left _ (List.mem_append_left _ (List.mem_of_getElem? (i := 0) rfl)))

theorem hv_X12_keyOf_69 : Cond.fieldLink RX12 69 "FlowExporterModel" (TX12 37).2.1 (TX12 37).2.2.1 ∈ wsX12_keyOf := List.mem_cons_of_mem _ (List.mem_append_left _ (List.mem_append_left _ (List.mem_of_getElem? (i := 1) rfl)))

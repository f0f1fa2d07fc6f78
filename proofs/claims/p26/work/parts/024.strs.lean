set_option maxRecDepth 20000 in
theorem ggJ0_length_8abf5_J0_coder_7d493 : GoodIn wsJ0_length_8abf5 wsJ0_coder_7d493 := (goodIn_ca (goodIn_r _ [6, 7, 8] rfl (by decide +kernel)) (goodIn_sub (fun _ h => List.mem_cons_of_mem _ (List.mem_append_right _ h)) gw_wsJ00))
set_option maxRecDepth 20000 in
theorem gJ0_length_8abf5_J0_coder_7d493 : GoodIn wsJ0_length_8abf5 (wsV RJ0 335 RJ0 yJ0_coder_7d493 wsJ0_coder_7d493) := goodIn_app (goodIn_m (mem_cA (List.mem_cons_of_mem _ (List.mem_append_left _ (List.mem_of_getElem? (i := 1) rfl))) (mem_cA (List.mem_cons_of_mem _ (List.mem_append_left _ (List.mem_of_getElem? (i := 2) rfl))) (mem_cA (List.mem_cons_of_mem _ (List.mem_append_left _ (List.mem_of_getElem? (i := 3) rfl))) (mem_cA (List.mem_cons_of_mem _ (List.mem_append_left _ (List.mem_of_getElem? (i := 4) rfl))) mem_cZ)))) (by decide +kernel)) ggJ0_length_8abf5_J0_coder_7d493
theorem dJ0_length_8abf5_0 : decode cJ0_length_8abf5 0 = .ok (.aload_n 0, 1) := by decide +kernel
theorem dJ0_length_8abf5_1 : decode cJ0_length_8abf5 1 = .ok (.getfield 9, 3) := by decide +kernel
theorem dJ0_length_8abf5_4 : decode cJ0_length_8abf5 4 = .ok (.arraylength, 1) := by decide +kernel
theorem dJ0_length_8abf5_5 : decode cJ0_length_8abf5 5 = .ok (.aload_n 0, 1) := by decide +kernel
theorem dJ0_length_8abf5_6 : decode cJ0_length_8abf5 6 = .ok (.invokevirtual 335, 3) := by decide +kernel
theorem dJ0_length_8abf5_9 : decode cJ0_length_8abf5 9 = .ok (.ishr, 1) := by decide +kernel
theorem dJ0_length_8abf5_10 : decode cJ0_length_8abf5 10 = .ok (.ireturn, 1) := by decide +kernel
set_option maxRecDepth 20000 in
theorem ggJ0_charAt_5068e_J0_isLatin1_aae02 : GoodIn wsJ0_charAt_5068e wsJ0_isLatin1_aae02 := (goodIn_ca (goodIn_r _ [6, 7, 8] rfl (by decide +kernel)) (goodIn_sub (fun _ h => List.mem_cons_of_mem _ (List.mem_append_right _ h)) gw_wsJ00))
set_option maxRecDepth 20000 in
theorem gJ0_charAt_5068e_J0_isLatin1_aae02 : GoodIn wsJ0_charAt_5068e (wsV RJ0 492 RJ0 yJ0_isLatin1_aae02 wsJ0_isLatin1_aae02) := goodIn_app (goodIn_m (mem_cA (List.mem_cons_of_mem _ (List.mem_append_left _ (List.mem_append_left _ (List.mem_of_getElem? (i := 1) rfl)))) (mem_cA (List.mem_cons_of_mem _ (List.mem_append_left _ (List.mem_append_left _ (List.mem_of_getElem? (i := 2) rfl)))) (mem_cA (List.mem_cons_of_mem _ (List.mem_append_left _ (List.mem_append_left _ (List.mem_of_getElem? (i := 3) rfl)))) (mem_cA (List.mem_cons_of_mem _ (List.mem_append_left _ (List.mem_append_left _ (List.mem_of_getElem? (i := 4) rfl)))) mem_cZ)))) (by decide +kernel)) ggJ0_charAt_5068e_J0_isLatin1_aae02
set_option maxRecDepth 20000 in
theorem ggJ0_charAt_5068e_J1_charAt_3b067 : GoodIn wsJ0_charAt_5068e wsJ1_charAt_3b067 := (goodIn_r _ [12, 13, 14, 5, 15, 16, 17, 18, 19, 20] rfl (by decide +kernel))
set_option maxRecDepth 20000 in
theorem gJ0_charAt_5068e_J1_charAt_3b067 : GoodIn wsJ0_charAt_5068e (va_wsS RJ0 495 yJ1_charAt_3b067 wsJ1_charAt_3b067) := goodIn_app (goodIn_m (mem_cA (List.mem_cons_of_mem _ (List.mem_append_left _ (List.mem_append_left _ (List.mem_of_getElem? (i := 8) rfl)))) (mem_cA (List.mem_cons_of_mem _ (List.mem_append_left _ (List.mem_append_left _ (List.mem_of_getElem? (i := 9) rfl)))) (mem_cA (List.mem_cons_of_mem _ (List.mem_append_left _ (List.mem_append_left _ (List.mem_of_getElem? (i := 10) rfl)))) mem_cZ))) (by decide +kernel)) ggJ0_charAt_5068e_J1_charAt_3b067
theorem dJ0_charAt_5068e_0 : decode cJ0_charAt_5068e 0 = .ok (.aload_n 0, 1) := by decide +kernel
theorem dJ0_charAt_5068e_1 : decode cJ0_charAt_5068e 1 = .ok (.invokevirtual 492, 3) := by decide +kernel
theorem dJ0_charAt_5068e_4 : decode cJ0_charAt_5068e 4 = .ok (.ifCond .eq 12, 3) := by decide +kernel
theorem dJ0_charAt_5068e_7 : decode cJ0_charAt_5068e 7 = .ok (.aload_n 0, 1) := by decide +kernel
theorem dJ0_charAt_5068e_8 : decode cJ0_charAt_5068e 8 = .ok (.getfield 9, 3) := by decide +kernel
theorem dJ0_charAt_5068e_11 : decode cJ0_charAt_5068e 11 = .ok (.iload_n 1, 1) := by decide +kernel
theorem dJ0_charAt_5068e_12 : decode cJ0_charAt_5068e 12 = .ok (.invokestatic 495, 3) := by decide +kernel
theorem dJ0_charAt_5068e_15 : decode cJ0_charAt_5068e 15 = .ok (.ireturn, 1) := by decide +kernel
theorem dJ0_coder_7d493_0 : decode cJ0_coder_7d493 0 = .ok (.getstatic 38, 3) := by decide +kernel
theorem dJ0_coder_7d493_3 : decode cJ0_coder_7d493 3 = .ok (.ifCond .eq 10, 3) := by decide +kernel
theorem dJ0_coder_7d493_6 : decode cJ0_coder_7d493 6 = .ok (.aload_n 0, 1) := by decide +kernel
theorem dJ0_coder_7d493_7 : decode cJ0_coder_7d493 7 = .ok (.getfield 15, 3) := by decide +kernel
theorem dJ0_coder_7d493_10 : decode cJ0_coder_7d493 10 = .ok (.goto 4, 3) := by decide +kernel
theorem dJ0_coder_7d493_14 : decode cJ0_coder_7d493 14 = .ok (.ireturn, 1) := by decide +kernel
theorem dJ0_isLatin1_aae02_0 : decode cJ0_isLatin1_aae02 0 = .ok (.getstatic 38, 3) := by decide +kernel
theorem dJ0_isLatin1_aae02_3 : decode cJ0_isLatin1_aae02 3 = .ok (.ifCond .eq 14, 3) := by decide +kernel
theorem dJ0_isLatin1_aae02_6 : decode cJ0_isLatin1_aae02 6 = .ok (.aload_n 0, 1) := by decide +kernel
theorem dJ0_isLatin1_aae02_7 : decode cJ0_isLatin1_aae02 7 = .ok (.getfield 15, 3) := by decide +kernel
theorem dJ0_isLatin1_aae02_10 : decode cJ0_isLatin1_aae02 10 = .ok (.ifCond .ne 7, 3) := by decide +kernel
theorem dJ0_isLatin1_aae02_13 : decode cJ0_isLatin1_aae02 13 = .ok (.iconst 1, 1) := by decide +kernel
theorem dJ0_isLatin1_aae02_14 : decode cJ0_isLatin1_aae02 14 = .ok (.goto 4, 3) := by decide +kernel
theorem dJ0_isLatin1_aae02_18 : decode cJ0_isLatin1_aae02 18 = .ok (.ireturn, 1) := by decide +kernel
set_option maxRecDepth 20000 in
theorem ggJ0_checkIndex_df160_J3_checkIndex_8e157 : GoodIn wsJ0_checkIndex_df160 wsJ3_checkIndex_8e157 := (goodIn_r _ [5] rfl (by decide +kernel))
set_option maxRecDepth 20000 in
theorem gJ0_checkIndex_df160_J3_checkIndex_8e157 : GoodIn wsJ0_checkIndex_df160 (va_wsS RJ0 1059 yJ3_checkIndex_8e157 wsJ3_checkIndex_8e157) := goodIn_app (goodIn_m (mem_cA (List.mem_cons_of_mem _ (List.mem_of_getElem? (i := 1) rfl)) (mem_cA (List.mem_cons_of_mem _ (List.mem_of_getElem? (i := 2) rfl)) (mem_cA (List.mem_cons_of_mem _ (List.mem_of_getElem? (i := 3) rfl)) mem_cZ))) (by decide +kernel)) ggJ0_checkIndex_df160_J3_checkIndex_8e157
theorem dJ0_checkIndex_df160_0 : decode cJ0_checkIndex_df160 0 = .ok (.iload_n 0, 1) := by decide +kernel
theorem dJ0_checkIndex_df160_1 : decode cJ0_checkIndex_df160 1 = .ok (.iload_n 1, 1) := by decide +kernel
theorem dJ0_checkIndex_df160_2 : decode cJ0_checkIndex_df160 2 = .ok (.getstatic 1053, 3) := by decide +kernel
theorem dJ0_checkIndex_df160_5 : decode cJ0_checkIndex_df160 5 = .ok (.invokestatic 1059, 3) := by decide +kernel
theorem dJ0_checkIndex_df160_8 : decode cJ0_checkIndex_df160 8 = .ok (.pop, 1) := by decide +kernel
theorem dJ0_checkIndex_df160_9 : decode cJ0_checkIndex_df160 9 = .ok (.return_, 1) := by decide +kernel
set_option maxRecDepth 20000 in
theorem ggJ1_charAt_3b067_J0_checkIndex_df160 : GoodIn wsJ1_charAt_3b067 wsJ0_checkIndex_df160 := (goodIn_r _ [4, 5, 6, 7, 8, 9] rfl (by decide +kernel))
set_option maxRecDepth 20000 in
theorem gJ1_charAt_3b067_J0_checkIndex_df160 : GoodIn wsJ1_charAt_3b067 (va_wsS RJ1 9 yJ0_checkIndex_df160 wsJ0_checkIndex_df160) := goodIn_app (goodIn_m (mem_cA (List.mem_cons_of_mem _ (List.mem_of_getElem? (i := 0) rfl)) (mem_cA (List.mem_cons_of_mem _ (List.mem_of_getElem? (i := 1) rfl)) (mem_cA (List.mem_cons_of_mem _ (List.mem_of_getElem? (i := 2) rfl)) mem_cZ))) (by decide +kernel)) ggJ1_charAt_3b067_J0_checkIndex_df160
theorem dJ1_charAt_3b067_0 : decode cJ1_charAt_3b067 0 = .ok (.iload_n 1, 1) := by decide +kernel
theorem dJ1_charAt_3b067_1 : decode cJ1_charAt_3b067 1 = .ok (.aload_n 0, 1) := by decide +kernel
theorem dJ1_charAt_3b067_2 : decode cJ1_charAt_3b067 2 = .ok (.arraylength, 1) := by decide +kernel
theorem dJ1_charAt_3b067_3 : decode cJ1_charAt_3b067 3 = .ok (.invokestatic 9, 3) := by decide +kernel
theorem dJ1_charAt_3b067_6 : decode cJ1_charAt_3b067 6 = .ok (.aload_n 0, 1) := by decide +kernel
theorem dJ1_charAt_3b067_7 : decode cJ1_charAt_3b067 7 = .ok (.iload_n 1, 1) := by decide +kernel
theorem dJ1_charAt_3b067_8 : decode cJ1_charAt_3b067 8 = .ok (.baload, 1) := by decide +kernel
theorem dJ1_charAt_3b067_9 : decode cJ1_charAt_3b067 9 = .ok (.sipush 255, 3) := by decide +kernel
theorem dJ1_charAt_3b067_12 : decode cJ1_charAt_3b067 12 = .ok (.iand, 1) := by decide +kernel
theorem dJ1_charAt_3b067_13 : decode cJ1_charAt_3b067 13 = .ok (.i2c, 1) := by decide +kernel
theorem dJ1_charAt_3b067_14 : decode cJ1_charAt_3b067 14 = .ok (.ireturn, 1) := by decide +kernel
theorem dJ3_checkIndex_8e157_0 : decode cJ3_checkIndex_8e157 0 = .ok (.iload_n 0, 1) := by decide +kernel
theorem dJ3_checkIndex_8e157_1 : decode cJ3_checkIndex_8e157 1 = .ok (.ifCond .lt 8, 3) := by decide +kernel
theorem dJ3_checkIndex_8e157_4 : decode cJ3_checkIndex_8e157 4 = .ok (.iload_n 0, 1) := by decide +kernel
theorem dJ3_checkIndex_8e157_5 : decode cJ3_checkIndex_8e157 5 = .ok (.iload_n 1, 1) := by decide +kernel
theorem dJ3_checkIndex_8e157_6 : decode cJ3_checkIndex_8e157 6 = .ok (.if_icmp .lt 10, 3) := by decide +kernel
theorem dJ3_checkIndex_8e157_16 : decode cJ3_checkIndex_8e157 16 = .ok (.iload_n 0, 1) := by decide +kernel
theorem dJ3_checkIndex_8e157_17 : decode cJ3_checkIndex_8e157 17 = .ok (.ireturn, 1) := by decide +kernel
section ZS
variable {p : Program} {l : Launch} {e : Env} {R : Room} {s : State} {m : MethodId} {args : Array Value} {below : List Frame} {meth : Method} {c : Code} {Q : State → Prop} {G : EnvG} {nL pc : Nat} {lv : List (Nat × Value)} {rest : List Value} {Φ : Hm} {sz cells slots : Nat}
variable {cc : ByteArray} {own : String} {ws : List Cond} {ret : Option FieldType} {nm : String}
/-- String constants: ldc, their fields, their bytes, calls on them -/
theorem z_ldcS (B : Bd p s m args meth c G cc nL own ws ret nm) {index q : Nat} {tx : String} (hZ : vk_R own index tx q s) (hdg : decode cc pc = .ok (.ldc index, 2)) (k : Z p l e R s m args below meth c Q G nL (pc + 2) lv (.ref q :: rest) Φ sz cells slots) : Z p l e R s m args below meth c Q G nL pc lv rest Φ sz cells slots := fun H locs ls hl hP hS => va_ldcS B.1.1 B.1.2.1 B.1.2.2.2.1 hZ hdg (k H locs ls hl hP hS)
theorem z_getS (B : Bd p s m args meth c G cc nL own ws ret nm) {index q : Nat} {n d ref : String} {v : Value} (hE : va_OF "java/lang/String" n d v q (fun q => G.2.2.2 ≤ q) s s.heap) (hlink : Cond.fieldLink own index ref n d ∈ ws) (hre : "java/lang/String" = ref) (hdg : decode cc pc = .ok (.getfield index, 3)) (kk : Z p l e R s m args below meth c Q G nL (pc + 3) lv (v :: rest) Φ sz cells slots) : Z p l e R s m args below meth c Q G nL pc lv (.ref q :: rest) Φ sz cells slots := fun H locs ls hl hP hS => vk_getf B.1.1 B.1.2.1 hE hS B.1.2.2.2.1 (B.1.2.2.2.2 _ hlink) (fun x hx => by rw [← hre]; exact hx) hdg (kk H locs ls hl hP hS)
theorem z_tlen (B : Bd p s m args meth c G cc nL own ws ret nm) {t N : Nat} {f : Nat → Value} {ty : FieldType} (hT : va_T ty t N f (fun q => G.2.2.2 ≤ q) s s.heap) {v : Int32} (hv : Int32.ofNat N = v) (hdg : decode cc pc = .ok (.arraylength, 1)) (kk : Z p l e R s m args below meth c Q G nL (pc + 1) lv (.int v :: rest) Φ sz cells slots) : Z p l e R s m args below meth c Q G nL pc lv (.ref t :: rest) Φ sz cells slots := fun H locs ls hl hP hS => va_tlen B.1.1 B.1.2.1 hT hS hv hdg (kk H locs ls hl hP hS)
theorem z_tb (B : Bd p s m args meth c G cc nL own ws ret nm) {t N : Nat} {f : Nat → Value} (hT : va_T .byte t N f (fun q => G.2.2.2 ≤ q) s s.heap) {i : Int32} (hin : vp_in i N) {v : Value} (hv : f i.toNatClampNeg = v) (hdg : decode cc pc = .ok (.baload, 1)) (kk : Z p l e R s m args below meth c Q G nL (pc + 1) lv (v :: rest) Φ sz cells slots) : Z p l e R s m args below meth c Q G nL pc lv (.int i :: .ref t :: rest) Φ sz cells slots := fun H locs ls hl hP hS => va_tb B.1.1 B.1.2.1 hT hS hin hv hdg (kk H locs ls hl hP hS)
theorem z_staq (B : Bd p s m args meth c G cc nL own ws ret nm) {C n d ref : String} {index : Nat} (hZ : va_Zq C n d (fun q => G.2.2.2 ≤ q) s s.heap) (hlink : Cond.fieldLink own index ref n d ∈ ws) (hre : C = ref) (hdg : decode cc pc = .ok (.getstatic index, 3)) (kk : ∀ w : Value, (w = .null ∨ ∃ t : Nat, w = .ref t) → Z p l e R s m args below meth c Q G nL (pc + 3) lv (w :: rest) Φ sz cells slots) : Z p l e R s m args below meth c Q G nL pc lv rest Φ sz cells slots := by
  rcases hZ with h | ⟨t, h⟩
  · exact z_sta B h hlink hre hdg (kk _ (Or.inl rfl))
  · exact z_sta B h hlink hre hdg (kk _ (Or.inr ⟨t, rfl⟩))
theorem z_callVS (B : Bd p s m args meth c G cc nL own ws ret nm) {y : MethodName} {bytes : ByteArray} {maxL mc ms n index : Nat} {ret1 : Option FieldType} {ws1 : List Cond} {rm : Room} {P : Option Value → Hm → Nat → Prop} {i : Nat} {As st : List Value} (hi : i < 2) (hM : Ct G l y ws1 rm mc ms (.ref (G.2.2.1 (6 + i)) :: As) Φ sz P) (cw : CallW R s args own "java/lang/String" index y bytes maxL ret1 ws1 rm mc ms n) (hn : As.length = n) (hst : st = As.reverse ++ .ref (G.2.2.1 (6 + i)) :: rest) (hcat : (rest.map fun v => v.category).sum ≤ 8) (hdg : decode cc pc = .ok (.invokevirtual index, 3)) (hf : cells + mc ≤ R.cells ∧ slots + ms ≤ R.slots)
    (kk : ∀ (v : Option Value) (Φ1 : Hm) (sz1 : Nat) (st1 : List Value), P v Φ1 sz1 → st1 = v.toList ++ rest → Z p l e R s m args below meth c Q G nL (pc + 3) lv st1 Φ1 sz1 (cells + mc) (slots + ms)) : Z p l e R s m args below meth c Q G nL pc lv st Φ sz cells slots :=
  z_run (fun H locs ls hl hP hS => va_runV B.1 hM cw ⟨PU.blind, vk_recv (adK := fun i => G.2.2.1 (6 + i)) B.2.2.2.2.2.1.2.2.1.2.1 hi hS, fun U hU hW => ⟨rfl, z_PU B hP hS U hU hW⟩⟩ rfl hn hl.1 hst (lv_room hcat) hdg hf) kk
theorem z_ret_t {P : Option Value → Hm → Nat → Prop} {v : Int32} {ty : FieldType} (B : Bd p s m args meth c G cc nL own ws (some ty) nm) (hdg : decode cc pc = .ok (.ireturn, 1)) (hv : narrow ty (.int v) = .int v) (hp : P (some (.int v)) Φ sz) : Z p l e R s m args below meth c (MQ below (QU G P) args s cells slots (fun q => G.2.2.2 ≤ q)) G nL pc lv [.int v] Φ sz cells slots := fun H locs ls hl hP hS =>
  W.zret B.1.1 B.1.2.1 B.2.1 hv (fun t ht hW => ⟨⟨_, Φ, sz, rfl, hp, by rw [ht]; exact hP⟩, hS.F ht⟩) hS.2.2 hdg B.2.2.1
end ZS
theorem lenS_le (i : Nat) : lenS.getD i 0 ≤ 100 := by
  match i with
  | 0 => decide
  | 1 => decide
  | n + 2 => exact Nat.zero_le _
theorem lenS_shr : ∀ i, i < 2 → (nI (lenS.getD i 0)) >>> ((0 : Int32) &&& 31) = nI (lenS.getD i 0) := by decide +kernel
theorem bytS_c : ∀ i, i < 2 → ∀ k, k < lenS.getD i 0 → ((((bytS.getD i []).getD k 0) &&& 255).toUInt32 % 65536).toInt32 = (bytS.getD i []).getD k 0 := by decide +kernel
theorem bytS_n : ∀ i, i < 2 → ∀ k, k < lenS.getD i 0 → narrow .char (.int ((bytS.getD i []).getD k 0)) = .int ((bytS.getD i []).getD k 0) := by decide +kernel
theorem c_J0_coder (G : EnvG) (l : Launch) (Φ : Hm) (sz i : Nat) (hi : i < 2) (P : Option Value → Hm → Nat → Prop) (hP : P (some (.int 0)) Φ sz) : Ct G l yJ0_coder_7d493 wsJ0_coder_7d493 ({ frames := 0, cells := 0, slots := 0, locals := 0 }) 0 0 [.ref (G.2.2.1 (6 + i))] Φ sz P := by
  refine Ct.of (cc := cJ0_coder_7d493) (maxL := 1) (ret := (some .byte)) (by decide) rfl (Nat.le_of_ble_eq_true rfl) ?_
  intro p9 e9 s9 m9 w9 t9 k9 B
  show Z p9 l e9 _ s9 m9 _ w9 t9 k9 _ G 1 0 [(0, .ref (G.2.2.1 (6 + i)))] [] Φ sz 0 0
  refine z_sta B B.2.2.2.2.2.1.2.2.1.2.2.1 (by decide +kernel) rfl dJ0_coder_7d493_0 ?_
  refine z_if_eq (tgt := 13) B dJ0_coder_7d493_3 rfl (fun h => absurd h (by decide)) (fun _ => ?_)
  refine z_aload_n B dJ0_coder_7d493_6 rfl 0 rfl ?_
  refine z_getS B (B.2.2.2.2.2.1.2.2.1.2.1.1 i hi).2.1 (by decide +kernel) rfl dJ0_coder_7d493_7 ?_
  refine z_goto (tgt := 14) B dJ0_coder_7d493_10 rfl ?_
  exact z_ret_t B dJ0_coder_7d493_14 (by decide) hP
theorem c_J0_isLatin1 (G : EnvG) (l : Launch) (Φ : Hm) (sz i : Nat) (hi : i < 2) (P : Option Value → Hm → Nat → Prop) (hP : P (some (.int 1)) Φ sz) : Ct G l yJ0_isLatin1_aae02 wsJ0_isLatin1_aae02 ({ frames := 0, cells := 0, slots := 0, locals := 0 }) 0 0 [.ref (G.2.2.1 (6 + i))] Φ sz P := by
  refine Ct.of (cc := cJ0_isLatin1_aae02) (maxL := 1) (ret := (some .boolean)) (by decide) rfl (Nat.le_of_ble_eq_true rfl) ?_
  intro p9 e9 s9 m9 w9 t9 k9 B
  show Z p9 l e9 _ s9 m9 _ w9 t9 k9 _ G 1 0 [(0, .ref (G.2.2.1 (6 + i)))] [] Φ sz 0 0
  refine z_sta B B.2.2.2.2.2.1.2.2.1.2.2.1 (by decide +kernel) rfl dJ0_isLatin1_aae02_0 ?_
  refine z_if_eq (tgt := 17) B dJ0_isLatin1_aae02_3 rfl (fun h => absurd h (by decide)) (fun _ => ?_)
  refine z_aload_n B dJ0_isLatin1_aae02_6 rfl 0 rfl ?_
  refine z_getS B (B.2.2.2.2.2.1.2.2.1.2.1.1 i hi).2.1 (by decide +kernel) rfl dJ0_isLatin1_aae02_7 ?_
  refine z_if_ne (tgt := 17) B dJ0_isLatin1_aae02_10 rfl (fun h => absurd rfl h) (fun _ => ?_)
  refine z_iconst (v := 1) B dJ0_isLatin1_aae02_13 rfl ?_
  refine z_goto (tgt := 18) B dJ0_isLatin1_aae02_14 rfl ?_
  exact z_ret_t B dJ0_isLatin1_aae02_18 (by decide) hP
theorem c_J0_length (G : EnvG) (l : Launch) (Φ : Hm) (sz i : Nat) (hi : i < 2) (P : Option Value → Hm → Nat → Prop) (hP : P (some (.int (nI (lenS.getD i 0)))) Φ sz) : Ct G l yJ0_length_8abf5 wsJ0_length_8abf5 ({ frames := 1, cells := 0, slots := 0, locals := 20 }) 0 0 [.ref (G.2.2.1 (6 + i))] Φ sz P := by
  refine Ct.of (cc := cJ0_length_8abf5) (maxL := 1) (ret := (some .int)) (by decide) rfl (Nat.le_of_ble_eq_true rfl) ?_
  intro p9 e9 s9 m9 w9 t9 k9 B
  show Z p9 l e9 _ s9 m9 _ w9 t9 k9 _ G 1 0 [(0, .ref (G.2.2.1 (6 + i)))] [] Φ sz 0 0
  refine z_aload_n B dJ0_length_8abf5_0 rfl 0 rfl ?_
  refine z_getS B (B.2.2.2.2.2.1.2.2.1.2.1.1 i hi).2.2.1 (by decide +kernel) rfl dJ0_length_8abf5_1 ?_
  refine z_tlen (v := nI (lenS.getD i 0)) B (B.2.2.2.2.2.1.2.2.1.2.1.1 i hi).2.2.2 rfl dJ0_length_8abf5_4 ?_
  refine z_aload_n B dJ0_length_8abf5_5 rfl 0 rfl ?_
  refine z_callVS (As := []) (rest := [.int (nI (lenS.getD i 0))]) B hi (c_J0_coder G l Φ sz i hi (fun v Φ1 sz1 => v = some (.int 0) ∧ Φ1 = Φ ∧ sz1 = sz) ⟨rfl, rfl, rfl⟩) (cwV 0 B.1.2.2.2.2 gJ0_length_8abf5_J0_coder_7d493 rfl rfl rfl (by decide +kernel) ⟨Nat.le_of_ble_eq_true rfl, Nat.le_of_ble_eq_true rfl⟩) rfl rfl (Nat.le_of_ble_eq_true rfl) dJ0_length_8abf5_6 ⟨Nat.le_of_ble_eq_true rfl, Nat.le_of_ble_eq_true rfl⟩ (fun v1 Φ1 sz1 st1 hp1 hs1 => ?_)
  obtain ⟨h1, h2, h3⟩ := hp1
  subst h1
  subst h2
  subst h3
  subst hs1
  refine z_ishr B dJ0_length_8abf5_9 ?_
  rw [lenS_shr i hi]
  exact z_ret_i B dJ0_length_8abf5_10 hP
theorem c_J3_checkIndex (G : EnvG) (l : Launch) (Φ : Hm) (sz k n : Nat) (w : Value) (hw : w = .null ∨ ∃ t : Nat, w = .ref t) (hk : k < n) (hn : n ≤ 100) (P : Option Value → Hm → Nat → Prop) (hP : P (some (.int (nI k))) Φ sz) : Ct G l yJ3_checkIndex_8e157 wsJ3_checkIndex_8e157 ({ frames := 0, cells := 0, slots := 0, locals := 0 }) 0 0 [.int (nI k), .int (nI n), w] Φ sz P := by
  have e1 : ¬ nI k < 0 := nI_pos (by omega)
  have e2 : nI k < nI n := (nI_ltI (a := k) (b := n) (by omega) (by omega)).mpr hk
  rcases hw with rfl | ⟨t, rfl⟩
  · refine Ct.of (cc := cJ3_checkIndex_8e157) (maxL := 3) (ret := (some .int)) (by decide) rfl (Nat.le_of_ble_eq_true rfl) ?_
    intro p9 e9 s9 m9 w9 t9 k9 B
    show Z p9 l e9 _ s9 m9 _ w9 t9 k9 _ G 3 0 [(0, .int (nI k)), (1, .int (nI n)), (2, .null)] [] Φ sz 0 0
    refine z_iload_n B dJ3_checkIndex_8e157_0 rfl 0 rfl ?_
    refine z_if_lt (tgt := 9) B dJ3_checkIndex_8e157_1 rfl (fun h => absurd h e1) (fun _ => ?_)
    refine z_iload_n B dJ3_checkIndex_8e157_4 rfl 0 rfl ?_
    refine z_iload_n B dJ3_checkIndex_8e157_5 rfl 1 rfl ?_
    refine z_icmp_lt (tgt := 16) B dJ3_checkIndex_8e157_6 rfl (fun _ => ?_) (fun h => absurd e2 h)
    refine z_iload_n B dJ3_checkIndex_8e157_16 rfl 0 rfl ?_
    exact z_ret_i B dJ3_checkIndex_8e157_17 hP
  · refine Ct.of (cc := cJ3_checkIndex_8e157) (maxL := 3) (ret := (some .int)) (by decide) rfl (Nat.le_of_ble_eq_true rfl) ?_
    intro p9 e9 s9 m9 w9 t9 k9 B
    show Z p9 l e9 _ s9 m9 _ w9 t9 k9 _ G 3 0 [(0, .int (nI k)), (1, .int (nI n)), (2, .ref t)] [] Φ sz 0 0
    refine z_iload_n B dJ3_checkIndex_8e157_0 rfl 0 rfl ?_
    refine z_if_lt (tgt := 9) B dJ3_checkIndex_8e157_1 rfl (fun h => absurd h e1) (fun _ => ?_)
    refine z_iload_n B dJ3_checkIndex_8e157_4 rfl 0 rfl ?_
    refine z_iload_n B dJ3_checkIndex_8e157_5 rfl 1 rfl ?_
    refine z_icmp_lt (tgt := 16) B dJ3_checkIndex_8e157_6 rfl (fun _ => ?_) (fun h => absurd e2 h)
    refine z_iload_n B dJ3_checkIndex_8e157_16 rfl 0 rfl ?_
    exact z_ret_i B dJ3_checkIndex_8e157_17 hP
theorem c_J0_checkIndex (G : EnvG) (l : Launch) (Φ : Hm) (sz k n : Nat) (hk : k < n) (hn : n ≤ 100) (P : Option Value → Hm → Nat → Prop) (hP : P none Φ sz) : Ct G l yJ0_checkIndex_df160 wsJ0_checkIndex_df160 ({ frames := 1, cells := 0, slots := 0, locals := 22 }) 0 0 [.int (nI k), .int (nI n)] Φ sz P := by
  refine Ct.of (cc := cJ0_checkIndex_df160) (maxL := 2) (ret := none) (by decide) rfl (Nat.le_of_ble_eq_true rfl) ?_
  intro p9 e9 s9 m9 w9 t9 k9 B
  show Z p9 l e9 _ s9 m9 _ w9 t9 k9 _ G 2 0 [(0, .int (nI k)), (1, .int (nI n))] [] Φ sz 0 0
  refine z_iload_n B dJ0_checkIndex_df160_0 rfl 0 rfl ?_
  refine z_iload_n B dJ0_checkIndex_df160_1 rfl 1 rfl ?_
  refine z_staq B B.2.2.2.2.2.1.2.2.1.2.2.2 (by decide +kernel) rfl dJ0_checkIndex_df160_2 (fun w hw => ?_)
  refine z_callS (As := [.int (nI k), .int (nI n), w]) (rest := []) B (c_J3_checkIndex G l Φ sz k n w hw hk hn (fun v Φ1 sz1 => v = some (.int (nI k)) ∧ Φ1 = Φ ∧ sz1 = sz) ⟨rfl, rfl, rfl⟩) (va_cwS 3 B.1.2.2.2.2 gJ0_checkIndex_df160_J3_checkIndex_8e157 rfl rfl rfl (by decide +kernel) ⟨Nat.le_of_ble_eq_true rfl, Nat.le_of_ble_eq_true rfl⟩) rfl rfl (Nat.le_of_ble_eq_true rfl) dJ0_checkIndex_df160_5 ⟨Nat.le_of_ble_eq_true rfl, Nat.le_of_ble_eq_true rfl⟩ (fun v1 Φ1 sz1 st1 hp1 hs1 => ?_)
  obtain ⟨h1, h2, h3⟩ := hp1
  subst h1
  subst h2
  subst h3
  subst hs1
  refine z_pop B dJ0_checkIndex_df160_8 rfl ?_
  exact z_ret_v B dJ0_checkIndex_df160_9 hP
theorem c_J1_charAt (G : EnvG) (l : Launch) (Φ : Hm) (sz i k : Nat) (hi : i < 2) (hk : k < lenS.getD i 0) (P : Option Value → Hm → Nat → Prop) (hP : P (some (.int ((bytS.getD i []).getD k 0))) Φ sz) : Ct G l yJ1_charAt_3b067 wsJ1_charAt_3b067 ({ frames := 2, cells := 0, slots := 0, locals := 43 }) 0 0 [.ref (G.2.2.1 (8 + i)), .int (nI k)] Φ sz P := by
  have hl := lenS_le i
  have hc := bytS_c i hi k hk
  have hkc : (nI k).toNatClampNeg = k := nI_clamp (by omega)
  refine Ct.of (cc := cJ1_charAt_3b067) (maxL := 2) (ret := (some .char)) (by decide) rfl (Nat.le_of_ble_eq_true rfl) ?_
  intro p9 e9 s9 m9 w9 t9 k9 B
  show Z p9 l e9 _ s9 m9 _ w9 t9 k9 _ G 2 0 [(0, .ref (G.2.2.1 (8 + i))), (1, .int (nI k))] [] Φ sz 0 0
  refine z_iload_n B dJ1_charAt_3b067_0 rfl 1 rfl ?_
  refine z_aload_n B dJ1_charAt_3b067_1 rfl 0 rfl ?_
  refine z_tlen (v := nI (lenS.getD i 0)) B (B.2.2.2.2.2.1.2.2.1.2.1.1 i hi).2.2.2 rfl dJ1_charAt_3b067_2 ?_
  refine z_callS (As := [.int (nI k), .int (nI (lenS.getD i 0))]) (rest := []) B (c_J0_checkIndex G l Φ sz k (lenS.getD i 0) hk hl (fun v Φ1 sz1 => v = none ∧ Φ1 = Φ ∧ sz1 = sz) ⟨rfl, rfl, rfl⟩) (va_cwS 2 B.1.2.2.2.2 gJ1_charAt_3b067_J0_checkIndex_df160 rfl rfl rfl (by decide +kernel) ⟨Nat.le_of_ble_eq_true rfl, Nat.le_of_ble_eq_true rfl⟩) rfl rfl (Nat.le_of_ble_eq_true rfl) dJ1_charAt_3b067_3 ⟨Nat.le_of_ble_eq_true rfl, Nat.le_of_ble_eq_true rfl⟩ (fun v1 Φ1 sz1 st1 hp1 hs1 => ?_)
  obtain ⟨h1, h2, h3⟩ := hp1
  subst h1
  subst h2
  subst h3
  subst hs1
  refine z_aload_n B dJ1_charAt_3b067_6 rfl 0 rfl ?_
  refine z_iload_n B dJ1_charAt_3b067_7 rfl 1 rfl ?_
  refine z_tb (v := .int ((bytS.getD i []).getD k 0)) B (B.2.2.2.2.2.1.2.2.1.2.1.1 i hi).2.2.2 (vp_in_nI (by omega) (by omega)) (congrArg (fun j => Value.int ((bytS.getD i []).getD j 0)) hkc) dJ1_charAt_3b067_8 ?_
  refine z_sipush (v := 255) B dJ1_charAt_3b067_9 rfl ?_
  refine z_iand B dJ1_charAt_3b067_12 ?_
  refine z_i2c (v := (bytS.getD i []).getD k 0) B dJ1_charAt_3b067_13 hc ?_
  exact z_ret_t B dJ1_charAt_3b067_14 (bytS_n i hi k hk) hP
theorem c_J0_charAt (G : EnvG) (l : Launch) (Φ : Hm) (sz i k : Nat) (hi : i < 2) (hk : k < lenS.getD i 0) (P : Option Value → Hm → Nat → Prop) (hP : P (some (.int ((bytS.getD i []).getD k 0))) Φ sz) : Ct G l yJ0_charAt_5068e wsJ0_charAt_5068e ({ frames := 3, cells := 0, slots := 0, locals := 64 }) 0 0 [.ref (G.2.2.1 (6 + i)), .int (nI k)] Φ sz P := by
  refine Ct.of (cc := cJ0_charAt_5068e) (maxL := 2) (ret := (some .char)) (by decide) rfl (Nat.le_of_ble_eq_true rfl) ?_
  intro p9 e9 s9 m9 w9 t9 k9 B
  show Z p9 l e9 _ s9 m9 _ w9 t9 k9 _ G 2 0 [(0, .ref (G.2.2.1 (6 + i))), (1, .int (nI k))] [] Φ sz 0 0
  refine z_aload_n B dJ0_charAt_5068e_0 rfl 0 rfl ?_
  refine z_callVS (As := []) (rest := []) B hi (c_J0_isLatin1 G l Φ sz i hi (fun v Φ1 sz1 => v = some (.int 1) ∧ Φ1 = Φ ∧ sz1 = sz) ⟨rfl, rfl, rfl⟩) (cwV 0 B.1.2.2.2.2 gJ0_charAt_5068e_J0_isLatin1_aae02 rfl rfl rfl (by decide +kernel) ⟨Nat.le_of_ble_eq_true rfl, Nat.le_of_ble_eq_true rfl⟩) rfl rfl (Nat.le_of_ble_eq_true rfl) dJ0_charAt_5068e_1 ⟨Nat.le_of_ble_eq_true rfl, Nat.le_of_ble_eq_true rfl⟩ (fun v1 Φ1 sz1 st1 hp1 hs1 => ?_)
  obtain ⟨h1, h2, h3⟩ := hp1
  subst h1
  subst h2
  subst h3
  subst hs1
  refine z_if_eq (tgt := 16) B dJ0_charAt_5068e_4 rfl (fun h => absurd h (by decide)) (fun _ => ?_)
  refine z_aload_n B dJ0_charAt_5068e_7 rfl 0 rfl ?_
  refine z_getS B (B.2.2.2.2.2.1.2.2.1.2.1.1 i hi).2.2.1 (by decide +kernel) rfl dJ0_charAt_5068e_8 ?_
  refine z_iload_n B dJ0_charAt_5068e_11 rfl 1 rfl ?_
  refine z_callS (As := [.ref (G.2.2.1 (8 + i)), .int (nI k)]) (rest := []) B (c_J1_charAt G l _ _ i k hi hk (fun v Φ2 sz2 => v = some (.int ((bytS.getD i []).getD k 0)) ∧ P v Φ2 sz2) ⟨rfl, hP⟩) (va_cwS 2 B.1.2.2.2.2 gJ0_charAt_5068e_J1_charAt_3b067 rfl rfl rfl (by decide +kernel) ⟨Nat.le_of_ble_eq_true rfl, Nat.le_of_ble_eq_true rfl⟩) rfl rfl (Nat.le_of_ble_eq_true rfl) dJ0_charAt_5068e_12 ⟨Nat.le_of_ble_eq_true rfl, Nat.le_of_ble_eq_true rfl⟩ (fun v2 Φ2 sz2 st2 hp2 hs2 => ?_)
  obtain ⟨h1, h2⟩ := hp2
  subst h1
  subst hs2
  exact z_ret_t B dJ0_charAt_5068e_15 (bytS_n i hi k hk) h2
theorem leT_nn (k : Nat) : 0 ≤ leT k := by
  unfold leT
  by_cases h : k < 9
  · have hh : ∀ j, j < 9 → (0 : Int32) ≤ ([1, 1, 1, 1, 1, 1, 1, 256, 1] : List Int32).getD j 0 := by decide
    exact hh k h
  · rw [List.getD_eq_getElem?_getD, List.getElem?_eq_none (show ([1, 1, 1, 1, 1, 1, 1, 256, 1] : List Int32).length ≤ k from Nat.not_lt.mp h)]
    decide
theorem not_lt_of_le0 {a b : Int32} (h : 0 ≤ a) (hb : ¬ b < a) : ¬ b < 0 := by
  rw [Int32.lt_iff_toInt_lt] at hb ⊢
  rw [Int32.le_iff_toInt_le] at h
  omega

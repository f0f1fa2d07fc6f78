theorem dX12_account_0 : decode cX12_account 0 = .ok (.aload_n 0, 1) := by decide +kernel
theorem dX12_account_1 : decode cX12_account 1 = .ok (.getfield 331, 3) := by decide +kernel
theorem dX12_account_4 : decode cX12_account 4 = .ok (.ldc2_w 329, 3) := by decide +kernel
theorem dX12_account_7 : decode cX12_account 7 = .ok (.lcmp, 1) := by decide +kernel
theorem dX12_account_8 : decode cX12_account 8 = .ok (.ifCond .ne 7, 3) := by decide +kernel
theorem dX12_account_11 : decode cX12_account 11 = .ok (.iconst 0, 1) := by decide +kernel
theorem dX12_account_12 : decode cX12_account 12 = .ok (.goto 10, 3) := by decide +kernel
theorem dX12_account_15 : decode cX12_account 15 = .ok (.lload_n 1, 1) := by decide +kernel
theorem dX12_account_16 : decode cX12_account 16 = .ok (.aload_n 0, 1) := by decide +kernel
theorem dX12_account_17 : decode cX12_account 17 = .ok (.getfield 331, 3) := by decide +kernel
theorem dX12_account_20 : decode cX12_account 20 = .ok (.lsub, 1) := by decide +kernel
theorem dX12_account_21 : decode cX12_account 21 = .ok (.l2i, 1) := by decide +kernel
theorem dX12_account_22 : decode cX12_account 22 = .ok (.istore 7, 2) := by decide +kernel
theorem dX12_account_24 : decode cX12_account 24 = .ok (.iload 7, 2) := by decide +kernel
theorem dX12_account_26 : decode cX12_account 26 = .ok (.ifCond .ge 25, 3) := by decide +kernel
theorem dX12_account_29 : decode cX12_account 29 = .ok (.lload_n 1, 1) := by decide +kernel
theorem dX12_account_30 : decode cX12_account 30 = .ok (.lconst 0, 1) := by decide +kernel
theorem dX12_account_31 : decode cX12_account 31 = .ok (.lcmp, 1) := by decide +kernel
theorem dX12_account_32 : decode cX12_account 32 = .ok (.ifCond .ne 19, 3) := by decide +kernel
theorem dX12_account_35 : decode cX12_account 35 = .ok (.lload_n 3, 1) := by decide +kernel
theorem dX12_account_36 : decode cX12_account 36 = .ok (.l2i, 1) := by decide +kernel
theorem dX12_account_37 : decode cX12_account 37 = .ok (.aload_n 0, 1) := by decide +kernel
theorem dX12_account_38 : decode cX12_account 38 = .ok (.getfield 60, 3) := by decide +kernel
theorem dX12_account_41 : decode cX12_account 41 = .ok (.iconst 0, 1) := by decide +kernel
theorem dX12_account_42 : decode cX12_account 42 = .ok (.laload, 1) := by decide +kernel
theorem dX12_account_43 : decode cX12_account 43 = .ok (.l2i, 1) := by decide +kernel
theorem dX12_account_44 : decode cX12_account 44 = .ok (.if_icmp .le 7, 3) := by decide +kernel
theorem dX12_account_47 : decode cX12_account 47 = .ok (.iconst 1, 1) := by decide +kernel
theorem dX12_account_48 : decode cX12_account 48 = .ok (.goto 4, 3) := by decide +kernel
theorem dX12_account_51 : decode cX12_account 51 = .ok (.iconst 0, 1) := by decide +kernel
theorem dX12_account_52 : decode cX12_account 52 = .ok (.istore 8, 2) := by decide +kernel
theorem dX12_account_54 : decode cX12_account 54 = .ok (.iload 7, 2) := by decide +kernel
theorem dX12_account_56 : decode cX12_account 56 = .ok (.ifCond .le 15, 3) := by decide +kernel
theorem dX12_account_59 : decode cX12_account 59 = .ok (.aload_n 0, 1) := by decide +kernel
theorem dX12_account_60 : decode cX12_account 60 = .ok (.getfield 45, 3) := by decide +kernel
theorem dX12_account_63 : decode cX12_account 63 = .ok (.iconst 0, 1) := by decide +kernel
theorem dX12_account_64 : decode cX12_account 64 = .ok (.dup2, 1) := by decide +kernel
theorem dX12_account_65 : decode cX12_account 65 = .ok (.laload, 1) := by decide +kernel
theorem dX12_account_66 : decode cX12_account 66 = .ok (.iload 7, 2) := by decide +kernel
theorem dX12_account_68 : decode cX12_account 68 = .ok (.i2l, 1) := by decide +kernel
theorem dX12_account_69 : decode cX12_account 69 = .ok (.ladd, 1) := by decide +kernel
theorem dX12_account_70 : decode cX12_account 70 = .ok (.lastore, 1) := by decide +kernel
theorem dX12_account_71 : decode cX12_account 71 = .ok (.iload 8, 2) := by decide +kernel
theorem dX12_account_73 : decode cX12_account 73 = .ok (.ifCond .eq 13, 3) := by decide +kernel
theorem dX12_account_76 : decode cX12_account 76 = .ok (.aload_n 0, 1) := by decide +kernel
theorem dX12_account_77 : decode cX12_account 77 = .ok (.getfield 45, 3) := by decide +kernel
theorem dX12_account_80 : decode cX12_account 80 = .ok (.iconst 5, 1) := by decide +kernel
theorem dX12_account_81 : decode cX12_account 81 = .ok (.dup2, 1) := by decide +kernel
theorem dX12_account_82 : decode cX12_account 82 = .ok (.laload, 1) := by decide +kernel
theorem dX12_account_83 : decode cX12_account 83 = .ok (.lconst 1, 1) := by decide +kernel
theorem dX12_account_84 : decode cX12_account 84 = .ok (.ladd, 1) := by decide +kernel
theorem dX12_account_85 : decode cX12_account 85 = .ok (.lastore, 1) := by decide +kernel
theorem dX12_account_86 : decode cX12_account 86 = .ok (.iload 7, 2) := by decide +kernel
theorem dX12_account_88 : decode cX12_account 88 = .ok (.ifCond .ge 52, 3) := by decide +kernel
theorem dX12_account_91 : decode cX12_account 91 = .ok (.iload 8, 2) := by decide +kernel
theorem dX12_account_93 : decode cX12_account 93 = .ok (.ifCond .ne 47, 3) := by decide +kernel
theorem dX12_account_96 : decode cX12_account 96 = .ok (.aload_n 0, 1) := by decide +kernel
theorem dX12_account_97 : decode cX12_account 97 = .ok (.getfield 45, 3) := by decide +kernel
theorem dX12_account_100 : decode cX12_account 100 = .ok (.iconst 1, 1) := by decide +kernel
theorem dX12_account_101 : decode cX12_account 101 = .ok (.dup2, 1) := by decide +kernel
theorem dX12_account_102 : decode cX12_account 102 = .ok (.laload, 1) := by decide +kernel
theorem dX12_account_103 : decode cX12_account 103 = .ok (.lconst 1, 1) := by decide +kernel
theorem dX12_account_104 : decode cX12_account 104 = .ok (.ladd, 1) := by decide +kernel
theorem dX12_account_105 : decode cX12_account 105 = .ok (.lastore, 1) := by decide +kernel
theorem dX12_account_106 : decode cX12_account 106 = .ok (.aload_n 0, 1) := by decide +kernel
theorem dX12_account_107 : decode cX12_account 107 = .ok (.getfield 45, 3) := by decide +kernel
theorem dX12_account_110 : decode cX12_account 110 = .ok (.iconst 0, 1) := by decide +kernel
theorem dX12_account_111 : decode cX12_account 111 = .ok (.aload_n 0, 1) := by decide +kernel
theorem dX12_account_112 : decode cX12_account 112 = .ok (.getfield 45, 3) := by decide +kernel
theorem dX12_account_115 : decode cX12_account 115 = .ok (.iconst 0, 1) := by decide +kernel
theorem dX12_account_116 : decode cX12_account 116 = .ok (.laload, 1) := by decide +kernel
theorem dX12_account_117 : decode cX12_account 117 = .ok (.lload 5, 2) := by decide +kernel
theorem dX12_account_119 : decode cX12_account 119 = .ok (.lcmp, 1) := by decide +kernel
theorem dX12_account_120 : decode cX12_account 120 = .ok (.ifCond .le 15, 3) := by decide +kernel
theorem dX12_account_123 : decode cX12_account 123 = .ok (.aload_n 0, 1) := by decide +kernel
theorem dX12_account_124 : decode cX12_account 124 = .ok (.getfield 45, 3) := by decide +kernel
theorem dX12_account_127 : decode cX12_account 127 = .ok (.iconst 0, 1) := by decide +kernel
theorem dX12_account_128 : decode cX12_account 128 = .ok (.laload, 1) := by decide +kernel
theorem dX12_account_129 : decode cX12_account 129 = .ok (.lload 5, 2) := by decide +kernel
theorem dX12_account_131 : decode cX12_account 131 = .ok (.lsub, 1) := by decide +kernel
theorem dX12_account_132 : decode cX12_account 132 = .ok (.goto 4, 3) := by decide +kernel
theorem dX12_account_135 : decode cX12_account 135 = .ok (.lconst 0, 1) := by decide +kernel
theorem dX12_account_136 : decode cX12_account 136 = .ok (.lastore, 1) := by decide +kernel
theorem dX12_account_137 : decode cX12_account 137 = .ok (.goto 15, 3) := by decide +kernel
theorem dX12_account_140 : decode cX12_account 140 = .ok (.aload_n 0, 1) := by decide +kernel
theorem dX12_account_141 : decode cX12_account 141 = .ok (.lload_n 1, 1) := by decide +kernel
theorem dX12_account_142 : decode cX12_account 142 = .ok (.lload 5, 2) := by decide +kernel
theorem dX12_account_144 : decode cX12_account 144 = .ok (.ladd, 1) := by decide +kernel
theorem dX12_account_145 : decode cX12_account 145 = .ok (.ldc2_w 306, 3) := by decide +kernel
theorem dX12_account_148 : decode cX12_account 148 = .ok (.land, 1) := by decide +kernel
theorem dX12_account_149 : decode cX12_account 149 = .ok (.putfield 331, 3) := by decide +kernel
theorem dX12_account_152 : decode cX12_account 152 = .ok (.aload_n 0, 1) := by decide +kernel
theorem dX12_account_153 : decode cX12_account 153 = .ok (.aload_n 0, 1) := by decide +kernel
theorem dX12_account_154 : decode cX12_account 154 = .ok (.getfield 326, 3) := by decide +kernel
theorem dX12_account_157 : decode cX12_account 157 = .ok (.bipush 8, 2) := by decide +kernel
theorem dX12_account_159 : decode cX12_account 159 = .ok (.if_icmp .ge 12, 3) := by decide +kernel
theorem dX12_account_162 : decode cX12_account 162 = .ok (.aload_n 0, 1) := by decide +kernel
theorem dX12_account_163 : decode cX12_account 163 = .ok (.getfield 326, 3) := by decide +kernel
theorem dX12_account_166 : decode cX12_account 166 = .ok (.iconst 1, 1) := by decide +kernel
theorem dX12_account_167 : decode cX12_account 167 = .ok (.iadd, 1) := by decide +kernel
theorem dX12_account_168 : decode cX12_account 168 = .ok (.goto 5, 3) := by decide +kernel
theorem dX12_account_171 : decode cX12_account 171 = .ok (.bipush 8, 2) := by decide +kernel
theorem dX12_account_173 : decode cX12_account 173 = .ok (.putfield 326, 3) := by decide +kernel
theorem dX12_account_176 : decode cX12_account 176 = .ok (.aload_n 0, 1) := by decide +kernel
theorem dX12_account_177 : decode cX12_account 177 = .ok (.getfield 326, 3) := by decide +kernel
theorem dX12_account_180 : decode cX12_account 180 = .ok (.iconst 1, 1) := by decide +kernel
theorem dX12_account_181 : decode cX12_account 181 = .ok (.isub, 1) := by decide +kernel
theorem dX12_account_182 : decode cX12_account 182 = .ok (.istore 9, 2) := by decide +kernel
theorem dX12_account_184 : decode cX12_account 184 = .ok (.iload 9, 2) := by decide +kernel
theorem dX12_account_186 : decode cX12_account 186 = .ok (.ifCond .le 41, 3) := by decide +kernel
theorem dX12_account_189 : decode cX12_account 189 = .ok (.aload_n 0, 1) := by decide +kernel
theorem dX12_account_190 : decode cX12_account 190 = .ok (.getfield 57, 3) := by decide +kernel
theorem dX12_account_193 : decode cX12_account 193 = .ok (.iload 9, 2) := by decide +kernel
theorem dX12_account_195 : decode cX12_account 195 = .ok (.aload_n 0, 1) := by decide +kernel
theorem dX12_account_196 : decode cX12_account 196 = .ok (.getfield 57, 3) := by decide +kernel
theorem dX12_account_199 : decode cX12_account 199 = .ok (.iload 9, 2) := by decide +kernel
theorem dX12_account_201 : decode cX12_account 201 = .ok (.iconst 1, 1) := by decide +kernel
theorem dX12_account_202 : decode cX12_account 202 = .ok (.isub, 1) := by decide +kernel
theorem dX12_account_203 : decode cX12_account 203 = .ok (.laload, 1) := by decide +kernel
theorem dX12_account_204 : decode cX12_account 204 = .ok (.lastore, 1) := by decide +kernel
theorem dX12_account_205 : decode cX12_account 205 = .ok (.aload_n 0, 1) := by decide +kernel
theorem dX12_account_206 : decode cX12_account 206 = .ok (.getfield 60, 3) := by decide +kernel
theorem dX12_account_209 : decode cX12_account 209 = .ok (.iload 9, 2) := by decide +kernel
theorem dX12_account_211 : decode cX12_account 211 = .ok (.aload_n 0, 1) := by decide +kernel
theorem dX12_account_212 : decode cX12_account 212 = .ok (.getfield 60, 3) := by decide +kernel
theorem dX12_account_215 : decode cX12_account 215 = .ok (.iload 9, 2) := by decide +kernel
theorem dX12_account_217 : decode cX12_account 217 = .ok (.iconst 1, 1) := by decide +kernel
theorem dX12_account_218 : decode cX12_account 218 = .ok (.isub, 1) := by decide +kernel
theorem dX12_account_219 : decode cX12_account 219 = .ok (.laload, 1) := by decide +kernel
theorem dX12_account_220 : decode cX12_account 220 = .ok (.lastore, 1) := by decide +kernel
theorem dX12_account_221 : decode cX12_account 221 = .ok (.iinc 9 (-1), 3) := by decide +kernel
theorem dX12_account_224 : decode cX12_account 224 = .ok (.goto (-40), 3) := by decide +kernel
theorem dX12_account_227 : decode cX12_account 227 = .ok (.aload_n 0, 1) := by decide +kernel
theorem dX12_account_228 : decode cX12_account 228 = .ok (.getfield 57, 3) := by decide +kernel
theorem dX12_account_231 : decode cX12_account 231 = .ok (.iconst 0, 1) := by decide +kernel
theorem dX12_account_232 : decode cX12_account 232 = .ok (.lload_n 1, 1) := by decide +kernel
theorem dX12_account_233 : decode cX12_account 233 = .ok (.lastore, 1) := by decide +kernel
theorem dX12_account_234 : decode cX12_account 234 = .ok (.aload_n 0, 1) := by decide +kernel
theorem dX12_account_235 : decode cX12_account 235 = .ok (.getfield 60, 3) := by decide +kernel
theorem dX12_account_238 : decode cX12_account 238 = .ok (.iconst 0, 1) := by decide +kernel
theorem dX12_account_239 : decode cX12_account 239 = .ok (.lload_n 3, 1) := by decide +kernel
theorem dX12_account_240 : decode cX12_account 240 = .ok (.lastore, 1) := by decide +kernel
theorem dX12_account_241 : decode cX12_account 241 = .ok (.return_, 1) := by decide +kernel
set_option maxHeartbeats 4000000 in
set_option maxRecDepth 100000 in
theorem r_account (G : EnvG) (l : Launch) (Φ : Hm) (sz x : Nat) (rd : (Nat → Int32) → Prop) (nw : (Nat → Int32) → Prop) (cr : (Nat → Int64) → Prop) (tp : (Nat → Int32) → Prop) (tt : (Nat → Int64) → Prop) (sI : (Nat → Int32) → Prop) (sT : (Nat → Int32) → Prop) (pt : (Nat → Int32) → Prop) (ql : (Nat → Int32) → Prop) (fl : Nat) (pe : Nat) (le : Nat) (nx : Nat) (il : Nat) (qu : Nat) (kn : Int32) (ec : Int32) (nu : Int32) (va : Int64) (st : Nat) (ep : Int32) (ti : Int32) (ad : Int32) (ob : Int64) (ra : Int32) (rt : Nat) (ex : Int32) (sa : Int64) (us : Int64) (tk : Nat) (th : Int32) (me : Int32) (dr : Int32) (se : Int64) (sn : Int64) (a : Int64) (b : Int64) (d : Int64) (hx : G.2.2.2 ≤ x) (hI : Im G x (rd, nw, cr, tp, tt, sI, sT, pt, ql, fl, pe, le, nx, il, qu, kn, ec, nu, va, st, ep, ti, ad, ob, ra, rt, ex, sa, us, tk, th, me, dr, se, sn) Φ) (hnw : ∀ f9 : Nat → Int32, nw f9 → NN f9) : Ct G l yX12_account wsX12_account ({ frames := 0, cells := 0, slots := 0, locals := 0 }) 0 0 [.ref x, .long a, .long b, .long d] Φ sz (fun v Φ1 sz1 => (v = none) ∧ sz1 = sz ∧ (Im G x (rd, nw, cr, tp, tt, sI, sT, pt, ql, fl, pe, le, nx, il, qu, kn, ec, nu, va, st, ep, ti, ad, ob, ra, rt, ex, sa, us, tk, th, me, dr, se, sn) Φ1) ∧ Fr x (fun j9 => j9 = 0 ∨ j9 = 11 ∨ j9 = 15 ∨ j9 = 16) Φ Φ1) := by
  refine Ct.of (cc := cX12_account) (maxL := 10) (ret := none) (by decide) rfl (Nat.le_of_ble_eq_true rfl) ?_
  intro p9 e9 s9 m9 w9 t9 k9 B
  show Z p9 l e9 _ s9 m9 _ w9 t9 k9 _ G 10 0 [(0, .ref x), (1, .long a), (3, .long b), (5, .long d)] [] Φ sz 0 0
  refine z_join (α := Unit) (fun (a9 : Unit) Φi => Im G x (rd, nw, cr, tp, tt, sI, sT, pt, ql, fl, pe, le, nx, il, qu, kn, ec, nu, va, st, ep, ti, ad, ob, ra, rt, ex, sa, us, tk, th, me, dr, se, sn) Φi ∧ Fr x (fun j9 => j9 = 0 ∨ j9 = 11 ∨ j9 = 15 ∨ j9 = 16) Φ Φi ∧ True) (fun a9 => [(0, .ref x), (1, .long a), (3, .long b)]) 152 ?_ (fun J152 => ?_)
  · rintro _ Φj1 ⟨hI1, hF1, -⟩
    replace hI1 : Im G x (rd, nw, cr, tp, tt, sI, sT, pt, ql, fl, pe, le, nx, il, qu, kn, ec, nu, va, st, ep, ti, ad, ob, ra, rt, ex, sa, us, tk, th, me, dr, se, sn) Φj1 := hI1
    show Z p9 l e9 _ s9 m9 _ w9 t9 k9 _ G 10 152 [(0, .ref x), (1, .long a), (3, .long b)] [] Φj1 _ _ _
    refine z_aload_n B dX12_account_152 rfl 0 rfl ?_
    refine z_aload_n B dX12_account_153 rfl 0 rfl ?_
    obtain ⟨n_1, v_1, n_2, h_1, b_13, b_1, b_2, b_3, b_4, b_5, b_6, b_7, b_8, b_9, b_10, b_11, b_12⟩ := im0 hI1
    replace b_1 : 1 ≤ rt := b_1
    replace b_2 : rt ≤ 1024 := b_2
    replace b_3 : fl ≤ 12 := b_3
    replace b_4 : pe ≤ 24 := b_4
    replace b_5 : le ≤ 700 := b_5
    replace b_6 : qu ≤ 12 := b_6
    replace b_7 : n_1 ≤ 8 := b_7
    replace b_8 : n_2 ≤ 24 := b_8
    replace b_9 : tk ≤ 24 := b_9
    replace b_10 : il ≤ 700 := b_10
    replace b_11 : nx ≤ 701 := b_11
    replace b_12 : st ≤ 701 := b_12
    have h_2 : Φj1 x = some (o_ 14 [.int th, .ref (x + 1), .ref (x + 2), .int ti, .int ra, .int (nI rt), .int ex, .int ad, .ref (x + 3), .ref (x + 4), .int me, .long se, .ref (x + 5), .int (nI fl), .int dr, .long ob, .long sa, .long sn, .long us, .ref (x + 6), .ref (x + 7), .int (nI pe), .ref (x + 8), .int (nI le), .ref (x + 9), .ref (x + 10), .int (nI qu), .ref (x + 11), .ref (x + 12), .ref (x + 13), .ref (x + 14), .ref (x + 15), .ref (x + 16), .int (nI n_1), .long v_1, .ref (x + 17), .ref (x + 18), .ref (x + 19), .ref (x + 20), .ref (x + 21), .ref (x + 22), .int (nI n_2), .ref (x + 23), .ref (x + 24), .int (nI tk), .ref (x + 25), .int (nI il), .int (nI nx), .int ec, .int ep, .int kn, .int (nI st), .int nu, .long va]) := h_1
    refine z_get (ref := "FlowExporterModel") (C := RX12) (T := TX12) (N := 54) (ci := 14) (v := .int (nI n_1)) B hu_X12_account_X12 rfl 33 (Nat.le_of_ble_eq_true rfl) hv_X12_account_326 rfl h_2 rfl dX12_account_154 ?_
    refine z_bipush (v := 8) B dX12_account_157 rfl ?_
    refine z_icmp_ge (tgt := 171) B dX12_account_159 rfl (fun c_1 => ?_) (fun c_1 => ?_)
    · have e_1 : 8 ≤ n_1 := (nI_leI (a := 8) (b := n_1) (by omega) (by omega)).mp c_1
      refine z_bipush (v := 8) B dX12_account_171 rfl ?_
      refine z_put (ref := "FlowExporterModel") (C := RX12) (T := TX12) (N := 54) (ci := 14) (v := .int 8) B hu_X12_account_X12 tyX12 tyX12_ok nmX12 rfl 33 (Nat.le_of_ble_eq_true rfl) hv_X12_account_326 rfl (Or.inl rfl) h_2 hx rfl rfl (Nat.le_of_ble_eq_true rfl) dX12_account_173 (fun Φ1 hΦ1 => ?_)
      have h_3 : Φ1 x = some (o_ 14 [.int th, .ref (x + 1), .ref (x + 2), .int ti, .int ra, .int (nI rt), .int ex, .int ad, .ref (x + 3), .ref (x + 4), .int me, .long se, .ref (x + 5), .int (nI fl), .int dr, .long ob, .long sa, .long sn, .long us, .ref (x + 6), .ref (x + 7), .int (nI pe), .ref (x + 8), .int (nI le), .ref (x + 9), .ref (x + 10), .int (nI qu), .ref (x + 11), .ref (x + 12), .ref (x + 13), .ref (x + 14), .ref (x + 15), .ref (x + 16), .int 8, .long v_1, .ref (x + 17), .ref (x + 18), .ref (x + 19), .ref (x + 20), .ref (x + 21), .ref (x + 22), .int (nI n_2), .ref (x + 23), .ref (x + 24), .int (nI tk), .ref (x + 25), .int (nI il), .int (nI nx), .int ec, .int ep, .int kn, .int (nI st), .int nu, .long va]) := fset_at hΦ1
      have hI2 : Im G x (rd, nw, cr, tp, tt, sI, sT, pt, ql, fl, pe, le, nx, il, qu, kn, ec, nu, va, st, ep, ti, ad, ob, ra, rt, ex, sa, us, tk, th, me, dr, se, sn) Φ1 := Im.put0 hI1 hΦ1 ⟨8, v_1, n_2, rfl, b_13, b_1, b_2, b_3, b_4, b_5, b_6, (show 8 ≤ 8 by omega), b_8, b_9, b_10, b_11, b_12⟩
      refine z_aload_n B dX12_account_176 rfl 0 rfl ?_
      refine z_get (ref := "FlowExporterModel") (C := RX12) (T := TX12) (N := 54) (ci := 14) (v := .int 8) B hu_X12_account_X12 rfl 33 (Nat.le_of_ble_eq_true rfl) hv_X12_account_326 rfl h_3 rfl dX12_account_177 ?_
      refine z_iconst (v := 1) B dX12_account_180 rfl ?_
      refine z_isub B dX12_account_181 ?_
      refine z_top (st1 := [.int 7]) (congrArg (fun w9 : Int32 => ([.int w9] : List Value)) (show (8 - 1 : Int32) = 7 by decide +kernel)) ?_
      refine z_istore (lv' := [(9, .int 7), (0, .ref x), (1, .long a), (3, .long b)]) B dX12_account_182 (Nat.le_of_ble_eq_true rfl) rfl ?_
      refine z_lv [0, 1, 2, 3] rfl ?_
      refine z_loop (α := Nat) (fun (a9 : Nat) Φi => Im G x (rd, nw, cr, tp, tt, sI, sT, pt, ql, fl, pe, le, nx, il, qu, kn, ec, nu, va, st, ep, ti, ad, ob, ra, rt, ex, sa, us, tk, th, me, dr, se, sn) Φi ∧ Fr x (fun j9 => j9 = 0 ∨ j9 = 11 ∨ j9 = 15 ∨ j9 = 16) Φ1 Φi ∧ (a9 ≤ 7) ∧ True) (fun a9 => [(9, .int (nI a9)), (0, .ref x), (1, .long a), (3, .long b)]) (fun a9 => a9) ?_ (7) ⟨hI2, fun _ _ => rfl, (show 7 ≤ 7 by omega), trivial⟩
      rintro i_1 Φl1 ⟨hI3, hF2, b_14, -⟩ ih1
      replace hI3 : Im G x (rd, nw, cr, tp, tt, sI, sT, pt, ql, fl, pe, le, nx, il, qu, kn, ec, nu, va, st, ep, ti, ad, ob, ra, rt, ex, sa, us, tk, th, me, dr, se, sn) Φl1 := hI3
      replace b_14 : i_1 ≤ 7 := b_14
      show Z p9 l e9 _ s9 m9 _ w9 t9 k9 _ G 10 184 [(9, .int (nI i_1)), (0, .ref x), (1, .long a), (3, .long b)] [] Φl1 _ _ _
      refine z_iload B dX12_account_184 0 rfl ?_
      refine z_if_le (tgt := 227) B dX12_account_186 rfl (fun c_2 => ?_) (fun c_2 => ?_)
      · have e_2 : i_1 ≤ 0 := (nI_leI (a := i_1) (b := 0) (by omega) (by omega)).mp c_2
        refine z_aload_n B dX12_account_227 rfl 1 rfl ?_
        obtain ⟨n_3, v_2, n_4, h_4, b_27, b_15, b_16, b_17, b_18, b_19, b_20, b_21, b_22, b_23, b_24, b_25, b_26⟩ := im0 hI3
        replace b_15 : 1 ≤ rt := b_15
        replace b_16 : rt ≤ 1024 := b_16
        replace b_17 : fl ≤ 12 := b_17
        replace b_18 : pe ≤ 24 := b_18
        replace b_19 : le ≤ 700 := b_19
        replace b_20 : qu ≤ 12 := b_20
        replace b_21 : n_3 ≤ 8 := b_21
        replace b_22 : n_4 ≤ 24 := b_22
        replace b_23 : tk ≤ 24 := b_23
        replace b_24 : il ≤ 700 := b_24
        replace b_25 : nx ≤ 701 := b_25
        replace b_26 : st ≤ 701 := b_26
        have h_5 : Φl1 x = some (o_ 14 [.int th, .ref (x + 1), .ref (x + 2), .int ti, .int ra, .int (nI rt), .int ex, .int ad, .ref (x + 3), .ref (x + 4), .int me, .long se, .ref (x + 5), .int (nI fl), .int dr, .long ob, .long sa, .long sn, .long us, .ref (x + 6), .ref (x + 7), .int (nI pe), .ref (x + 8), .int (nI le), .ref (x + 9), .ref (x + 10), .int (nI qu), .ref (x + 11), .ref (x + 12), .ref (x + 13), .ref (x + 14), .ref (x + 15), .ref (x + 16), .int (nI n_3), .long v_2, .ref (x + 17), .ref (x + 18), .ref (x + 19), .ref (x + 20), .ref (x + 21), .ref (x + 22), .int (nI n_4), .ref (x + 23), .ref (x + 24), .int (nI tk), .ref (x + 25), .int (nI il), .int (nI nx), .int ec, .int ep, .int kn, .int (nI st), .int nu, .long va]) := h_4
        refine z_get (ref := "FlowExporterModel") (C := RX12) (T := TX12) (N := 54) (ci := 14) (v := .ref (x + 15)) B hu_X12_account_X12 rfl 31 (Nat.le_of_ble_eq_true rfl) hv_X12_account_57 rfl h_5 rfl dX12_account_228 ?_
        refine z_iconst (v := 0) B dX12_account_231 rfl ?_
        refine z_lload_n B dX12_account_232 rfl 2 rfl ?_
        obtain ⟨f_1, h_6⟩ := imk (k := 15) hI3
        have h_7 : Φl1 (x + 15) = some (al_ G 8 f_1) := h_6
        refine z_last B h_7 (Nat.le_trans hx (Nat.le_add_right x 15)) (vin rfl) dX12_account_233 (fun Φ2 hΦ2 => ?_)
        have h_8 : Φ2 (x + 15) = some (al_ G 8 (vp_updL f_1 (0 : Int32).toNatClampNeg a)) := fset_at hΦ2
        have hI4 : Im G x (rd, nw, cr, tp, tt, sI, sT, pt, ql, fl, pe, le, nx, il, qu, kn, ec, nu, va, st, ep, ti, ad, ob, ra, rt, ex, sa, us, tk, th, me, dr, se, sn) Φ2 := Im.put (k := 15) hI3 hΦ2 ⟨_, rfl⟩
        refine z_aload_n B dX12_account_234 rfl 1 rfl ?_
        have h_9 : Φ2 x = some (o_ 14 [.int th, .ref (x + 1), .ref (x + 2), .int ti, .int ra, .int (nI rt), .int ex, .int ad, .ref (x + 3), .ref (x + 4), .int me, .long se, .ref (x + 5), .int (nI fl), .int dr, .long ob, .long sa, .long sn, .long us, .ref (x + 6), .ref (x + 7), .int (nI pe), .ref (x + 8), .int (nI le), .ref (x + 9), .ref (x + 10), .int (nI qu), .ref (x + 11), .ref (x + 12), .ref (x + 13), .ref (x + 14), .ref (x + 15), .ref (x + 16), .int (nI n_3), .long v_2, .ref (x + 17), .ref (x + 18), .ref (x + 19), .ref (x + 20), .ref (x + 21), .ref (x + 22), .int (nI n_4), .ref (x + 23), .ref (x + 24), .int (nI tk), .ref (x + 25), .int (nI il), .int (nI nx), .int ec, .int ep, .int kn, .int (nI st), .int nu, .long va]) := ((fset_fr hΦ2 (ne_off (x := x) (i := 0) (j := 15) rfl)).trans h_5)
        refine z_get (ref := "FlowExporterModel") (C := RX12) (T := TX12) (N := 54) (ci := 14) (v := .ref (x + 16)) B hu_X12_account_X12 rfl 32 (Nat.le_of_ble_eq_true rfl) hv_X12_account_60 rfl h_9 rfl dX12_account_235 ?_
        refine z_iconst (v := 0) B dX12_account_238 rfl ?_
        refine z_lload_n B dX12_account_239 rfl 3 rfl ?_
        obtain ⟨f_2, h_10⟩ := imk (k := 16) hI4
        have h_11 : Φ2 (x + 16) = some (al_ G 8 f_2) := h_10
        refine z_last B h_11 (Nat.le_trans hx (Nat.le_add_right x 16)) (vin rfl) dX12_account_240 (fun Φ3 hΦ3 => ?_)
        have h_12 : Φ3 (x + 16) = some (al_ G 8 (vp_updL f_2 (0 : Int32).toNatClampNeg b)) := fset_at hΦ3
        have hI5 : Im G x (rd, nw, cr, tp, tt, sI, sT, pt, ql, fl, pe, le, nx, il, qu, kn, ec, nu, va, st, ep, ti, ad, ob, ra, rt, ex, sa, us, tk, th, me, dr, se, sn) Φ3 := Im.put (k := 16) hI4 hΦ3 ⟨_, rfl⟩
        exact z_ret_v B dX12_account_241 ⟨rfl, rfl, hI5, (fun b9 h9 => ((fset_fr hΦ3 (fun h8 => h9 (16) h8 (show 16 = 0 ∨ 16 = 11 ∨ 16 = 15 ∨ 16 = 16 by decide))).trans ((fset_fr hΦ2 (fun h8 => h9 (15) h8 (show 15 = 0 ∨ 15 = 11 ∨ 15 = 15 ∨ 15 = 16 by decide))).trans ((hF2 b9 h9).trans ((fset_fr hΦ1 (fun h8 => h9 (0) h8 (show 0 = 0 ∨ 0 = 11 ∨ 0 = 15 ∨ 0 = 16 by decide))).trans ((hF1 b9 h9).trans rfl))))))⟩
      · have e_3 : ¬ (i_1 ≤ 0) := fun h9 => c_2 ((nI_leI (a := i_1) (b := 0) (by omega) (by omega)).mpr h9)
        refine z_aload_n B dX12_account_189 rfl 1 rfl ?_
        obtain ⟨n_5, v_3, n_6, h_13, b_40, b_28, b_29, b_30, b_31, b_32, b_33, b_34, b_35, b_36, b_37, b_38, b_39⟩ := im0 hI3
        replace b_28 : 1 ≤ rt := b_28
        replace b_29 : rt ≤ 1024 := b_29
        replace b_30 : fl ≤ 12 := b_30
        replace b_31 : pe ≤ 24 := b_31
        replace b_32 : le ≤ 700 := b_32
        replace b_33 : qu ≤ 12 := b_33
        replace b_34 : n_5 ≤ 8 := b_34
        replace b_35 : n_6 ≤ 24 := b_35
        replace b_36 : tk ≤ 24 := b_36
        replace b_37 : il ≤ 700 := b_37
        replace b_38 : nx ≤ 701 := b_38
        replace b_39 : st ≤ 701 := b_39
        have h_14 : Φl1 x = some (o_ 14 [.int th, .ref (x + 1), .ref (x + 2), .int ti, .int ra, .int (nI rt), .int ex, .int ad, .ref (x + 3), .ref (x + 4), .int me, .long se, .ref (x + 5), .int (nI fl), .int dr, .long ob, .long sa, .long sn, .long us, .ref (x + 6), .ref (x + 7), .int (nI pe), .ref (x + 8), .int (nI le), .ref (x + 9), .ref (x + 10), .int (nI qu), .ref (x + 11), .ref (x + 12), .ref (x + 13), .ref (x + 14), .ref (x + 15), .ref (x + 16), .int (nI n_5), .long v_3, .ref (x + 17), .ref (x + 18), .ref (x + 19), .ref (x + 20), .ref (x + 21), .ref (x + 22), .int (nI n_6), .ref (x + 23), .ref (x + 24), .int (nI tk), .ref (x + 25), .int (nI il), .int (nI nx), .int ec, .int ep, .int kn, .int (nI st), .int nu, .long va]) := h_13
        refine z_get (ref := "FlowExporterModel") (C := RX12) (T := TX12) (N := 54) (ci := 14) (v := .ref (x + 15)) B hu_X12_account_X12 rfl 31 (Nat.le_of_ble_eq_true rfl) hv_X12_account_57 rfl h_14 rfl dX12_account_190 ?_
        refine z_iload B dX12_account_193 0 rfl ?_
        refine z_aload_n B dX12_account_195 rfl 1 rfl ?_
        refine z_get (ref := "FlowExporterModel") (C := RX12) (T := TX12) (N := 54) (ci := 14) (v := .ref (x + 15)) B hu_X12_account_X12 rfl 31 (Nat.le_of_ble_eq_true rfl) hv_X12_account_57 rfl h_14 rfl dX12_account_196 ?_
        refine z_iload B dX12_account_199 0 rfl ?_
        refine z_iconst (v := 1) B dX12_account_201 rfl ?_
        refine z_isub B dX12_account_202 ?_
        refine z_top (st1 := [.int (nI (i_1 - 1)), .ref (x + 15), .int (nI i_1), .ref (x + 15)]) (congrArg (fun w9 : Int32 => ([.int w9, .ref (x + 15), .int (nI i_1), .ref (x + 15)] : List Value)) (nI_sub (show 1 ≤ i_1 by omega))) ?_
        obtain ⟨f_3, h_15⟩ := imk (k := 15) hI3
        have h_16 : Φl1 (x + 15) = some (al_ G 8 f_3) := h_15
        refine z_lald B h_16 (vp_in_nI (by omega) (by omega)) dX12_account_203 ?_
        refine z_fl (fun v_4 => ?_)
        refine z_last B h_16 (Nat.le_trans hx (Nat.le_add_right x 15)) (vp_in_nI (by omega) (by omega)) dX12_account_204 (fun Φ4 hΦ4 => ?_)
        have h_17 : Φ4 (x + 15) = some (al_ G 8 (vp_updL f_3 (nI i_1).toNatClampNeg v_4)) := fset_at hΦ4
        have hI6 : Im G x (rd, nw, cr, tp, tt, sI, sT, pt, ql, fl, pe, le, nx, il, qu, kn, ec, nu, va, st, ep, ti, ad, ob, ra, rt, ex, sa, us, tk, th, me, dr, se, sn) Φ4 := Im.put (k := 15) hI3 hΦ4 ⟨_, rfl⟩
        refine z_aload_n B dX12_account_205 rfl 1 rfl ?_
        have h_18 : Φ4 x = some (o_ 14 [.int th, .ref (x + 1), .ref (x + 2), .int ti, .int ra, .int (nI rt), .int ex, .int ad, .ref (x + 3), .ref (x + 4), .int me, .long se, .ref (x + 5), .int (nI fl), .int dr, .long ob, .long sa, .long sn, .long us, .ref (x + 6), .ref (x + 7), .int (nI pe), .ref (x + 8), .int (nI le), .ref (x + 9), .ref (x + 10), .int (nI qu), .ref (x + 11), .ref (x + 12), .ref (x + 13), .ref (x + 14), .ref (x + 15), .ref (x + 16), .int (nI n_5), .long v_3, .ref (x + 17), .ref (x + 18), .ref (x + 19), .ref (x + 20), .ref (x + 21), .ref (x + 22), .int (nI n_6), .ref (x + 23), .ref (x + 24), .int (nI tk), .ref (x + 25), .int (nI il), .int (nI nx), .int ec, .int ep, .int kn, .int (nI st), .int nu, .long va]) := ((fset_fr hΦ4 (ne_off (x := x) (i := 0) (j := 15) rfl)).trans h_14)
        refine z_get (ref := "FlowExporterModel") (C := RX12) (T := TX12) (N := 54) (ci := 14) (v := .ref (x + 16)) B hu_X12_account_X12 rfl 32 (Nat.le_of_ble_eq_true rfl) hv_X12_account_60 rfl h_18 rfl dX12_account_206 ?_
        refine z_iload B dX12_account_209 0 rfl ?_
        refine z_aload_n B dX12_account_211 rfl 1 rfl ?_
        refine z_get (ref := "FlowExporterModel") (C := RX12) (T := TX12) (N := 54) (ci := 14) (v := .ref (x + 16)) B hu_X12_account_X12 rfl 32 (Nat.le_of_ble_eq_true rfl) hv_X12_account_60 rfl h_18 rfl dX12_account_212 ?_
        refine z_iload B dX12_account_215 0 rfl ?_
        refine z_iconst (v := 1) B dX12_account_217 rfl ?_
        refine z_isub B dX12_account_218 ?_
        refine z_top (st1 := [.int (nI (i_1 - 1)), .ref (x + 16), .int (nI i_1), .ref (x + 16)]) (congrArg (fun w9 : Int32 => ([.int w9, .ref (x + 16), .int (nI i_1), .ref (x + 16)] : List Value)) (nI_sub (show 1 ≤ i_1 by omega))) ?_
        obtain ⟨f_4, h_19⟩ := imk (k := 16) hI6
        have h_20 : Φ4 (x + 16) = some (al_ G 8 f_4) := h_19
        refine z_lald B h_20 (vp_in_nI (by omega) (by omega)) dX12_account_219 ?_
        refine z_fl (fun v_5 => ?_)
        refine z_last B h_20 (Nat.le_trans hx (Nat.le_add_right x 16)) (vp_in_nI (by omega) (by omega)) dX12_account_220 (fun Φ5 hΦ5 => ?_)
        have h_21 : Φ5 (x + 16) = some (al_ G 8 (vp_updL f_4 (nI i_1).toNatClampNeg v_5)) := fset_at hΦ5
        have hI7 : Im G x (rd, nw, cr, tp, tt, sI, sT, pt, ql, fl, pe, le, nx, il, qu, kn, ec, nu, va, st, ep, ti, ad, ob, ra, rt, ex, sa, us, tk, th, me, dr, se, sn) Φ5 := Im.put (k := 16) hI6 hΦ5 ⟨_, rfl⟩
        refine z_iinc (k := 0) (v := nI (i_1 - 1)) (lv' := [(9, .int (nI (i_1 - 1))), (0, .ref x), (1, .long a), (3, .long b)]) B dX12_account_221 rfl (nI_m1 (show 1 ≤ i_1 by omega)) (Nat.le_of_ble_eq_true rfl) rfl ?_
        refine z_goto (tgt := 184) B dX12_account_224 rfl ?_
        refine z_lv [0, 1, 2, 3] rfl ?_
        exact ih1 (i_1 - 1) Φ5 (show (i_1 - 1) < i_1 by omega) ⟨hI7, (fun b9 h9 => ((fset_fr hΦ5 (fun h8 => h9 (16) h8 (show 16 = 0 ∨ 16 = 11 ∨ 16 = 15 ∨ 16 = 16 by decide))).trans ((fset_fr hΦ4 (fun h8 => h9 (15) h8 (show 15 = 0 ∨ 15 = 11 ∨ 15 = 15 ∨ 15 = 16 by decide))).trans ((hF2 b9 h9).trans rfl)))), (show (i_1 - 1) ≤ 7 by omega), trivial⟩
    · have e_4 : ¬ (8 ≤ n_1) := fun h9 => c_1 ((nI_leI (a := 8) (b := n_1) (by omega) (by omega)).mpr h9)
      refine z_aload_n B dX12_account_162 rfl 0 rfl ?_
      refine z_get (ref := "FlowExporterModel") (C := RX12) (T := TX12) (N := 54) (ci := 14) (v := .int (nI n_1)) B hu_X12_account_X12 rfl 33 (Nat.le_of_ble_eq_true rfl) hv_X12_account_326 rfl h_2 rfl dX12_account_163 ?_
      refine z_iconst (v := 1) B dX12_account_166 rfl ?_
      refine z_iadd B dX12_account_167 ?_
      refine z_top (st1 := [.int (nI (n_1 + 1)), .ref x]) (congrArg (fun w9 : Int32 => ([.int w9, .ref x] : List Value)) (nI_add n_1 1)) ?_
      refine z_goto (tgt := 173) B dX12_account_168 rfl ?_
      refine z_put (ref := "FlowExporterModel") (C := RX12) (T := TX12) (N := 54) (ci := 14) (v := .int (nI (n_1 + 1))) B hu_X12_account_X12 tyX12 tyX12_ok nmX12 rfl 33 (Nat.le_of_ble_eq_true rfl) hv_X12_account_326 rfl (Or.inl rfl) h_2 hx rfl rfl (Nat.le_of_ble_eq_true rfl) dX12_account_173 (fun Φ6 hΦ6 => ?_)
      have h_22 : Φ6 x = some (o_ 14 [.int th, .ref (x + 1), .ref (x + 2), .int ti, .int ra, .int (nI rt), .int ex, .int ad, .ref (x + 3), .ref (x + 4), .int me, .long se, .ref (x + 5), .int (nI fl), .int dr, .long ob, .long sa, .long sn, .long us, .ref (x + 6), .ref (x + 7), .int (nI pe), .ref (x + 8), .int (nI le), .ref (x + 9), .ref (x + 10), .int (nI qu), .ref (x + 11), .ref (x + 12), .ref (x + 13), .ref (x + 14), .ref (x + 15), .ref (x + 16), .int (nI (n_1 + 1)), .long v_1, .ref (x + 17), .ref (x + 18), .ref (x + 19), .ref (x + 20), .ref (x + 21), .ref (x + 22), .int (nI n_2), .ref (x + 23), .ref (x + 24), .int (nI tk), .ref (x + 25), .int (nI il), .int (nI nx), .int ec, .int ep, .int kn, .int (nI st), .int nu, .long va]) := fset_at hΦ6
      have hI8 : Im G x (rd, nw, cr, tp, tt, sI, sT, pt, ql, fl, pe, le, nx, il, qu, kn, ec, nu, va, st, ep, ti, ad, ob, ra, rt, ex, sa, us, tk, th, me, dr, se, sn) Φ6 := Im.put0 hI1 hΦ6 ⟨n_1 + 1, v_1, n_2, rfl, b_13, b_1, b_2, b_3, b_4, b_5, b_6, (show (n_1 + 1) ≤ 8 by omega), b_8, b_9, b_10, b_11, b_12⟩
      refine z_aload_n B dX12_account_176 rfl 0 rfl ?_
      refine z_get (ref := "FlowExporterModel") (C := RX12) (T := TX12) (N := 54) (ci := 14) (v := .int (nI (n_1 + 1))) B hu_X12_account_X12 rfl 33 (Nat.le_of_ble_eq_true rfl) hv_X12_account_326 rfl h_22 rfl dX12_account_177 ?_
      refine z_iconst (v := 1) B dX12_account_180 rfl ?_
      refine z_isub B dX12_account_181 ?_
      refine z_top (st1 := [.int (nI ((n_1 + 1) - 1))]) (congrArg (fun w9 : Int32 => ([.int w9] : List Value)) (nI_sub (show 1 ≤ n_1 + 1 by omega))) ?_
      refine z_istore (lv' := [(9, .int (nI ((n_1 + 1) - 1))), (0, .ref x), (1, .long a), (3, .long b)]) B dX12_account_182 (Nat.le_of_ble_eq_true rfl) rfl ?_
      refine z_lv [0, 1, 2, 3] rfl ?_
      refine z_loop (α := Nat) (fun (a9 : Nat) Φi => Im G x (rd, nw, cr, tp, tt, sI, sT, pt, ql, fl, pe, le, nx, il, qu, kn, ec, nu, va, st, ep, ti, ad, ob, ra, rt, ex, sa, us, tk, th, me, dr, se, sn) Φi ∧ Fr x (fun j9 => j9 = 0 ∨ j9 = 11 ∨ j9 = 15 ∨ j9 = 16) Φ6 Φi ∧ (a9 ≤ 7) ∧ True) (fun a9 => [(9, .int (nI a9)), (0, .ref x), (1, .long a), (3, .long b)]) (fun a9 => a9) ?_ ((n_1 + 1) - 1) ⟨hI8, fun _ _ => rfl, (show ((n_1 + 1) - 1) ≤ 7 by omega), trivial⟩
      rintro i_2 Φl2 ⟨hI9, hF3, b_41, -⟩ ih2
      replace hI9 : Im G x (rd, nw, cr, tp, tt, sI, sT, pt, ql, fl, pe, le, nx, il, qu, kn, ec, nu, va, st, ep, ti, ad, ob, ra, rt, ex, sa, us, tk, th, me, dr, se, sn) Φl2 := hI9
      replace b_41 : i_2 ≤ 7 := b_41
      show Z p9 l e9 _ s9 m9 _ w9 t9 k9 _ G 10 184 [(9, .int (nI i_2)), (0, .ref x), (1, .long a), (3, .long b)] [] Φl2 _ _ _
      refine z_iload B dX12_account_184 0 rfl ?_
      refine z_if_le (tgt := 227) B dX12_account_186 rfl (fun c_3 => ?_) (fun c_3 => ?_)
      · have e_5 : i_2 ≤ 0 := (nI_leI (a := i_2) (b := 0) (by omega) (by omega)).mp c_3
        refine z_aload_n B dX12_account_227 rfl 1 rfl ?_
        obtain ⟨n_7, v_6, n_8, h_23, b_54, b_42, b_43, b_44, b_45, b_46, b_47, b_48, b_49, b_50, b_51, b_52, b_53⟩ := im0 hI9
        replace b_42 : 1 ≤ rt := b_42
        replace b_43 : rt ≤ 1024 := b_43
        replace b_44 : fl ≤ 12 := b_44
        replace b_45 : pe ≤ 24 := b_45
        replace b_46 : le ≤ 700 := b_46
        replace b_47 : qu ≤ 12 := b_47
        replace b_48 : n_7 ≤ 8 := b_48
        replace b_49 : n_8 ≤ 24 := b_49
        replace b_50 : tk ≤ 24 := b_50
        replace b_51 : il ≤ 700 := b_51
        replace b_52 : nx ≤ 701 := b_52
        replace b_53 : st ≤ 701 := b_53
        have h_24 : Φl2 x = some (o_ 14 [.int th, .ref (x + 1), .ref (x + 2), .int ti, .int ra, .int (nI rt), .int ex, .int ad, .ref (x + 3), .ref (x + 4), .int me, .long se, .ref (x + 5), .int (nI fl), .int dr, .long ob, .long sa, .long sn, .long us, .ref (x + 6), .ref (x + 7), .int (nI pe), .ref (x + 8), .int (nI le), .ref (x + 9), .ref (x + 10), .int (nI qu), .ref (x + 11), .ref (x + 12), .ref (x + 13), .ref (x + 14), .ref (x + 15), .ref (x + 16), .int (nI n_7), .long v_6, .ref (x + 17), .ref (x + 18), .ref (x + 19), .ref (x + 20), .ref (x + 21), .ref (x + 22), .int (nI n_8), .ref (x + 23), .ref (x + 24), .int (nI tk), .ref (x + 25), .int (nI il), .int (nI nx), .int ec, .int ep, .int kn, .int (nI st), .int nu, .long va]) := h_23
        refine z_get (ref := "FlowExporterModel") (C := RX12) (T := TX12) (N := 54) (ci := 14) (v := .ref (x + 15)) B hu_X12_account_X12 rfl 31 (Nat.le_of_ble_eq_true rfl) hv_X12_account_57 rfl h_24 rfl dX12_account_228 ?_
        refine z_iconst (v := 0) B dX12_account_231 rfl ?_
        refine z_lload_n B dX12_account_232 rfl 2 rfl ?_
        obtain ⟨f_5, h_25⟩ := imk (k := 15) hI9
        have h_26 : Φl2 (x + 15) = some (al_ G 8 f_5) := h_25
        refine z_last B h_26 (Nat.le_trans hx (Nat.le_add_right x 15)) (vin rfl) dX12_account_233 (fun Φ7 hΦ7 => ?_)
        have h_27 : Φ7 (x + 15) = some (al_ G 8 (vp_updL f_5 (0 : Int32).toNatClampNeg a)) := fset_at hΦ7
        have hI10 : Im G x (rd, nw, cr, tp, tt, sI, sT, pt, ql, fl, pe, le, nx, il, qu, kn, ec, nu, va, st, ep, ti, ad, ob, ra, rt, ex, sa, us, tk, th, me, dr, se, sn) Φ7 := Im.put (k := 15) hI9 hΦ7 ⟨_, rfl⟩
        refine z_aload_n B dX12_account_234 rfl 1 rfl ?_
        have h_28 : Φ7 x = some (o_ 14 [.int th, .ref (x + 1), .ref (x + 2), .int ti, .int ra, .int (nI rt), .int ex, .int ad, .ref (x + 3), .ref (x + 4), .int me, .long se, .ref (x + 5), .int (nI fl), .int dr, .long ob, .long sa, .long sn, .long us, .ref (x + 6), .ref (x + 7), .int (nI pe), .ref (x + 8), .int (nI le), .ref (x + 9), .ref (x + 10), .int (nI qu), .ref (x + 11), .ref (x + 12), .ref (x + 13), .ref (x + 14), .ref (x + 15), .ref (x + 16), .int (nI n_7), .long v_6, .ref (x + 17), .ref (x + 18), .ref (x + 19), .ref (x + 20), .ref (x + 21), .ref (x + 22), .int (nI n_8), .ref (x + 23), .ref (x + 24), .int (nI tk), .ref (x + 25), .int (nI il), .int (nI nx), .int ec, .int ep, .int kn, .int (nI st), .int nu, .long va]) := ((fset_fr hΦ7 (ne_off (x := x) (i := 0) (j := 15) rfl)).trans h_24)
        refine z_get (ref := "FlowExporterModel") (C := RX12) (T := TX12) (N := 54) (ci := 14) (v := .ref (x + 16)) B hu_X12_account_X12 rfl 32 (Nat.le_of_ble_eq_true rfl) hv_X12_account_60 rfl h_28 rfl dX12_account_235 ?_
        refine z_iconst (v := 0) B dX12_account_238 rfl ?_
        refine z_lload_n B dX12_account_239 rfl 3 rfl ?_
        obtain ⟨f_6, h_29⟩ := imk (k := 16) hI10
        have h_30 : Φ7 (x + 16) = some (al_ G 8 f_6) := h_29
        refine z_last B h_30 (Nat.le_trans hx (Nat.le_add_right x 16)) (vin rfl) dX12_account_240 (fun Φ8 hΦ8 => ?_)
        have h_31 : Φ8 (x + 16) = some (al_ G 8 (vp_updL f_6 (0 : Int32).toNatClampNeg b)) := fset_at hΦ8
        have hI11 : Im G x (rd, nw, cr, tp, tt, sI, sT, pt, ql, fl, pe, le, nx, il, qu, kn, ec, nu, va, st, ep, ti, ad, ob, ra, rt, ex, sa, us, tk, th, me, dr, se, sn) Φ8 := Im.put (k := 16) hI10 hΦ8 ⟨_, rfl⟩
        exact z_ret_v B dX12_account_241 ⟨rfl, rfl, hI11, (fun b9 h9 => ((fset_fr hΦ8 (fun h8 => h9 (16) h8 (show 16 = 0 ∨ 16 = 11 ∨ 16 = 15 ∨ 16 = 16 by decide))).trans ((fset_fr hΦ7 (fun h8 => h9 (15) h8 (show 15 = 0 ∨ 15 = 11 ∨ 15 = 15 ∨ 15 = 16 by decide))).trans ((hF3 b9 h9).trans ((fset_fr hΦ6 (fun h8 => h9 (0) h8 (show 0 = 0 ∨ 0 = 11 ∨ 0 = 15 ∨ 0 = 16 by decide))).trans ((hF1 b9 h9).trans rfl))))))⟩
      · have e_6 : ¬ (i_2 ≤ 0) := fun h9 => c_3 ((nI_leI (a := i_2) (b := 0) (by omega) (by omega)).mpr h9)
        refine z_aload_n B dX12_account_189 rfl 1 rfl ?_
        obtain ⟨n_9, v_7, n_10, h_32, b_67, b_55, b_56, b_57, b_58, b_59, b_60, b_61, b_62, b_63, b_64, b_65, b_66⟩ := im0 hI9
        replace b_55 : 1 ≤ rt := b_55
        replace b_56 : rt ≤ 1024 := b_56
        replace b_57 : fl ≤ 12 := b_57
        replace b_58 : pe ≤ 24 := b_58
        replace b_59 : le ≤ 700 := b_59
        replace b_60 : qu ≤ 12 := b_60
        replace b_61 : n_9 ≤ 8 := b_61
        replace b_62 : n_10 ≤ 24 := b_62
        replace b_63 : tk ≤ 24 := b_63
        replace b_64 : il ≤ 700 := b_64
        replace b_65 : nx ≤ 701 := b_65
        replace b_66 : st ≤ 701 := b_66
        have h_33 : Φl2 x = some (o_ 14 [.int th, .ref (x + 1), .ref (x + 2), .int ti, .int ra, .int (nI rt), .int ex, .int ad, .ref (x + 3), .ref (x + 4), .int me, .long se, .ref (x + 5), .int (nI fl), .int dr, .long ob, .long sa, .long sn, .long us, .ref (x + 6), .ref (x + 7), .int (nI pe), .ref (x + 8), .int (nI le), .ref (x + 9), .ref (x + 10), .int (nI qu), .ref (x + 11), .ref (x + 12), .ref (x + 13), .ref (x + 14), .ref (x + 15), .ref (x + 16), .int (nI n_9), .long v_7, .ref (x + 17), .ref (x + 18), .ref (x + 19), .ref (x + 20), .ref (x + 21), .ref (x + 22), .int (nI n_10), .ref (x + 23), .ref (x + 24), .int (nI tk), .ref (x + 25), .int (nI il), .int (nI nx), .int ec, .int ep, .int kn, .int (nI st), .int nu, .long va]) := h_32
        refine z_get (ref := "FlowExporterModel") (C := RX12) (T := TX12) (N := 54) (ci := 14) (v := .ref (x + 15)) B hu_X12_account_X12 rfl 31 (Nat.le_of_ble_eq_true rfl) hv_X12_account_57 rfl h_33 rfl dX12_account_190 ?_
        refine z_iload B dX12_account_193 0 rfl ?_
        refine z_aload_n B dX12_account_195 rfl 1 rfl ?_
        refine z_get (ref := "FlowExporterModel") (C := RX12) (T := TX12) (N := 54) (ci := 14) (v := .ref (x + 15)) B hu_X12_account_X12 rfl 31 (Nat.le_of_ble_eq_true rfl) hv_X12_account_57 rfl h_33 rfl dX12_account_196 ?_
        refine z_iload B dX12_account_199 0 rfl ?_
        refine z_iconst (v := 1) B dX12_account_201 rfl ?_
        refine z_isub B dX12_account_202 ?_
        refine z_top (st1 := [.int (nI (i_2 - 1)), .ref (x + 15), .int (nI i_2), .ref (x + 15)]) (congrArg (fun w9 : Int32 => ([.int w9, .ref (x + 15), .int (nI i_2), .ref (x + 15)] : List Value)) (nI_sub (show 1 ≤ i_2 by omega))) ?_
        obtain ⟨f_7, h_34⟩ := imk (k := 15) hI9
        have h_35 : Φl2 (x + 15) = some (al_ G 8 f_7) := h_34
        refine z_lald B h_35 (vp_in_nI (by omega) (by omega)) dX12_account_203 ?_
        refine z_fl (fun v_8 => ?_)
        refine z_last B h_35 (Nat.le_trans hx (Nat.le_add_right x 15)) (vp_in_nI (by omega) (by omega)) dX12_account_204 (fun Φ9 hΦ9 => ?_)
        have h_36 : Φ9 (x + 15) = some (al_ G 8 (vp_updL f_7 (nI i_2).toNatClampNeg v_8)) := fset_at hΦ9
        have hI12 : Im G x (rd, nw, cr, tp, tt, sI, sT, pt, ql, fl, pe, le, nx, il, qu, kn, ec, nu, va, st, ep, ti, ad, ob, ra, rt, ex, sa, us, tk, th, me, dr, se, sn) Φ9 := Im.put (k := 15) hI9 hΦ9 ⟨_, rfl⟩
        refine z_aload_n B dX12_account_205 rfl 1 rfl ?_
        have h_37 : Φ9 x = some (o_ 14 [.int th, .ref (x + 1), .ref (x + 2), .int ti, .int ra, .int (nI rt), .int ex, .int ad, .ref (x + 3), .ref (x + 4), .int me, .long se, .ref (x + 5), .int (nI fl), .int dr, .long ob, .long sa, .long sn, .long us, .ref (x + 6), .ref (x + 7), .int (nI pe), .ref (x + 8), .int (nI le), .ref (x + 9), .ref (x + 10), .int (nI qu), .ref (x + 11), .ref (x + 12), .ref (x + 13), .ref (x + 14), .ref (x + 15), .ref (x + 16), .int (nI n_9), .long v_7, .ref (x + 17), .ref (x + 18), .ref (x + 19), .ref (x + 20), .ref (x + 21), .ref (x + 22), .int (nI n_10), .ref (x + 23), .ref (x + 24), .int (nI tk), .ref (x + 25), .int (nI il), .int (nI nx), .int ec, .int ep, .int kn, .int (nI st), .int nu, .long va]) := ((fset_fr hΦ9 (ne_off (x := x) (i := 0) (j := 15) rfl)).trans h_33)
        refine z_get (ref := "FlowExporterModel") (C := RX12) (T := TX12) (N := 54) (ci := 14) (v := .ref (x + 16)) B hu_X12_account_X12 rfl 32 (Nat.le_of_ble_eq_true rfl) hv_X12_account_60 rfl h_37 rfl dX12_account_206 ?_
        refine z_iload B dX12_account_209 0 rfl ?_
        refine z_aload_n B dX12_account_211 rfl 1 rfl ?_
        refine z_get (ref := "FlowExporterModel") (C := RX12) (T := TX12) (N := 54) (ci := 14) (v := .ref (x + 16)) B hu_X12_account_X12 rfl 32 (Nat.le_of_ble_eq_true rfl) hv_X12_account_60 rfl h_37 rfl dX12_account_212 ?_
        refine z_iload B dX12_account_215 0 rfl ?_
        refine z_iconst (v := 1) B dX12_account_217 rfl ?_
        refine z_isub B dX12_account_218 ?_
        refine z_top (st1 := [.int (nI (i_2 - 1)), .ref (x + 16), .int (nI i_2), .ref (x + 16)]) (congrArg (fun w9 : Int32 => ([.int w9, .ref (x + 16), .int (nI i_2), .ref (x + 16)] : List Value)) (nI_sub (show 1 ≤ i_2 by omega))) ?_
        obtain ⟨f_8, h_38⟩ := imk (k := 16) hI12
        have h_39 : Φ9 (x + 16) = some (al_ G 8 f_8) := h_38
        refine z_lald B h_39 (vp_in_nI (by omega) (by omega)) dX12_account_219 ?_
        refine z_fl (fun v_9 => ?_)
        refine z_last B h_39 (Nat.le_trans hx (Nat.le_add_right x 16)) (vp_in_nI (by omega) (by omega)) dX12_account_220 (fun Φ10 hΦ10 => ?_)
        have h_40 : Φ10 (x + 16) = some (al_ G 8 (vp_updL f_8 (nI i_2).toNatClampNeg v_9)) := fset_at hΦ10
        have hI13 : Im G x (rd, nw, cr, tp, tt, sI, sT, pt, ql, fl, pe, le, nx, il, qu, kn, ec, nu, va, st, ep, ti, ad, ob, ra, rt, ex, sa, us, tk, th, me, dr, se, sn) Φ10 := Im.put (k := 16) hI12 hΦ10 ⟨_, rfl⟩
        refine z_iinc (k := 0) (v := nI (i_2 - 1)) (lv' := [(9, .int (nI (i_2 - 1))), (0, .ref x), (1, .long a), (3, .long b)]) B dX12_account_221 rfl (nI_m1 (show 1 ≤ i_2 by omega)) (Nat.le_of_ble_eq_true rfl) rfl ?_
        refine z_goto (tgt := 184) B dX12_account_224 rfl ?_
        refine z_lv [0, 1, 2, 3] rfl ?_
        exact ih2 (i_2 - 1) Φ10 (show (i_2 - 1) < i_2 by omega) ⟨hI13, (fun b9 h9 => ((fset_fr hΦ10 (fun h8 => h9 (16) h8 (show 16 = 0 ∨ 16 = 11 ∨ 16 = 15 ∨ 16 = 16 by decide))).trans ((fset_fr hΦ9 (fun h8 => h9 (15) h8 (show 15 = 0 ∨ 15 = 11 ∨ 15 = 15 ∨ 15 = 16 by decide))).trans ((hF3 b9 h9).trans rfl)))), (show (i_2 - 1) ≤ 7 by omega), trivial⟩
  refine z_join (α := Int32 × Int32) (fun (a9 : Int32 × Int32) Φi => Im G x (rd, nw, cr, tp, tt, sI, sT, pt, ql, fl, pe, le, nx, il, qu, kn, ec, nu, va, st, ep, ti, ad, ob, ra, rt, ex, sa, us, tk, th, me, dr, se, sn) Φi ∧ Fr x (fun j9 => j9 = 0 ∨ j9 = 11 ∨ j9 = 15 ∨ j9 = 16) Φ Φi ∧ True) (fun a9 => [(0, .ref x), (1, .long a), (3, .long b), (5, .long d), (7, .int a9.1), (8, .int a9.2)]) 86 ?_ (fun J86 => ?_)
  · rintro ⟨j_1, j_2⟩ Φj2 ⟨hI14, hF4, -⟩
    replace hI14 : Im G x (rd, nw, cr, tp, tt, sI, sT, pt, ql, fl, pe, le, nx, il, qu, kn, ec, nu, va, st, ep, ti, ad, ob, ra, rt, ex, sa, us, tk, th, me, dr, se, sn) Φj2 := hI14
    show Z p9 l e9 _ s9 m9 _ w9 t9 k9 _ G 10 86 [(0, .ref x), (1, .long a), (3, .long b), (5, .long d), (7, .int j_1), (8, .int j_2)] [] Φj2 _ _ _
    refine z_iload B dX12_account_86 4 rfl ?_
    refine z_if_ge (tgt := 140) B dX12_account_88 rfl (fun c_4 => ?_) (fun c_4 => ?_)
    · refine z_aload_n B dX12_account_140 rfl 0 rfl ?_
      refine z_lload_n B dX12_account_141 rfl 1 rfl ?_
      refine z_lload B dX12_account_142 3 rfl ?_
      refine z_ladd B dX12_account_144 ?_
      refine z_fl (fun v_10 => ?_)
      refine z_ldc2 (v := 4294967295) B (by decide +kernel) dX12_account_145 ?_
      refine z_land B dX12_account_148 ?_
      refine z_fl (fun v_11 => ?_)
      obtain ⟨n_11, v_12, n_12, h_41, b_80, b_68, b_69, b_70, b_71, b_72, b_73, b_74, b_75, b_76, b_77, b_78, b_79⟩ := im0 hI14
      replace b_68 : 1 ≤ rt := b_68
      replace b_69 : rt ≤ 1024 := b_69
      replace b_70 : fl ≤ 12 := b_70
      replace b_71 : pe ≤ 24 := b_71
      replace b_72 : le ≤ 700 := b_72
      replace b_73 : qu ≤ 12 := b_73
      replace b_74 : n_11 ≤ 8 := b_74
      replace b_75 : n_12 ≤ 24 := b_75
      replace b_76 : tk ≤ 24 := b_76
      replace b_77 : il ≤ 700 := b_77
      replace b_78 : nx ≤ 701 := b_78
      replace b_79 : st ≤ 701 := b_79
      have h_42 : Φj2 x = some (o_ 14 [.int th, .ref (x + 1), .ref (x + 2), .int ti, .int ra, .int (nI rt), .int ex, .int ad, .ref (x + 3), .ref (x + 4), .int me, .long se, .ref (x + 5), .int (nI fl), .int dr, .long ob, .long sa, .long sn, .long us, .ref (x + 6), .ref (x + 7), .int (nI pe), .ref (x + 8), .int (nI le), .ref (x + 9), .ref (x + 10), .int (nI qu), .ref (x + 11), .ref (x + 12), .ref (x + 13), .ref (x + 14), .ref (x + 15), .ref (x + 16), .int (nI n_11), .long v_12, .ref (x + 17), .ref (x + 18), .ref (x + 19), .ref (x + 20), .ref (x + 21), .ref (x + 22), .int (nI n_12), .ref (x + 23), .ref (x + 24), .int (nI tk), .ref (x + 25), .int (nI il), .int (nI nx), .int ec, .int ep, .int kn, .int (nI st), .int nu, .long va]) := h_41
      refine z_put (ref := "FlowExporterModel") (C := RX12) (T := TX12) (N := 54) (ci := 14) (v := .long v_11) B hu_X12_account_X12 tyX12 tyX12_ok nmX12 rfl 34 (Nat.le_of_ble_eq_true rfl) hv_X12_account_331 rfl (Or.inl rfl) h_42 hx rfl rfl (Nat.le_of_ble_eq_true rfl) dX12_account_149 (fun Φ11 hΦ11 => ?_)
      have h_43 : Φ11 x = some (o_ 14 [.int th, .ref (x + 1), .ref (x + 2), .int ti, .int ra, .int (nI rt), .int ex, .int ad, .ref (x + 3), .ref (x + 4), .int me, .long se, .ref (x + 5), .int (nI fl), .int dr, .long ob, .long sa, .long sn, .long us, .ref (x + 6), .ref (x + 7), .int (nI pe), .ref (x + 8), .int (nI le), .ref (x + 9), .ref (x + 10), .int (nI qu), .ref (x + 11), .ref (x + 12), .ref (x + 13), .ref (x + 14), .ref (x + 15), .ref (x + 16), .int (nI n_11), .long v_11, .ref (x + 17), .ref (x + 18), .ref (x + 19), .ref (x + 20), .ref (x + 21), .ref (x + 22), .int (nI n_12), .ref (x + 23), .ref (x + 24), .int (nI tk), .ref (x + 25), .int (nI il), .int (nI nx), .int ec, .int ep, .int kn, .int (nI st), .int nu, .long va]) := fset_at hΦ11
      have hI15 : Im G x (rd, nw, cr, tp, tt, sI, sT, pt, ql, fl, pe, le, nx, il, qu, kn, ec, nu, va, st, ep, ti, ad, ob, ra, rt, ex, sa, us, tk, th, me, dr, se, sn) Φ11 := Im.put0 hI14 hΦ11 ⟨n_11, v_11, n_12, rfl, b_80, b_68, b_69, b_70, b_71, b_72, b_73, b_74, b_75, b_76, b_77, b_78, b_79⟩
      refine z_lv [0, 1, 2] rfl ?_
      exact J152 () Φ11 ⟨hI15, (fun b9 h9 => ((fset_fr hΦ11 (fun h8 => h9 (0) h8 (show 0 = 0 ∨ 0 = 11 ∨ 0 = 15 ∨ 0 = 16 by decide))).trans ((hF4 b9 h9).trans rfl))), trivial⟩
    · refine z_iload B dX12_account_91 5 rfl ?_
      refine z_if_ne (tgt := 140) B dX12_account_93 rfl (fun c_5 => ?_) (fun c_5 => ?_)
      · refine z_aload_n B dX12_account_140 rfl 0 rfl ?_
        refine z_lload_n B dX12_account_141 rfl 1 rfl ?_
        refine z_lload B dX12_account_142 3 rfl ?_
        refine z_ladd B dX12_account_144 ?_
        refine z_fl (fun v_13 => ?_)
        refine z_ldc2 (v := 4294967295) B (by decide +kernel) dX12_account_145 ?_
        refine z_land B dX12_account_148 ?_
        refine z_fl (fun v_14 => ?_)
        obtain ⟨n_13, v_15, n_14, h_44, b_93, b_81, b_82, b_83, b_84, b_85, b_86, b_87, b_88, b_89, b_90, b_91, b_92⟩ := im0 hI14
        replace b_81 : 1 ≤ rt := b_81
        replace b_82 : rt ≤ 1024 := b_82
        replace b_83 : fl ≤ 12 := b_83
        replace b_84 : pe ≤ 24 := b_84
        replace b_85 : le ≤ 700 := b_85
        replace b_86 : qu ≤ 12 := b_86
        replace b_87 : n_13 ≤ 8 := b_87
        replace b_88 : n_14 ≤ 24 := b_88
        replace b_89 : tk ≤ 24 := b_89
        replace b_90 : il ≤ 700 := b_90
        replace b_91 : nx ≤ 701 := b_91
        replace b_92 : st ≤ 701 := b_92
        have h_45 : Φj2 x = some (o_ 14 [.int th, .ref (x + 1), .ref (x + 2), .int ti, .int ra, .int (nI rt), .int ex, .int ad, .ref (x + 3), .ref (x + 4), .int me, .long se, .ref (x + 5), .int (nI fl), .int dr, .long ob, .long sa, .long sn, .long us, .ref (x + 6), .ref (x + 7), .int (nI pe), .ref (x + 8), .int (nI le), .ref (x + 9), .ref (x + 10), .int (nI qu), .ref (x + 11), .ref (x + 12), .ref (x + 13), .ref (x + 14), .ref (x + 15), .ref (x + 16), .int (nI n_13), .long v_15, .ref (x + 17), .ref (x + 18), .ref (x + 19), .ref (x + 20), .ref (x + 21), .ref (x + 22), .int (nI n_14), .ref (x + 23), .ref (x + 24), .int (nI tk), .ref (x + 25), .int (nI il), .int (nI nx), .int ec, .int ep, .int kn, .int (nI st), .int nu, .long va]) := h_44
        refine z_put (ref := "FlowExporterModel") (C := RX12) (T := TX12) (N := 54) (ci := 14) (v := .long v_14) B hu_X12_account_X12 tyX12 tyX12_ok nmX12 rfl 34 (Nat.le_of_ble_eq_true rfl) hv_X12_account_331 rfl (Or.inl rfl) h_45 hx rfl rfl (Nat.le_of_ble_eq_true rfl) dX12_account_149 (fun Φ12 hΦ12 => ?_)
        have h_46 : Φ12 x = some (o_ 14 [.int th, .ref (x + 1), .ref (x + 2), .int ti, .int ra, .int (nI rt), .int ex, .int ad, .ref (x + 3), .ref (x + 4), .int me, .long se, .ref (x + 5), .int (nI fl), .int dr, .long ob, .long sa, .long sn, .long us, .ref (x + 6), .ref (x + 7), .int (nI pe), .ref (x + 8), .int (nI le), .ref (x + 9), .ref (x + 10), .int (nI qu), .ref (x + 11), .ref (x + 12), .ref (x + 13), .ref (x + 14), .ref (x + 15), .ref (x + 16), .int (nI n_13), .long v_14, .ref (x + 17), .ref (x + 18), .ref (x + 19), .ref (x + 20), .ref (x + 21), .ref (x + 22), .int (nI n_14), .ref (x + 23), .ref (x + 24), .int (nI tk), .ref (x + 25), .int (nI il), .int (nI nx), .int ec, .int ep, .int kn, .int (nI st), .int nu, .long va]) := fset_at hΦ12
        have hI16 : Im G x (rd, nw, cr, tp, tt, sI, sT, pt, ql, fl, pe, le, nx, il, qu, kn, ec, nu, va, st, ep, ti, ad, ob, ra, rt, ex, sa, us, tk, th, me, dr, se, sn) Φ12 := Im.put0 hI14 hΦ12 ⟨n_13, v_14, n_14, rfl, b_93, b_81, b_82, b_83, b_84, b_85, b_86, b_87, b_88, b_89, b_90, b_91, b_92⟩
        refine z_lv [0, 1, 2] rfl ?_
        exact J152 () Φ12 ⟨hI16, (fun b9 h9 => ((fset_fr hΦ12 (fun h8 => h9 (0) h8 (show 0 = 0 ∨ 0 = 11 ∨ 0 = 15 ∨ 0 = 16 by decide))).trans ((hF4 b9 h9).trans rfl))), trivial⟩
      · refine z_aload_n B dX12_account_96 rfl 0 rfl ?_
        obtain ⟨n_15, v_16, n_16, h_47, b_106, b_94, b_95, b_96, b_97, b_98, b_99, b_100, b_101, b_102, b_103, b_104, b_105⟩ := im0 hI14
        replace b_94 : 1 ≤ rt := b_94
        replace b_95 : rt ≤ 1024 := b_95
        replace b_96 : fl ≤ 12 := b_96
        replace b_97 : pe ≤ 24 := b_97
        replace b_98 : le ≤ 700 := b_98
        replace b_99 : qu ≤ 12 := b_99
        replace b_100 : n_15 ≤ 8 := b_100
        replace b_101 : n_16 ≤ 24 := b_101
        replace b_102 : tk ≤ 24 := b_102
        replace b_103 : il ≤ 700 := b_103
        replace b_104 : nx ≤ 701 := b_104
        replace b_105 : st ≤ 701 := b_105
        have h_48 : Φj2 x = some (o_ 14 [.int th, .ref (x + 1), .ref (x + 2), .int ti, .int ra, .int (nI rt), .int ex, .int ad, .ref (x + 3), .ref (x + 4), .int me, .long se, .ref (x + 5), .int (nI fl), .int dr, .long ob, .long sa, .long sn, .long us, .ref (x + 6), .ref (x + 7), .int (nI pe), .ref (x + 8), .int (nI le), .ref (x + 9), .ref (x + 10), .int (nI qu), .ref (x + 11), .ref (x + 12), .ref (x + 13), .ref (x + 14), .ref (x + 15), .ref (x + 16), .int (nI n_15), .long v_16, .ref (x + 17), .ref (x + 18), .ref (x + 19), .ref (x + 20), .ref (x + 21), .ref (x + 22), .int (nI n_16), .ref (x + 23), .ref (x + 24), .int (nI tk), .ref (x + 25), .int (nI il), .int (nI nx), .int ec, .int ep, .int kn, .int (nI st), .int nu, .long va]) := h_47
        refine z_get (ref := "FlowExporterModel") (C := RX12) (T := TX12) (N := 54) (ci := 14) (v := .ref (x + 11)) B hu_X12_account_X12 rfl 27 (Nat.le_of_ble_eq_true rfl) hv_X12_account_45 rfl h_48 rfl dX12_account_97 ?_
        refine z_iconst (v := 1) B dX12_account_100 rfl ?_
        refine z_dup2_11 B dX12_account_101 rfl rfl ?_
        obtain ⟨f_9, h_49⟩ := imk (k := 11) hI14
        have h_50 : Φj2 (x + 11) = some (al_ G 9 f_9) := h_49
        refine z_lald B h_50 (vin rfl) dX12_account_102 ?_
        refine z_fl (fun v_17 => ?_)
        refine z_lconst (v := 1) B dX12_account_103 rfl ?_
        refine z_ladd B dX12_account_104 ?_
        refine z_fl (fun v_18 => ?_)
        refine z_last B h_50 (Nat.le_trans hx (Nat.le_add_right x 11)) (vin rfl) dX12_account_105 (fun Φ13 hΦ13 => ?_)
        have h_51 : Φ13 (x + 11) = some (al_ G 9 (vp_updL f_9 (1 : Int32).toNatClampNeg v_18)) := fset_at hΦ13
        have hI17 : Im G x (rd, nw, cr, tp, tt, sI, sT, pt, ql, fl, pe, le, nx, il, qu, kn, ec, nu, va, st, ep, ti, ad, ob, ra, rt, ex, sa, us, tk, th, me, dr, se, sn) Φ13 := Im.put (k := 11) hI14 hΦ13 ⟨_, rfl⟩
        refine z_aload_n B dX12_account_106 rfl 0 rfl ?_
        have h_52 : Φ13 x = some (o_ 14 [.int th, .ref (x + 1), .ref (x + 2), .int ti, .int ra, .int (nI rt), .int ex, .int ad, .ref (x + 3), .ref (x + 4), .int me, .long se, .ref (x + 5), .int (nI fl), .int dr, .long ob, .long sa, .long sn, .long us, .ref (x + 6), .ref (x + 7), .int (nI pe), .ref (x + 8), .int (nI le), .ref (x + 9), .ref (x + 10), .int (nI qu), .ref (x + 11), .ref (x + 12), .ref (x + 13), .ref (x + 14), .ref (x + 15), .ref (x + 16), .int (nI n_15), .long v_16, .ref (x + 17), .ref (x + 18), .ref (x + 19), .ref (x + 20), .ref (x + 21), .ref (x + 22), .int (nI n_16), .ref (x + 23), .ref (x + 24), .int (nI tk), .ref (x + 25), .int (nI il), .int (nI nx), .int ec, .int ep, .int kn, .int (nI st), .int nu, .long va]) := ((fset_fr hΦ13 (ne_off (x := x) (i := 0) (j := 11) rfl)).trans h_48)
        refine z_get (ref := "FlowExporterModel") (C := RX12) (T := TX12) (N := 54) (ci := 14) (v := .ref (x + 11)) B hu_X12_account_X12 rfl 27 (Nat.le_of_ble_eq_true rfl) hv_X12_account_45 rfl h_52 rfl dX12_account_107 ?_
        refine z_iconst (v := 0) B dX12_account_110 rfl ?_
        refine z_aload_n B dX12_account_111 rfl 0 rfl ?_
        refine z_get (ref := "FlowExporterModel") (C := RX12) (T := TX12) (N := 54) (ci := 14) (v := .ref (x + 11)) B hu_X12_account_X12 rfl 27 (Nat.le_of_ble_eq_true rfl) hv_X12_account_45 rfl h_52 rfl dX12_account_112 ?_
        refine z_iconst (v := 0) B dX12_account_115 rfl ?_
        obtain ⟨f_10, h_53⟩ := imk (k := 11) hI17
        have h_54 : Φ13 (x + 11) = some (al_ G 9 f_10) := h_53
        refine z_lald B h_54 (vin rfl) dX12_account_116 ?_
        refine z_fl (fun v_19 => ?_)
        refine z_lload B dX12_account_117 3 rfl ?_
        refine z_lcmp B dX12_account_119 ?_
        refine z_fi (fun v_20 => ?_)
        refine z_if_le (tgt := 135) B dX12_account_120 rfl (fun c_6 => ?_) (fun c_6 => ?_)
        · refine z_lconst (v := 0) B dX12_account_135 rfl ?_
          refine z_last B h_54 (Nat.le_trans hx (Nat.le_add_right x 11)) (vin rfl) dX12_account_136 (fun Φ14 hΦ14 => ?_)
          have h_55 : Φ14 (x + 11) = some (al_ G 9 (vp_updL f_10 (0 : Int32).toNatClampNeg 0)) := fset_at hΦ14
          have hI18 : Im G x (rd, nw, cr, tp, tt, sI, sT, pt, ql, fl, pe, le, nx, il, qu, kn, ec, nu, va, st, ep, ti, ad, ob, ra, rt, ex, sa, us, tk, th, me, dr, se, sn) Φ14 := Im.put (k := 11) hI17 hΦ14 ⟨_, rfl⟩
          refine z_goto (tgt := 152) B dX12_account_137 rfl ?_
          refine z_lv [0, 1, 2] rfl ?_
          exact J152 () Φ14 ⟨hI18, (fun b9 h9 => ((fset_fr hΦ14 (fun h8 => h9 (11) h8 (show 11 = 0 ∨ 11 = 11 ∨ 11 = 15 ∨ 11 = 16 by decide))).trans ((fset_fr hΦ13 (fun h8 => h9 (11) h8 (show 11 = 0 ∨ 11 = 11 ∨ 11 = 15 ∨ 11 = 16 by decide))).trans ((hF4 b9 h9).trans rfl)))), trivial⟩
        · obtain ⟨n_17, e_8, e_7, rfl⟩ := nI_ofp c_6
          refine z_aload_n B dX12_account_123 rfl 0 rfl ?_
          refine z_get (ref := "FlowExporterModel") (C := RX12) (T := TX12) (N := 54) (ci := 14) (v := .ref (x + 11)) B hu_X12_account_X12 rfl 27 (Nat.le_of_ble_eq_true rfl) hv_X12_account_45 rfl h_52 rfl dX12_account_124 ?_
          refine z_iconst (v := 0) B dX12_account_127 rfl ?_
          refine z_lald B h_54 (vin rfl) dX12_account_128 ?_
          refine z_fl (fun v_21 => ?_)
          refine z_lload B dX12_account_129 3 rfl ?_
          refine z_lsub B dX12_account_131 ?_
          refine z_fl (fun v_22 => ?_)
          refine z_goto (tgt := 136) B dX12_account_132 rfl ?_
          refine z_last B h_54 (Nat.le_trans hx (Nat.le_add_right x 11)) (vin rfl) dX12_account_136 (fun Φ15 hΦ15 => ?_)
          have h_56 : Φ15 (x + 11) = some (al_ G 9 (vp_updL f_10 (0 : Int32).toNatClampNeg v_22)) := fset_at hΦ15
          have hI19 : Im G x (rd, nw, cr, tp, tt, sI, sT, pt, ql, fl, pe, le, nx, il, qu, kn, ec, nu, va, st, ep, ti, ad, ob, ra, rt, ex, sa, us, tk, th, me, dr, se, sn) Φ15 := Im.put (k := 11) hI17 hΦ15 ⟨_, rfl⟩
          refine z_goto (tgt := 152) B dX12_account_137 rfl ?_
          refine z_lv [0, 1, 2] rfl ?_
          exact J152 () Φ15 ⟨hI19, (fun b9 h9 => ((fset_fr hΦ15 (fun h8 => h9 (11) h8 (show 11 = 0 ∨ 11 = 11 ∨ 11 = 15 ∨ 11 = 16 by decide))).trans ((fset_fr hΦ13 (fun h8 => h9 (11) h8 (show 11 = 0 ∨ 11 = 11 ∨ 11 = 15 ∨ 11 = 16 by decide))).trans ((hF4 b9 h9).trans rfl)))), trivial⟩
  refine z_join (α := Int32 × Int32) (fun (a9 : Int32 × Int32) Φi => Im G x (rd, nw, cr, tp, tt, sI, sT, pt, ql, fl, pe, le, nx, il, qu, kn, ec, nu, va, st, ep, ti, ad, ob, ra, rt, ex, sa, us, tk, th, me, dr, se, sn) Φi ∧ Fr x (fun j9 => j9 = 0 ∨ j9 = 11 ∨ j9 = 15 ∨ j9 = 16) Φ Φi ∧ True) (fun a9 => [(0, .ref x), (1, .long a), (3, .long b), (5, .long d), (7, .int a9.1), (8, .int a9.2)]) 54 ?_ (fun J54 => ?_)
  · rintro ⟨j_3, j_4⟩ Φj3 ⟨hI20, hF5, -⟩
    replace hI20 : Im G x (rd, nw, cr, tp, tt, sI, sT, pt, ql, fl, pe, le, nx, il, qu, kn, ec, nu, va, st, ep, ti, ad, ob, ra, rt, ex, sa, us, tk, th, me, dr, se, sn) Φj3 := hI20
    show Z p9 l e9 _ s9 m9 _ w9 t9 k9 _ G 10 54 [(0, .ref x), (1, .long a), (3, .long b), (5, .long d), (7, .int j_3), (8, .int j_4)] [] Φj3 _ _ _
    refine z_iload B dX12_account_54 4 rfl ?_
    refine z_if_le (tgt := 71) B dX12_account_56 rfl (fun c_7 => ?_) (fun c_7 => ?_)
    · refine z_iload B dX12_account_71 5 rfl ?_
      refine z_if_eq (tgt := 86) B dX12_account_73 rfl (fun c_8 => ?_) (fun c_8 => ?_)
      · refine z_lv [0, 1, 2, 3, 4, 5] rfl ?_
        exact J86 (j_3, j_4) Φj3 ⟨hI20, (fun b9 h9 => ((hF5 b9 h9).trans rfl)), trivial⟩
      · refine z_aload_n B dX12_account_76 rfl 0 rfl ?_
        obtain ⟨n_18, v_23, n_19, h_57, b_119, b_107, b_108, b_109, b_110, b_111, b_112, b_113, b_114, b_115, b_116, b_117, b_118⟩ := im0 hI20
        replace b_107 : 1 ≤ rt := b_107
        replace b_108 : rt ≤ 1024 := b_108
        replace b_109 : fl ≤ 12 := b_109
        replace b_110 : pe ≤ 24 := b_110
        replace b_111 : le ≤ 700 := b_111
        replace b_112 : qu ≤ 12 := b_112
        replace b_113 : n_18 ≤ 8 := b_113
        replace b_114 : n_19 ≤ 24 := b_114
        replace b_115 : tk ≤ 24 := b_115
        replace b_116 : il ≤ 700 := b_116
        replace b_117 : nx ≤ 701 := b_117
        replace b_118 : st ≤ 701 := b_118
        have h_58 : Φj3 x = some (o_ 14 [.int th, .ref (x + 1), .ref (x + 2), .int ti, .int ra, .int (nI rt), .int ex, .int ad, .ref (x + 3), .ref (x + 4), .int me, .long se, .ref (x + 5), .int (nI fl), .int dr, .long ob, .long sa, .long sn, .long us, .ref (x + 6), .ref (x + 7), .int (nI pe), .ref (x + 8), .int (nI le), .ref (x + 9), .ref (x + 10), .int (nI qu), .ref (x + 11), .ref (x + 12), .ref (x + 13), .ref (x + 14), .ref (x + 15), .ref (x + 16), .int (nI n_18), .long v_23, .ref (x + 17), .ref (x + 18), .ref (x + 19), .ref (x + 20), .ref (x + 21), .ref (x + 22), .int (nI n_19), .ref (x + 23), .ref (x + 24), .int (nI tk), .ref (x + 25), .int (nI il), .int (nI nx), .int ec, .int ep, .int kn, .int (nI st), .int nu, .long va]) := h_57
        refine z_get (ref := "FlowExporterModel") (C := RX12) (T := TX12) (N := 54) (ci := 14) (v := .ref (x + 11)) B hu_X12_account_X12 rfl 27 (Nat.le_of_ble_eq_true rfl) hv_X12_account_45 rfl h_58 rfl dX12_account_77 ?_
        refine z_iconst (v := 5) B dX12_account_80 rfl ?_
        refine z_dup2_11 B dX12_account_81 rfl rfl ?_
        obtain ⟨f_11, h_59⟩ := imk (k := 11) hI20
        have h_60 : Φj3 (x + 11) = some (al_ G 9 f_11) := h_59
        refine z_lald B h_60 (vin rfl) dX12_account_82 ?_
        refine z_fl (fun v_24 => ?_)
        refine z_lconst (v := 1) B dX12_account_83 rfl ?_
        refine z_ladd B dX12_account_84 ?_
        refine z_fl (fun v_25 => ?_)
        refine z_last B h_60 (Nat.le_trans hx (Nat.le_add_right x 11)) (vin rfl) dX12_account_85 (fun Φ16 hΦ16 => ?_)
        have h_61 : Φ16 (x + 11) = some (al_ G 9 (vp_updL f_11 (5 : Int32).toNatClampNeg v_25)) := fset_at hΦ16
        have hI21 : Im G x (rd, nw, cr, tp, tt, sI, sT, pt, ql, fl, pe, le, nx, il, qu, kn, ec, nu, va, st, ep, ti, ad, ob, ra, rt, ex, sa, us, tk, th, me, dr, se, sn) Φ16 := Im.put (k := 11) hI20 hΦ16 ⟨_, rfl⟩
        refine z_lv [0, 1, 2, 3, 4, 5] rfl ?_
        exact J86 (j_3, j_4) Φ16 ⟨hI21, (fun b9 h9 => ((fset_fr hΦ16 (fun h8 => h9 (11) h8 (show 11 = 0 ∨ 11 = 11 ∨ 11 = 15 ∨ 11 = 16 by decide))).trans ((hF5 b9 h9).trans rfl))), trivial⟩
    · obtain ⟨n_20, e_10, e_9, rfl⟩ := nI_ofp c_7
      refine z_aload_n B dX12_account_59 rfl 0 rfl ?_
      obtain ⟨n_21, v_26, n_22, h_62, b_132, b_120, b_121, b_122, b_123, b_124, b_125, b_126, b_127, b_128, b_129, b_130, b_131⟩ := im0 hI20
      replace b_120 : 1 ≤ rt := b_120
      replace b_121 : rt ≤ 1024 := b_121
      replace b_122 : fl ≤ 12 := b_122
      replace b_123 : pe ≤ 24 := b_123
      replace b_124 : le ≤ 700 := b_124
      replace b_125 : qu ≤ 12 := b_125
      replace b_126 : n_21 ≤ 8 := b_126
      replace b_127 : n_22 ≤ 24 := b_127
      replace b_128 : tk ≤ 24 := b_128
      replace b_129 : il ≤ 700 := b_129
      replace b_130 : nx ≤ 701 := b_130
      replace b_131 : st ≤ 701 := b_131
      have h_63 : Φj3 x = some (o_ 14 [.int th, .ref (x + 1), .ref (x + 2), .int ti, .int ra, .int (nI rt), .int ex, .int ad, .ref (x + 3), .ref (x + 4), .int me, .long se, .ref (x + 5), .int (nI fl), .int dr, .long ob, .long sa, .long sn, .long us, .ref (x + 6), .ref (x + 7), .int (nI pe), .ref (x + 8), .int (nI le), .ref (x + 9), .ref (x + 10), .int (nI qu), .ref (x + 11), .ref (x + 12), .ref (x + 13), .ref (x + 14), .ref (x + 15), .ref (x + 16), .int (nI n_21), .long v_26, .ref (x + 17), .ref (x + 18), .ref (x + 19), .ref (x + 20), .ref (x + 21), .ref (x + 22), .int (nI n_22), .ref (x + 23), .ref (x + 24), .int (nI tk), .ref (x + 25), .int (nI il), .int (nI nx), .int ec, .int ep, .int kn, .int (nI st), .int nu, .long va]) := h_62
      refine z_get (ref := "FlowExporterModel") (C := RX12) (T := TX12) (N := 54) (ci := 14) (v := .ref (x + 11)) B hu_X12_account_X12 rfl 27 (Nat.le_of_ble_eq_true rfl) hv_X12_account_45 rfl h_63 rfl dX12_account_60 ?_
      refine z_iconst (v := 0) B dX12_account_63 rfl ?_
      refine z_dup2_11 B dX12_account_64 rfl rfl ?_
      obtain ⟨f_12, h_64⟩ := imk (k := 11) hI20
      have h_65 : Φj3 (x + 11) = some (al_ G 9 f_12) := h_64
      refine z_lald B h_65 (vin rfl) dX12_account_65 ?_
      refine z_fl (fun v_27 => ?_)
      refine z_iload B dX12_account_66 4 rfl ?_
      refine z_i2l (v := (nI n_20).toInt64) B dX12_account_68 rfl ?_
      refine z_ladd B dX12_account_69 ?_
      refine z_fl (fun v_28 => ?_)
      refine z_last B h_65 (Nat.le_trans hx (Nat.le_add_right x 11)) (vin rfl) dX12_account_70 (fun Φ17 hΦ17 => ?_)
      have h_66 : Φ17 (x + 11) = some (al_ G 9 (vp_updL f_12 (0 : Int32).toNatClampNeg v_28)) := fset_at hΦ17
      have hI22 : Im G x (rd, nw, cr, tp, tt, sI, sT, pt, ql, fl, pe, le, nx, il, qu, kn, ec, nu, va, st, ep, ti, ad, ob, ra, rt, ex, sa, us, tk, th, me, dr, se, sn) Φ17 := Im.put (k := 11) hI20 hΦ17 ⟨_, rfl⟩
      refine z_iload B dX12_account_71 5 rfl ?_
      refine z_if_eq (tgt := 86) B dX12_account_73 rfl (fun c_9 => ?_) (fun c_9 => ?_)
      · refine z_lv [0, 1, 2, 3, 4, 5] rfl ?_
        exact J86 (nI n_20, j_4) Φ17 ⟨hI22, (fun b9 h9 => ((fset_fr hΦ17 (fun h8 => h9 (11) h8 (show 11 = 0 ∨ 11 = 11 ∨ 11 = 15 ∨ 11 = 16 by decide))).trans ((hF5 b9 h9).trans rfl))), trivial⟩
      · refine z_aload_n B dX12_account_76 rfl 0 rfl ?_
        have h_67 : Φ17 x = some (o_ 14 [.int th, .ref (x + 1), .ref (x + 2), .int ti, .int ra, .int (nI rt), .int ex, .int ad, .ref (x + 3), .ref (x + 4), .int me, .long se, .ref (x + 5), .int (nI fl), .int dr, .long ob, .long sa, .long sn, .long us, .ref (x + 6), .ref (x + 7), .int (nI pe), .ref (x + 8), .int (nI le), .ref (x + 9), .ref (x + 10), .int (nI qu), .ref (x + 11), .ref (x + 12), .ref (x + 13), .ref (x + 14), .ref (x + 15), .ref (x + 16), .int (nI n_21), .long v_26, .ref (x + 17), .ref (x + 18), .ref (x + 19), .ref (x + 20), .ref (x + 21), .ref (x + 22), .int (nI n_22), .ref (x + 23), .ref (x + 24), .int (nI tk), .ref (x + 25), .int (nI il), .int (nI nx), .int ec, .int ep, .int kn, .int (nI st), .int nu, .long va]) := ((fset_fr hΦ17 (ne_off (x := x) (i := 0) (j := 11) rfl)).trans h_63)
        refine z_get (ref := "FlowExporterModel") (C := RX12) (T := TX12) (N := 54) (ci := 14) (v := .ref (x + 11)) B hu_X12_account_X12 rfl 27 (Nat.le_of_ble_eq_true rfl) hv_X12_account_45 rfl h_67 rfl dX12_account_77 ?_
        refine z_iconst (v := 5) B dX12_account_80 rfl ?_
        refine z_dup2_11 B dX12_account_81 rfl rfl ?_
        obtain ⟨f_13, h_68⟩ := imk (k := 11) hI22
        have h_69 : Φ17 (x + 11) = some (al_ G 9 f_13) := h_68
        refine z_lald B h_69 (vin rfl) dX12_account_82 ?_
        refine z_fl (fun v_29 => ?_)
        refine z_lconst (v := 1) B dX12_account_83 rfl ?_
        refine z_ladd B dX12_account_84 ?_
        refine z_fl (fun v_30 => ?_)
        refine z_last B h_69 (Nat.le_trans hx (Nat.le_add_right x 11)) (vin rfl) dX12_account_85 (fun Φ18 hΦ18 => ?_)
        have h_70 : Φ18 (x + 11) = some (al_ G 9 (vp_updL f_13 (5 : Int32).toNatClampNeg v_30)) := fset_at hΦ18
        have hI23 : Im G x (rd, nw, cr, tp, tt, sI, sT, pt, ql, fl, pe, le, nx, il, qu, kn, ec, nu, va, st, ep, ti, ad, ob, ra, rt, ex, sa, us, tk, th, me, dr, se, sn) Φ18 := Im.put (k := 11) hI22 hΦ18 ⟨_, rfl⟩
        refine z_lv [0, 1, 2, 3, 4, 5] rfl ?_
        exact J86 (nI n_20, j_4) Φ18 ⟨hI23, (fun b9 h9 => ((fset_fr hΦ18 (fun h8 => h9 (11) h8 (show 11 = 0 ∨ 11 = 11 ∨ 11 = 15 ∨ 11 = 16 by decide))).trans ((fset_fr hΦ17 (fun h8 => h9 (11) h8 (show 11 = 0 ∨ 11 = 11 ∨ 11 = 15 ∨ 11 = 16 by decide))).trans ((hF5 b9 h9).trans rfl)))), trivial⟩
  refine z_aload_n B dX12_account_0 rfl 0 rfl ?_
  obtain ⟨n_23, v_31, n_24, h_71, b_145, b_133, b_134, b_135, b_136, b_137, b_138, b_139, b_140, b_141, b_142, b_143, b_144⟩ := im0 hI
  replace b_133 : 1 ≤ rt := b_133
  replace b_134 : rt ≤ 1024 := b_134
  replace b_135 : fl ≤ 12 := b_135
  replace b_136 : pe ≤ 24 := b_136
  replace b_137 : le ≤ 700 := b_137
  replace b_138 : qu ≤ 12 := b_138
  replace b_139 : n_23 ≤ 8 := b_139
  replace b_140 : n_24 ≤ 24 := b_140
  replace b_141 : tk ≤ 24 := b_141
  replace b_142 : il ≤ 700 := b_142
  replace b_143 : nx ≤ 701 := b_143
  replace b_144 : st ≤ 701 := b_144
  have h_72 : Φ x = some (o_ 14 [.int th, .ref (x + 1), .ref (x + 2), .int ti, .int ra, .int (nI rt), .int ex, .int ad, .ref (x + 3), .ref (x + 4), .int me, .long se, .ref (x + 5), .int (nI fl), .int dr, .long ob, .long sa, .long sn, .long us, .ref (x + 6), .ref (x + 7), .int (nI pe), .ref (x + 8), .int (nI le), .ref (x + 9), .ref (x + 10), .int (nI qu), .ref (x + 11), .ref (x + 12), .ref (x + 13), .ref (x + 14), .ref (x + 15), .ref (x + 16), .int (nI n_23), .long v_31, .ref (x + 17), .ref (x + 18), .ref (x + 19), .ref (x + 20), .ref (x + 21), .ref (x + 22), .int (nI n_24), .ref (x + 23), .ref (x + 24), .int (nI tk), .ref (x + 25), .int (nI il), .int (nI nx), .int ec, .int ep, .int kn, .int (nI st), .int nu, .long va]) := h_71
  refine z_get (ref := "FlowExporterModel") (C := RX12) (T := TX12) (N := 54) (ci := 14) (v := .long v_31) B hu_X12_account_X12 rfl 34 (Nat.le_of_ble_eq_true rfl) hv_X12_account_331 rfl h_72 rfl dX12_account_1 ?_
  refine z_ldc2 (v := (-1)) B (by decide +kernel) dX12_account_4 ?_
  refine z_lcmp B dX12_account_7 ?_
  refine z_fi (fun v_32 => ?_)
  refine z_if_ne (tgt := 15) B dX12_account_8 rfl (fun c_10 => ?_) (fun c_10 => ?_)
  · refine z_lload_n B dX12_account_15 rfl 1 rfl ?_
    refine z_aload_n B dX12_account_16 rfl 0 rfl ?_
    refine z_get (ref := "FlowExporterModel") (C := RX12) (T := TX12) (N := 54) (ci := 14) (v := .long v_31) B hu_X12_account_X12 rfl 34 (Nat.le_of_ble_eq_true rfl) hv_X12_account_331 rfl h_72 rfl dX12_account_17 ?_
    refine z_lsub B dX12_account_20 ?_
    refine z_fl (fun v_33 => ?_)
    refine z_l2i (v := v_33.toInt32) B dX12_account_21 rfl ?_
    refine z_fi (fun v_34 => ?_)
    refine z_istore (lv' := [(7, .int v_34), (0, .ref x), (1, .long a), (3, .long b), (5, .long d)]) B dX12_account_22 (Nat.le_of_ble_eq_true rfl) rfl ?_
    refine z_iload B dX12_account_24 0 rfl ?_
    refine z_if_ge (tgt := 51) B dX12_account_26 rfl (fun c_11 => ?_) (fun c_11 => ?_)
    · refine z_iconst (v := 0) B dX12_account_51 rfl ?_
      refine z_istore (lv' := [(8, .int 0), (7, .int v_34), (0, .ref x), (1, .long a), (3, .long b), (5, .long d)]) B dX12_account_52 (Nat.le_of_ble_eq_true rfl) rfl ?_
      refine z_lv [2, 3, 4, 5, 1, 0] rfl ?_
      exact J54 (v_34, 0) Φ ⟨hI, (fun b9 h9 => rfl), trivial⟩
    · refine z_lload_n B dX12_account_29 rfl 2 rfl ?_
      refine z_lconst (v := 0) B dX12_account_30 rfl ?_
      refine z_lcmp B dX12_account_31 ?_
      refine z_fi (fun v_35 => ?_)
      refine z_if_ne (tgt := 51) B dX12_account_32 rfl (fun c_12 => ?_) (fun c_12 => ?_)
      · refine z_iconst (v := 0) B dX12_account_51 rfl ?_
        refine z_istore (lv' := [(8, .int 0), (7, .int v_34), (0, .ref x), (1, .long a), (3, .long b), (5, .long d)]) B dX12_account_52 (Nat.le_of_ble_eq_true rfl) rfl ?_
        refine z_lv [2, 3, 4, 5, 1, 0] rfl ?_
        exact J54 (v_34, 0) Φ ⟨hI, (fun b9 h9 => rfl), trivial⟩
      · refine z_lload_n B dX12_account_35 rfl 3 rfl ?_
        refine z_l2i (v := b.toInt32) B dX12_account_36 rfl ?_
        refine z_fi (fun v_36 => ?_)
        refine z_aload_n B dX12_account_37 rfl 1 rfl ?_
        refine z_get (ref := "FlowExporterModel") (C := RX12) (T := TX12) (N := 54) (ci := 14) (v := .ref (x + 16)) B hu_X12_account_X12 rfl 32 (Nat.le_of_ble_eq_true rfl) hv_X12_account_60 rfl h_72 rfl dX12_account_38 ?_
        refine z_iconst (v := 0) B dX12_account_41 rfl ?_
        obtain ⟨f_14, h_73⟩ := imk (k := 16) hI
        have h_74 : Φ (x + 16) = some (al_ G 8 f_14) := h_73
        refine z_lald B h_74 (vin rfl) dX12_account_42 ?_
        refine z_fl (fun v_37 => ?_)
        refine z_l2i (v := v_37.toInt32) B dX12_account_43 rfl ?_
        refine z_fi (fun v_38 => ?_)
        refine z_icmp_le (tgt := 51) B dX12_account_44 rfl (fun c_13 => ?_) (fun c_13 => ?_)
        · refine z_iconst (v := 0) B dX12_account_51 rfl ?_
          refine z_istore (lv' := [(8, .int 0), (7, .int v_34), (0, .ref x), (1, .long a), (3, .long b), (5, .long d)]) B dX12_account_52 (Nat.le_of_ble_eq_true rfl) rfl ?_
          refine z_lv [2, 3, 4, 5, 1, 0] rfl ?_
          exact J54 (v_34, 0) Φ ⟨hI, (fun b9 h9 => rfl), trivial⟩
        · refine z_iconst (v := 1) B dX12_account_47 rfl ?_
          refine z_goto (tgt := 52) B dX12_account_48 rfl ?_
          refine z_istore (lv' := [(8, .int 1), (7, .int v_34), (0, .ref x), (1, .long a), (3, .long b), (5, .long d)]) B dX12_account_52 (Nat.le_of_ble_eq_true rfl) rfl ?_
          refine z_lv [2, 3, 4, 5, 1, 0] rfl ?_
          exact J54 (v_34, 1) Φ ⟨hI, (fun b9 h9 => rfl), trivial⟩
  · refine z_iconst (v := 0) B dX12_account_11 rfl ?_
    refine z_goto (tgt := 22) B dX12_account_12 rfl ?_
    refine z_istore (lv' := [(7, .int 0), (0, .ref x), (1, .long a), (3, .long b), (5, .long d)]) B dX12_account_22 (Nat.le_of_ble_eq_true rfl) rfl ?_
    refine z_iload B dX12_account_24 0 rfl ?_
    refine z_if_ge (tgt := 51) B dX12_account_26 rfl (fun c_14 => ?_) (fun h9 => absurd (by decide) h9)
    refine z_iconst (v := 0) B dX12_account_51 rfl ?_
    refine z_istore (lv' := [(8, .int 0), (7, .int 0), (0, .ref x), (1, .long a), (3, .long b), (5, .long d)]) B dX12_account_52 (Nat.le_of_ble_eq_true rfl) rfl ?_
    refine z_lv [2, 3, 4, 5, 1, 0] rfl ?_
    exact J54 (0, 0) Φ ⟨hI, (fun b9 h9 => rfl), trivial⟩

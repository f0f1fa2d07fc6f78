theorem dX12_byteAt_0 : decode cX12_byteAt 0 = .ok (.iload_n 1, 1) := by decide +kernel
theorem dX12_byteAt_1 : decode cX12_byteAt 1 = .ok (.aload_n 0, 1) := by decide +kernel
theorem dX12_byteAt_2 : decode cX12_byteAt 2 = .ok (.getfield 441, 3) := by decide +kernel
theorem dX12_byteAt_5 : decode cX12_byteAt 5 = .ok (.if_icmp .ge 16, 3) := by decide +kernel
theorem dX12_byteAt_8 : decode cX12_byteAt 8 = .ok (.aload_n 0, 1) := by decide +kernel
theorem dX12_byteAt_9 : decode cX12_byteAt 9 = .ok (.getfield 88, 3) := by decide +kernel
theorem dX12_byteAt_12 : decode cX12_byteAt 12 = .ok (.iload_n 1, 1) := by decide +kernel
theorem dX12_byteAt_13 : decode cX12_byteAt 13 = .ok (.baload, 1) := by decide +kernel
theorem dX12_byteAt_14 : decode cX12_byteAt 14 = .ok (.sipush 255, 3) := by decide +kernel
theorem dX12_byteAt_17 : decode cX12_byteAt 17 = .ok (.iand, 1) := by decide +kernel
theorem dX12_byteAt_18 : decode cX12_byteAt 18 = .ok (.goto 4, 3) := by decide +kernel
theorem dX12_byteAt_21 : decode cX12_byteAt 21 = .ok (.iconst (-1), 1) := by decide +kernel
theorem dX12_byteAt_22 : decode cX12_byteAt 22 = .ok (.ireturn, 1) := by decide +kernel
set_option maxRecDepth 20000 in
theorem ggX12_isLetter_X12_inRange : GoodIn wsX12_isLetter wsX12_inRange := (goodIn_r _ [6] rfl (by decide +kernel))
set_option maxRecDepth 20000 in
theorem gX12_isLetter_X12_inRange : GoodIn wsX12_isLetter (va_wsS RX12 169 yX12_inRange wsX12_inRange) := goodIn_app (goodIn_m (mem_cA (List.mem_cons_of_mem _ (List.mem_of_getElem? (i := 2) rfl)) (mem_cA (List.mem_cons_of_mem _ (List.mem_of_getElem? (i := 3) rfl)) (mem_cA (List.mem_cons_of_mem _ (List.mem_of_getElem? (i := 4) rfl)) mem_cZ))) (by decide +kernel)) ggX12_isLetter_X12_inRange
theorem dX12_isLetter_0 : decode cX12_isLetter 0 = .ok (.iload_n 0, 1) := by decide +kernel
theorem dX12_isLetter_1 : decode cX12_isLetter 1 = .ok (.i2l, 1) := by decide +kernel
theorem dX12_isLetter_2 : decode cX12_isLetter 2 = .ok (.ldc2_w 450, 3) := by decide +kernel
theorem dX12_isLetter_5 : decode cX12_isLetter 5 = .ok (.ldc2_w 452, 3) := by decide +kernel
theorem dX12_isLetter_8 : decode cX12_isLetter 8 = .ok (.invokestatic 169, 3) := by decide +kernel
theorem dX12_isLetter_11 : decode cX12_isLetter 11 = .ok (.ireturn, 1) := by decide +kernel
set_option maxRecDepth 20000 in
theorem ggX12_isDigit_X12_inRange : GoodIn wsX12_isDigit wsX12_inRange := (goodIn_r _ [6] rfl (by decide +kernel))
set_option maxRecDepth 20000 in
theorem gX12_isDigit_X12_inRange : GoodIn wsX12_isDigit (va_wsS RX12 169 yX12_inRange wsX12_inRange) := goodIn_app (goodIn_m (mem_cA (List.mem_cons_of_mem _ (List.mem_of_getElem? (i := 2) rfl)) (mem_cA (List.mem_cons_of_mem _ (List.mem_of_getElem? (i := 3) rfl)) (mem_cA (List.mem_cons_of_mem _ (List.mem_of_getElem? (i := 4) rfl)) mem_cZ))) (by decide +kernel)) ggX12_isDigit_X12_inRange
theorem dX12_isDigit_0 : decode cX12_isDigit 0 = .ok (.iload_n 0, 1) := by decide +kernel
theorem dX12_isDigit_1 : decode cX12_isDigit 1 = .ok (.i2l, 1) := by decide +kernel
theorem dX12_isDigit_2 : decode cX12_isDigit 2 = .ok (.ldc2_w 454, 3) := by decide +kernel
theorem dX12_isDigit_5 : decode cX12_isDigit 5 = .ok (.ldc2_w 456, 3) := by decide +kernel
theorem dX12_isDigit_8 : decode cX12_isDigit 8 = .ok (.invokestatic 169, 3) := by decide +kernel
theorem dX12_isDigit_11 : decode cX12_isDigit 11 = .ok (.ireturn, 1) := by decide +kernel
/-! the reference's token at hand -/
noncomputable def kR (k : Nat) : Int32 := nI (k - 1)
noncomputable def WvR (b : Nat → Int32) (s nx : Nat) (va : Int64) : Prop := nx - s ≤ 12 → va = Int64.ofNat (wv b s (nx - s))
noncomputable def NvR (b : Nat → Int32) (s nx : Nat) (va : Int64) : Prop := nx - s ≤ 6 → va = Int64.ofNat (nv b s (nx - s))
/-- kn, st, nx, va: the token behind p -/
noncomputable def TkR (b : Nat → Int32) (p : Nat) (kn : Int32) (st nx : Nat) (va : Int64) : Prop := ∃ k, Tk b p k st nx ∧ kn = kR k ∧ ¬ k = 1 ∧ (k = 2 → va = Int64.ofNat (wv b st (nx - st))) ∧ (k = 3 → va = Int64.ofNat (nv b st (nx - st)))
theorem TkR.mk {b : Nat → Int32} {p st nx k : Nat} {kn : Int32} {va : Int64} (h : Tk b p k st nx) (h1 : kn = kR k) (h2 : ¬ k = 1) (h3 : k = 2 → WvR b st nx va ∧ nx - st ≤ 12) (h4 : k = 3 → NvR b st nx va ∧ nx - st ≤ 6) : TkR b p kn st nx va := ⟨k, h, h1, h2, fun e => (h3 e).1 (h3 e).2, fun e => (h4 e).1 (h4 e).2⟩
theorem kO_L {a : Int32} : inP a.toInt64 97 122 ↔ kO a = 2 := by
  rw [inP_iff, kO_2, show (97 : Int64).toInt = 97 from by decide, show (122 : Int64).toInt = 122 from by decide]
theorem kO_D {a : Int32} : inP a.toInt64 48 57 ↔ kO a = 3 := by
  rw [inP_iff, kO_3, show (48 : Int64).toInt = 48 from by decide, show (57 : Int64).toInt = 57 from by decide]
theorem WvR_0 {b : Nat → Int32} {s : Nat} : WvR b s s 0 := fun _ => by rw [Nat.sub_self]; rfl
theorem NvR_0 {b : Nat → Int32} {s : Nat} : NvR b s s 0 := fun _ => by rw [Nat.sub_self]; rfl
theorem WvR_x {b : Nat → Int32} {s nx : Nat} {va : Int64} (h : 12 < nx - s) : WvR b s nx va := fun h1 => absurd h1 (by omega)
theorem NvR_x {b : Nat → Int32} {s nx : Nat} {va : Int64} (h : 6 < nx - s) : NvR b s nx va := fun h1 => absurd h1 (by omega)
theorem ofNat_step {W m d q : Nat} (hq : d ≤ q) (h1 : q ≤ 255) (hW : W < 2 ^ 58) (hm : m ≤ 32) : Int64.ofNat W * Int64.ofNat m + (nI q).toInt64 - Int64.ofNat d = Int64.ofNat (m * W + (q - d)) := by
  have e1 : (nI q).toInt64 = Int64.ofNat q := nI_l (by omega)
  rw [e1, ← Int64.ofNat_mul, ← Int64.ofNat_add]
  have h2 : W * m + q = (m * W + (q - d)) + d := by rw [Nat.mul_comm]; omega
  rw [h2, Int64.ofNat_add, Int64.add_sub_cancel]
theorem bA_n {f : Nat → Int32} {n i : Nat} (h : i < n) : bA f n i = nI (bA f n i).toNatClampNeg ∧ (bA f n i).toNatClampNeg ≤ 255 := by
  obtain ⟨q, hq, e⟩ := bA_and (f := f) h
  rw [e, nI_clamp (by omega)]
  exact ⟨rfl, hq⟩
theorem WvR_s {f : Nat → Int32} {n s nx : Nat} {va : Int64} (h : WvR (bA f n) s nx va) (hs : s ≤ nx) (hl : nx - s < 12) (ha : ∀ i, s ≤ i → i < nx → kO (bA f n i) = 2) (hk : kO (bA f n nx) = 2) (hn : nx < n) : WvR (bA f n) s (nx + 1) (va * 32 + (bA f n nx).toInt64 - 96) := by
  intro _
  have h1 := h (by omega)
  have h2 := wv_lt (bA f n) s (nx - s) (fun i hi => ha (s + i) (by omega) (by omega))
  have h3 : 32 ^ (nx - s) ≤ 32 ^ 11 := Nat.pow_le_pow_right (by decide) (by omega)
  obtain ⟨e1, e2⟩ := bA_n (f := f) hn
  have h4 := kO_2.mp hk
  have h5 : 97 ≤ (bA f n nx).toNatClampNeg := by
    show 97 ≤ (bA f n nx).toInt.toNat
    omega
  have h6 := ofNat_step (W := wv (bA f n) s (nx - s)) (m := 32) (d := 96) (q := (bA f n nx).toNatClampNeg) (by omega) e2 (by omega) (by omega)
  rw [← e1] at h6
  rw [show nx + 1 - s = nx - s + 1 by omega]
  show _ = Int64.ofNat (32 * wv (bA f n) s (nx - s) + ((bA f n (s + (nx - s))).toNatClampNeg - 96))
  rw [show s + (nx - s) = nx by omega, ← h6, h1]
  rfl
theorem NvR_s {f : Nat → Int32} {n s nx : Nat} {va : Int64} (h : NvR (bA f n) s nx va) (hs : s ≤ nx) (hl : nx - s < 6) (ha : ∀ i, s ≤ i → i < nx → kO (bA f n i) = 3) (hk : kO (bA f n nx) = 3) (hn : nx < n) : NvR (bA f n) s (nx + 1) (va * 10 + (bA f n nx).toInt64 - 48) := by
  intro _
  have h1 := h (by omega)
  have h2 := nv_lt (bA f n) s (nx - s) (fun i hi => ha (s + i) (by omega) (by omega))
  have h3 : 10 ^ (nx - s) ≤ 10 ^ 5 := Nat.pow_le_pow_right (by decide) (by omega)
  obtain ⟨e1, e2⟩ := bA_n (f := f) hn
  have h4 := kO_3.mp hk
  have h5 : 48 ≤ (bA f n nx).toNatClampNeg := by
    show 48 ≤ (bA f n nx).toInt.toNat
    omega
  have h6 := ofNat_step (W := nv (bA f n) s (nx - s)) (m := 10) (d := 48) (q := (bA f n nx).toNatClampNeg) (by omega) e2 (by omega) (by omega)
  rw [← e1] at h6
  rw [show nx + 1 - s = nx - s + 1 by omega]
  show _ = Int64.ofNat (10 * nv (bA f n) s (nx - s) + ((bA f n (s + (nx - s))).toNatClampNeg - 48))
  rw [show s + (nx - s) = nx by omega, ← h6, h1]
  rfl

theorem hu_X12_byteAt_X12 : ∀ w ∈ u_ws RX12 TX12 54, w ∈ wsX12_byteAt := fun _ h => List.mem_cons_of_mem _ (List.mem_append_left _ (List.mem_append_right _ (h)))

theorem hv_X12_byteAt_441 : Cond.fieldLink RX12 441 "FlowExporterModel" (TX12 46).2.1 (TX12 46).2.2.1 ∈ wsX12_byteAt := List.mem_cons_of_mem _ (List.mem_append_left _ (List.mem_append_left _ (List.mem_of_getElem? (i := 0) rfl)))

theorem hv_X12_byteAt_88 : Cond.fieldLink RX12 88 "FlowExporterModel" (TX12 45).2.1 (TX12 45).2.2.1 ∈ wsX12_byteAt := List.mem_cons_of_mem _ (List.mem_append_left _ (List.mem_append_left _ (List.mem_of_getElem? (i := 1) rfl)))

set_option maxHeartbeats 4000000 in
set_option maxRecDepth 100000 in
theorem r_byteAt (G : EnvG) (l : Launch) (Φ : Hm) (sz x : Nat) (rd : (Nat → Int32) → Prop) (fl : Nat) (pe : Nat) (le : Nat) (nx : Nat) (il : Nat) (qu : Nat) (kn : Int32) (ec : Int32) (nu : Int32) (va : Int64) (st : Nat) (ep : Int32) (fB : Nat → Int32) (i : Nat) (hx : G.2.2.2 ≤ x) (hI : Im G x (rd, NN, fl, pe, le, nx, il, qu, kn, ec, nu, va, st, ep) Φ) (hc0 : Φ (x + 25) = some (ab_ G 700 fB)) (hi : i ≤ 701) : Ct G l yX12_byteAt wsX12_byteAt ({ frames := 0, cells := 0, slots := 0, locals := 0 }) 0 0 [.ref x, .int (nI i)] Φ sz (fun v Φ1 sz1 => (v = some (.int (bA fB il i))) ∧ sz1 = sz ∧ (Im G x (rd, NN, fl, pe, le, nx, il, qu, kn, ec, nu, va, st, ep) Φ1) ∧ Fr x (fun j9 => False) Φ Φ1) := by
  refine Ct.of (cc := cX12_byteAt) (maxL := 2) (ret := (some .int)) (by decide) rfl (Nat.le_of_ble_eq_true rfl) ?_
  intro p9 e9 s9 m9 w9 t9 k9 B
  show Z p9 l e9 _ s9 m9 _ w9 t9 k9 _ G 2 0 [(0, .ref x), (1, .int (nI i))] [] Φ sz 0 0
  refine z_iload_n B dX12_byteAt_0 rfl 1 rfl ?_
  refine z_aload_n B dX12_byteAt_1 rfl 0 rfl ?_
  obtain ⟨v_1, v_2, v_3, n_1, v_4, v_5, v_6, v_7, v_8, v_9, v_10, v_11, v_12, n_2, v_13, n_3, n_4, h_1, b_13, b_1, b_2, b_3, b_4, b_5, b_6, b_7, b_8, b_9, b_10, b_11, b_12⟩ := im0 hI
  replace b_1 : 1 ≤ n_1 := b_1
  replace b_2 : n_1 ≤ 1024 := b_2
  replace b_3 : fl ≤ 12 := b_3
  replace b_4 : pe ≤ 24 := b_4
  replace b_5 : le ≤ 700 := b_5
  replace b_6 : qu ≤ 12 := b_6
  replace b_7 : n_2 ≤ 8 := b_7
  replace b_8 : n_3 ≤ 24 := b_8
  replace b_9 : n_4 ≤ 24 := b_9
  replace b_10 : il ≤ 700 := b_10
  replace b_11 : nx ≤ 701 := b_11
  replace b_12 : st ≤ 701 := b_12
  have h_2 : Φ x = some (o_ 14 [.int v_1, .ref (x + 1), .ref (x + 2), .int v_2, .int v_3, .int (nI n_1), .int v_4, .int v_5, .ref (x + 3), .ref (x + 4), .int v_6, .long v_7, .ref (x + 5), .int (nI fl), .int v_8, .long v_9, .long v_10, .long v_11, .long v_12, .ref (x + 6), .ref (x + 7), .int (nI pe), .ref (x + 8), .int (nI le), .ref (x + 9), .ref (x + 10), .int (nI qu), .ref (x + 11), .ref (x + 12), .ref (x + 13), .ref (x + 14), .ref (x + 15), .ref (x + 16), .int (nI n_2), .long v_13, .ref (x + 17), .ref (x + 18), .ref (x + 19), .ref (x + 20), .ref (x + 21), .ref (x + 22), .int (nI n_3), .ref (x + 23), .ref (x + 24), .int (nI n_4), .ref (x + 25), .int (nI il), .int (nI nx), .int ec, .int ep, .int kn, .int (nI st), .int nu, .long va]) := h_1
  refine z_get (ref := "FlowExporterModel") (C := RX12) (T := TX12) (N := 54) (ci := 14) (v := .int (nI il)) B hu_X12_byteAt_X12 rfl 46 (Nat.le_of_ble_eq_true rfl) hv_X12_byteAt_441 rfl h_2 rfl dX12_byteAt_2 ?_
  refine z_icmp_ge (tgt := 21) B dX12_byteAt_5 rfl (fun c_1 => ?_) (fun c_1 => ?_)
  · have e_1 : il ≤ i := (nI_leI (a := il) (b := i) (by omega) (by omega)).mp c_1
    refine z_iconst (v := (-1)) B dX12_byteAt_21 rfl ?_
    exact z_ret_i B dX12_byteAt_22 ⟨(show some (Value.int (-1)) = some (.int (bA fB il i)) by unfold bA; rw [if_neg (by omega)]), rfl, hI, (fun b9 h9 => rfl)⟩
  · have e_2 : ¬ (il ≤ i) := fun h9 => c_1 ((nI_leI (a := il) (b := i) (by omega) (by omega)).mpr h9)
    refine z_aload_n B dX12_byteAt_8 rfl 0 rfl ?_
    refine z_get (ref := "FlowExporterModel") (C := RX12) (T := TX12) (N := 54) (ci := 14) (v := .ref (x + 25)) B hu_X12_byteAt_X12 rfl 45 (Nat.le_of_ble_eq_true rfl) hv_X12_byteAt_88 rfl h_2 rfl dX12_byteAt_9 ?_
    refine z_iload_n B dX12_byteAt_12 rfl 1 rfl ?_
    refine z_bald B hc0 (vp_in_nI (by omega) (by omega)) dX12_byteAt_13 ?_
    refine z_sipush (v := 255) B dX12_byteAt_14 rfl ?_
    refine z_iand B dX12_byteAt_17 ?_
    refine z_goto (tgt := 22) B dX12_byteAt_18 rfl ?_
    exact z_ret_i B dX12_byteAt_22 ⟨(show some (Value.int ((fB (nI i).toNatClampNeg) &&& 255)) = some (.int (bA fB il i)) by rw [nI_clamp (by omega)]; unfold bA; rw [if_pos (by omega)]), rfl, hI, (fun b9 h9 => rfl)⟩

theorem bA_k {f : Nat → Int32} {n i k : Nat} (hk : 1 ≤ k) (h : kO (bA f n i) = k) : i < n := Nat.lt_of_not_le (fun hc => by rw [kO_hi hc] at h; omega)

set_option maxHeartbeats 4000000 in
set_option maxRecDepth 100000 in
theorem r_isLetter (G : EnvG) (l : Launch) (Φ : Hm) (sz x : Nat) (rd : (Nat → Int32) → Prop) (fl : Nat) (pe : Nat) (le : Nat) (nx : Nat) (il : Nat) (qu : Nat) (kn : Int32) (ec : Int32) (nu : Int32) (va : Int64) (st : Nat) (ep : Int32) (a : Int32) (hx : G.2.2.2 ≤ x) (hI : Im G x (rd, NN, fl, pe, le, nx, il, qu, kn, ec, nu, va, st, ep) Φ)  : Ct G l yX12_isLetter wsX12_isLetter ({ frames := 1, cells := 0, slots := 0, locals := 25 }) 0 0 [.int a] Φ sz (fun v Φ1 sz1 => ((v = some (.int 0) ∧ ¬ kO a = 2) ∨ (v = some (.int 1) ∧ kO a = 2)) ∧ sz1 = sz ∧ (Im G x (rd, NN, fl, pe, le, nx, il, qu, kn, ec, nu, va, st, ep) Φ1) ∧ Fr x (fun j9 => False) Φ Φ1) := by
  refine Ct.of (cc := cX12_isLetter) (maxL := 1) (ret := (some .boolean)) (by decide) rfl (Nat.le_of_ble_eq_true rfl) ?_
  intro p9 e9 s9 m9 w9 t9 k9 B
  show Z p9 l e9 _ s9 m9 _ w9 t9 k9 _ G 1 0 [(0, .int a)] [] Φ sz 0 0
  refine z_iload_n B dX12_isLetter_0 rfl 0 rfl ?_
  refine z_i2l (v := a.toInt64) B dX12_isLetter_1 rfl ?_
  refine z_ldc2 (v := 97) B (by decide +kernel) dX12_isLetter_2 ?_
  refine z_ldc2 (v := 122) B (by decide +kernel) dX12_isLetter_5 ?_
  by_cases hR1 : inP a.toInt64 97 122
  · obtain ⟨n_1, e_1, e_2, e_3, rfl⟩ := in_get (L := 97) (H := 122) (by decide) (by decide) hR1
    refine z_callS (As := [.long ((nI n_1).toInt64), .long 97, .long 122]) (rest := []) B (c_inR1 G l Φ sz ((nI n_1).toInt64) 97 122 hR1 (fun v8 Φ8 sz8 => v8 = some (.int 1) ∧ sz8 = sz ∧ Im G x (rd, NN, fl, pe, le, nx, il, qu, kn, ec, nu, va, st, ep) Φ8 ∧ Fr x (fun j9 => False) Φ Φ8) ⟨rfl, rfl, hI, fun _ _ => rfl⟩) (va_cwS 3 B.1.2.2.2.2 gX12_isLetter_X12_inRange rfl rfl rfl (by decide +kernel) ⟨Nat.le_of_ble_eq_true rfl, Nat.le_of_ble_eq_true rfl⟩) rfl rfl (Nat.le_of_ble_eq_true rfl) dX12_isLetter_8 ⟨Nat.le_of_ble_eq_true rfl, Nat.le_of_ble_eq_true rfl⟩ (fun r_1 Φ1 sz1 st1 hp1 hs1 => ?_)
    obtain ⟨rfl, hq1, hI1, hF1⟩ := hp1
    subst sz1
    replace hs1 : st1 = [.int 1] := hs1
    subst st1
    exact z_ret_z B dX12_isLetter_11 (by decide) ⟨(Or.inr ⟨rfl, kO_L.mp hR1⟩), rfl, hI1, (fun b9 h9 => ((hF1 b9 (fun j9 h8 h7 => (show False from h7).elim)).trans rfl))⟩
  · refine z_callS (As := [.long a.toInt64, .long 97, .long 122]) (rest := []) B (c_inR0 G l Φ sz a.toInt64 97 122 hR1 (fun v8 Φ8 sz8 => v8 = some (.int 0) ∧ sz8 = sz ∧ Im G x (rd, NN, fl, pe, le, nx, il, qu, kn, ec, nu, va, st, ep) Φ8 ∧ Fr x (fun j9 => False) Φ Φ8) ⟨rfl, rfl, hI, fun _ _ => rfl⟩) (va_cwS 3 B.1.2.2.2.2 gX12_isLetter_X12_inRange rfl rfl rfl (by decide +kernel) ⟨Nat.le_of_ble_eq_true rfl, Nat.le_of_ble_eq_true rfl⟩) rfl rfl (Nat.le_of_ble_eq_true rfl) dX12_isLetter_8 ⟨Nat.le_of_ble_eq_true rfl, Nat.le_of_ble_eq_true rfl⟩ (fun r_2 Φ2 sz2 st2 hp2 hs2 => ?_)
    obtain ⟨rfl, hq2, hI2, hF2⟩ := hp2
    subst sz2
    replace hs2 : st2 = [.int 0] := hs2
    subst st2
    exact z_ret_z B dX12_isLetter_11 (by decide) ⟨(Or.inl ⟨rfl, fun h9 => hR1 (kO_L.mpr h9)⟩), rfl, hI2, (fun b9 h9 => ((hF2 b9 (fun j9 h8 h7 => (show False from h7).elim)).trans rfl))⟩

set_option maxHeartbeats 4000000 in
set_option maxRecDepth 100000 in
theorem r_isDigit (G : EnvG) (l : Launch) (Φ : Hm) (sz x : Nat) (rd : (Nat → Int32) → Prop) (fl : Nat) (pe : Nat) (le : Nat) (nx : Nat) (il : Nat) (qu : Nat) (kn : Int32) (ec : Int32) (nu : Int32) (va : Int64) (st : Nat) (ep : Int32) (a : Int32) (hx : G.2.2.2 ≤ x) (hI : Im G x (rd, NN, fl, pe, le, nx, il, qu, kn, ec, nu, va, st, ep) Φ)  : Ct G l yX12_isDigit wsX12_isDigit ({ frames := 1, cells := 0, slots := 0, locals := 25 }) 0 0 [.int a] Φ sz (fun v Φ1 sz1 => ((v = some (.int 0) ∧ ¬ kO a = 3) ∨ (v = some (.int 1) ∧ kO a = 3)) ∧ sz1 = sz ∧ (Im G x (rd, NN, fl, pe, le, nx, il, qu, kn, ec, nu, va, st, ep) Φ1) ∧ Fr x (fun j9 => False) Φ Φ1) := by
  refine Ct.of (cc := cX12_isDigit) (maxL := 1) (ret := (some .boolean)) (by decide) rfl (Nat.le_of_ble_eq_true rfl) ?_
  intro p9 e9 s9 m9 w9 t9 k9 B
  show Z p9 l e9 _ s9 m9 _ w9 t9 k9 _ G 1 0 [(0, .int a)] [] Φ sz 0 0
  refine z_iload_n B dX12_isDigit_0 rfl 0 rfl ?_
  refine z_i2l (v := a.toInt64) B dX12_isDigit_1 rfl ?_
  refine z_ldc2 (v := 48) B (by decide +kernel) dX12_isDigit_2 ?_
  refine z_ldc2 (v := 57) B (by decide +kernel) dX12_isDigit_5 ?_
  by_cases hR1 : inP a.toInt64 48 57
  · obtain ⟨n_1, e_1, e_2, e_3, rfl⟩ := in_get (L := 48) (H := 57) (by decide) (by decide) hR1
    refine z_callS (As := [.long ((nI n_1).toInt64), .long 48, .long 57]) (rest := []) B (c_inR1 G l Φ sz ((nI n_1).toInt64) 48 57 hR1 (fun v8 Φ8 sz8 => v8 = some (.int 1) ∧ sz8 = sz ∧ Im G x (rd, NN, fl, pe, le, nx, il, qu, kn, ec, nu, va, st, ep) Φ8 ∧ Fr x (fun j9 => False) Φ Φ8) ⟨rfl, rfl, hI, fun _ _ => rfl⟩) (va_cwS 3 B.1.2.2.2.2 gX12_isDigit_X12_inRange rfl rfl rfl (by decide +kernel) ⟨Nat.le_of_ble_eq_true rfl, Nat.le_of_ble_eq_true rfl⟩) rfl rfl (Nat.le_of_ble_eq_true rfl) dX12_isDigit_8 ⟨Nat.le_of_ble_eq_true rfl, Nat.le_of_ble_eq_true rfl⟩ (fun r_1 Φ1 sz1 st1 hp1 hs1 => ?_)
    obtain ⟨rfl, hq1, hI1, hF1⟩ := hp1
    subst sz1
    replace hs1 : st1 = [.int 1] := hs1
    subst st1
    exact z_ret_z B dX12_isDigit_11 (by decide) ⟨(Or.inr ⟨rfl, kO_D.mp hR1⟩), rfl, hI1, (fun b9 h9 => ((hF1 b9 (fun j9 h8 h7 => (show False from h7).elim)).trans rfl))⟩
  · refine z_callS (As := [.long a.toInt64, .long 48, .long 57]) (rest := []) B (c_inR0 G l Φ sz a.toInt64 48 57 hR1 (fun v8 Φ8 sz8 => v8 = some (.int 0) ∧ sz8 = sz ∧ Im G x (rd, NN, fl, pe, le, nx, il, qu, kn, ec, nu, va, st, ep) Φ8 ∧ Fr x (fun j9 => False) Φ Φ8) ⟨rfl, rfl, hI, fun _ _ => rfl⟩) (va_cwS 3 B.1.2.2.2.2 gX12_isDigit_X12_inRange rfl rfl rfl (by decide +kernel) ⟨Nat.le_of_ble_eq_true rfl, Nat.le_of_ble_eq_true rfl⟩) rfl rfl (Nat.le_of_ble_eq_true rfl) dX12_isDigit_8 ⟨Nat.le_of_ble_eq_true rfl, Nat.le_of_ble_eq_true rfl⟩ (fun r_2 Φ2 sz2 st2 hp2 hs2 => ?_)
    obtain ⟨rfl, hq2, hI2, hF2⟩ := hp2
    subst sz2
    replace hs2 : st2 = [.int 0] := hs2
    subst st2
    exact z_ret_z B dX12_isDigit_11 (by decide) ⟨(Or.inl ⟨rfl, fun h9 => hR1 (kO_D.mpr h9)⟩), rfl, hI2, (fun b9 h9 => ((hF2 b9 (fun j9 h8 h7 => (show False from h7).elim)).trans rfl))⟩

theorem bA_z {f : Nat → Int32} {n i : Nat} (h : kO (bA f n i) = 0) : n ≤ i := by
  refine Nat.le_of_not_lt (fun hc => ?_)
  have h1 := kO_0.mp h
  obtain ⟨q, hq, e⟩ := bA_and (f := f) hc
  rw [e] at h1
  have h8 := congrArg Int32.toInt h1
  rw [nI_toInt (by omega), show (-1 : Int32).toInt = -1 from by decide] at h8
  omega

theorem hu_X12_advanceToken_X12 : ∀ w ∈ u_ws RX12 TX12 54, w ∈ wsX12_advanceToken := fun _ h => List.mem_cons_of_mem _ (List.mem_append_left _ (List.mem_append_right _ (h)))

theorem hv_X12_advanceToken_458 : Cond.fieldLink RX12 458 "FlowExporterModel" (TX12 47).2.1 (TX12 47).2.2.1 ∈ wsX12_advanceToken := List.mem_cons_of_mem _ (List.mem_append_left _ (List.mem_append_left _ (List.mem_append_left _ (List.mem_of_getElem? (i := 0) rfl))))

theorem fq_1086 {x : Nat} : ∀ j9 : Nat, x + 25 = x + j9 → (j9 = 0) → False := by
  intro j9 h1 h2
  omega

theorem hv_X12_advanceToken_464 : Cond.fieldLink RX12 464 "FlowExporterModel" (TX12 51).2.1 (TX12 51).2.2.1 ∈ wsX12_advanceToken := List.mem_cons_of_mem _ (List.mem_append_left _ (List.mem_append_left _ (List.mem_append_left _ (List.mem_of_getElem? (i := 1) rfl))))

theorem hv_X12_advanceToken_467 : Cond.fieldLink RX12 467 "FlowExporterModel" (TX12 53).2.1 (TX12 53).2.2.1 ∈ wsX12_advanceToken := List.mem_cons_of_mem _ (List.mem_append_left _ (List.mem_append_left _ (List.mem_append_left _ (List.mem_of_getElem? (i := 2) rfl))))

theorem hv_X12_advanceToken_476 : Cond.fieldLink RX12 476 "FlowExporterModel" (TX12 50).2.1 (TX12 50).2.2.1 ∈ wsX12_advanceToken := List.mem_cons_of_mem _ (List.mem_append_left _ (List.mem_append_left _ (List.mem_append_left _ (List.mem_of_getElem? (i := 3) rfl))))

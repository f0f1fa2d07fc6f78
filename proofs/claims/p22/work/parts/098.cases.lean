set_option maxHeartbeats 4000000 in
set_option maxRecDepth 100000 in
theorem lc_8 {p9 : Program} {e9 : Env} {s9 : State} {m9 : MethodId} {a9 : Array Value} {w9 : List Frame} {t9 : Method} {k9 : Code} {Q9 : State → Prop} {nm9 : String} (G : EnvG) (l : Launch) (hl9 : l.stackTraces = false) {d0 : Drawn} (hd0 : s9.drawn.sameBut d0 lw_cs) (B : Bd p9 (s9.setDrawn d0) m9 a9 t9 k9 G code 9 RL wsL_law ret nm9) (Φ : Hm) (sz b L i : Nat) (xs : Nat → Int32) (hX : va_X b L xs (s9.setDrawn d0) (s9.setDrawn d0).heap) (hbn : b < G.2.2.2) (hL : L ≤ 3584) (hi : i + 7 ≤ L) (x y o d ca cells slots : Nat) (hna : G.2.2.2 ≤ x) (hD : Ds x y o d) (hca : ca ≤ 10000) (hcl : cells ≤ 8000) (hsl : slots ≤ 80000) (hJ : JJ G x y o d ca Φ) (hT : ∀ (d1 : Drawn), s9.drawn.sameBut d1 lw_cs → ∀ (Φ1 : Hm) (sz1 : Nat), JJ G x y o d (ca + 12) Φ1 → Z p9 l e9 room_1 (s9.setDrawn d1) m9 a9 w9 t9 k9 Q9 G 9 1994 [(5, .int (nI i)), (4, .ref d), (3, .ref o), (2, .ref y), (1, .ref x), (0, .ref b)] [] Φ1 sz1 (cells + 2) (slots + 12)) : Z p9 l e9 room_1 (s9.setDrawn d0) m9 a9 w9 t9 k9 Q9 G 9 612 [(5, .int (nI i)), (4, .ref d), (3, .ref o), (2, .ref y), (1, .ref x), (0, .ref b)] [] Φ sz cells slots := by
  obtain ⟨n, f, g, co, po, nw, aq, ob, c, hJ, hEq⟩ := hJ
  refine z_aload_n B dL_law_612 rfl 4 rfl ?_
  refine z_aload_n B dL_law_613 rfl 5 rfl ?_
  refine z_iload B dL_law_614 0 rfl ?_
  refine z_iconst (v := 1) B dL_law_616 rfl ?_
  refine z_iadd B dL_law_617 ?_
  refine z_sald B hX hbn (vinL (n := 1) rfl (by omega) hL) dL_law_618 ?_
  refine z_aload_n B dL_law_619 rfl 2 rfl ?_
  obtain ⟨fo, hco⟩ := hJ.2.2.1
  obtain ⟨rt0, dw0, xp0, xb0, sm0, un0, hE0⟩ := hJ.2.2.2.2.2.2.2.1
  refine z_callSW (As := [.ref x, .int (xs (nI i + 1).toNatClampNeg), .ref o]) (rest := []) B (w_advance G l hl9 Φ sz x ca nw rt0 dw0 aq xp0 xb0 ob sm0 un0 (xs (nI i + 1).toNatClampNeg) o fo hna (by have := hD.1; have := hD.2.1; have := hD.2.2; omega) (fun j hj => by have := hD.1; have := hD.2.1; have := hD.2.2; omega) hJ.1 hco hE0 (JK.aq hJ)) (vx_cwSW 3 B.1.2.2.2.2 gL_law_L_advance rfl rfl rfl (by decide +kernel) ⟨Nat.le_of_ble_eq_true rfl, Nat.le_of_ble_eq_true rfl⟩) rfl rfl (Nat.le_of_ble_eq_true rfl) dL_law_620 (rmL (by omega) (by omega) (by decide) (by decide)) (fun v1 Φ1 sz1 st1 hp1 hs1 => ?_)
  obtain ⟨⟨r1, rfl⟩, ⟨hI1, ho1, hf1⟩, hX1⟩ := hp1
  replace hs1 : st1 = [.int r1] := hs1
  subst st1
  obtain ⟨q1, hC1, hw1⟩ := xq_advance hX1
  have hJ1 : JK G x y o d (ca) n f co po q1 aq ob c n g co po nw aq ob c Φ1 := ⟨hI1, JM.eq hJ.2.1 (fun k hk => hf1 (y + k) (fun j hj => by replace hj : 46 ≤ j ∧ j < 95 := hj; have := hD.1; have := hD.2.1; have := hD.2.2; omega) (by have := hD.1; have := hD.2.1; have := hD.2.2; omega)), ho1, ⟨_, (hf1 d (fun j hj => by replace hj : 46 ≤ j ∧ j < 95 := hj; have := hD.1; have := hD.2.1; have := hD.2.2; omega) (by have := hD.1; have := hD.2.1; have := hD.2.2; omega)).trans (Classical.choose_spec hJ.2.2.2.1)⟩, (hf1 (x + 1) (fun j hj => by replace hj : 46 ≤ j ∧ j < 95 := hj; have := hD.1; have := hD.2.1; have := hD.2.2; omega) (by have := hD.1; have := hD.2.1; have := hD.2.2; omega)).trans hJ.2.2.2.2.1, (hf1 (x + 2) (fun j hj => by replace hj : 46 ≤ j ∧ j < 95 := hj; have := hD.1; have := hD.2.1; have := hD.2.2; omega) (by have := hD.1; have := hD.2.1; have := hD.2.2; omega)).trans hJ.2.2.2.2.2.1, C24.eq hJ.2.2.2.2.2.2.1 (hf1 (x + 24) (fun j hj => by replace hj : 46 ≤ j ∧ j < 95 := hj; have := hD.1; have := hD.2.1; have := hD.2.2; omega) (by have := hD.1; have := hD.2.1; have := hD.2.2; omega)), hC1, CfC.eq hJ.2.2.2.2.2.2.2.2 (fun k9 q1 q2 => hf1 (x + k9) (fun j hj => by replace hj : 46 ≤ j ∧ j < 95 := hj; have := hD.1; have := hD.2.1; have := hD.2.2; omega) (by have := hD.1; have := hD.2.1; have := hD.2.2; omega))⟩
  refine z_istore (lv' := [(6, .int r1), (5, .int (nI i)), (4, .ref d), (3, .ref o), (2, .ref y), (1, .ref x), (0, .ref b)]) B dL_law_623 (Nat.le_of_ble_eq_true rfl) rfl ?_
  refine z_aload_n B dL_law_625 rfl 4 rfl ?_
  refine z_aload_n B dL_law_626 rfl 6 rfl ?_
  refine z_iload B dL_law_627 1 rfl ?_
  refine z_iconst (v := 1) B dL_law_629 rfl ?_
  refine z_iadd B dL_law_630 ?_
  refine z_sald B hX hbn (vinL (n := 1) rfl (by omega) hL) dL_law_631 ?_
  obtain ⟨⟨rd, fl, le, nx, qu, kn, nu, va, st, hM⟩, hg0⟩ := hJ1.2.1
  obtain ⟨fs, hy0⟩ := JM.obj hJ1.2.1
  refine z_callV (As := [.int (xs (nI i + 1).toNatClampNeg)]) (rest := []) B (r_advance G l Φ1 sz1 y rd (NNq c) fl le nx n qu kn co nu va st po nw aq ob  (xs (nI i + 1).toNatClampNeg) (by have := hD.1; omega) hM  (fun f9 h9 => h9.1)) (cwV 1 B.1.2.2.2.2 gL_law_X12_advance rfl rfl rfl (by decide +kernel) ⟨Nat.le_of_ble_eq_true rfl, Nat.le_of_ble_eq_true rfl⟩) hy0 rfl rfl rfl rfl (Nat.le_of_ble_eq_true rfl) dL_law_632 (rmL (by omega) (by omega) (by decide) (by decide)) (fun v2 Φ2 sz2 st2 hp2 hs2 => ?_)
  obtain ⟨⟨r2, rfl⟩, hz2, ⟨fl1_, le1_, qu1_, ti1_, hR2_0, hM2⟩, hF2⟩ := hp2
  have hg2 := (hF2 (y + 25) (fun j q hj => by replace hj : j = 0 ∨ j = 3 ∨ j = 4 ∨ j = 5 ∨ j = 6 ∨ j = 7 ∨ j = 8 ∨ j = 9 ∨ j = 10 := hj; have := hD.1; have := hD.2.1; have := hD.2.2; omega)).trans hg0
  subst sz2
  replace hs2 : st2 = [.int r2] := hs2
  subst st2
  have hJ2 : JK G x y o d (ca) n f co po q1 aq ob c n g co po ti1_ aq ob c Φ2 := ⟨In.eq hJ1.1 (fun k hk => hF2 (x + k) (fun j q hj => by replace hj : j = 0 ∨ j = 3 ∨ j = 4 ∨ j = 5 ∨ j = 6 ∨ j = 7 ∨ j = 8 ∨ j = 9 ∨ j = 10 := hj; have := hD.1; have := hD.2.1; have := hD.2.2; omega)), ⟨⟨_, _, _, _, _, _, _, _, _, hM2⟩, hg2⟩, ⟨_, (hF2 (o) (fun j q hj => by replace hj : j = 0 ∨ j = 3 ∨ j = 4 ∨ j = 5 ∨ j = 6 ∨ j = 7 ∨ j = 8 ∨ j = 9 ∨ j = 10 := hj; have := hD.1; have := hD.2.1; have := hD.2.2; omega)).trans (Classical.choose_spec hJ1.2.2.1)⟩, ⟨_, (hF2 (d) (fun j q hj => by replace hj : j = 0 ∨ j = 3 ∨ j = 4 ∨ j = 5 ∨ j = 6 ∨ j = 7 ∨ j = 8 ∨ j = 9 ∨ j = 10 := hj; have := hD.1; have := hD.2.1; have := hD.2.2; omega)).trans (Classical.choose_spec hJ1.2.2.2.1)⟩, (hF2 (x + 1) (fun j q hj => by replace hj : j = 0 ∨ j = 3 ∨ j = 4 ∨ j = 5 ∨ j = 6 ∨ j = 7 ∨ j = 8 ∨ j = 9 ∨ j = 10 := hj; have := hD.1; have := hD.2.1; have := hD.2.2; omega)).trans hJ1.2.2.2.2.1, (hF2 (x + 2) (fun j q hj => by replace hj : j = 0 ∨ j = 3 ∨ j = 4 ∨ j = 5 ∨ j = 6 ∨ j = 7 ∨ j = 8 ∨ j = 9 ∨ j = 10 := hj; have := hD.1; have := hD.2.1; have := hD.2.2; omega)).trans hJ1.2.2.2.2.2.1, C24.eq hJ1.2.2.2.2.2.2.1 (hF2 (x + 24) (fun j q hj => by replace hj : j = 0 ∨ j = 3 ∨ j = 4 ∨ j = 5 ∨ j = 6 ∨ j = 7 ∨ j = 8 ∨ j = 9 ∨ j = 10 := hj; have := hD.1; have := hD.2.1; have := hD.2.2; omega)), C80.eq hJ1.2.2.2.2.2.2.2.1 (hF2 (x + 80) (fun j q hj => by replace hj : j = 0 ∨ j = 3 ∨ j = 4 ∨ j = 5 ∨ j = 6 ∨ j = 7 ∨ j = 8 ∨ j = 9 ∨ j = 10 := hj; have := hD.1; have := hD.2.1; have := hD.2.2; omega)), CfC.eq hJ1.2.2.2.2.2.2.2.2 (fun k9 q1 q2 => hF2 (x + k9) (fun j q hj => by replace hj : j = 0 ∨ j = 3 ∨ j = 4 ∨ j = 5 ∨ j = 6 ∨ j = 7 ∨ j = 8 ∨ j = 9 ∨ j = 10 := hj; have := hD.1; have := hD.2.1; have := hD.2.2; omega))⟩
  refine z_istore (lv' := [(7, .int r2), (6, .int r1), (5, .int (nI i)), (4, .ref d), (3, .ref o), (2, .ref y), (1, .ref x), (0, .ref b)]) B dL_law_635 (Nat.le_of_ble_eq_true rfl) rfl ?_
  refine z_goto (tgt := 1994) B dL_law_637 rfl ?_
  refine z_lv [2, 3, 4, 5, 6, 7] rfl ?_
  refine z_widen (k := cells + 2) (n := slots + 12) (by omega) (by omega) ?_
  exact hT _ hd0 Φ2 sz1 (JJ.of (JK.up hJ2 (by omega)) rfl rfl rfl (fin_nw hw1 hR2_0) rfl rfl rfl hEq)

set_option maxHeartbeats 4000000 in
set_option maxRecDepth 100000 in
theorem lc_9 {p9 : Program} {e9 : Env} {s9 : State} {m9 : MethodId} {a9 : Array Value} {w9 : List Frame} {t9 : Method} {k9 : Code} {Q9 : State → Prop} {nm9 : String} (G : EnvG) (l : Launch) (hl9 : l.stackTraces = false) {d0 : Drawn} (hd0 : s9.drawn.sameBut d0 lw_cs) (B : Bd p9 (s9.setDrawn d0) m9 a9 t9 k9 G code 9 RL wsL_law ret nm9) (Φ : Hm) (sz b L i : Nat) (xs : Nat → Int32) (hX : va_X b L xs (s9.setDrawn d0) (s9.setDrawn d0).heap) (hbn : b < G.2.2.2) (hL : L ≤ 3584) (hi : i + 7 ≤ L) (x y o d ca cells slots : Nat) (hna : G.2.2.2 ≤ x) (hD : Ds x y o d) (hca : ca ≤ 10000) (hcl : cells ≤ 8000) (hsl : slots ≤ 80000) (hJ : JJ G x y o d ca Φ) (hT : ∀ (d1 : Drawn), s9.drawn.sameBut d1 lw_cs → ∀ (Φ1 : Hm) (sz1 : Nat), JJ G x y o d (ca + 12) Φ1 → Z p9 l e9 room_1 (s9.setDrawn d1) m9 a9 w9 t9 k9 Q9 G 9 1994 [(5, .int (nI i)), (4, .ref d), (3, .ref o), (2, .ref y), (1, .ref x), (0, .ref b)] [] Φ1 sz1 (cells + 2) (slots + 12)) : Z p9 l e9 room_1 (s9.setDrawn d0) m9 a9 w9 t9 k9 Q9 G 9 640 [(5, .int (nI i)), (4, .ref d), (3, .ref o), (2, .ref y), (1, .ref x), (0, .ref b)] [] Φ sz cells slots := by
  obtain ⟨n, f, g, co, po, nw, aq, ob, c, hJ, hEq⟩ := hJ
  refine z_aload_n B dL_law_640 rfl 4 rfl ?_
  have h0 : Φ x = some (o_ 13 [.ref (x + 1), .ref (x + 3), .ref (x + 24), .ref (x + 46), .ref (x + 74), .ref (x + 80), .ref (x + 132), .ref (x + 121)]) := in0 (k := 0) hJ.1 rfl
  obtain ⟨rt0, dw0, xp0, xb0, sm0, un0, hE0⟩ := hJ.2.2.2.2.2.2.2.1
  refine z_callV (As := []) (rest := []) B (s_X11_flush G l Φ sz x ca nw rt0 dw0 aq xp0 xb0 ob sm0 un0 hna hJ.1 hE0 (JK.aq hJ)) (cwV 0 B.1.2.2.2.2 gL_law_X11_flush rfl rfl rfl (by decide +kernel) ⟨Nat.le_of_ble_eq_true rfl, Nat.le_of_ble_eq_true rfl⟩) h0 rfl rfl rfl rfl (Nat.le_of_ble_eq_true rfl) dL_law_641 (rmL (by omega) (by omega) (by decide) (by decide)) (fun v1 Φ1 sz1 st1 hp1 hs1 => ?_)
  obtain ⟨⟨⟨r1, rfl, hb1⟩, xp1_, un1_, hE1⟩, hz1, hI1, hF1⟩ := hp1
  subst sz1
  replace hs1 : st1 = [.int (nI r1)] := hs1
  subst st1
  have hJ1 : JK G x y o d (ca) n f co po nw aq ob c n g co po nw aq ob c Φ1 := ⟨hI1, JM.eq hJ.2.1 (fun k hk => hF1 (y + k) (fun j q hj => by replace hj : 46 ≤ j ∧ j < 95 := hj; have := hD.1; have := hD.2.1; have := hD.2.2; omega)), ⟨_, (hF1 (o) (fun j q hj => by replace hj : 46 ≤ j ∧ j < 95 := hj; have := hD.1; have := hD.2.1; have := hD.2.2; omega)).trans (Classical.choose_spec hJ.2.2.1)⟩, ⟨_, (hF1 (d) (fun j q hj => by replace hj : 46 ≤ j ∧ j < 95 := hj; have := hD.1; have := hD.2.1; have := hD.2.2; omega)).trans (Classical.choose_spec hJ.2.2.2.1)⟩, (hF1 (x + 1) (fun j q hj => by replace hj : 46 ≤ j ∧ j < 95 := hj; have := hD.1; have := hD.2.1; have := hD.2.2; omega)).trans hJ.2.2.2.2.1, (hF1 (x + 2) (fun j q hj => by replace hj : 46 ≤ j ∧ j < 95 := hj; have := hD.1; have := hD.2.1; have := hD.2.2; omega)).trans hJ.2.2.2.2.2.1, C24.eq hJ.2.2.2.2.2.2.1 (hF1 (x + 24) (fun j q hj => by replace hj : 46 ≤ j ∧ j < 95 := hj; have := hD.1; have := hD.2.1; have := hD.2.2; omega)), ⟨_, _, _, _, _, _, hE1⟩, CfC.eq hJ.2.2.2.2.2.2.2.2 (fun k9 q1 q2 => hF1 (x + k9) (fun j q hj => by replace hj : 46 ≤ j ∧ j < 95 := hj; have := hD.1; have := hD.2.1; have := hD.2.2; omega))⟩
  refine z_pop B dL_law_644 rfl ?_
  refine z_aload_n B dL_law_645 rfl 3 rfl ?_
  obtain ⟨⟨rd, fl, le, nx, qu, kn, nu, va, st, hM⟩, hg0⟩ := hJ1.2.1
  obtain ⟨fs, hy0⟩ := JM.obj hJ1.2.1
  refine z_callV (As := []) (rest := []) B (r_flush G l Φ1 sz y rd (NNq c) fl le nx n qu kn co nu va st po nw aq ob   (by have := hD.1; omega) hM  (fun f9 h9 => h9.1)) (cwV 0 B.1.2.2.2.2 gL_law_X12_flush rfl rfl rfl (by decide +kernel) ⟨Nat.le_of_ble_eq_true rfl, Nat.le_of_ble_eq_true rfl⟩) hy0 rfl rfl rfl rfl (Nat.le_of_ble_eq_true rfl) dL_law_646 (rmL (by omega) (by omega) (by decide) (by decide)) (fun v2 Φ2 sz2 st2 hp2 hs2 => ?_)
  obtain ⟨⟨r2, rfl⟩, hz2, ⟨fl1_, le1_, qu1_, hM2⟩, hF2⟩ := hp2
  have hg2 := (hF2 (y + 25) (fun j q hj => by replace hj : j = 0 ∨ j = 3 ∨ j = 4 ∨ j = 5 ∨ j = 6 ∨ j = 7 ∨ j = 8 ∨ j = 9 ∨ j = 10 := hj; have := hD.1; have := hD.2.1; have := hD.2.2; omega)).trans hg0
  subst sz2
  replace hs2 : st2 = [.int r2] := hs2
  subst st2
  have hJ2 : JK G x y o d (ca) n f co po nw aq ob c n g co po nw aq ob c Φ2 := ⟨In.eq hJ1.1 (fun k hk => hF2 (x + k) (fun j q hj => by replace hj : j = 0 ∨ j = 3 ∨ j = 4 ∨ j = 5 ∨ j = 6 ∨ j = 7 ∨ j = 8 ∨ j = 9 ∨ j = 10 := hj; have := hD.1; have := hD.2.1; have := hD.2.2; omega)), ⟨⟨_, _, _, _, _, _, _, _, _, hM2⟩, hg2⟩, ⟨_, (hF2 (o) (fun j q hj => by replace hj : j = 0 ∨ j = 3 ∨ j = 4 ∨ j = 5 ∨ j = 6 ∨ j = 7 ∨ j = 8 ∨ j = 9 ∨ j = 10 := hj; have := hD.1; have := hD.2.1; have := hD.2.2; omega)).trans (Classical.choose_spec hJ1.2.2.1)⟩, ⟨_, (hF2 (d) (fun j q hj => by replace hj : j = 0 ∨ j = 3 ∨ j = 4 ∨ j = 5 ∨ j = 6 ∨ j = 7 ∨ j = 8 ∨ j = 9 ∨ j = 10 := hj; have := hD.1; have := hD.2.1; have := hD.2.2; omega)).trans (Classical.choose_spec hJ1.2.2.2.1)⟩, (hF2 (x + 1) (fun j q hj => by replace hj : j = 0 ∨ j = 3 ∨ j = 4 ∨ j = 5 ∨ j = 6 ∨ j = 7 ∨ j = 8 ∨ j = 9 ∨ j = 10 := hj; have := hD.1; have := hD.2.1; have := hD.2.2; omega)).trans hJ1.2.2.2.2.1, (hF2 (x + 2) (fun j q hj => by replace hj : j = 0 ∨ j = 3 ∨ j = 4 ∨ j = 5 ∨ j = 6 ∨ j = 7 ∨ j = 8 ∨ j = 9 ∨ j = 10 := hj; have := hD.1; have := hD.2.1; have := hD.2.2; omega)).trans hJ1.2.2.2.2.2.1, C24.eq hJ1.2.2.2.2.2.2.1 (hF2 (x + 24) (fun j q hj => by replace hj : j = 0 ∨ j = 3 ∨ j = 4 ∨ j = 5 ∨ j = 6 ∨ j = 7 ∨ j = 8 ∨ j = 9 ∨ j = 10 := hj; have := hD.1; have := hD.2.1; have := hD.2.2; omega)), C80.eq hJ1.2.2.2.2.2.2.2.1 (hF2 (x + 80) (fun j q hj => by replace hj : j = 0 ∨ j = 3 ∨ j = 4 ∨ j = 5 ∨ j = 6 ∨ j = 7 ∨ j = 8 ∨ j = 9 ∨ j = 10 := hj; have := hD.1; have := hD.2.1; have := hD.2.2; omega)), CfC.eq hJ1.2.2.2.2.2.2.2.2 (fun k9 q1 q2 => hF2 (x + k9) (fun j q hj => by replace hj : j = 0 ∨ j = 3 ∨ j = 4 ∨ j = 5 ∨ j = 6 ∨ j = 7 ∨ j = 8 ∨ j = 9 ∨ j = 10 := hj; have := hD.1; have := hD.2.1; have := hD.2.2; omega))⟩
  refine z_pop B dL_law_649 rfl ?_
  refine z_goto (tgt := 1994) B dL_law_650 rfl ?_
  refine z_widen (k := cells + 2) (n := slots + 12) (by omega) (by omega) ?_
  exact hT _ hd0 Φ2 sz (JJ.of (JK.up hJ2 (by omega)) rfl rfl rfl rfl rfl rfl rfl hEq)

set_option maxHeartbeats 4000000 in
set_option maxRecDepth 100000 in
theorem lc_10 {p9 : Program} {e9 : Env} {s9 : State} {m9 : MethodId} {a9 : Array Value} {w9 : List Frame} {t9 : Method} {k9 : Code} {Q9 : State → Prop} {nm9 : String} (G : EnvG) (l : Launch) (hl9 : l.stackTraces = false) {d0 : Drawn} (hd0 : s9.drawn.sameBut d0 lw_cs) (B : Bd p9 (s9.setDrawn d0) m9 a9 t9 k9 G code 9 RL wsL_law ret nm9) (Φ : Hm) (sz b L i : Nat) (xs : Nat → Int32) (hX : va_X b L xs (s9.setDrawn d0) (s9.setDrawn d0).heap) (hbn : b < G.2.2.2) (hL : L ≤ 3584) (hi : i + 7 ≤ L) (x y o d ca cells slots : Nat) (hna : G.2.2.2 ≤ x) (hD : Ds x y o d) (hca : ca ≤ 10000) (hcl : cells ≤ 8000) (hsl : slots ≤ 80000) (hJ : JJ G x y o d ca Φ) (hT : ∀ (d1 : Drawn), s9.drawn.sameBut d1 lw_cs → ∀ (Φ1 : Hm) (sz1 : Nat), JJ G x y o d (ca + 12) Φ1 → Z p9 l e9 room_1 (s9.setDrawn d1) m9 a9 w9 t9 k9 Q9 G 9 1994 [(5, .int (nI i)), (4, .ref d), (3, .ref o), (2, .ref y), (1, .ref x), (0, .ref b)] [] Φ1 sz1 (cells + 2) (slots + 12)) : Z p9 l e9 room_1 (s9.setDrawn d0) m9 a9 w9 t9 k9 Q9 G 9 653 [(5, .int (nI i)), (4, .ref d), (3, .ref o), (2, .ref y), (1, .ref x), (0, .ref b)] [] Φ sz cells slots := by
  obtain ⟨n, f, g, co, po, nw, aq, ob, c, hJ, hEq⟩ := hJ
  refine z_aload_n B dL_law_653 rfl 4 rfl ?_
  have h0 : Φ x = some (o_ 13 [.ref (x + 1), .ref (x + 3), .ref (x + 24), .ref (x + 46), .ref (x + 74), .ref (x + 80), .ref (x + 132), .ref (x + 121)]) := in0 (k := 0) hJ.1 rfl
  refine z_callV (As := []) (rest := []) B (s_X11_cacheSize G l Φ sz x ca  hna hJ.1  ) (cwV 0 B.1.2.2.2.2 gL_law_X11_cacheSize rfl rfl rfl (by decide +kernel) ⟨Nat.le_of_ble_eq_true rfl, Nat.le_of_ble_eq_true rfl⟩) h0 rfl rfl rfl rfl (Nat.le_of_ble_eq_true rfl) dL_law_654 (rmL (by omega) (by omega) (by decide) (by decide)) (fun v1 Φ1 sz1 st1 hp1 hs1 => ?_)
  obtain ⟨⟨r1, rfl⟩, hz1, hI1, hF1⟩ := hp1
  subst sz1
  replace hs1 : st1 = [.int r1] := hs1
  subst st1
  have hJ1 : JK G x y o d (ca) n f co po nw aq ob c n g co po nw aq ob c Φ1 := ⟨hI1, JM.eq hJ.2.1 (fun k hk => hF1 (y + k) (fun j q hj => (show False from hj).elim)), ⟨_, (hF1 (o) (fun j q hj => (show False from hj).elim)).trans (Classical.choose_spec hJ.2.2.1)⟩, ⟨_, (hF1 (d) (fun j q hj => (show False from hj).elim)).trans (Classical.choose_spec hJ.2.2.2.1)⟩, (hF1 (x + 1) (fun j q hj => (show False from hj).elim)).trans hJ.2.2.2.2.1, (hF1 (x + 2) (fun j q hj => (show False from hj).elim)).trans hJ.2.2.2.2.2.1, C24.eq hJ.2.2.2.2.2.2.1 (hF1 (x + 24) (fun j q hj => (show False from hj).elim)), C80.eq hJ.2.2.2.2.2.2.2.1 (hF1 (x + 80) (fun j q hj => (show False from hj).elim)), CfC.eq hJ.2.2.2.2.2.2.2.2 (fun k9 q1 q2 => hF1 (x + k9) (fun j q hj => (show False from hj).elim))⟩
  refine z_pop B dL_law_657 rfl ?_
  refine z_aload_n B dL_law_658 rfl 3 rfl ?_
  obtain ⟨⟨rd, fl, le, nx, qu, kn, nu, va, st, hM⟩, hg0⟩ := hJ1.2.1
  obtain ⟨fs, hy0⟩ := JM.obj hJ1.2.1
  refine z_callV (As := []) (rest := []) B (r_cacheSize G l Φ1 sz y rd (NNq c) fl 0 le nx n qu kn co nu va st po nw aq ob   (by have := hD.1; omega) hM  (fun f9 h9 => h9.1)) (cwV 0 B.1.2.2.2.2 gL_law_X12_cacheSize rfl rfl rfl (by decide +kernel) ⟨Nat.le_of_ble_eq_true rfl, Nat.le_of_ble_eq_true rfl⟩) hy0 rfl rfl rfl rfl (Nat.le_of_ble_eq_true rfl) dL_law_659 (rmL (by omega) (by omega) (by decide) (by decide)) (fun v2 Φ2 sz2 st2 hp2 hs2 => ?_)
  obtain ⟨⟨r2, rfl⟩, hz2, hM2, hF2⟩ := hp2
  have hg2 := (hF2 (y + 25) (fun j q hj => by replace hj : j = 0 := hj; have := hD.1; have := hD.2.1; have := hD.2.2; omega)).trans hg0
  subst sz2
  replace hs2 : st2 = [.int r2] := hs2
  subst st2
  have hJ2 : JK G x y o d (ca) n f co po nw aq ob c n g co po nw aq ob c Φ2 := ⟨In.eq hJ1.1 (fun k hk => hF2 (x + k) (fun j q hj => by replace hj : j = 0 := hj; have := hD.1; have := hD.2.1; have := hD.2.2; omega)), ⟨⟨_, _, _, _, _, _, _, _, _, hM2⟩, hg2⟩, ⟨_, (hF2 (o) (fun j q hj => by replace hj : j = 0 := hj; have := hD.1; have := hD.2.1; have := hD.2.2; omega)).trans (Classical.choose_spec hJ1.2.2.1)⟩, ⟨_, (hF2 (d) (fun j q hj => by replace hj : j = 0 := hj; have := hD.1; have := hD.2.1; have := hD.2.2; omega)).trans (Classical.choose_spec hJ1.2.2.2.1)⟩, (hF2 (x + 1) (fun j q hj => by replace hj : j = 0 := hj; have := hD.1; have := hD.2.1; have := hD.2.2; omega)).trans hJ1.2.2.2.2.1, (hF2 (x + 2) (fun j q hj => by replace hj : j = 0 := hj; have := hD.1; have := hD.2.1; have := hD.2.2; omega)).trans hJ1.2.2.2.2.2.1, C24.eq hJ1.2.2.2.2.2.2.1 (hF2 (x + 24) (fun j q hj => by replace hj : j = 0 := hj; have := hD.1; have := hD.2.1; have := hD.2.2; omega)), C80.eq hJ1.2.2.2.2.2.2.2.1 (hF2 (x + 80) (fun j q hj => by replace hj : j = 0 := hj; have := hD.1; have := hD.2.1; have := hD.2.2; omega)), CfC.eq hJ1.2.2.2.2.2.2.2.2 (fun k9 q1 q2 => hF2 (x + k9) (fun j q hj => by replace hj : j = 0 := hj; have := hD.1; have := hD.2.1; have := hD.2.2; omega))⟩
  refine z_pop B dL_law_662 rfl ?_
  refine z_goto (tgt := 1994) B dL_law_663 rfl ?_
  refine z_widen (k := cells + 2) (n := slots + 12) (by omega) (by omega) ?_
  exact hT _ hd0 Φ2 sz (JJ.of (JK.up hJ2 (by omega)) rfl rfl rfl rfl rfl rfl rfl hEq)

set_option maxHeartbeats 4000000 in
set_option maxRecDepth 100000 in
theorem lc_11 {p9 : Program} {e9 : Env} {s9 : State} {m9 : MethodId} {a9 : Array Value} {w9 : List Frame} {t9 : Method} {k9 : Code} {Q9 : State → Prop} {nm9 : String} (G : EnvG) (l : Launch) (hl9 : l.stackTraces = false) {d0 : Drawn} (hd0 : s9.drawn.sameBut d0 lw_cs) (B : Bd p9 (s9.setDrawn d0) m9 a9 t9 k9 G code 9 RL wsL_law ret nm9) (Φ : Hm) (sz b L i : Nat) (xs : Nat → Int32) (hX : va_X b L xs (s9.setDrawn d0) (s9.setDrawn d0).heap) (hbn : b < G.2.2.2) (hL : L ≤ 3584) (hi : i + 7 ≤ L) (x y o d ca cells slots : Nat) (hna : G.2.2.2 ≤ x) (hD : Ds x y o d) (hca : ca ≤ 10000) (hcl : cells ≤ 8000) (hsl : slots ≤ 80000) (hJ : JJ G x y o d ca Φ) (hT : ∀ (d1 : Drawn), s9.drawn.sameBut d1 lw_cs → ∀ (Φ1 : Hm) (sz1 : Nat), JJ G x y o d (ca + 12) Φ1 → Z p9 l e9 room_1 (s9.setDrawn d1) m9 a9 w9 t9 k9 Q9 G 9 1994 [(5, .int (nI i)), (4, .ref d), (3, .ref o), (2, .ref y), (1, .ref x), (0, .ref b)] [] Φ1 sz1 (cells + 2) (slots + 12)) : Z p9 l e9 room_1 (s9.setDrawn d0) m9 a9 w9 t9 k9 Q9 G 9 666 [(5, .int (nI i)), (4, .ref d), (3, .ref o), (2, .ref y), (1, .ref x), (0, .ref b)] [] Φ sz cells slots := by
  obtain ⟨n, f, g, co, po, nw, aq, ob, c, hJ, hEq⟩ := hJ
  refine z_aload_n B dL_law_666 rfl 4 rfl ?_
  refine z_aload_n B dL_law_667 rfl 5 rfl ?_
  refine z_iload B dL_law_668 0 rfl ?_
  refine z_iconst (v := 1) B dL_law_670 rfl ?_
  refine z_iadd B dL_law_671 ?_
  refine z_sald B hX hbn (vinL (n := 1) rfl (by omega) hL) dL_law_672 ?_
  refine z_aload_n B dL_law_673 rfl 5 rfl ?_
  refine z_iload B dL_law_674 0 rfl ?_
  refine z_iconst (v := 2) B dL_law_676 rfl ?_
  refine z_iadd B dL_law_677 ?_
  refine z_sald B hX hbn (vinL (n := 2) rfl (by omega) hL) dL_law_678 ?_
  refine z_aload_n B dL_law_679 rfl 2 rfl ?_
  obtain ⟨fo, hco⟩ := hJ.2.2.1
  refine z_callSW (As := [.ref x, .int (xs (nI i + 1).toNatClampNeg), .int (xs (nI i + 2).toNatClampNeg), .ref o]) (rest := []) B (w_cached G l hl9 Φ sz x ca (xs (nI i + 1).toNatClampNeg) (xs (nI i + 2).toNatClampNeg) o fo hna (by have := hD.1; have := hD.2.1; have := hD.2.2; omega) (fun j hj => by have := hD.1; have := hD.2.1; have := hD.2.2; omega) hJ.1 hco ) (vx_cwSW 4 B.1.2.2.2.2 gL_law_L_cached rfl rfl rfl (by decide +kernel) ⟨Nat.le_of_ble_eq_true rfl, Nat.le_of_ble_eq_true rfl⟩) rfl rfl (Nat.le_of_ble_eq_true rfl) dL_law_680 (rmL (by omega) (by omega) (by decide) (by decide)) (fun v1 Φ1 sz1 st1 hp1 hs1 => ?_)
  obtain ⟨⟨r1, rfl⟩, hI1, ho1, hf1⟩ := hp1
  replace hs1 : st1 = [.int r1] := hs1
  subst st1
  have hJ1 : JK G x y o d (ca) n f co po nw aq ob c n g co po nw aq ob c Φ1 := ⟨hI1, JM.eq hJ.2.1 (fun k hk => hf1 (y + k) (fun j hj => (show False from hj).elim) (by have := hD.1; have := hD.2.1; have := hD.2.2; omega)), ho1, ⟨_, (hf1 d (fun j hj => (show False from hj).elim) (by have := hD.1; have := hD.2.1; have := hD.2.2; omega)).trans (Classical.choose_spec hJ.2.2.2.1)⟩, (hf1 (x + 1) (fun j hj => (show False from hj).elim) (by have := hD.1; have := hD.2.1; have := hD.2.2; omega)).trans hJ.2.2.2.2.1, (hf1 (x + 2) (fun j hj => (show False from hj).elim) (by have := hD.1; have := hD.2.1; have := hD.2.2; omega)).trans hJ.2.2.2.2.2.1, C24.eq hJ.2.2.2.2.2.2.1 (hf1 (x + 24) (fun j hj => (show False from hj).elim) (by have := hD.1; have := hD.2.1; have := hD.2.2; omega)), C80.eq hJ.2.2.2.2.2.2.2.1 (hf1 (x + 80) (fun j hj => (show False from hj).elim) (by have := hD.1; have := hD.2.1; have := hD.2.2; omega)), CfC.eq hJ.2.2.2.2.2.2.2.2 (fun k9 q1 q2 => hf1 (x + k9) (fun j hj => (show False from hj).elim) (by have := hD.1; have := hD.2.1; have := hD.2.2; omega))⟩
  refine z_istore (lv' := [(6, .int r1), (5, .int (nI i)), (4, .ref d), (3, .ref o), (2, .ref y), (1, .ref x), (0, .ref b)]) B dL_law_683 (Nat.le_of_ble_eq_true rfl) rfl ?_
  refine z_aload_n B dL_law_685 rfl 4 rfl ?_
  refine z_aload_n B dL_law_686 rfl 6 rfl ?_
  refine z_iload B dL_law_687 1 rfl ?_
  refine z_iconst (v := 1) B dL_law_689 rfl ?_
  refine z_iadd B dL_law_690 ?_
  refine z_sald B hX hbn (vinL (n := 1) rfl (by omega) hL) dL_law_691 ?_
  refine z_aload_n B dL_law_692 rfl 6 rfl ?_
  refine z_iload B dL_law_693 1 rfl ?_
  refine z_iconst (v := 2) B dL_law_695 rfl ?_
  refine z_iadd B dL_law_696 ?_
  refine z_sald B hX hbn (vinL (n := 2) rfl (by omega) hL) dL_law_697 ?_
  obtain ⟨⟨rd, fl, le, nx, qu, kn, nu, va, st, hM⟩, hg0⟩ := hJ1.2.1
  obtain ⟨fs, hy0⟩ := JM.obj hJ1.2.1
  refine z_callV (As := [.int (xs (nI i + 1).toNatClampNeg), .int (xs (nI i + 2).toNatClampNeg)]) (rest := []) B (r_cached G l Φ1 sz1 y rd (NNq c) fl 0 le nx n qu kn co nu va st po nw aq ob  (xs (nI i + 1).toNatClampNeg) (xs (nI i + 2).toNatClampNeg) (by have := hD.1; omega) hM  (fun f9 h9 => h9.1)) (cwV 2 B.1.2.2.2.2 gL_law_X12_cached rfl rfl rfl (by decide +kernel) ⟨Nat.le_of_ble_eq_true rfl, Nat.le_of_ble_eq_true rfl⟩) hy0 rfl rfl rfl rfl (Nat.le_of_ble_eq_true rfl) dL_law_698 (rmL (by omega) (by omega) (by decide) (by decide)) (fun v2 Φ2 sz2 st2 hp2 hs2 => ?_)
  obtain ⟨⟨r2, rfl⟩, hz2, hM2, hF2⟩ := hp2
  have hg2 := (hF2 (y + 25) (fun j q hj => by replace hj : j = 0 := hj; have := hD.1; have := hD.2.1; have := hD.2.2; omega)).trans hg0
  subst sz2
  replace hs2 : st2 = [.long r2] := hs2
  subst st2
  have hJ2 : JK G x y o d (ca) n f co po nw aq ob c n g co po nw aq ob c Φ2 := ⟨In.eq hJ1.1 (fun k hk => hF2 (x + k) (fun j q hj => by replace hj : j = 0 := hj; have := hD.1; have := hD.2.1; have := hD.2.2; omega)), ⟨⟨_, _, _, _, _, _, _, _, _, hM2⟩, hg2⟩, ⟨_, (hF2 (o) (fun j q hj => by replace hj : j = 0 := hj; have := hD.1; have := hD.2.1; have := hD.2.2; omega)).trans (Classical.choose_spec hJ1.2.2.1)⟩, ⟨_, (hF2 (d) (fun j q hj => by replace hj : j = 0 := hj; have := hD.1; have := hD.2.1; have := hD.2.2; omega)).trans (Classical.choose_spec hJ1.2.2.2.1)⟩, (hF2 (x + 1) (fun j q hj => by replace hj : j = 0 := hj; have := hD.1; have := hD.2.1; have := hD.2.2; omega)).trans hJ1.2.2.2.2.1, (hF2 (x + 2) (fun j q hj => by replace hj : j = 0 := hj; have := hD.1; have := hD.2.1; have := hD.2.2; omega)).trans hJ1.2.2.2.2.2.1, C24.eq hJ1.2.2.2.2.2.2.1 (hF2 (x + 24) (fun j q hj => by replace hj : j = 0 := hj; have := hD.1; have := hD.2.1; have := hD.2.2; omega)), C80.eq hJ1.2.2.2.2.2.2.2.1 (hF2 (x + 80) (fun j q hj => by replace hj : j = 0 := hj; have := hD.1; have := hD.2.1; have := hD.2.2; omega)), CfC.eq hJ1.2.2.2.2.2.2.2.2 (fun k9 q1 q2 => hF2 (x + k9) (fun j q hj => by replace hj : j = 0 := hj; have := hD.1; have := hD.2.1; have := hD.2.2; omega))⟩
  refine z_lstore (lv' := [(7, .long r2), (6, .int r1), (5, .int (nI i)), (4, .ref d), (3, .ref o), (2, .ref y), (1, .ref x), (0, .ref b)]) B dL_law_701 (Nat.le_of_ble_eq_true rfl) rfl ?_
  refine z_goto (tgt := 1994) B dL_law_703 rfl ?_
  refine z_lv [2, 3, 4, 5, 6, 7] rfl ?_
  refine z_widen (k := cells + 2) (n := slots + 12) (by omega) (by omega) ?_
  exact hT _ hd0 Φ2 sz1 (JJ.of (JK.up hJ2 (by omega)) rfl rfl rfl rfl rfl rfl rfl hEq)

set_option maxHeartbeats 4000000 in
set_option maxRecDepth 100000 in
theorem lc_12 {p9 : Program} {e9 : Env} {s9 : State} {m9 : MethodId} {a9 : Array Value} {w9 : List Frame} {t9 : Method} {k9 : Code} {Q9 : State → Prop} {nm9 : String} (G : EnvG) (l : Launch) (hl9 : l.stackTraces = false) {d0 : Drawn} (hd0 : s9.drawn.sameBut d0 lw_cs) (B : Bd p9 (s9.setDrawn d0) m9 a9 t9 k9 G code 9 RL wsL_law ret nm9) (Φ : Hm) (sz b L i : Nat) (xs : Nat → Int32) (hX : va_X b L xs (s9.setDrawn d0) (s9.setDrawn d0).heap) (hbn : b < G.2.2.2) (hL : L ≤ 3584) (hi : i + 7 ≤ L) (x y o d ca cells slots : Nat) (hna : G.2.2.2 ≤ x) (hD : Ds x y o d) (hca : ca ≤ 10000) (hcl : cells ≤ 8000) (hsl : slots ≤ 80000) (hJ : JJ G x y o d ca Φ) (hT : ∀ (d1 : Drawn), s9.drawn.sameBut d1 lw_cs → ∀ (Φ1 : Hm) (sz1 : Nat), JJ G x y o d (ca + 12) Φ1 → Z p9 l e9 room_1 (s9.setDrawn d1) m9 a9 w9 t9 k9 Q9 G 9 1994 [(5, .int (nI i)), (4, .ref d), (3, .ref o), (2, .ref y), (1, .ref x), (0, .ref b)] [] Φ1 sz1 (cells + 2) (slots + 12)) : Z p9 l e9 room_1 (s9.setDrawn d0) m9 a9 w9 t9 k9 Q9 G 9 706 [(5, .int (nI i)), (4, .ref d), (3, .ref o), (2, .ref y), (1, .ref x), (0, .ref b)] [] Φ sz cells slots := by
  obtain ⟨n, f, g, co, po, nw, aq, ob, c, hJ, hEq⟩ := hJ
  refine z_aload_n B dL_law_706 rfl 4 rfl ?_
  have h0 : Φ x = some (o_ 13 [.ref (x + 1), .ref (x + 3), .ref (x + 24), .ref (x + 46), .ref (x + 74), .ref (x + 80), .ref (x + 132), .ref (x + 121)]) := in0 (k := 0) hJ.1 rfl
  refine z_callV (As := []) (rest := []) B (s_X11_rate G l Φ sz x ca  hna hJ.1  ) (cwV 0 B.1.2.2.2.2 gL_law_X11_rate rfl rfl rfl (by decide +kernel) ⟨Nat.le_of_ble_eq_true rfl, Nat.le_of_ble_eq_true rfl⟩) h0 rfl rfl rfl rfl (Nat.le_of_ble_eq_true rfl) dL_law_707 (rmL (by omega) (by omega) (by decide) (by decide)) (fun v1 Φ1 sz1 st1 hp1 hs1 => ?_)
  obtain ⟨⟨r1, rfl⟩, hz1, hI1, hF1⟩ := hp1
  subst sz1
  replace hs1 : st1 = [.int r1] := hs1
  subst st1
  have hJ1 : JK G x y o d (ca) n f co po nw aq ob c n g co po nw aq ob c Φ1 := ⟨hI1, JM.eq hJ.2.1 (fun k hk => hF1 (y + k) (fun j q hj => (show False from hj).elim)), ⟨_, (hF1 (o) (fun j q hj => (show False from hj).elim)).trans (Classical.choose_spec hJ.2.2.1)⟩, ⟨_, (hF1 (d) (fun j q hj => (show False from hj).elim)).trans (Classical.choose_spec hJ.2.2.2.1)⟩, (hF1 (x + 1) (fun j q hj => (show False from hj).elim)).trans hJ.2.2.2.2.1, (hF1 (x + 2) (fun j q hj => (show False from hj).elim)).trans hJ.2.2.2.2.2.1, C24.eq hJ.2.2.2.2.2.2.1 (hF1 (x + 24) (fun j q hj => (show False from hj).elim)), C80.eq hJ.2.2.2.2.2.2.2.1 (hF1 (x + 80) (fun j q hj => (show False from hj).elim)), CfC.eq hJ.2.2.2.2.2.2.2.2 (fun k9 q1 q2 => hF1 (x + k9) (fun j q hj => (show False from hj).elim))⟩
  refine z_pop B dL_law_710 rfl ?_
  refine z_aload_n B dL_law_711 rfl 3 rfl ?_
  obtain ⟨⟨rd, fl, le, nx, qu, kn, nu, va, st, hM⟩, hg0⟩ := hJ1.2.1
  obtain ⟨fs, hy0⟩ := JM.obj hJ1.2.1
  refine z_callV (As := []) (rest := []) B (r_rate G l Φ1 sz y rd (NNq c) fl 0 le nx n qu kn co nu va st po nw aq ob   (by have := hD.1; omega) hM  (fun f9 h9 => h9.1)) (cwV 0 B.1.2.2.2.2 gL_law_X12_rate rfl rfl rfl (by decide +kernel) ⟨Nat.le_of_ble_eq_true rfl, Nat.le_of_ble_eq_true rfl⟩) hy0 rfl rfl rfl rfl (Nat.le_of_ble_eq_true rfl) dL_law_712 (rmL (by omega) (by omega) (by decide) (by decide)) (fun v2 Φ2 sz2 st2 hp2 hs2 => ?_)
  obtain ⟨⟨r2, rfl⟩, hz2, hM2, hF2⟩ := hp2
  have hg2 := (hF2 (y + 25) (fun j q hj => by replace hj : j = 0 := hj; have := hD.1; have := hD.2.1; have := hD.2.2; omega)).trans hg0
  subst sz2
  replace hs2 : st2 = [.int r2] := hs2
  subst st2
  have hJ2 : JK G x y o d (ca) n f co po nw aq ob c n g co po nw aq ob c Φ2 := ⟨In.eq hJ1.1 (fun k hk => hF2 (x + k) (fun j q hj => by replace hj : j = 0 := hj; have := hD.1; have := hD.2.1; have := hD.2.2; omega)), ⟨⟨_, _, _, _, _, _, _, _, _, hM2⟩, hg2⟩, ⟨_, (hF2 (o) (fun j q hj => by replace hj : j = 0 := hj; have := hD.1; have := hD.2.1; have := hD.2.2; omega)).trans (Classical.choose_spec hJ1.2.2.1)⟩, ⟨_, (hF2 (d) (fun j q hj => by replace hj : j = 0 := hj; have := hD.1; have := hD.2.1; have := hD.2.2; omega)).trans (Classical.choose_spec hJ1.2.2.2.1)⟩, (hF2 (x + 1) (fun j q hj => by replace hj : j = 0 := hj; have := hD.1; have := hD.2.1; have := hD.2.2; omega)).trans hJ1.2.2.2.2.1, (hF2 (x + 2) (fun j q hj => by replace hj : j = 0 := hj; have := hD.1; have := hD.2.1; have := hD.2.2; omega)).trans hJ1.2.2.2.2.2.1, C24.eq hJ1.2.2.2.2.2.2.1 (hF2 (x + 24) (fun j q hj => by replace hj : j = 0 := hj; have := hD.1; have := hD.2.1; have := hD.2.2; omega)), C80.eq hJ1.2.2.2.2.2.2.2.1 (hF2 (x + 80) (fun j q hj => by replace hj : j = 0 := hj; have := hD.1; have := hD.2.1; have := hD.2.2; omega)), CfC.eq hJ1.2.2.2.2.2.2.2.2 (fun k9 q1 q2 => hF2 (x + k9) (fun j q hj => by replace hj : j = 0 := hj; have := hD.1; have := hD.2.1; have := hD.2.2; omega))⟩
  refine z_pop B dL_law_715 rfl ?_
  refine z_goto (tgt := 1994) B dL_law_716 rfl ?_
  refine z_widen (k := cells + 2) (n := slots + 12) (by omega) (by omega) ?_
  exact hT _ hd0 Φ2 sz (JJ.of (JK.up hJ2 (by omega)) rfl rfl rfl rfl rfl rfl rfl hEq)

set_option maxHeartbeats 4000000 in
set_option maxRecDepth 100000 in
theorem lc_13 {p9 : Program} {e9 : Env} {s9 : State} {m9 : MethodId} {a9 : Array Value} {w9 : List Frame} {t9 : Method} {k9 : Code} {Q9 : State → Prop} {nm9 : String} (G : EnvG) (l : Launch) (hl9 : l.stackTraces = false) {d0 : Drawn} (hd0 : s9.drawn.sameBut d0 lw_cs) (B : Bd p9 (s9.setDrawn d0) m9 a9 t9 k9 G code 9 RL wsL_law ret nm9) (Φ : Hm) (sz b L i : Nat) (xs : Nat → Int32) (hX : va_X b L xs (s9.setDrawn d0) (s9.setDrawn d0).heap) (hbn : b < G.2.2.2) (hL : L ≤ 3584) (hi : i + 7 ≤ L) (x y o d ca cells slots : Nat) (hna : G.2.2.2 ≤ x) (hD : Ds x y o d) (hca : ca ≤ 10000) (hcl : cells ≤ 8000) (hsl : slots ≤ 80000) (hJ : JJ G x y o d ca Φ) (hT : ∀ (d1 : Drawn), s9.drawn.sameBut d1 lw_cs → ∀ (Φ1 : Hm) (sz1 : Nat), JJ G x y o d (ca + 12) Φ1 → Z p9 l e9 room_1 (s9.setDrawn d1) m9 a9 w9 t9 k9 Q9 G 9 1994 [(5, .int (nI i)), (4, .ref d), (3, .ref o), (2, .ref y), (1, .ref x), (0, .ref b)] [] Φ1 sz1 (cells + 2) (slots + 12)) : Z p9 l e9 room_1 (s9.setDrawn d0) m9 a9 w9 t9 k9 Q9 G 9 719 [(5, .int (nI i)), (4, .ref d), (3, .ref o), (2, .ref y), (1, .ref x), (0, .ref b)] [] Φ sz cells slots := by
  obtain ⟨n, f, g, co, po, nw, aq, ob, c, hJ, hEq⟩ := hJ
  refine z_aload_n B dL_law_719 rfl 4 rfl ?_
  have h0 : Φ x = some (o_ 13 [.ref (x + 1), .ref (x + 3), .ref (x + 24), .ref (x + 46), .ref (x + 74), .ref (x + 80), .ref (x + 132), .ref (x + 121)]) := in0 (k := 0) hJ.1 rfl
  refine z_callV (As := []) (rest := []) B (s_X11_rateBits G l Φ sz x ca  hna hJ.1  ) (cwV 0 B.1.2.2.2.2 gL_law_X11_rateBits rfl rfl rfl (by decide +kernel) ⟨Nat.le_of_ble_eq_true rfl, Nat.le_of_ble_eq_true rfl⟩) h0 rfl rfl rfl rfl (Nat.le_of_ble_eq_true rfl) dL_law_720 (rmL (by omega) (by omega) (by decide) (by decide)) (fun v1 Φ1 sz1 st1 hp1 hs1 => ?_)
  obtain ⟨⟨r1, rfl⟩, hz1, hI1, hF1⟩ := hp1
  subst sz1
  replace hs1 : st1 = [.int r1] := hs1
  subst st1
  have hJ1 : JK G x y o d (ca) n f co po nw aq ob c n g co po nw aq ob c Φ1 := ⟨hI1, JM.eq hJ.2.1 (fun k hk => hF1 (y + k) (fun j q hj => (show False from hj).elim)), ⟨_, (hF1 (o) (fun j q hj => (show False from hj).elim)).trans (Classical.choose_spec hJ.2.2.1)⟩, ⟨_, (hF1 (d) (fun j q hj => (show False from hj).elim)).trans (Classical.choose_spec hJ.2.2.2.1)⟩, (hF1 (x + 1) (fun j q hj => (show False from hj).elim)).trans hJ.2.2.2.2.1, (hF1 (x + 2) (fun j q hj => (show False from hj).elim)).trans hJ.2.2.2.2.2.1, C24.eq hJ.2.2.2.2.2.2.1 (hF1 (x + 24) (fun j q hj => (show False from hj).elim)), C80.eq hJ.2.2.2.2.2.2.2.1 (hF1 (x + 80) (fun j q hj => (show False from hj).elim)), CfC.eq hJ.2.2.2.2.2.2.2.2 (fun k9 q1 q2 => hF1 (x + k9) (fun j q hj => (show False from hj).elim))⟩
  refine z_pop B dL_law_723 rfl ?_
  refine z_aload_n B dL_law_724 rfl 3 rfl ?_
  obtain ⟨⟨rd, fl, le, nx, qu, kn, nu, va, st, hM⟩, hg0⟩ := hJ1.2.1
  obtain ⟨fs, hy0⟩ := JM.obj hJ1.2.1
  refine z_callV (As := []) (rest := []) B (r_rateBits G l Φ1 sz y rd (NNq c) fl 0 le nx n qu kn co nu va st po nw aq ob   (by have := hD.1; omega) hM  (fun f9 h9 => h9.1)) (cwV 0 B.1.2.2.2.2 gL_law_X12_rateBits rfl rfl rfl (by decide +kernel) ⟨Nat.le_of_ble_eq_true rfl, Nat.le_of_ble_eq_true rfl⟩) hy0 rfl rfl rfl rfl (Nat.le_of_ble_eq_true rfl) dL_law_725 (rmL (by omega) (by omega) (by decide) (by decide)) (fun v2 Φ2 sz2 st2 hp2 hs2 => ?_)
  obtain ⟨⟨r2, rfl⟩, hz2, hM2, hF2⟩ := hp2
  have hg2 := (hF2 (y + 25) (fun j q hj => by replace hj : j = 0 := hj; have := hD.1; have := hD.2.1; have := hD.2.2; omega)).trans hg0
  subst sz2
  replace hs2 : st2 = [.int r2] := hs2
  subst st2
  have hJ2 : JK G x y o d (ca) n f co po nw aq ob c n g co po nw aq ob c Φ2 := ⟨In.eq hJ1.1 (fun k hk => hF2 (x + k) (fun j q hj => by replace hj : j = 0 := hj; have := hD.1; have := hD.2.1; have := hD.2.2; omega)), ⟨⟨_, _, _, _, _, _, _, _, _, hM2⟩, hg2⟩, ⟨_, (hF2 (o) (fun j q hj => by replace hj : j = 0 := hj; have := hD.1; have := hD.2.1; have := hD.2.2; omega)).trans (Classical.choose_spec hJ1.2.2.1)⟩, ⟨_, (hF2 (d) (fun j q hj => by replace hj : j = 0 := hj; have := hD.1; have := hD.2.1; have := hD.2.2; omega)).trans (Classical.choose_spec hJ1.2.2.2.1)⟩, (hF2 (x + 1) (fun j q hj => by replace hj : j = 0 := hj; have := hD.1; have := hD.2.1; have := hD.2.2; omega)).trans hJ1.2.2.2.2.1, (hF2 (x + 2) (fun j q hj => by replace hj : j = 0 := hj; have := hD.1; have := hD.2.1; have := hD.2.2; omega)).trans hJ1.2.2.2.2.2.1, C24.eq hJ1.2.2.2.2.2.2.1 (hF2 (x + 24) (fun j q hj => by replace hj : j = 0 := hj; have := hD.1; have := hD.2.1; have := hD.2.2; omega)), C80.eq hJ1.2.2.2.2.2.2.2.1 (hF2 (x + 80) (fun j q hj => by replace hj : j = 0 := hj; have := hD.1; have := hD.2.1; have := hD.2.2; omega)), CfC.eq hJ1.2.2.2.2.2.2.2.2 (fun k9 q1 q2 => hF2 (x + k9) (fun j q hj => by replace hj : j = 0 := hj; have := hD.1; have := hD.2.1; have := hD.2.2; omega))⟩
  refine z_pop B dL_law_728 rfl ?_
  refine z_goto (tgt := 1994) B dL_law_729 rfl ?_
  refine z_widen (k := cells + 2) (n := slots + 12) (by omega) (by omega) ?_
  exact hT _ hd0 Φ2 sz (JJ.of (JK.up hJ2 (by omega)) rfl rfl rfl rfl rfl rfl rfl hEq)

set_option maxHeartbeats 4000000 in
set_option maxRecDepth 100000 in
theorem lc_14 {p9 : Program} {e9 : Env} {s9 : State} {m9 : MethodId} {a9 : Array Value} {w9 : List Frame} {t9 : Method} {k9 : Code} {Q9 : State → Prop} {nm9 : String} (G : EnvG) (l : Launch) (hl9 : l.stackTraces = false) {d0 : Drawn} (hd0 : s9.drawn.sameBut d0 lw_cs) (B : Bd p9 (s9.setDrawn d0) m9 a9 t9 k9 G code 9 RL wsL_law ret nm9) (Φ : Hm) (sz b L i : Nat) (xs : Nat → Int32) (hX : va_X b L xs (s9.setDrawn d0) (s9.setDrawn d0).heap) (hbn : b < G.2.2.2) (hL : L ≤ 3584) (hi : i + 7 ≤ L) (x y o d ca cells slots : Nat) (hna : G.2.2.2 ≤ x) (hD : Ds x y o d) (hca : ca ≤ 10000) (hcl : cells ≤ 8000) (hsl : slots ≤ 80000) (hJ : JJ G x y o d ca Φ) (hT : ∀ (d1 : Drawn), s9.drawn.sameBut d1 lw_cs → ∀ (Φ1 : Hm) (sz1 : Nat), JJ G x y o d (ca + 12) Φ1 → Z p9 l e9 room_1 (s9.setDrawn d1) m9 a9 w9 t9 k9 Q9 G 9 1994 [(5, .int (nI i)), (4, .ref d), (3, .ref o), (2, .ref y), (1, .ref x), (0, .ref b)] [] Φ1 sz1 (cells + 2) (slots + 12)) : Z p9 l e9 room_1 (s9.setDrawn d0) m9 a9 w9 t9 k9 Q9 G 9 732 [(5, .int (nI i)), (4, .ref d), (3, .ref o), (2, .ref y), (1, .ref x), (0, .ref b)] [] Φ sz cells slots := by
  obtain ⟨n, f, g, co, po, nw, aq, ob, c, hJ, hEq⟩ := hJ
  refine z_aload_n B dL_law_732 rfl 4 rfl ?_
  refine z_aload_n B dL_law_733 rfl 5 rfl ?_
  refine z_iload B dL_law_734 0 rfl ?_
  refine z_iconst (v := 1) B dL_law_736 rfl ?_
  refine z_iadd B dL_law_737 ?_
  refine z_sald B hX hbn (vinL (n := 1) rfl (by omega) hL) dL_law_738 ?_
  have h0 : Φ x = some (o_ 13 [.ref (x + 1), .ref (x + 3), .ref (x + 24), .ref (x + 46), .ref (x + 74), .ref (x + 80), .ref (x + 132), .ref (x + 121)]) := in0 (k := 0) hJ.1 rfl
  obtain ⟨rt0, dw0, xp0, xb0, sm0, un0, hE0⟩ := hJ.2.2.2.2.2.2.2.1
  refine z_callV (As := [.int (xs (nI i + 1).toNatClampNeg)]) (rest := []) B (s_X11_setRate G l Φ sz x ca nw rt0 dw0 aq xp0 xb0 ob sm0 un0 (xs (nI i + 1).toNatClampNeg) hna hJ.1 hE0 (JK.aq hJ)) (cwV 1 B.1.2.2.2.2 gL_law_X11_setRate rfl rfl rfl (by decide +kernel) ⟨Nat.le_of_ble_eq_true rfl, Nat.le_of_ble_eq_true rfl⟩) h0 rfl rfl rfl rfl (Nat.le_of_ble_eq_true rfl) dL_law_739 (rmL (by omega) (by omega) (by decide) (by decide)) (fun v1 Φ1 sz1 st1 hp1 hs1 => ?_)
  obtain ⟨⟨⟨r1, rfl⟩, rt1_, xp1_, un1_, hE1⟩, hz1, hI1, hF1⟩ := hp1
  subst sz1
  replace hs1 : st1 = [.int r1] := hs1
  subst st1
  have hJ1 : JK G x y o d (ca) n f co po nw aq ob c n g co po nw aq ob c Φ1 := ⟨hI1, JM.eq hJ.2.1 (fun k hk => hF1 (y + k) (fun j q hj => by replace hj : 46 ≤ j ∧ j < 95 := hj; have := hD.1; have := hD.2.1; have := hD.2.2; omega)), ⟨_, (hF1 (o) (fun j q hj => by replace hj : 46 ≤ j ∧ j < 95 := hj; have := hD.1; have := hD.2.1; have := hD.2.2; omega)).trans (Classical.choose_spec hJ.2.2.1)⟩, ⟨_, (hF1 (d) (fun j q hj => by replace hj : 46 ≤ j ∧ j < 95 := hj; have := hD.1; have := hD.2.1; have := hD.2.2; omega)).trans (Classical.choose_spec hJ.2.2.2.1)⟩, (hF1 (x + 1) (fun j q hj => by replace hj : 46 ≤ j ∧ j < 95 := hj; have := hD.1; have := hD.2.1; have := hD.2.2; omega)).trans hJ.2.2.2.2.1, (hF1 (x + 2) (fun j q hj => by replace hj : 46 ≤ j ∧ j < 95 := hj; have := hD.1; have := hD.2.1; have := hD.2.2; omega)).trans hJ.2.2.2.2.2.1, C24.eq hJ.2.2.2.2.2.2.1 (hF1 (x + 24) (fun j q hj => by replace hj : 46 ≤ j ∧ j < 95 := hj; have := hD.1; have := hD.2.1; have := hD.2.2; omega)), ⟨_, _, _, _, _, _, hE1⟩, CfC.eq hJ.2.2.2.2.2.2.2.2 (fun k9 q1 q2 => hF1 (x + k9) (fun j q hj => by replace hj : 46 ≤ j ∧ j < 95 := hj; have := hD.1; have := hD.2.1; have := hD.2.2; omega))⟩
  refine z_pop B dL_law_742 rfl ?_
  refine z_aload_n B dL_law_743 rfl 3 rfl ?_
  refine z_aload_n B dL_law_744 rfl 5 rfl ?_
  refine z_iload B dL_law_745 0 rfl ?_
  refine z_iconst (v := 1) B dL_law_747 rfl ?_
  refine z_iadd B dL_law_748 ?_
  refine z_sald B hX hbn (vinL (n := 1) rfl (by omega) hL) dL_law_749 ?_
  obtain ⟨⟨rd, fl, le, nx, qu, kn, nu, va, st, hM⟩, hg0⟩ := hJ1.2.1
  obtain ⟨fs, hy0⟩ := JM.obj hJ1.2.1
  refine z_callV (As := [.int (xs (nI i + 1).toNatClampNeg)]) (rest := []) B (r_setRate G l Φ1 sz y rd (NNq c) fl le nx n qu kn co nu va st po nw aq ob  (xs (nI i + 1).toNatClampNeg) (by have := hD.1; omega) hM  (fun f9 h9 => h9.1)) (cwV 1 B.1.2.2.2.2 gL_law_X12_setRate rfl rfl rfl (by decide +kernel) ⟨Nat.le_of_ble_eq_true rfl, Nat.le_of_ble_eq_true rfl⟩) hy0 rfl rfl rfl rfl (Nat.le_of_ble_eq_true rfl) dL_law_750 (rmL (by omega) (by omega) (by decide) (by decide)) (fun v2 Φ2 sz2 st2 hp2 hs2 => ?_)
  obtain ⟨⟨r2, rfl⟩, hz2, ⟨fl1_, le1_, qu1_, hM2⟩, hF2⟩ := hp2
  have hg2 := (hF2 (y + 25) (fun j q hj => by replace hj : j = 0 ∨ j = 3 ∨ j = 4 ∨ j = 5 ∨ j = 6 ∨ j = 7 ∨ j = 8 ∨ j = 9 ∨ j = 10 := hj; have := hD.1; have := hD.2.1; have := hD.2.2; omega)).trans hg0
  subst sz2
  replace hs2 : st2 = [.int r2] := hs2
  subst st2
  have hJ2 : JK G x y o d (ca) n f co po nw aq ob c n g co po nw aq ob c Φ2 := ⟨In.eq hJ1.1 (fun k hk => hF2 (x + k) (fun j q hj => by replace hj : j = 0 ∨ j = 3 ∨ j = 4 ∨ j = 5 ∨ j = 6 ∨ j = 7 ∨ j = 8 ∨ j = 9 ∨ j = 10 := hj; have := hD.1; have := hD.2.1; have := hD.2.2; omega)), ⟨⟨_, _, _, _, _, _, _, _, _, hM2⟩, hg2⟩, ⟨_, (hF2 (o) (fun j q hj => by replace hj : j = 0 ∨ j = 3 ∨ j = 4 ∨ j = 5 ∨ j = 6 ∨ j = 7 ∨ j = 8 ∨ j = 9 ∨ j = 10 := hj; have := hD.1; have := hD.2.1; have := hD.2.2; omega)).trans (Classical.choose_spec hJ1.2.2.1)⟩, ⟨_, (hF2 (d) (fun j q hj => by replace hj : j = 0 ∨ j = 3 ∨ j = 4 ∨ j = 5 ∨ j = 6 ∨ j = 7 ∨ j = 8 ∨ j = 9 ∨ j = 10 := hj; have := hD.1; have := hD.2.1; have := hD.2.2; omega)).trans (Classical.choose_spec hJ1.2.2.2.1)⟩, (hF2 (x + 1) (fun j q hj => by replace hj : j = 0 ∨ j = 3 ∨ j = 4 ∨ j = 5 ∨ j = 6 ∨ j = 7 ∨ j = 8 ∨ j = 9 ∨ j = 10 := hj; have := hD.1; have := hD.2.1; have := hD.2.2; omega)).trans hJ1.2.2.2.2.1, (hF2 (x + 2) (fun j q hj => by replace hj : j = 0 ∨ j = 3 ∨ j = 4 ∨ j = 5 ∨ j = 6 ∨ j = 7 ∨ j = 8 ∨ j = 9 ∨ j = 10 := hj; have := hD.1; have := hD.2.1; have := hD.2.2; omega)).trans hJ1.2.2.2.2.2.1, C24.eq hJ1.2.2.2.2.2.2.1 (hF2 (x + 24) (fun j q hj => by replace hj : j = 0 ∨ j = 3 ∨ j = 4 ∨ j = 5 ∨ j = 6 ∨ j = 7 ∨ j = 8 ∨ j = 9 ∨ j = 10 := hj; have := hD.1; have := hD.2.1; have := hD.2.2; omega)), C80.eq hJ1.2.2.2.2.2.2.2.1 (hF2 (x + 80) (fun j q hj => by replace hj : j = 0 ∨ j = 3 ∨ j = 4 ∨ j = 5 ∨ j = 6 ∨ j = 7 ∨ j = 8 ∨ j = 9 ∨ j = 10 := hj; have := hD.1; have := hD.2.1; have := hD.2.2; omega)), CfC.eq hJ1.2.2.2.2.2.2.2.2 (fun k9 q1 q2 => hF2 (x + k9) (fun j q hj => by replace hj : j = 0 ∨ j = 3 ∨ j = 4 ∨ j = 5 ∨ j = 6 ∨ j = 7 ∨ j = 8 ∨ j = 9 ∨ j = 10 := hj; have := hD.1; have := hD.2.1; have := hD.2.2; omega))⟩
  refine z_pop B dL_law_753 rfl ?_
  refine z_goto (tgt := 1994) B dL_law_754 rfl ?_
  refine z_widen (k := cells + 2) (n := slots + 12) (by omega) (by omega) ?_
  exact hT _ hd0 Φ2 sz (JJ.of (JK.up hJ2 (by omega)) rfl rfl rfl rfl rfl rfl rfl hEq)

set_option maxHeartbeats 4000000 in
set_option maxRecDepth 100000 in
theorem lc_15 {p9 : Program} {e9 : Env} {s9 : State} {m9 : MethodId} {a9 : Array Value} {w9 : List Frame} {t9 : Method} {k9 : Code} {Q9 : State → Prop} {nm9 : String} (G : EnvG) (l : Launch) (hl9 : l.stackTraces = false) {d0 : Drawn} (hd0 : s9.drawn.sameBut d0 lw_cs) (B : Bd p9 (s9.setDrawn d0) m9 a9 t9 k9 G code 9 RL wsL_law ret nm9) (Φ : Hm) (sz b L i : Nat) (xs : Nat → Int32) (hX : va_X b L xs (s9.setDrawn d0) (s9.setDrawn d0).heap) (hbn : b < G.2.2.2) (hL : L ≤ 3584) (hi : i + 7 ≤ L) (x y o d ca cells slots : Nat) (hna : G.2.2.2 ≤ x) (hD : Ds x y o d) (hca : ca ≤ 10000) (hcl : cells ≤ 8000) (hsl : slots ≤ 80000) (hJ : JJ G x y o d ca Φ) (hT : ∀ (d1 : Drawn), s9.drawn.sameBut d1 lw_cs → ∀ (Φ1 : Hm) (sz1 : Nat), JJ G x y o d (ca + 12) Φ1 → Z p9 l e9 room_1 (s9.setDrawn d1) m9 a9 w9 t9 k9 Q9 G 9 1994 [(5, .int (nI i)), (4, .ref d), (3, .ref o), (2, .ref y), (1, .ref x), (0, .ref b)] [] Φ1 sz1 (cells + 2) (slots + 12)) : Z p9 l e9 room_1 (s9.setDrawn d0) m9 a9 w9 t9 k9 Q9 G 9 757 [(5, .int (nI i)), (4, .ref d), (3, .ref o), (2, .ref y), (1, .ref x), (0, .ref b)] [] Φ sz cells slots := by
  obtain ⟨n, f, g, co, po, nw, aq, ob, c, hJ, hEq⟩ := hJ
  refine z_aload_n B dL_law_757 rfl 4 rfl ?_
  refine z_aload_n B dL_law_758 rfl 5 rfl ?_
  refine z_iload B dL_law_759 0 rfl ?_
  refine z_iconst (v := 1) B dL_law_761 rfl ?_
  refine z_iadd B dL_law_762 ?_
  refine z_sald B hX hbn (vinL (n := 1) rfl (by omega) hL) dL_law_763 ?_
  refine z_if_eq (tgt := 771) B dL_law_764 rfl (fun c_1 => ?_) (fun c_1 => ?_)
  · refine z_iconst (v := 0) B dL_law_771 rfl ?_
    have h0 : Φ x = some (o_ 13 [.ref (x + 1), .ref (x + 3), .ref (x + 24), .ref (x + 46), .ref (x + 74), .ref (x + 80), .ref (x + 132), .ref (x + 121)]) := in0 (k := 0) hJ.1 rfl
    obtain ⟨rt0, dw0, xp0, xb0, sm0, un0, hE0⟩ := hJ.2.2.2.2.2.2.2.1
    refine z_callV (As := [.int 0]) (rest := []) B (s_X11_setAdaptive G l Φ sz x ca nw rt0 dw0 aq xp0 xb0 ob sm0 un0 0 hna hJ.1 hE0 (by decide) (JK.aq hJ)) (cwV 1 B.1.2.2.2.2 gL_law_X11_setAdaptive rfl rfl rfl (by decide +kernel) ⟨Nat.le_of_ble_eq_true rfl, Nat.le_of_ble_eq_true rfl⟩) h0 rfl rfl rfl rfl (Nat.le_of_ble_eq_true rfl) dL_law_772 (rmL (by omega) (by omega) (by decide) (by decide)) (fun v1 Φ1 sz1 st1 hp1 hs1 => ?_)
    obtain ⟨⟨rfl, hE1⟩, hz1, hI1, hF1⟩ := hp1
    subst sz1
    replace hs1 : st1 = [.int aq] := hs1
    subst st1
    have hJ1 : JK G x y o d (ca) n f co po nw 0 ob c n g co po nw aq ob c Φ1 := ⟨hI1, JM.eq hJ.2.1 (fun k hk => hF1 (y + k) (fun j q hj => by replace hj : j = 80 := hj; have := hD.1; have := hD.2.1; have := hD.2.2; omega)), ⟨_, (hF1 (o) (fun j q hj => by replace hj : j = 80 := hj; have := hD.1; have := hD.2.1; have := hD.2.2; omega)).trans (Classical.choose_spec hJ.2.2.1)⟩, ⟨_, (hF1 (d) (fun j q hj => by replace hj : j = 80 := hj; have := hD.1; have := hD.2.1; have := hD.2.2; omega)).trans (Classical.choose_spec hJ.2.2.2.1)⟩, (hF1 (x + 1) (fun j q hj => by replace hj : j = 80 := hj; have := hD.1; have := hD.2.1; have := hD.2.2; omega)).trans hJ.2.2.2.2.1, (hF1 (x + 2) (fun j q hj => by replace hj : j = 80 := hj; have := hD.1; have := hD.2.1; have := hD.2.2; omega)).trans hJ.2.2.2.2.2.1, C24.eq hJ.2.2.2.2.2.2.1 (hF1 (x + 24) (fun j q hj => by replace hj : j = 80 := hj; have := hD.1; have := hD.2.1; have := hD.2.2; omega)), ⟨_, _, _, _, _, _, hE1⟩, CfC.eq hJ.2.2.2.2.2.2.2.2 (fun k9 q1 q2 => hF1 (x + k9) (fun j q hj => by replace hj : j = 80 := hj; have := hD.1; have := hD.2.1; have := hD.2.2; omega))⟩
    refine z_pop B dL_law_775 rfl ?_
    refine z_aload_n B dL_law_776 rfl 3 rfl ?_
    refine z_aload_n B dL_law_777 rfl 5 rfl ?_
    refine z_iload B dL_law_778 0 rfl ?_
    refine z_iconst (v := 1) B dL_law_780 rfl ?_
    refine z_iadd B dL_law_781 ?_
    refine z_sald B hX hbn (vinL (n := 1) rfl (by omega) hL) dL_law_782 ?_
    refine z_if_eq (tgt := 790) B dL_law_783 rfl (fun _ => ?_) (fun h9 => absurd c_1 h9)
    refine z_iconst (v := 0) B dL_law_790 rfl ?_
    obtain ⟨⟨rd, fl, le, nx, qu, kn, nu, va, st, hM⟩, hg0⟩ := hJ1.2.1
    obtain ⟨fs, hy0⟩ := JM.obj hJ1.2.1
    refine z_callV (As := [.int 0]) (rest := []) B (r_setAdaptive G l Φ1 sz y rd (NNq c) fl 0 le nx n qu kn co nu va st po nw aq ob  0 (by have := hD.1; omega) hM  (by decide) (fun f9 h9 => h9.1)) (cwV 1 B.1.2.2.2.2 gL_law_X12_setAdaptive rfl rfl rfl (by decide +kernel) ⟨Nat.le_of_ble_eq_true rfl, Nat.le_of_ble_eq_true rfl⟩) hy0 rfl rfl rfl rfl (Nat.le_of_ble_eq_true rfl) dL_law_791 (rmL (by omega) (by omega) (by decide) (by decide)) (fun v2 Φ2 sz2 st2 hp2 hs2 => ?_)
    obtain ⟨rfl, hz2, hM2, hF2⟩ := hp2
    have hg2 := (hF2 (y + 25) (fun j q hj => by replace hj : j = 0 := hj; have := hD.1; have := hD.2.1; have := hD.2.2; omega)).trans hg0
    subst sz2
    replace hs2 : st2 = [.int aq] := hs2
    subst st2
    have hJ2 : JK G x y o d (ca) n f co po nw 0 ob c n g co po nw 0 ob c Φ2 := ⟨In.eq hJ1.1 (fun k hk => hF2 (x + k) (fun j q hj => by replace hj : j = 0 := hj; have := hD.1; have := hD.2.1; have := hD.2.2; omega)), ⟨⟨_, _, _, _, _, _, _, _, _, hM2⟩, hg2⟩, ⟨_, (hF2 (o) (fun j q hj => by replace hj : j = 0 := hj; have := hD.1; have := hD.2.1; have := hD.2.2; omega)).trans (Classical.choose_spec hJ1.2.2.1)⟩, ⟨_, (hF2 (d) (fun j q hj => by replace hj : j = 0 := hj; have := hD.1; have := hD.2.1; have := hD.2.2; omega)).trans (Classical.choose_spec hJ1.2.2.2.1)⟩, (hF2 (x + 1) (fun j q hj => by replace hj : j = 0 := hj; have := hD.1; have := hD.2.1; have := hD.2.2; omega)).trans hJ1.2.2.2.2.1, (hF2 (x + 2) (fun j q hj => by replace hj : j = 0 := hj; have := hD.1; have := hD.2.1; have := hD.2.2; omega)).trans hJ1.2.2.2.2.2.1, C24.eq hJ1.2.2.2.2.2.2.1 (hF2 (x + 24) (fun j q hj => by replace hj : j = 0 := hj; have := hD.1; have := hD.2.1; have := hD.2.2; omega)), C80.eq hJ1.2.2.2.2.2.2.2.1 (hF2 (x + 80) (fun j q hj => by replace hj : j = 0 := hj; have := hD.1; have := hD.2.1; have := hD.2.2; omega)), CfC.eq hJ1.2.2.2.2.2.2.2.2 (fun k9 q1 q2 => hF2 (x + k9) (fun j q hj => by replace hj : j = 0 := hj; have := hD.1; have := hD.2.1; have := hD.2.2; omega))⟩
    refine z_pop B dL_law_794 rfl ?_
    refine z_goto (tgt := 1994) B dL_law_795 rfl ?_
    refine z_widen (k := cells + 2) (n := slots + 12) (by omega) (by omega) ?_
    exact hT _ hd0 Φ2 sz (JJ.of (JK.up hJ2 (by omega)) rfl rfl rfl rfl rfl rfl rfl hEq)
  · refine z_iconst (v := 1) B dL_law_767 rfl ?_
    refine z_goto (tgt := 772) B dL_law_768 rfl ?_
    have h0 : Φ x = some (o_ 13 [.ref (x + 1), .ref (x + 3), .ref (x + 24), .ref (x + 46), .ref (x + 74), .ref (x + 80), .ref (x + 132), .ref (x + 121)]) := in0 (k := 0) hJ.1 rfl
    obtain ⟨rt0, dw0, xp0, xb0, sm0, un0, hE0⟩ := hJ.2.2.2.2.2.2.2.1
    refine z_callV (As := [.int 1]) (rest := []) B (s_X11_setAdaptive G l Φ sz x ca nw rt0 dw0 aq xp0 xb0 ob sm0 un0 1 hna hJ.1 hE0 (by decide) (JK.aq hJ)) (cwV 1 B.1.2.2.2.2 gL_law_X11_setAdaptive rfl rfl rfl (by decide +kernel) ⟨Nat.le_of_ble_eq_true rfl, Nat.le_of_ble_eq_true rfl⟩) h0 rfl rfl rfl rfl (Nat.le_of_ble_eq_true rfl) dL_law_772 (rmL (by omega) (by omega) (by decide) (by decide)) (fun v1 Φ1 sz1 st1 hp1 hs1 => ?_)
    obtain ⟨⟨rfl, hE1⟩, hz1, hI1, hF1⟩ := hp1
    subst sz1
    replace hs1 : st1 = [.int aq] := hs1
    subst st1
    have hJ1 : JK G x y o d (ca) n f co po nw 1 ob c n g co po nw aq ob c Φ1 := ⟨hI1, JM.eq hJ.2.1 (fun k hk => hF1 (y + k) (fun j q hj => by replace hj : j = 80 := hj; have := hD.1; have := hD.2.1; have := hD.2.2; omega)), ⟨_, (hF1 (o) (fun j q hj => by replace hj : j = 80 := hj; have := hD.1; have := hD.2.1; have := hD.2.2; omega)).trans (Classical.choose_spec hJ.2.2.1)⟩, ⟨_, (hF1 (d) (fun j q hj => by replace hj : j = 80 := hj; have := hD.1; have := hD.2.1; have := hD.2.2; omega)).trans (Classical.choose_spec hJ.2.2.2.1)⟩, (hF1 (x + 1) (fun j q hj => by replace hj : j = 80 := hj; have := hD.1; have := hD.2.1; have := hD.2.2; omega)).trans hJ.2.2.2.2.1, (hF1 (x + 2) (fun j q hj => by replace hj : j = 80 := hj; have := hD.1; have := hD.2.1; have := hD.2.2; omega)).trans hJ.2.2.2.2.2.1, C24.eq hJ.2.2.2.2.2.2.1 (hF1 (x + 24) (fun j q hj => by replace hj : j = 80 := hj; have := hD.1; have := hD.2.1; have := hD.2.2; omega)), ⟨_, _, _, _, _, _, hE1⟩, CfC.eq hJ.2.2.2.2.2.2.2.2 (fun k9 q1 q2 => hF1 (x + k9) (fun j q hj => by replace hj : j = 80 := hj; have := hD.1; have := hD.2.1; have := hD.2.2; omega))⟩
    refine z_pop B dL_law_775 rfl ?_
    refine z_aload_n B dL_law_776 rfl 3 rfl ?_
    refine z_aload_n B dL_law_777 rfl 5 rfl ?_
    refine z_iload B dL_law_778 0 rfl ?_
    refine z_iconst (v := 1) B dL_law_780 rfl ?_
    refine z_iadd B dL_law_781 ?_
    refine z_sald B hX hbn (vinL (n := 1) rfl (by omega) hL) dL_law_782 ?_
    refine z_if_eq (tgt := 790) B dL_law_783 rfl (fun h9 => absurd h9 c_1) (fun _ => ?_)
    refine z_iconst (v := 1) B dL_law_786 rfl ?_
    refine z_goto (tgt := 791) B dL_law_787 rfl ?_
    obtain ⟨⟨rd, fl, le, nx, qu, kn, nu, va, st, hM⟩, hg0⟩ := hJ1.2.1
    obtain ⟨fs, hy0⟩ := JM.obj hJ1.2.1
    refine z_callV (As := [.int 1]) (rest := []) B (r_setAdaptive G l Φ1 sz y rd (NNq c) fl 0 le nx n qu kn co nu va st po nw aq ob  1 (by have := hD.1; omega) hM  (by decide) (fun f9 h9 => h9.1)) (cwV 1 B.1.2.2.2.2 gL_law_X12_setAdaptive rfl rfl rfl (by decide +kernel) ⟨Nat.le_of_ble_eq_true rfl, Nat.le_of_ble_eq_true rfl⟩) hy0 rfl rfl rfl rfl (Nat.le_of_ble_eq_true rfl) dL_law_791 (rmL (by omega) (by omega) (by decide) (by decide)) (fun v2 Φ2 sz2 st2 hp2 hs2 => ?_)
    obtain ⟨rfl, hz2, hM2, hF2⟩ := hp2
    have hg2 := (hF2 (y + 25) (fun j q hj => by replace hj : j = 0 := hj; have := hD.1; have := hD.2.1; have := hD.2.2; omega)).trans hg0
    subst sz2
    replace hs2 : st2 = [.int aq] := hs2
    subst st2
    have hJ2 : JK G x y o d (ca) n f co po nw 1 ob c n g co po nw 1 ob c Φ2 := ⟨In.eq hJ1.1 (fun k hk => hF2 (x + k) (fun j q hj => by replace hj : j = 0 := hj; have := hD.1; have := hD.2.1; have := hD.2.2; omega)), ⟨⟨_, _, _, _, _, _, _, _, _, hM2⟩, hg2⟩, ⟨_, (hF2 (o) (fun j q hj => by replace hj : j = 0 := hj; have := hD.1; have := hD.2.1; have := hD.2.2; omega)).trans (Classical.choose_spec hJ1.2.2.1)⟩, ⟨_, (hF2 (d) (fun j q hj => by replace hj : j = 0 := hj; have := hD.1; have := hD.2.1; have := hD.2.2; omega)).trans (Classical.choose_spec hJ1.2.2.2.1)⟩, (hF2 (x + 1) (fun j q hj => by replace hj : j = 0 := hj; have := hD.1; have := hD.2.1; have := hD.2.2; omega)).trans hJ1.2.2.2.2.1, (hF2 (x + 2) (fun j q hj => by replace hj : j = 0 := hj; have := hD.1; have := hD.2.1; have := hD.2.2; omega)).trans hJ1.2.2.2.2.2.1, C24.eq hJ1.2.2.2.2.2.2.1 (hF2 (x + 24) (fun j q hj => by replace hj : j = 0 := hj; have := hD.1; have := hD.2.1; have := hD.2.2; omega)), C80.eq hJ1.2.2.2.2.2.2.2.1 (hF2 (x + 80) (fun j q hj => by replace hj : j = 0 := hj; have := hD.1; have := hD.2.1; have := hD.2.2; omega)), CfC.eq hJ1.2.2.2.2.2.2.2.2 (fun k9 q1 q2 => hF2 (x + k9) (fun j q hj => by replace hj : j = 0 := hj; have := hD.1; have := hD.2.1; have := hD.2.2; omega))⟩
    refine z_pop B dL_law_794 rfl ?_
    refine z_goto (tgt := 1994) B dL_law_795 rfl ?_
    refine z_widen (k := cells + 2) (n := slots + 12) (by omega) (by omega) ?_
    exact hT _ hd0 Φ2 sz (JJ.of (JK.up hJ2 (by omega)) rfl rfl rfl rfl rfl rfl rfl hEq)

set_option maxHeartbeats 4000000 in
set_option maxRecDepth 100000 in
theorem lc_16 {p9 : Program} {e9 : Env} {s9 : State} {m9 : MethodId} {a9 : Array Value} {w9 : List Frame} {t9 : Method} {k9 : Code} {Q9 : State → Prop} {nm9 : String} (G : EnvG) (l : Launch) (hl9 : l.stackTraces = false) {d0 : Drawn} (hd0 : s9.drawn.sameBut d0 lw_cs) (B : Bd p9 (s9.setDrawn d0) m9 a9 t9 k9 G code 9 RL wsL_law ret nm9) (Φ : Hm) (sz b L i : Nat) (xs : Nat → Int32) (hX : va_X b L xs (s9.setDrawn d0) (s9.setDrawn d0).heap) (hbn : b < G.2.2.2) (hL : L ≤ 3584) (hi : i + 7 ≤ L) (x y o d ca cells slots : Nat) (hna : G.2.2.2 ≤ x) (hD : Ds x y o d) (hca : ca ≤ 10000) (hcl : cells ≤ 8000) (hsl : slots ≤ 80000) (hJ : JJ G x y o d ca Φ) (hT : ∀ (d1 : Drawn), s9.drawn.sameBut d1 lw_cs → ∀ (Φ1 : Hm) (sz1 : Nat), JJ G x y o d (ca + 12) Φ1 → Z p9 l e9 room_1 (s9.setDrawn d1) m9 a9 w9 t9 k9 Q9 G 9 1994 [(5, .int (nI i)), (4, .ref d), (3, .ref o), (2, .ref y), (1, .ref x), (0, .ref b)] [] Φ1 sz1 (cells + 2) (slots + 12)) : Z p9 l e9 room_1 (s9.setDrawn d0) m9 a9 w9 t9 k9 Q9 G 9 798 [(5, .int (nI i)), (4, .ref d), (3, .ref o), (2, .ref y), (1, .ref x), (0, .ref b)] [] Φ sz cells slots := by
  obtain ⟨n, f, g, co, po, nw, aq, ob, c, hJ, hEq⟩ := hJ
  refine z_aload_n B dL_law_798 rfl 4 rfl ?_
  refine z_aload_n B dL_law_799 rfl 5 rfl ?_
  refine z_iload B dL_law_800 0 rfl ?_
  refine z_iconst (v := 1) B dL_law_802 rfl ?_
  refine z_iadd B dL_law_803 ?_
  refine z_sald B hX hbn (vinL (n := 1) rfl (by omega) hL) dL_law_804 ?_
  have h0 : Φ x = some (o_ 13 [.ref (x + 1), .ref (x + 3), .ref (x + 24), .ref (x + 46), .ref (x + 74), .ref (x + 80), .ref (x + 132), .ref (x + 121)]) := in0 (k := 0) hJ.1 rfl
  obtain ⟨rt0, dw0, xp0, xb0, sm0, un0, hE0⟩ := hJ.2.2.2.2.2.2.2.1
  refine z_callV (As := [.int (xs (nI i + 1).toNatClampNeg)]) (rest := []) B (s_X11_setSeed G l Φ sz x ca nw rt0 dw0 aq xp0 xb0 ob sm0 un0 (xs (nI i + 1).toNatClampNeg) hna hJ.1 hE0 (JK.aq hJ)) (cwV 1 B.1.2.2.2.2 gL_law_X11_setSeed rfl rfl rfl (by decide +kernel) ⟨Nat.le_of_ble_eq_true rfl, Nat.le_of_ble_eq_true rfl⟩) h0 rfl rfl rfl rfl (Nat.le_of_ble_eq_true rfl) dL_law_805 (rmL (by omega) (by omega) (by decide) (by decide)) (fun v1 Φ1 sz1 st1 hp1 hs1 => ?_)
  obtain ⟨⟨⟨r1, rfl, hb1⟩, dw1_, hE1⟩, hz1, hI1, hF1⟩ := hp1
  subst sz1
  replace hs1 : st1 = [.int r1] := hs1
  subst st1
  have hJ1 : JK G x y o d (ca) n f co po nw aq ob c n g co po nw aq ob c Φ1 := ⟨hI1, JM.eq hJ.2.1 (fun k hk => hF1 (y + k) (fun j q hj => by replace hj : j = 80 := hj; have := hD.1; have := hD.2.1; have := hD.2.2; omega)), ⟨_, (hF1 (o) (fun j q hj => by replace hj : j = 80 := hj; have := hD.1; have := hD.2.1; have := hD.2.2; omega)).trans (Classical.choose_spec hJ.2.2.1)⟩, ⟨_, (hF1 (d) (fun j q hj => by replace hj : j = 80 := hj; have := hD.1; have := hD.2.1; have := hD.2.2; omega)).trans (Classical.choose_spec hJ.2.2.2.1)⟩, (hF1 (x + 1) (fun j q hj => by replace hj : j = 80 := hj; have := hD.1; have := hD.2.1; have := hD.2.2; omega)).trans hJ.2.2.2.2.1, (hF1 (x + 2) (fun j q hj => by replace hj : j = 80 := hj; have := hD.1; have := hD.2.1; have := hD.2.2; omega)).trans hJ.2.2.2.2.2.1, C24.eq hJ.2.2.2.2.2.2.1 (hF1 (x + 24) (fun j q hj => by replace hj : j = 80 := hj; have := hD.1; have := hD.2.1; have := hD.2.2; omega)), ⟨_, _, _, _, _, _, hE1⟩, CfC.eq hJ.2.2.2.2.2.2.2.2 (fun k9 q1 q2 => hF1 (x + k9) (fun j q hj => by replace hj : j = 80 := hj; have := hD.1; have := hD.2.1; have := hD.2.2; omega))⟩
  refine z_pop B dL_law_808 rfl ?_
  refine z_aload_n B dL_law_809 rfl 3 rfl ?_
  refine z_aload_n B dL_law_810 rfl 5 rfl ?_
  refine z_iload B dL_law_811 0 rfl ?_
  refine z_iconst (v := 1) B dL_law_813 rfl ?_
  refine z_iadd B dL_law_814 ?_
  refine z_sald B hX hbn (vinL (n := 1) rfl (by omega) hL) dL_law_815 ?_
  obtain ⟨⟨rd, fl, le, nx, qu, kn, nu, va, st, hM⟩, hg0⟩ := hJ1.2.1
  obtain ⟨fs, hy0⟩ := JM.obj hJ1.2.1
  refine z_callV (As := [.int (xs (nI i + 1).toNatClampNeg)]) (rest := []) B (r_setSeed G l Φ1 sz y rd (NNq c) fl 0 le nx n qu kn co nu va st po nw aq ob  (xs (nI i + 1).toNatClampNeg) (by have := hD.1; omega) hM  (fun f9 h9 => h9.1)) (cwV 1 B.1.2.2.2.2 gL_law_X12_setSeed rfl rfl rfl (by decide +kernel) ⟨Nat.le_of_ble_eq_true rfl, Nat.le_of_ble_eq_true rfl⟩) hy0 rfl rfl rfl rfl (Nat.le_of_ble_eq_true rfl) dL_law_816 (rmL (by omega) (by omega) (by decide) (by decide)) (fun v2 Φ2 sz2 st2 hp2 hs2 => ?_)
  obtain ⟨⟨r2, rfl, hb2⟩, hz2, hM2, hF2⟩ := hp2
  have hg2 := (hF2 (y + 25) (fun j q hj => by replace hj : j = 0 := hj; have := hD.1; have := hD.2.1; have := hD.2.2; omega)).trans hg0
  subst sz2
  replace hs2 : st2 = [.int r2] := hs2
  subst st2
  have hJ2 : JK G x y o d (ca) n f co po nw aq ob c n g co po nw aq ob c Φ2 := ⟨In.eq hJ1.1 (fun k hk => hF2 (x + k) (fun j q hj => by replace hj : j = 0 := hj; have := hD.1; have := hD.2.1; have := hD.2.2; omega)), ⟨⟨_, _, _, _, _, _, _, _, _, hM2⟩, hg2⟩, ⟨_, (hF2 (o) (fun j q hj => by replace hj : j = 0 := hj; have := hD.1; have := hD.2.1; have := hD.2.2; omega)).trans (Classical.choose_spec hJ1.2.2.1)⟩, ⟨_, (hF2 (d) (fun j q hj => by replace hj : j = 0 := hj; have := hD.1; have := hD.2.1; have := hD.2.2; omega)).trans (Classical.choose_spec hJ1.2.2.2.1)⟩, (hF2 (x + 1) (fun j q hj => by replace hj : j = 0 := hj; have := hD.1; have := hD.2.1; have := hD.2.2; omega)).trans hJ1.2.2.2.2.1, (hF2 (x + 2) (fun j q hj => by replace hj : j = 0 := hj; have := hD.1; have := hD.2.1; have := hD.2.2; omega)).trans hJ1.2.2.2.2.2.1, C24.eq hJ1.2.2.2.2.2.2.1 (hF2 (x + 24) (fun j q hj => by replace hj : j = 0 := hj; have := hD.1; have := hD.2.1; have := hD.2.2; omega)), C80.eq hJ1.2.2.2.2.2.2.2.1 (hF2 (x + 80) (fun j q hj => by replace hj : j = 0 := hj; have := hD.1; have := hD.2.1; have := hD.2.2; omega)), CfC.eq hJ1.2.2.2.2.2.2.2.2 (fun k9 q1 q2 => hF2 (x + k9) (fun j q hj => by replace hj : j = 0 := hj; have := hD.1; have := hD.2.1; have := hD.2.2; omega))⟩
  refine z_pop B dL_law_819 rfl ?_
  refine z_goto (tgt := 1994) B dL_law_820 rfl ?_
  refine z_widen (k := cells + 2) (n := slots + 12) (by omega) (by omega) ?_
  exact hT _ hd0 Φ2 sz (JJ.of (JK.up hJ2 (by omega)) rfl rfl rfl rfl rfl rfl rfl hEq)

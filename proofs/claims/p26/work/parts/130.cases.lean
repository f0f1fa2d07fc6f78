set_option maxHeartbeats 4000000 in
set_option maxRecDepth 100000 in
theorem lc_42 {p9 : Program} {e9 : Env} {s9 : State} {m9 : MethodId} {a9 : Array Value} {w9 : List Frame} {t9 : Method} {k9 : Code} {Q9 : State → Prop} {nm9 : String} (G : EnvG) (l : Launch) (hl9 : l.stackTraces = false) {d0 : Drawn} (hd0 : s9.drawn.sameBut d0 lw_cs) (B : Bd p9 (s9.setDrawn d0) m9 a9 t9 k9 G code 9 RL wsL_law ret nm9) (Φ : Hm) (sz b L i : Nat) (xs : Nat → Int32) (hX : va_X b L xs (s9.setDrawn d0) (s9.setDrawn d0).heap) (hbn : b < G.2.2.2) (hL : L ≤ 3584) (hi : i + 7 ≤ L) (x y o d ca cells slots : Nat) (hna : G.2.2.2 ≤ x) (hD : Ds x y o d) (hca : ca ≤ 10000) (hcl : cells ≤ 8000) (hsl : slots ≤ 80000) (hJ : JJ G x y o d ca Φ) (hT : ∀ (d1 : Drawn), s9.drawn.sameBut d1 lw_cs → ∀ (Φ1 : Hm) (sz1 : Nat), JJ G x y o d (ca + 12) Φ1 → Z p9 l e9 room_1 (s9.setDrawn d1) m9 a9 w9 t9 k9 Q9 G 9 2001 [(5, .int (nI i)), (4, .ref d), (3, .ref o), (2, .ref y), (1, .ref x), (0, .ref b)] [] Φ1 sz1 (cells + 2) (slots + 12)) : Z p9 l e9 room_1 (s9.setDrawn d0) m9 a9 w9 t9 k9 Q9 G 9 1425 [(5, .int (nI i)), (4, .ref d), (3, .ref o), (2, .ref y), (1, .ref x), (0, .ref b)] [] Φ sz cells slots := by
  obtain ⟨n, f, g, co, po, ⟨tm, r, w, aq, e, ob, sm, un, ⟨nC, F⟩, nT, Ft⟩, sn, ⟨qn, qL, qd⟩, c, hJ, hG, hEq⟩ := hJ
  have hq12 : qn ≤ 12 := SQ.le hJ.2.2.2.2.2.2.2.2.1
  obtain ⟨t7, s7, hCA7⟩ := hJ.2.2.2.2.2.2.2.2.2
  have hW7 := CfA.W hCA7 hG
  have hR7 := CfA.R hCA7 hG
  refine z_aload_n B dL_law_1425 rfl 4 rfl ?_
  refine z_aload_n B dL_law_1426 rfl 5 rfl ?_
  refine z_iload B dL_law_1427 0 rfl ?_
  refine z_iconst (v := 1) B dL_law_1429 rfl ?_
  refine z_iadd B dL_law_1430 ?_
  refine z_sald B hX hbn (vinL (n := 1) rfl (by omega) hL) dL_law_1431 ?_
  refine z_aload_n B dL_law_1432 rfl 2 rfl ?_
  obtain ⟨fo, hco⟩ := hJ.2.2.1
  refine z_callSW (As := [.ref x, .int (xs (nI i + 1).toNatClampNeg), .ref o]) (rest := []) B (w_templateAge G l hl9 Φ sz x ca (xs (nI i + 1).toNatClampNeg) o fo hna (by have := hD.1; have := hD.2.1; have := hD.2.2; omega) (fun j hj => by have := hD.1; have := hD.2.1; have := hD.2.2; omega) hJ.1 hco ) (vx_cwSW 3 B.1.2.2.2.2 gL_law_L_templateAge rfl rfl rfl (by decide +kernel) ⟨Nat.le_of_ble_eq_true rfl, Nat.le_of_ble_eq_true rfl⟩) rfl rfl (Nat.le_of_ble_eq_true rfl) dL_law_1433 (rmL (by omega) (by omega) (by decide) (by decide)) (fun v1 Φ1 sz1 st1 hp1 hs1 => ?_)
  obtain ⟨⟨r1, rfl⟩, hI1, ho1, hf1⟩ := hp1
  replace hs1 : st1 = [.int r1] := hs1
  subst st1
  have hJ1 : JK G x y o d (ca) n f co po (tm, r, w, aq, e, ob, sm, un, (nC, F), (nT, Ft)) sn (qn, qL, qd) c n g co po (tm, r, w, aq, e, ob, sm, un, (nC, F), (nT, Ft)) sn (qn, qL, qd) c Φ1 := ⟨hI1, JM.eq hJ.2.1 (fun k hk => hf1 (y + k) (fun j hj => (show False from hj).elim) (by have := hD.1; have := hD.2.1; have := hD.2.2; omega)), ho1, ⟨_, (hf1 d (fun j hj => (show False from hj).elim) (by have := hD.1; have := hD.2.1; have := hD.2.2; omega)).trans (Classical.choose_spec hJ.2.2.2.1)⟩, (hf1 (x + 1) (fun j hj => (show False from hj).elim) (by have := hD.1; have := hD.2.1; have := hD.2.2; omega)).trans hJ.2.2.2.2.1, (hf1 (x + 2) (fun j hj => (show False from hj).elim) (by have := hD.1; have := hD.2.1; have := hD.2.2; omega)).trans hJ.2.2.2.2.2.1, C24.eq hJ.2.2.2.2.2.2.1 (hf1 (x + 24) (fun j hj => (show False from hj).elim) (by have := hD.1; have := hD.2.1; have := hD.2.2; omega)), XC.eq hJ.2.2.2.2.2.2.2.1 (fun k9 q1 q2 => hf1 (x + k9) (fun j hj => (show False from hj).elim) (by have := hD.1; have := hD.2.1; have := hD.2.2; omega)), SQ.eq hJ.2.2.2.2.2.2.2.2.1 (fun k9 q1 q2 => hf1 (x + k9) (fun j hj => (show False from hj).elim) (by have := hD.1; have := hD.2.1; have := hD.2.2; omega)), CfC.eq hJ.2.2.2.2.2.2.2.2.2 (fun k9 q1 q2 => hf1 (x + k9) (fun j hj => (show False from hj).elim) (by have := hD.1; have := hD.2.1; have := hD.2.2; omega))⟩
  refine z_istore (lv' := [(6, .int r1), (5, .int (nI i)), (4, .ref d), (3, .ref o), (2, .ref y), (1, .ref x), (0, .ref b)]) B dL_law_1436 (Nat.le_of_ble_eq_true rfl) rfl ?_
  refine z_aload_n B dL_law_1438 rfl 4 rfl ?_
  refine z_aload_n B dL_law_1439 rfl 6 rfl ?_
  refine z_iload B dL_law_1440 1 rfl ?_
  refine z_iconst (v := 1) B dL_law_1442 rfl ?_
  refine z_iadd B dL_law_1443 ?_
  refine z_sald B hX hbn (vinL (n := 1) rfl (by omega) hL) dL_law_1444 ?_
  obtain ⟨⟨rd, le, nx, kn, nu, va, st, th, hM⟩, hg0⟩ := hJ1.2.1
  obtain ⟨fs, hy0⟩ := JM.obj hJ1.2.1
  refine z_callV (As := [.int (xs (nI i + 1).toNatClampNeg)]) (rest := []) B (r_templateAge G l Φ1 sz1 y rd (NNq c) (CaQ nC F) (TpQ nT Ft) (TtQ nT Ft) (SiQ sn.1) (AtQ sn.2.1) (PtQ 0 (fun _ => 0)) (QlQ qn qL) nC 0 le nx n qn kn co nu va st po (nI tm) aq ob (nI w) r e sm un nT th sn.2.2.1 qd (sn.2.2.2.2.toInt64 &&& 4294967295) sn.2.2.2.1  (xs (nI i + 1).toNatClampNeg) (by have := hD.1; omega) hM  (fun f9 h9 => h9.1)) (cwV 1 B.1.2.2.2.2 gL_law_X12_templateAge rfl rfl rfl (by decide +kernel) ⟨Nat.le_of_ble_eq_true rfl, Nat.le_of_ble_eq_true rfl⟩) hy0 rfl rfl rfl rfl (Nat.le_of_ble_eq_true rfl) dL_law_1445 (rmL (by omega) (by omega) (by decide) (by decide)) (fun v2 Φ2 sz2 st2 hp2 hs2 => ?_)
  obtain ⟨⟨r2, rfl⟩, hz2, ⟨th1_, hM2⟩, hF2⟩ := hp2
  have hg2 := (hF2 (y + 25) (fun j q hj => by replace hj : j = 0 := hj; have := hD.1; have := hD.2.1; have := hD.2.2; omega)).trans hg0
  subst sz2
  replace hs2 : st2 = [.int r2] := hs2
  subst st2
  have hJ2 : JK G x y o d (ca) n f co po (tm, r, w, aq, e, ob, sm, un, (nC, F), (nT, Ft)) sn (qn, qL, qd) c n g co po (tm, r, w, aq, e, ob, sm, un, (nC, F), (nT, Ft)) sn (qn, qL, qd) c Φ2 := ⟨In.eq hJ1.1 (fun k hk => hF2 (x + k) (fun j q hj => by replace hj : j = 0 := hj; have := hD.1; have := hD.2.1; have := hD.2.2; omega)), ⟨⟨_, _, _, _, _, _, _, _, hM2⟩, hg2⟩, ⟨_, (hF2 (o) (fun j q hj => by replace hj : j = 0 := hj; have := hD.1; have := hD.2.1; have := hD.2.2; omega)).trans (Classical.choose_spec hJ1.2.2.1)⟩, ⟨_, (hF2 (d) (fun j q hj => by replace hj : j = 0 := hj; have := hD.1; have := hD.2.1; have := hD.2.2; omega)).trans (Classical.choose_spec hJ1.2.2.2.1)⟩, (hF2 (x + 1) (fun j q hj => by replace hj : j = 0 := hj; have := hD.1; have := hD.2.1; have := hD.2.2; omega)).trans hJ1.2.2.2.2.1, (hF2 (x + 2) (fun j q hj => by replace hj : j = 0 := hj; have := hD.1; have := hD.2.1; have := hD.2.2; omega)).trans hJ1.2.2.2.2.2.1, C24.eq hJ1.2.2.2.2.2.2.1 (hF2 (x + 24) (fun j q hj => by replace hj : j = 0 := hj; have := hD.1; have := hD.2.1; have := hD.2.2; omega)), XC.eq hJ1.2.2.2.2.2.2.2.1 (fun k9 q1 q2 => hF2 (x + k9) (fun j q hj => by replace hj : j = 0 := hj; have := hD.1; have := hD.2.1; have := hD.2.2; omega)), SQ.eq hJ1.2.2.2.2.2.2.2.2.1 (fun k9 q1 q2 => hF2 (x + k9) (fun j q hj => by replace hj : j = 0 := hj; have := hD.1; have := hD.2.1; have := hD.2.2; omega)), CfC.eq hJ1.2.2.2.2.2.2.2.2.2 (fun k9 q1 q2 => hF2 (x + k9) (fun j q hj => by replace hj : j = 0 := hj; have := hD.1; have := hD.2.1; have := hD.2.2; omega))⟩
  refine z_istore (lv' := [(7, .int r2), (6, .int r1), (5, .int (nI i)), (4, .ref d), (3, .ref o), (2, .ref y), (1, .ref x), (0, .ref b)]) B dL_law_1448 (Nat.le_of_ble_eq_true rfl) rfl ?_
  refine z_goto (tgt := 2001) B dL_law_1450 rfl ?_
  refine z_lv [2, 3, 4, 5, 6, 7] rfl ?_
  refine z_widen (k := cells + 2) (n := slots + 12) (by omega) (by omega) ?_
  exact hT _ hd0 Φ2 sz1 (JJ.of (JK.up hJ2 (by omega)) hG rfl rfl rfl rfl rfl rfl rfl hEq)

set_option maxHeartbeats 4000000 in
set_option maxRecDepth 100000 in
theorem lc_43 {p9 : Program} {e9 : Env} {s9 : State} {m9 : MethodId} {a9 : Array Value} {w9 : List Frame} {t9 : Method} {k9 : Code} {Q9 : State → Prop} {nm9 : String} (G : EnvG) (l : Launch) (hl9 : l.stackTraces = false) {d0 : Drawn} (hd0 : s9.drawn.sameBut d0 lw_cs) (B : Bd p9 (s9.setDrawn d0) m9 a9 t9 k9 G code 9 RL wsL_law ret nm9) (Φ : Hm) (sz b L i : Nat) (xs : Nat → Int32) (hX : va_X b L xs (s9.setDrawn d0) (s9.setDrawn d0).heap) (hbn : b < G.2.2.2) (hL : L ≤ 3584) (hi : i + 7 ≤ L) (x y o d ca cells slots : Nat) (hna : G.2.2.2 ≤ x) (hD : Ds x y o d) (hca : ca ≤ 10000) (hcl : cells ≤ 8000) (hsl : slots ≤ 80000) (hJ : JJ G x y o d ca Φ) (hT : ∀ (d1 : Drawn), s9.drawn.sameBut d1 lw_cs → ∀ (Φ1 : Hm) (sz1 : Nat), JJ G x y o d (ca + 12) Φ1 → Z p9 l e9 room_1 (s9.setDrawn d1) m9 a9 w9 t9 k9 Q9 G 9 2001 [(5, .int (nI i)), (4, .ref d), (3, .ref o), (2, .ref y), (1, .ref x), (0, .ref b)] [] Φ1 sz1 (cells + 2) (slots + 12)) : Z p9 l e9 room_1 (s9.setDrawn d0) m9 a9 w9 t9 k9 Q9 G 9 1453 [(5, .int (nI i)), (4, .ref d), (3, .ref o), (2, .ref y), (1, .ref x), (0, .ref b)] [] Φ sz cells slots := by
  obtain ⟨n, f, g, co, po, ⟨tm, r, w, aq, e, ob, sm, un, ⟨nC, F⟩, nT, Ft⟩, sn, ⟨qn, qL, qd⟩, c, hJ, hG, hEq⟩ := hJ
  have hq12 : qn ≤ 12 := SQ.le hJ.2.2.2.2.2.2.2.2.1
  obtain ⟨t7, s7, hCA7⟩ := hJ.2.2.2.2.2.2.2.2.2
  have hW7 := CfA.W hCA7 hG
  have hR7 := CfA.R hCA7 hG
  refine z_aload_n B dL_law_1453 rfl 4 rfl ?_
  have h0 : Φ x = some (o_ 13 [.ref (x + 1), .ref (x + 3), .ref (x + 24), .ref (x + 46), .ref (x + 74), .ref (x + 80), .ref (x + 132), .ref (x + 121)]) := in0 (k := 0) hJ.1 rfl
  refine z_callV (As := []) (rest := []) B (s_X11_expected G l Φ sz x ca  hna hJ.1  (by omega)) (cwV 0 B.1.2.2.2.2 gL_law_X11_expected rfl rfl rfl (by decide +kernel) ⟨Nat.le_of_ble_eq_true rfl, Nat.le_of_ble_eq_true rfl⟩) h0 rfl rfl rfl rfl (Nat.le_of_ble_eq_true rfl) dL_law_1454 (rmL (by omega) (by omega) (by decide) (by decide)) (fun v1 Φ1 sz1 st1 hp1 hs1 => ?_)
  obtain ⟨⟨r1, rfl⟩, hz1, hI1, hF1⟩ := hp1
  subst sz1
  replace hs1 : st1 = [.long r1] := hs1
  subst st1
  have hJ1 : JK G x y o d (ca) n f co po (tm, r, w, aq, e, ob, sm, un, (nC, F), (nT, Ft)) sn (qn, qL, qd) c n g co po (tm, r, w, aq, e, ob, sm, un, (nC, F), (nT, Ft)) sn (qn, qL, qd) c Φ1 := ⟨hI1, JM.eq hJ.2.1 (fun k hk => hF1 (y + k) (fun j q hj => (show False from hj).elim)), ⟨_, (hF1 (o) (fun j q hj => (show False from hj).elim)).trans (Classical.choose_spec hJ.2.2.1)⟩, ⟨_, (hF1 (d) (fun j q hj => (show False from hj).elim)).trans (Classical.choose_spec hJ.2.2.2.1)⟩, (hF1 (x + 1) (fun j q hj => (show False from hj).elim)).trans hJ.2.2.2.2.1, (hF1 (x + 2) (fun j q hj => (show False from hj).elim)).trans hJ.2.2.2.2.2.1, C24.eq hJ.2.2.2.2.2.2.1 (hF1 (x + 24) (fun j q hj => (show False from hj).elim)), XC.eq hJ.2.2.2.2.2.2.2.1 (fun k9 q1 q2 => hF1 (x + k9) (fun j q hj => (show False from hj).elim)), SQ.eq hJ.2.2.2.2.2.2.2.2.1 (fun k9 q1 q2 => hF1 (x + k9) (fun j q hj => (show False from hj).elim)), CfC.eq hJ.2.2.2.2.2.2.2.2.2 (fun k9 q1 q2 => hF1 (x + k9) (fun j q hj => (show False from hj).elim))⟩
  refine z_pop2_2 B dL_law_1457 rfl ?_
  refine z_aload_n B dL_law_1458 rfl 3 rfl ?_
  obtain ⟨⟨rd, le, nx, kn, nu, va, st, th, hM⟩, hg0⟩ := hJ1.2.1
  obtain ⟨fs, hy0⟩ := JM.obj hJ1.2.1
  refine z_callV (As := []) (rest := []) B (r_expected G l Φ1 sz y rd (NNq c) (CaQ nC F) (TpQ nT Ft) (TtQ nT Ft) (SiQ sn.1) (AtQ sn.2.1) (PtQ 0 (fun _ => 0)) (QlQ qn qL) nC 0 le nx n qn kn co nu va st po (nI tm) aq ob (nI w) r e sm un nT th sn.2.2.1 qd (sn.2.2.2.2.toInt64 &&& 4294967295) sn.2.2.2.1   (by have := hD.1; omega) hM  (fun f9 h9 => h9.1)) (cwV 0 B.1.2.2.2.2 gL_law_X12_expected rfl rfl rfl (by decide +kernel) ⟨Nat.le_of_ble_eq_true rfl, Nat.le_of_ble_eq_true rfl⟩) hy0 rfl rfl rfl rfl (Nat.le_of_ble_eq_true rfl) dL_law_1459 (rmL (by omega) (by omega) (by decide) (by decide)) (fun v2 Φ2 sz2 st2 hp2 hs2 => ?_)
  obtain ⟨⟨r2, rfl⟩, hz2, ⟨th1_, hM2⟩, hF2⟩ := hp2
  have hg2 := (hF2 (y + 25) (fun j q hj => by replace hj : j = 0 := hj; have := hD.1; have := hD.2.1; have := hD.2.2; omega)).trans hg0
  subst sz2
  replace hs2 : st2 = [.long r2] := hs2
  subst st2
  have hJ2 : JK G x y o d (ca) n f co po (tm, r, w, aq, e, ob, sm, un, (nC, F), (nT, Ft)) sn (qn, qL, qd) c n g co po (tm, r, w, aq, e, ob, sm, un, (nC, F), (nT, Ft)) sn (qn, qL, qd) c Φ2 := ⟨In.eq hJ1.1 (fun k hk => hF2 (x + k) (fun j q hj => by replace hj : j = 0 := hj; have := hD.1; have := hD.2.1; have := hD.2.2; omega)), ⟨⟨_, _, _, _, _, _, _, _, hM2⟩, hg2⟩, ⟨_, (hF2 (o) (fun j q hj => by replace hj : j = 0 := hj; have := hD.1; have := hD.2.1; have := hD.2.2; omega)).trans (Classical.choose_spec hJ1.2.2.1)⟩, ⟨_, (hF2 (d) (fun j q hj => by replace hj : j = 0 := hj; have := hD.1; have := hD.2.1; have := hD.2.2; omega)).trans (Classical.choose_spec hJ1.2.2.2.1)⟩, (hF2 (x + 1) (fun j q hj => by replace hj : j = 0 := hj; have := hD.1; have := hD.2.1; have := hD.2.2; omega)).trans hJ1.2.2.2.2.1, (hF2 (x + 2) (fun j q hj => by replace hj : j = 0 := hj; have := hD.1; have := hD.2.1; have := hD.2.2; omega)).trans hJ1.2.2.2.2.2.1, C24.eq hJ1.2.2.2.2.2.2.1 (hF2 (x + 24) (fun j q hj => by replace hj : j = 0 := hj; have := hD.1; have := hD.2.1; have := hD.2.2; omega)), XC.eq hJ1.2.2.2.2.2.2.2.1 (fun k9 q1 q2 => hF2 (x + k9) (fun j q hj => by replace hj : j = 0 := hj; have := hD.1; have := hD.2.1; have := hD.2.2; omega)), SQ.eq hJ1.2.2.2.2.2.2.2.2.1 (fun k9 q1 q2 => hF2 (x + k9) (fun j q hj => by replace hj : j = 0 := hj; have := hD.1; have := hD.2.1; have := hD.2.2; omega)), CfC.eq hJ1.2.2.2.2.2.2.2.2.2 (fun k9 q1 q2 => hF2 (x + k9) (fun j q hj => by replace hj : j = 0 := hj; have := hD.1; have := hD.2.1; have := hD.2.2; omega))⟩
  refine z_pop2_2 B dL_law_1462 rfl ?_
  refine z_goto (tgt := 2001) B dL_law_1463 rfl ?_
  refine z_widen (k := cells + 2) (n := slots + 12) (by omega) (by omega) ?_
  exact hT _ hd0 Φ2 sz (JJ.of (JK.up hJ2 (by omega)) hG rfl rfl rfl rfl rfl rfl rfl hEq)

set_option maxHeartbeats 4000000 in
set_option maxRecDepth 100000 in
theorem lc_44 {p9 : Program} {e9 : Env} {s9 : State} {m9 : MethodId} {a9 : Array Value} {w9 : List Frame} {t9 : Method} {k9 : Code} {Q9 : State → Prop} {nm9 : String} (G : EnvG) (l : Launch) (hl9 : l.stackTraces = false) {d0 : Drawn} (hd0 : s9.drawn.sameBut d0 lw_cs) (B : Bd p9 (s9.setDrawn d0) m9 a9 t9 k9 G code 9 RL wsL_law ret nm9) (Φ : Hm) (sz b L i : Nat) (xs : Nat → Int32) (hX : va_X b L xs (s9.setDrawn d0) (s9.setDrawn d0).heap) (hbn : b < G.2.2.2) (hL : L ≤ 3584) (hi : i + 7 ≤ L) (x y o d ca cells slots : Nat) (hna : G.2.2.2 ≤ x) (hD : Ds x y o d) (hca : ca ≤ 10000) (hcl : cells ≤ 8000) (hsl : slots ≤ 80000) (hJ : JJ G x y o d ca Φ) (hT : ∀ (d1 : Drawn), s9.drawn.sameBut d1 lw_cs → ∀ (Φ1 : Hm) (sz1 : Nat), JJ G x y o d (ca + 12) Φ1 → Z p9 l e9 room_1 (s9.setDrawn d1) m9 a9 w9 t9 k9 Q9 G 9 2001 [(5, .int (nI i)), (4, .ref d), (3, .ref o), (2, .ref y), (1, .ref x), (0, .ref b)] [] Φ1 sz1 (cells + 2) (slots + 12)) : Z p9 l e9 room_1 (s9.setDrawn d0) m9 a9 w9 t9 k9 Q9 G 9 1466 [(5, .int (nI i)), (4, .ref d), (3, .ref o), (2, .ref y), (1, .ref x), (0, .ref b)] [] Φ sz cells slots := by
  obtain ⟨n, f, g, co, po, ⟨tm, r, w, aq, e, ob, sm, un, ⟨nC, F⟩, nT, Ft⟩, sn, ⟨qn, qL, qd⟩, c, hJ, hG, hEq⟩ := hJ
  have hq12 : qn ≤ 12 := SQ.le hJ.2.2.2.2.2.2.2.2.1
  obtain ⟨t7, s7, hCA7⟩ := hJ.2.2.2.2.2.2.2.2.2
  have hW7 := CfA.W hCA7 hG
  have hR7 := CfA.R hCA7 hG
  refine z_aload_n B dL_law_1466 rfl 4 rfl ?_
  refine z_aload_n B dL_law_1467 rfl 5 rfl ?_
  refine z_iload B dL_law_1468 0 rfl ?_
  refine z_iconst (v := 1) B dL_law_1470 rfl ?_
  refine z_iadd B dL_law_1471 ?_
  refine z_sald B hX hbn (vinL (n := 1) rfl (by omega) hL) dL_law_1472 ?_
  refine z_aload_n B dL_law_1473 rfl 2 rfl ?_
  obtain ⟨fo, hco⟩ := hJ.2.2.1
  refine z_callSW (As := [.ref x, .int (xs (nI i + 1).toNatClampNeg), .ref o]) (rest := []) B (w_counter G l hl9 Φ sz x ca (xs (nI i + 1).toNatClampNeg) o fo hna (by have := hD.1; have := hD.2.1; have := hD.2.2; omega) (fun j hj => by have := hD.1; have := hD.2.1; have := hD.2.2; omega) hJ.1 hco ) (vx_cwSW 3 B.1.2.2.2.2 gL_law_L_counter rfl rfl rfl (by decide +kernel) ⟨Nat.le_of_ble_eq_true rfl, Nat.le_of_ble_eq_true rfl⟩) rfl rfl (Nat.le_of_ble_eq_true rfl) dL_law_1474 (rmL (by omega) (by omega) (by decide) (by decide)) (fun v1 Φ1 sz1 st1 hp1 hs1 => ?_)
  obtain ⟨⟨r1, rfl⟩, hI1, ho1, hf1⟩ := hp1
  replace hs1 : st1 = [.int r1] := hs1
  subst st1
  have hJ1 : JK G x y o d (ca) n f co po (tm, r, w, aq, e, ob, sm, un, (nC, F), (nT, Ft)) sn (qn, qL, qd) c n g co po (tm, r, w, aq, e, ob, sm, un, (nC, F), (nT, Ft)) sn (qn, qL, qd) c Φ1 := ⟨hI1, JM.eq hJ.2.1 (fun k hk => hf1 (y + k) (fun j hj => (show False from hj).elim) (by have := hD.1; have := hD.2.1; have := hD.2.2; omega)), ho1, ⟨_, (hf1 d (fun j hj => (show False from hj).elim) (by have := hD.1; have := hD.2.1; have := hD.2.2; omega)).trans (Classical.choose_spec hJ.2.2.2.1)⟩, (hf1 (x + 1) (fun j hj => (show False from hj).elim) (by have := hD.1; have := hD.2.1; have := hD.2.2; omega)).trans hJ.2.2.2.2.1, (hf1 (x + 2) (fun j hj => (show False from hj).elim) (by have := hD.1; have := hD.2.1; have := hD.2.2; omega)).trans hJ.2.2.2.2.2.1, C24.eq hJ.2.2.2.2.2.2.1 (hf1 (x + 24) (fun j hj => (show False from hj).elim) (by have := hD.1; have := hD.2.1; have := hD.2.2; omega)), XC.eq hJ.2.2.2.2.2.2.2.1 (fun k9 q1 q2 => hf1 (x + k9) (fun j hj => (show False from hj).elim) (by have := hD.1; have := hD.2.1; have := hD.2.2; omega)), SQ.eq hJ.2.2.2.2.2.2.2.2.1 (fun k9 q1 q2 => hf1 (x + k9) (fun j hj => (show False from hj).elim) (by have := hD.1; have := hD.2.1; have := hD.2.2; omega)), CfC.eq hJ.2.2.2.2.2.2.2.2.2 (fun k9 q1 q2 => hf1 (x + k9) (fun j hj => (show False from hj).elim) (by have := hD.1; have := hD.2.1; have := hD.2.2; omega))⟩
  refine z_istore (lv' := [(6, .int r1), (5, .int (nI i)), (4, .ref d), (3, .ref o), (2, .ref y), (1, .ref x), (0, .ref b)]) B dL_law_1477 (Nat.le_of_ble_eq_true rfl) rfl ?_
  refine z_aload_n B dL_law_1479 rfl 4 rfl ?_
  refine z_aload_n B dL_law_1480 rfl 6 rfl ?_
  refine z_iload B dL_law_1481 1 rfl ?_
  refine z_iconst (v := 1) B dL_law_1483 rfl ?_
  refine z_iadd B dL_law_1484 ?_
  refine z_sald B hX hbn (vinL (n := 1) rfl (by omega) hL) dL_law_1485 ?_
  obtain ⟨⟨rd, le, nx, kn, nu, va, st, th, hM⟩, hg0⟩ := hJ1.2.1
  obtain ⟨fs, hy0⟩ := JM.obj hJ1.2.1
  refine z_callV (As := [.int (xs (nI i + 1).toNatClampNeg)]) (rest := []) B (r_counter G l Φ1 sz1 y rd (NNq c) (CaQ nC F) (TpQ nT Ft) (TtQ nT Ft) (SiQ sn.1) (AtQ sn.2.1) (PtQ 0 (fun _ => 0)) (QlQ qn qL) nC 0 le nx n qn kn co nu va st po (nI tm) aq ob (nI w) r e sm un nT th sn.2.2.1 qd (sn.2.2.2.2.toInt64 &&& 4294967295) sn.2.2.2.1  (xs (nI i + 1).toNatClampNeg) (by have := hD.1; omega) hM  (fun f9 h9 => h9.1)) (cwV 1 B.1.2.2.2.2 gL_law_X12_counter rfl rfl rfl (by decide +kernel) ⟨Nat.le_of_ble_eq_true rfl, Nat.le_of_ble_eq_true rfl⟩) hy0 rfl rfl rfl rfl (Nat.le_of_ble_eq_true rfl) dL_law_1486 (rmL (by omega) (by omega) (by decide) (by decide)) (fun v2 Φ2 sz2 st2 hp2 hs2 => ?_)
  obtain ⟨⟨r2, rfl⟩, hz2, ⟨th1_, hM2⟩, hF2⟩ := hp2
  have hg2 := (hF2 (y + 25) (fun j q hj => by replace hj : j = 0 := hj; have := hD.1; have := hD.2.1; have := hD.2.2; omega)).trans hg0
  subst sz2
  replace hs2 : st2 = [.long r2] := hs2
  subst st2
  have hJ2 : JK G x y o d (ca) n f co po (tm, r, w, aq, e, ob, sm, un, (nC, F), (nT, Ft)) sn (qn, qL, qd) c n g co po (tm, r, w, aq, e, ob, sm, un, (nC, F), (nT, Ft)) sn (qn, qL, qd) c Φ2 := ⟨In.eq hJ1.1 (fun k hk => hF2 (x + k) (fun j q hj => by replace hj : j = 0 := hj; have := hD.1; have := hD.2.1; have := hD.2.2; omega)), ⟨⟨_, _, _, _, _, _, _, _, hM2⟩, hg2⟩, ⟨_, (hF2 (o) (fun j q hj => by replace hj : j = 0 := hj; have := hD.1; have := hD.2.1; have := hD.2.2; omega)).trans (Classical.choose_spec hJ1.2.2.1)⟩, ⟨_, (hF2 (d) (fun j q hj => by replace hj : j = 0 := hj; have := hD.1; have := hD.2.1; have := hD.2.2; omega)).trans (Classical.choose_spec hJ1.2.2.2.1)⟩, (hF2 (x + 1) (fun j q hj => by replace hj : j = 0 := hj; have := hD.1; have := hD.2.1; have := hD.2.2; omega)).trans hJ1.2.2.2.2.1, (hF2 (x + 2) (fun j q hj => by replace hj : j = 0 := hj; have := hD.1; have := hD.2.1; have := hD.2.2; omega)).trans hJ1.2.2.2.2.2.1, C24.eq hJ1.2.2.2.2.2.2.1 (hF2 (x + 24) (fun j q hj => by replace hj : j = 0 := hj; have := hD.1; have := hD.2.1; have := hD.2.2; omega)), XC.eq hJ1.2.2.2.2.2.2.2.1 (fun k9 q1 q2 => hF2 (x + k9) (fun j q hj => by replace hj : j = 0 := hj; have := hD.1; have := hD.2.1; have := hD.2.2; omega)), SQ.eq hJ1.2.2.2.2.2.2.2.2.1 (fun k9 q1 q2 => hF2 (x + k9) (fun j q hj => by replace hj : j = 0 := hj; have := hD.1; have := hD.2.1; have := hD.2.2; omega)), CfC.eq hJ1.2.2.2.2.2.2.2.2.2 (fun k9 q1 q2 => hF2 (x + k9) (fun j q hj => by replace hj : j = 0 := hj; have := hD.1; have := hD.2.1; have := hD.2.2; omega))⟩
  refine z_lstore (lv' := [(7, .long r2), (6, .int r1), (5, .int (nI i)), (4, .ref d), (3, .ref o), (2, .ref y), (1, .ref x), (0, .ref b)]) B dL_law_1489 (Nat.le_of_ble_eq_true rfl) rfl ?_
  refine z_goto (tgt := 2001) B dL_law_1491 rfl ?_
  refine z_lv [2, 3, 4, 5, 6, 7] rfl ?_
  refine z_widen (k := cells + 2) (n := slots + 12) (by omega) (by omega) ?_
  exact hT _ hd0 Φ2 sz1 (JJ.of (JK.up hJ2 (by omega)) hG rfl rfl rfl rfl rfl rfl rfl hEq)

set_option maxHeartbeats 4000000 in
set_option maxRecDepth 100000 in
theorem lc_45 {p9 : Program} {e9 : Env} {s9 : State} {m9 : MethodId} {a9 : Array Value} {w9 : List Frame} {t9 : Method} {k9 : Code} {Q9 : State → Prop} {nm9 : String} (G : EnvG) (l : Launch) (hl9 : l.stackTraces = false) {d0 : Drawn} (hd0 : s9.drawn.sameBut d0 lw_cs) (B : Bd p9 (s9.setDrawn d0) m9 a9 t9 k9 G code 9 RL wsL_law ret nm9) (Φ : Hm) (sz b L i : Nat) (xs : Nat → Int32) (hX : va_X b L xs (s9.setDrawn d0) (s9.setDrawn d0).heap) (hbn : b < G.2.2.2) (hL : L ≤ 3584) (hi : i + 7 ≤ L) (x y o d ca cells slots : Nat) (hna : G.2.2.2 ≤ x) (hD : Ds x y o d) (hca : ca ≤ 10000) (hcl : cells ≤ 8000) (hsl : slots ≤ 80000) (hJ : JJ G x y o d ca Φ) (hT : ∀ (d1 : Drawn), s9.drawn.sameBut d1 lw_cs → ∀ (Φ1 : Hm) (sz1 : Nat), JJ G x y o d (ca + 12) Φ1 → Z p9 l e9 room_1 (s9.setDrawn d1) m9 a9 w9 t9 k9 Q9 G 9 2001 [(5, .int (nI i)), (4, .ref d), (3, .ref o), (2, .ref y), (1, .ref x), (0, .ref b)] [] Φ1 sz1 (cells + 2) (slots + 12)) : Z p9 l e9 room_1 (s9.setDrawn d0) m9 a9 w9 t9 k9 Q9 G 9 1494 [(5, .int (nI i)), (4, .ref d), (3, .ref o), (2, .ref y), (1, .ref x), (0, .ref b)] [] Φ sz cells slots := by
  obtain ⟨n, f, g, co, po, ⟨tm, r, w, aq, e, ob, sm, un, ⟨nC, F⟩, nT, Ft⟩, sn, ⟨qn, qL, qd⟩, c, hJ, hG, hEq⟩ := hJ
  have hq12 : qn ≤ 12 := SQ.le hJ.2.2.2.2.2.2.2.2.1
  obtain ⟨t7, s7, hCA7⟩ := hJ.2.2.2.2.2.2.2.2.2
  have hW7 := CfA.W hCA7 hG
  have hR7 := CfA.R hCA7 hG
  refine z_aload_n B dL_law_1494 rfl 4 rfl ?_
  refine z_aload B dL_law_1495 1 rfl ?_
  obtain ⟨fo, hco⟩ := hJ.2.2.2.1
  refine z_callSW (As := [.ref x, .ref d]) (rest := []) B (w_lossRate G l hl9 Φ sz x ca  d fo hna (by have := hD.1; have := hD.2.1; have := hD.2.2; omega) (fun j hj => by have := hD.1; have := hD.2.1; have := hD.2.2; omega) hJ.1 hco ) (vx_cwSW 2 B.1.2.2.2.2 gL_law_L_lossRate rfl rfl rfl (by decide +kernel) ⟨Nat.le_of_ble_eq_true rfl, Nat.le_of_ble_eq_true rfl⟩) rfl rfl (Nat.le_of_ble_eq_true rfl) dL_law_1497 (rmL (by omega) (by omega) (by decide) (by decide)) (fun v1 Φ1 sz1 st1 hp1 hs1 => ?_)
  obtain ⟨⟨r1, rfl⟩, hI1, ho1, hf1⟩ := hp1
  replace hs1 : st1 = [.int r1] := hs1
  subst st1
  have hJ1 : JK G x y o d (ca) n f co po (tm, r, w, aq, e, ob, sm, un, (nC, F), (nT, Ft)) sn (qn, qL, qd) c n g co po (tm, r, w, aq, e, ob, sm, un, (nC, F), (nT, Ft)) sn (qn, qL, qd) c Φ1 := ⟨hI1, JM.eq hJ.2.1 (fun k hk => hf1 (y + k) (fun j hj => (show False from hj).elim) (by have := hD.1; have := hD.2.1; have := hD.2.2; omega)), ⟨_, (hf1 o (fun j hj => (show False from hj).elim) (by have := hD.1; have := hD.2.1; have := hD.2.2; omega)).trans (Classical.choose_spec hJ.2.2.1)⟩, ho1, (hf1 (x + 1) (fun j hj => (show False from hj).elim) (by have := hD.1; have := hD.2.1; have := hD.2.2; omega)).trans hJ.2.2.2.2.1, (hf1 (x + 2) (fun j hj => (show False from hj).elim) (by have := hD.1; have := hD.2.1; have := hD.2.2; omega)).trans hJ.2.2.2.2.2.1, C24.eq hJ.2.2.2.2.2.2.1 (hf1 (x + 24) (fun j hj => (show False from hj).elim) (by have := hD.1; have := hD.2.1; have := hD.2.2; omega)), XC.eq hJ.2.2.2.2.2.2.2.1 (fun k9 q1 q2 => hf1 (x + k9) (fun j hj => (show False from hj).elim) (by have := hD.1; have := hD.2.1; have := hD.2.2; omega)), SQ.eq hJ.2.2.2.2.2.2.2.2.1 (fun k9 q1 q2 => hf1 (x + k9) (fun j hj => (show False from hj).elim) (by have := hD.1; have := hD.2.1; have := hD.2.2; omega)), CfC.eq hJ.2.2.2.2.2.2.2.2.2 (fun k9 q1 q2 => hf1 (x + k9) (fun j hj => (show False from hj).elim) (by have := hD.1; have := hD.2.1; have := hD.2.2; omega))⟩
  refine z_istore (lv' := [(6, .int r1), (5, .int (nI i)), (4, .ref d), (3, .ref o), (2, .ref y), (1, .ref x), (0, .ref b)]) B dL_law_1500 (Nat.le_of_ble_eq_true rfl) rfl ?_
  refine z_aload_n B dL_law_1502 rfl 4 rfl ?_
  obtain ⟨⟨rd, le, nx, kn, nu, va, st, th, hM⟩, hg0⟩ := hJ1.2.1
  obtain ⟨fs, hy0⟩ := JM.obj hJ1.2.1
  refine z_callV (As := []) (rest := []) B (r_lossRate G l Φ1 sz1 y rd (NNq c) (CaQ nC F) (TpQ nT Ft) (TtQ nT Ft) (SiQ sn.1) (AtQ sn.2.1) (PtQ 0 (fun _ => 0)) (QlQ qn qL) nC 0 le nx n qn kn co nu va st po (nI tm) aq ob (nI w) r e sm un nT th sn.2.2.1 qd (sn.2.2.2.2.toInt64 &&& 4294967295) sn.2.2.2.1   (by have := hD.1; omega) hM  (fun f9 h9 => h9.1)) (cwV 0 B.1.2.2.2.2 gL_law_X12_lossRate rfl rfl rfl (by decide +kernel) ⟨Nat.le_of_ble_eq_true rfl, Nat.le_of_ble_eq_true rfl⟩) hy0 rfl rfl rfl rfl (Nat.le_of_ble_eq_true rfl) dL_law_1503 (rmL (by omega) (by omega) (by decide) (by decide)) (fun v2 Φ2 sz2 st2 hp2 hs2 => ?_)
  obtain ⟨⟨r2, rfl, hb2⟩, hz2, ⟨th1_, hM2⟩, hF2⟩ := hp2
  have hg2 := (hF2 (y + 25) (fun j q hj => by replace hj : j = 0 := hj; have := hD.1; have := hD.2.1; have := hD.2.2; omega)).trans hg0
  subst sz2
  replace hs2 : st2 = [.double r2] := hs2
  subst st2
  have hJ2 : JK G x y o d (ca) n f co po (tm, r, w, aq, e, ob, sm, un, (nC, F), (nT, Ft)) sn (qn, qL, qd) c n g co po (tm, r, w, aq, e, ob, sm, un, (nC, F), (nT, Ft)) sn (qn, qL, qd) c Φ2 := ⟨In.eq hJ1.1 (fun k hk => hF2 (x + k) (fun j q hj => by replace hj : j = 0 := hj; have := hD.1; have := hD.2.1; have := hD.2.2; omega)), ⟨⟨_, _, _, _, _, _, _, _, hM2⟩, hg2⟩, ⟨_, (hF2 (o) (fun j q hj => by replace hj : j = 0 := hj; have := hD.1; have := hD.2.1; have := hD.2.2; omega)).trans (Classical.choose_spec hJ1.2.2.1)⟩, ⟨_, (hF2 (d) (fun j q hj => by replace hj : j = 0 := hj; have := hD.1; have := hD.2.1; have := hD.2.2; omega)).trans (Classical.choose_spec hJ1.2.2.2.1)⟩, (hF2 (x + 1) (fun j q hj => by replace hj : j = 0 := hj; have := hD.1; have := hD.2.1; have := hD.2.2; omega)).trans hJ1.2.2.2.2.1, (hF2 (x + 2) (fun j q hj => by replace hj : j = 0 := hj; have := hD.1; have := hD.2.1; have := hD.2.2; omega)).trans hJ1.2.2.2.2.2.1, C24.eq hJ1.2.2.2.2.2.2.1 (hF2 (x + 24) (fun j q hj => by replace hj : j = 0 := hj; have := hD.1; have := hD.2.1; have := hD.2.2; omega)), XC.eq hJ1.2.2.2.2.2.2.2.1 (fun k9 q1 q2 => hF2 (x + k9) (fun j q hj => by replace hj : j = 0 := hj; have := hD.1; have := hD.2.1; have := hD.2.2; omega)), SQ.eq hJ1.2.2.2.2.2.2.2.2.1 (fun k9 q1 q2 => hF2 (x + k9) (fun j q hj => by replace hj : j = 0 := hj; have := hD.1; have := hD.2.1; have := hD.2.2; omega)), CfC.eq hJ1.2.2.2.2.2.2.2.2.2 (fun k9 q1 q2 => hF2 (x + k9) (fun j q hj => by replace hj : j = 0 := hj; have := hD.1; have := hD.2.1; have := hD.2.2; omega))⟩
  refine z_dstore (lv' := [(7, .double r2), (6, .int r1), (5, .int (nI i)), (4, .ref d), (3, .ref o), (2, .ref y), (1, .ref x), (0, .ref b)]) B dL_law_1506 (Nat.le_of_ble_eq_true rfl) rfl ?_
  refine z_goto (tgt := 2001) B dL_law_1508 rfl ?_
  refine z_lv [2, 3, 4, 5, 6, 7] rfl ?_
  refine z_widen (k := cells + 2) (n := slots + 12) (by omega) (by omega) ?_
  exact hT _ hd0 Φ2 sz1 (JJ.of (JK.up hJ2 (by omega)) hG rfl rfl rfl rfl rfl rfl rfl hEq)

set_option maxHeartbeats 4000000 in
set_option maxRecDepth 100000 in
theorem lc_46 {p9 : Program} {e9 : Env} {s9 : State} {m9 : MethodId} {a9 : Array Value} {w9 : List Frame} {t9 : Method} {k9 : Code} {Q9 : State → Prop} {nm9 : String} (G : EnvG) (l : Launch) (hl9 : l.stackTraces = false) {d0 : Drawn} (hd0 : s9.drawn.sameBut d0 lw_cs) (B : Bd p9 (s9.setDrawn d0) m9 a9 t9 k9 G code 9 RL wsL_law ret nm9) (Φ : Hm) (sz b L i : Nat) (xs : Nat → Int32) (hX : va_X b L xs (s9.setDrawn d0) (s9.setDrawn d0).heap) (hbn : b < G.2.2.2) (hL : L ≤ 3584) (hi : i + 7 ≤ L) (x y o d ca cells slots : Nat) (hna : G.2.2.2 ≤ x) (hD : Ds x y o d) (hca : ca ≤ 10000) (hcl : cells ≤ 8000) (hsl : slots ≤ 80000) (hJ : JJ G x y o d ca Φ) (hT : ∀ (d1 : Drawn), s9.drawn.sameBut d1 lw_cs → ∀ (Φ1 : Hm) (sz1 : Nat), JJ G x y o d (ca + 12) Φ1 → Z p9 l e9 room_1 (s9.setDrawn d1) m9 a9 w9 t9 k9 Q9 G 9 2001 [(5, .int (nI i)), (4, .ref d), (3, .ref o), (2, .ref y), (1, .ref x), (0, .ref b)] [] Φ1 sz1 (cells + 2) (slots + 12)) : Z p9 l e9 room_1 (s9.setDrawn d0) m9 a9 w9 t9 k9 Q9 G 9 1511 [(5, .int (nI i)), (4, .ref d), (3, .ref o), (2, .ref y), (1, .ref x), (0, .ref b)] [] Φ sz cells slots := by
  obtain ⟨n, f, g, co, po, ⟨tm, r, w, aq, e, ob, sm, un, ⟨nC, F⟩, nT, Ft⟩, sn, ⟨qn, qL, qd⟩, c, hJ, hG, hEq⟩ := hJ
  have hq12 : qn ≤ 12 := SQ.le hJ.2.2.2.2.2.2.2.2.1
  obtain ⟨t7, s7, hCA7⟩ := hJ.2.2.2.2.2.2.2.2.2
  have hW7 := CfA.W hCA7 hG
  have hR7 := CfA.R hCA7 hG
  refine z_aload_n B dL_law_1511 rfl 4 rfl ?_
  have h0 : Φ x = some (o_ 13 [.ref (x + 1), .ref (x + 3), .ref (x + 24), .ref (x + 46), .ref (x + 74), .ref (x + 80), .ref (x + 132), .ref (x + 121)]) := in0 (k := 0) hJ.1 rfl
  refine z_callV (As := []) (rest := []) B (s_X11_restartCollector G l Φ sz x ca  hna hJ.1  ) (cwV 0 B.1.2.2.2.2 gL_law_X11_restartCollector rfl rfl rfl (by decide +kernel) ⟨Nat.le_of_ble_eq_true rfl, Nat.le_of_ble_eq_true rfl⟩) h0 rfl rfl rfl rfl (Nat.le_of_ble_eq_true rfl) dL_law_1512 (rmL (by omega) (by omega) (by decide) (by decide)) (fun v1 Φ1 sz1 st1 hp1 hs1 => ?_)
  obtain ⟨⟨r1, rfl⟩, hz1, hI1, hF1⟩ := hp1
  subst sz1
  replace hs1 : st1 = [.int r1] := hs1
  subst st1
  have hJ1 : JK G x y o d (ca) n f co po (tm, r, w, aq, e, ob, sm, un, (nC, F), (nT, Ft)) sn (qn, qL, qd) c n g co po (tm, r, w, aq, e, ob, sm, un, (nC, F), (nT, Ft)) sn (qn, qL, qd) c Φ1 := ⟨hI1, JM.eq hJ.2.1 (fun k hk => hF1 (y + k) (fun j q hj => by replace hj : 132 ≤ j ∧ j < 149 := hj; have := hD.1; have := hD.2.1; have := hD.2.2; omega)), ⟨_, (hF1 (o) (fun j q hj => by replace hj : 132 ≤ j ∧ j < 149 := hj; have := hD.1; have := hD.2.1; have := hD.2.2; omega)).trans (Classical.choose_spec hJ.2.2.1)⟩, ⟨_, (hF1 (d) (fun j q hj => by replace hj : 132 ≤ j ∧ j < 149 := hj; have := hD.1; have := hD.2.1; have := hD.2.2; omega)).trans (Classical.choose_spec hJ.2.2.2.1)⟩, (hF1 (x + 1) (fun j q hj => by replace hj : 132 ≤ j ∧ j < 149 := hj; have := hD.1; have := hD.2.1; have := hD.2.2; omega)).trans hJ.2.2.2.2.1, (hF1 (x + 2) (fun j q hj => by replace hj : 132 ≤ j ∧ j < 149 := hj; have := hD.1; have := hD.2.1; have := hD.2.2; omega)).trans hJ.2.2.2.2.2.1, C24.eq hJ.2.2.2.2.2.2.1 (hF1 (x + 24) (fun j q hj => by replace hj : 132 ≤ j ∧ j < 149 := hj; have := hD.1; have := hD.2.1; have := hD.2.2; omega)), XC.eq hJ.2.2.2.2.2.2.2.1 (fun k9 q1 q2 => hF1 (x + k9) (fun j q hj => by replace hj : 132 ≤ j ∧ j < 149 := hj; have := hD.1; have := hD.2.1; have := hD.2.2; omega)), SQ.eq hJ.2.2.2.2.2.2.2.2.1 (fun k9 q1 q2 => hF1 (x + k9) (fun j q hj => by replace hj : 132 ≤ j ∧ j < 149 := hj; have := hD.1; have := hD.2.1; have := hD.2.2; omega)), CfC.eq hJ.2.2.2.2.2.2.2.2.2 (fun k9 q1 q2 => hF1 (x + k9) (fun j q hj => by replace hj : 132 ≤ j ∧ j < 149 := hj; have := hD.1; have := hD.2.1; have := hD.2.2; omega))⟩
  refine z_pop B dL_law_1515 rfl ?_
  refine z_aload_n B dL_law_1516 rfl 3 rfl ?_
  obtain ⟨⟨rd, le, nx, kn, nu, va, st, th, hM⟩, hg0⟩ := hJ1.2.1
  obtain ⟨fs, hy0⟩ := JM.obj hJ1.2.1
  refine z_callV (As := []) (rest := []) B (r_restartCollector G l Φ1 sz y rd (NNq c) (CaQ nC F) (TpQ nT Ft) (TtQ nT Ft) (SiQ sn.1) (AtQ sn.2.1) (PtQ 0 (fun _ => 0)) (QlQ qn qL) nC 0 le nx n qn kn co nu va st po (nI tm) aq ob (nI w) r e sm un nT th sn.2.2.1 qd (sn.2.2.2.2.toInt64 &&& 4294967295) sn.2.2.2.1   (by have := hD.1; omega) hM  (fun f9 h9 => h9.1)) (cwV 0 B.1.2.2.2.2 gL_law_X12_restartCollector rfl rfl rfl (by decide +kernel) ⟨Nat.le_of_ble_eq_true rfl, Nat.le_of_ble_eq_true rfl⟩) hy0 rfl rfl rfl rfl (Nat.le_of_ble_eq_true rfl) dL_law_1517 (rmL (by omega) (by omega) (by decide) (by decide)) (fun v2 Φ2 sz2 st2 hp2 hs2 => ?_)
  obtain ⟨⟨r2, rfl⟩, hz2, ⟨th1_, hM2⟩, hF2⟩ := hp2
  have hg2 := (hF2 (y + 25) (fun j q hj => by replace hj : j = 0 ∨ j = 12 := hj; have := hD.1; have := hD.2.1; have := hD.2.2; omega)).trans hg0
  subst sz2
  replace hs2 : st2 = [.int r2] := hs2
  subst st2
  have hJ2 : JK G x y o d (ca) n f co po (tm, r, w, aq, e, ob, sm, un, (nC, F), (nT, Ft)) sn (qn, qL, qd) c n g co po (tm, r, w, aq, e, ob, sm, un, (nC, F), (nT, Ft)) sn (qn, qL, qd) c Φ2 := ⟨In.eq hJ1.1 (fun k hk => hF2 (x + k) (fun j q hj => by replace hj : j = 0 ∨ j = 12 := hj; have := hD.1; have := hD.2.1; have := hD.2.2; omega)), ⟨⟨_, _, _, _, _, _, _, _, hM2⟩, hg2⟩, ⟨_, (hF2 (o) (fun j q hj => by replace hj : j = 0 ∨ j = 12 := hj; have := hD.1; have := hD.2.1; have := hD.2.2; omega)).trans (Classical.choose_spec hJ1.2.2.1)⟩, ⟨_, (hF2 (d) (fun j q hj => by replace hj : j = 0 ∨ j = 12 := hj; have := hD.1; have := hD.2.1; have := hD.2.2; omega)).trans (Classical.choose_spec hJ1.2.2.2.1)⟩, (hF2 (x + 1) (fun j q hj => by replace hj : j = 0 ∨ j = 12 := hj; have := hD.1; have := hD.2.1; have := hD.2.2; omega)).trans hJ1.2.2.2.2.1, (hF2 (x + 2) (fun j q hj => by replace hj : j = 0 ∨ j = 12 := hj; have := hD.1; have := hD.2.1; have := hD.2.2; omega)).trans hJ1.2.2.2.2.2.1, C24.eq hJ1.2.2.2.2.2.2.1 (hF2 (x + 24) (fun j q hj => by replace hj : j = 0 ∨ j = 12 := hj; have := hD.1; have := hD.2.1; have := hD.2.2; omega)), XC.eq hJ1.2.2.2.2.2.2.2.1 (fun k9 q1 q2 => hF2 (x + k9) (fun j q hj => by replace hj : j = 0 ∨ j = 12 := hj; have := hD.1; have := hD.2.1; have := hD.2.2; omega)), SQ.eq hJ1.2.2.2.2.2.2.2.2.1 (fun k9 q1 q2 => hF2 (x + k9) (fun j q hj => by replace hj : j = 0 ∨ j = 12 := hj; have := hD.1; have := hD.2.1; have := hD.2.2; omega)), CfC.eq hJ1.2.2.2.2.2.2.2.2.2 (fun k9 q1 q2 => hF2 (x + k9) (fun j q hj => by replace hj : j = 0 ∨ j = 12 := hj; have := hD.1; have := hD.2.1; have := hD.2.2; omega))⟩
  refine z_pop B dL_law_1520 rfl ?_
  refine z_goto (tgt := 2001) B dL_law_1521 rfl ?_
  refine z_widen (k := cells + 2) (n := slots + 12) (by omega) (by omega) ?_
  exact hT _ hd0 Φ2 sz (JJ.of (JK.up hJ2 (by omega)) hG rfl rfl rfl rfl rfl rfl rfl hEq)

set_option maxHeartbeats 4000000 in
set_option maxRecDepth 100000 in
theorem lc_47 {p9 : Program} {e9 : Env} {s9 : State} {m9 : MethodId} {a9 : Array Value} {w9 : List Frame} {t9 : Method} {k9 : Code} {Q9 : State → Prop} {nm9 : String} (G : EnvG) (l : Launch) (hl9 : l.stackTraces = false) {d0 : Drawn} (hd0 : s9.drawn.sameBut d0 lw_cs) (B : Bd p9 (s9.setDrawn d0) m9 a9 t9 k9 G code 9 RL wsL_law ret nm9) (Φ : Hm) (sz b L i : Nat) (xs : Nat → Int32) (hX : va_X b L xs (s9.setDrawn d0) (s9.setDrawn d0).heap) (hbn : b < G.2.2.2) (hL : L ≤ 3584) (hi : i + 7 ≤ L) (x y o d ca cells slots : Nat) (hna : G.2.2.2 ≤ x) (hD : Ds x y o d) (hca : ca ≤ 10000) (hcl : cells ≤ 8000) (hsl : slots ≤ 80000) (hJ : JJ G x y o d ca Φ) (hT : ∀ (d1 : Drawn), s9.drawn.sameBut d1 lw_cs → ∀ (Φ1 : Hm) (sz1 : Nat), JJ G x y o d (ca + 12) Φ1 → Z p9 l e9 room_1 (s9.setDrawn d1) m9 a9 w9 t9 k9 Q9 G 9 2001 [(5, .int (nI i)), (4, .ref d), (3, .ref o), (2, .ref y), (1, .ref x), (0, .ref b)] [] Φ1 sz1 (cells + 2) (slots + 12)) : Z p9 l e9 room_1 (s9.setDrawn d0) m9 a9 w9 t9 k9 Q9 G 9 1524 [(5, .int (nI i)), (4, .ref d), (3, .ref o), (2, .ref y), (1, .ref x), (0, .ref b)] [] Φ sz cells slots := by
  obtain ⟨n, f, g, co, po, ⟨tm, r, w, aq, e, ob, sm, un, ⟨nC, F⟩, nT, Ft⟩, sn, ⟨qn, qL, qd⟩, c, hJ, hG, hEq⟩ := hJ
  have hq12 : qn ≤ 12 := SQ.le hJ.2.2.2.2.2.2.2.2.1
  obtain ⟨t7, s7, hCA7⟩ := hJ.2.2.2.2.2.2.2.2.2
  have hW7 := CfA.W hCA7 hG
  have hR7 := CfA.R hCA7 hG
  refine z_aload_n B dL_law_1524 rfl 4 rfl ?_
  have h0 : Φ x = some (o_ 13 [.ref (x + 1), .ref (x + 3), .ref (x + 24), .ref (x + 46), .ref (x + 74), .ref (x + 80), .ref (x + 132), .ref (x + 121)]) := in0 (k := 0) hJ.1 rfl
  refine z_callV (As := []) (rest := []) B (s_X11_keyCount G l Φ sz x ca  hna hJ.1  ) (cwV 0 B.1.2.2.2.2 gL_law_X11_keyCount rfl rfl rfl (by decide +kernel) ⟨Nat.le_of_ble_eq_true rfl, Nat.le_of_ble_eq_true rfl⟩) h0 rfl rfl rfl rfl (Nat.le_of_ble_eq_true rfl) dL_law_1525 (rmL (by omega) (by omega) (by decide) (by decide)) (fun v1 Φ1 sz1 st1 hp1 hs1 => ?_)
  obtain ⟨⟨r1, rfl⟩, hz1, hI1, hF1⟩ := hp1
  subst sz1
  replace hs1 : st1 = [.int r1] := hs1
  subst st1
  have hJ1 : JK G x y o d (ca) n f co po (tm, r, w, aq, e, ob, sm, un, (nC, F), (nT, Ft)) sn (qn, qL, qd) c n g co po (tm, r, w, aq, e, ob, sm, un, (nC, F), (nT, Ft)) sn (qn, qL, qd) c Φ1 := ⟨hI1, JM.eq hJ.2.1 (fun k hk => hF1 (y + k) (fun j q hj => (show False from hj).elim)), ⟨_, (hF1 (o) (fun j q hj => (show False from hj).elim)).trans (Classical.choose_spec hJ.2.2.1)⟩, ⟨_, (hF1 (d) (fun j q hj => (show False from hj).elim)).trans (Classical.choose_spec hJ.2.2.2.1)⟩, (hF1 (x + 1) (fun j q hj => (show False from hj).elim)).trans hJ.2.2.2.2.1, (hF1 (x + 2) (fun j q hj => (show False from hj).elim)).trans hJ.2.2.2.2.2.1, C24.eq hJ.2.2.2.2.2.2.1 (hF1 (x + 24) (fun j q hj => (show False from hj).elim)), XC.eq hJ.2.2.2.2.2.2.2.1 (fun k9 q1 q2 => hF1 (x + k9) (fun j q hj => (show False from hj).elim)), SQ.eq hJ.2.2.2.2.2.2.2.2.1 (fun k9 q1 q2 => hF1 (x + k9) (fun j q hj => (show False from hj).elim)), CfC.eq hJ.2.2.2.2.2.2.2.2.2 (fun k9 q1 q2 => hF1 (x + k9) (fun j q hj => (show False from hj).elim))⟩
  refine z_pop B dL_law_1528 rfl ?_
  refine z_aload_n B dL_law_1529 rfl 3 rfl ?_
  obtain ⟨⟨rd, le, nx, kn, nu, va, st, th, hM⟩, hg0⟩ := hJ1.2.1
  obtain ⟨fs, hy0⟩ := JM.obj hJ1.2.1
  refine z_callV (As := []) (rest := []) B (r_keyCount G l Φ1 sz y rd (NNq c) (CaQ nC F) (TpQ nT Ft) (TtQ nT Ft) (SiQ sn.1) (AtQ sn.2.1) (PtQ 0 (fun _ => 0)) (QlQ qn qL) nC 0 le nx n qn kn co nu va st po (nI tm) aq ob (nI w) r e sm un nT th sn.2.2.1 qd (sn.2.2.2.2.toInt64 &&& 4294967295) sn.2.2.2.1   (by have := hD.1; omega) hM  (fun f9 h9 => h9.1)) (cwV 0 B.1.2.2.2.2 gL_law_X12_keyCount rfl rfl rfl (by decide +kernel) ⟨Nat.le_of_ble_eq_true rfl, Nat.le_of_ble_eq_true rfl⟩) hy0 rfl rfl rfl rfl (Nat.le_of_ble_eq_true rfl) dL_law_1530 (rmL (by omega) (by omega) (by decide) (by decide)) (fun v2 Φ2 sz2 st2 hp2 hs2 => ?_)
  obtain ⟨⟨r2, rfl⟩, hz2, ⟨th1_, hM2⟩, hF2⟩ := hp2
  have hg2 := (hF2 (y + 25) (fun j q hj => by replace hj : j = 0 := hj; have := hD.1; have := hD.2.1; have := hD.2.2; omega)).trans hg0
  subst sz2
  replace hs2 : st2 = [.int r2] := hs2
  subst st2
  have hJ2 : JK G x y o d (ca) n f co po (tm, r, w, aq, e, ob, sm, un, (nC, F), (nT, Ft)) sn (qn, qL, qd) c n g co po (tm, r, w, aq, e, ob, sm, un, (nC, F), (nT, Ft)) sn (qn, qL, qd) c Φ2 := ⟨In.eq hJ1.1 (fun k hk => hF2 (x + k) (fun j q hj => by replace hj : j = 0 := hj; have := hD.1; have := hD.2.1; have := hD.2.2; omega)), ⟨⟨_, _, _, _, _, _, _, _, hM2⟩, hg2⟩, ⟨_, (hF2 (o) (fun j q hj => by replace hj : j = 0 := hj; have := hD.1; have := hD.2.1; have := hD.2.2; omega)).trans (Classical.choose_spec hJ1.2.2.1)⟩, ⟨_, (hF2 (d) (fun j q hj => by replace hj : j = 0 := hj; have := hD.1; have := hD.2.1; have := hD.2.2; omega)).trans (Classical.choose_spec hJ1.2.2.2.1)⟩, (hF2 (x + 1) (fun j q hj => by replace hj : j = 0 := hj; have := hD.1; have := hD.2.1; have := hD.2.2; omega)).trans hJ1.2.2.2.2.1, (hF2 (x + 2) (fun j q hj => by replace hj : j = 0 := hj; have := hD.1; have := hD.2.1; have := hD.2.2; omega)).trans hJ1.2.2.2.2.2.1, C24.eq hJ1.2.2.2.2.2.2.1 (hF2 (x + 24) (fun j q hj => by replace hj : j = 0 := hj; have := hD.1; have := hD.2.1; have := hD.2.2; omega)), XC.eq hJ1.2.2.2.2.2.2.2.1 (fun k9 q1 q2 => hF2 (x + k9) (fun j q hj => by replace hj : j = 0 := hj; have := hD.1; have := hD.2.1; have := hD.2.2; omega)), SQ.eq hJ1.2.2.2.2.2.2.2.2.1 (fun k9 q1 q2 => hF2 (x + k9) (fun j q hj => by replace hj : j = 0 := hj; have := hD.1; have := hD.2.1; have := hD.2.2; omega)), CfC.eq hJ1.2.2.2.2.2.2.2.2.2 (fun k9 q1 q2 => hF2 (x + k9) (fun j q hj => by replace hj : j = 0 := hj; have := hD.1; have := hD.2.1; have := hD.2.2; omega))⟩
  refine z_pop B dL_law_1533 rfl ?_
  refine z_goto (tgt := 2001) B dL_law_1534 rfl ?_
  refine z_widen (k := cells + 2) (n := slots + 12) (by omega) (by omega) ?_
  exact hT _ hd0 Φ2 sz (JJ.of (JK.up hJ2 (by omega)) hG rfl rfl rfl rfl rfl rfl rfl hEq)

set_option maxHeartbeats 4000000 in
set_option maxRecDepth 100000 in
theorem lc_48 {p9 : Program} {e9 : Env} {s9 : State} {m9 : MethodId} {a9 : Array Value} {w9 : List Frame} {t9 : Method} {k9 : Code} {Q9 : State → Prop} {nm9 : String} (G : EnvG) (l : Launch) (hl9 : l.stackTraces = false) {d0 : Drawn} (hd0 : s9.drawn.sameBut d0 lw_cs) (B : Bd p9 (s9.setDrawn d0) m9 a9 t9 k9 G code 9 RL wsL_law ret nm9) (Φ : Hm) (sz b L i : Nat) (xs : Nat → Int32) (hX : va_X b L xs (s9.setDrawn d0) (s9.setDrawn d0).heap) (hbn : b < G.2.2.2) (hL : L ≤ 3584) (hi : i + 7 ≤ L) (x y o d ca cells slots : Nat) (hna : G.2.2.2 ≤ x) (hD : Ds x y o d) (hca : ca ≤ 10000) (hcl : cells ≤ 8000) (hsl : slots ≤ 80000) (hJ : JJ G x y o d ca Φ) (hT : ∀ (d1 : Drawn), s9.drawn.sameBut d1 lw_cs → ∀ (Φ1 : Hm) (sz1 : Nat), JJ G x y o d (ca + 12) Φ1 → Z p9 l e9 room_1 (s9.setDrawn d1) m9 a9 w9 t9 k9 Q9 G 9 2001 [(5, .int (nI i)), (4, .ref d), (3, .ref o), (2, .ref y), (1, .ref x), (0, .ref b)] [] Φ1 sz1 (cells + 2) (slots + 12)) : Z p9 l e9 room_1 (s9.setDrawn d0) m9 a9 w9 t9 k9 Q9 G 9 1537 [(5, .int (nI i)), (4, .ref d), (3, .ref o), (2, .ref y), (1, .ref x), (0, .ref b)] [] Φ sz cells slots := by
  obtain ⟨n, f, g, co, po, ⟨tm, r, w, aq, e, ob, sm, un, ⟨nC, F⟩, nT, Ft⟩, sn, ⟨qn, qL, qd⟩, c, hJ, hG, hEq⟩ := hJ
  have hq12 : qn ≤ 12 := SQ.le hJ.2.2.2.2.2.2.2.2.1
  obtain ⟨t7, s7, hCA7⟩ := hJ.2.2.2.2.2.2.2.2.2
  have hW7 := CfA.W hCA7 hG
  have hR7 := CfA.R hCA7 hG
  refine z_aload_n B dL_law_1537 rfl 4 rfl ?_
  refine z_aload_n B dL_law_1538 rfl 5 rfl ?_
  refine z_iload B dL_law_1539 0 rfl ?_
  refine z_iconst (v := 1) B dL_law_1541 rfl ?_
  refine z_iadd B dL_law_1542 ?_
  refine z_sald B hX hbn (vinL (n := 1) rfl (by omega) hL) dL_law_1543 ?_
  refine z_aload_n B dL_law_1544 rfl 5 rfl ?_
  refine z_iload B dL_law_1545 0 rfl ?_
  refine z_iconst (v := 2) B dL_law_1547 rfl ?_
  refine z_iadd B dL_law_1548 ?_
  refine z_sald B hX hbn (vinL (n := 2) rfl (by omega) hL) dL_law_1549 ?_
  refine z_aload_n B dL_law_1550 rfl 2 rfl ?_
  obtain ⟨fo, hco⟩ := hJ.2.2.1
  refine z_callSW (As := [.ref x, .int (xs (nI i + 1).toNatClampNeg), .int (xs (nI i + 2).toNatClampNeg), .ref o]) (rest := []) B (w_key G l hl9 Φ sz x ca (xs (nI i + 1).toNatClampNeg) (xs (nI i + 2).toNatClampNeg) o fo hna (by have := hD.1; have := hD.2.1; have := hD.2.2; omega) (fun j hj => by have := hD.1; have := hD.2.1; have := hD.2.2; omega) hJ.1 hco ) (vx_cwSW 4 B.1.2.2.2.2 gL_law_L_key rfl rfl rfl (by decide +kernel) ⟨Nat.le_of_ble_eq_true rfl, Nat.le_of_ble_eq_true rfl⟩) rfl rfl (Nat.le_of_ble_eq_true rfl) dL_law_1551 (rmL (by omega) (by omega) (by decide) (by decide)) (fun v1 Φ1 sz1 st1 hp1 hs1 => ?_)
  obtain ⟨⟨r1, rfl⟩, hI1, ho1, hf1⟩ := hp1
  replace hs1 : st1 = [.int r1] := hs1
  subst st1
  have hJ1 : JK G x y o d (ca) n f co po (tm, r, w, aq, e, ob, sm, un, (nC, F), (nT, Ft)) sn (qn, qL, qd) c n g co po (tm, r, w, aq, e, ob, sm, un, (nC, F), (nT, Ft)) sn (qn, qL, qd) c Φ1 := ⟨hI1, JM.eq hJ.2.1 (fun k hk => hf1 (y + k) (fun j hj => (show False from hj).elim) (by have := hD.1; have := hD.2.1; have := hD.2.2; omega)), ho1, ⟨_, (hf1 d (fun j hj => (show False from hj).elim) (by have := hD.1; have := hD.2.1; have := hD.2.2; omega)).trans (Classical.choose_spec hJ.2.2.2.1)⟩, (hf1 (x + 1) (fun j hj => (show False from hj).elim) (by have := hD.1; have := hD.2.1; have := hD.2.2; omega)).trans hJ.2.2.2.2.1, (hf1 (x + 2) (fun j hj => (show False from hj).elim) (by have := hD.1; have := hD.2.1; have := hD.2.2; omega)).trans hJ.2.2.2.2.2.1, C24.eq hJ.2.2.2.2.2.2.1 (hf1 (x + 24) (fun j hj => (show False from hj).elim) (by have := hD.1; have := hD.2.1; have := hD.2.2; omega)), XC.eq hJ.2.2.2.2.2.2.2.1 (fun k9 q1 q2 => hf1 (x + k9) (fun j hj => (show False from hj).elim) (by have := hD.1; have := hD.2.1; have := hD.2.2; omega)), SQ.eq hJ.2.2.2.2.2.2.2.2.1 (fun k9 q1 q2 => hf1 (x + k9) (fun j hj => (show False from hj).elim) (by have := hD.1; have := hD.2.1; have := hD.2.2; omega)), CfC.eq hJ.2.2.2.2.2.2.2.2.2 (fun k9 q1 q2 => hf1 (x + k9) (fun j hj => (show False from hj).elim) (by have := hD.1; have := hD.2.1; have := hD.2.2; omega))⟩
  refine z_istore (lv' := [(6, .int r1), (5, .int (nI i)), (4, .ref d), (3, .ref o), (2, .ref y), (1, .ref x), (0, .ref b)]) B dL_law_1554 (Nat.le_of_ble_eq_true rfl) rfl ?_
  refine z_aload_n B dL_law_1556 rfl 4 rfl ?_
  refine z_aload_n B dL_law_1557 rfl 6 rfl ?_
  refine z_iload B dL_law_1558 1 rfl ?_
  refine z_iconst (v := 1) B dL_law_1560 rfl ?_
  refine z_iadd B dL_law_1561 ?_
  refine z_sald B hX hbn (vinL (n := 1) rfl (by omega) hL) dL_law_1562 ?_
  refine z_aload_n B dL_law_1563 rfl 6 rfl ?_
  refine z_iload B dL_law_1564 1 rfl ?_
  refine z_iconst (v := 2) B dL_law_1566 rfl ?_
  refine z_iadd B dL_law_1567 ?_
  refine z_sald B hX hbn (vinL (n := 2) rfl (by omega) hL) dL_law_1568 ?_
  obtain ⟨⟨rd, le, nx, kn, nu, va, st, th, hM⟩, hg0⟩ := hJ1.2.1
  obtain ⟨fs, hy0⟩ := JM.obj hJ1.2.1
  refine z_callV (As := [.int (xs (nI i + 1).toNatClampNeg), .int (xs (nI i + 2).toNatClampNeg)]) (rest := []) B (r_key G l Φ1 sz1 y rd (NNq c) (CaQ nC F) (TpQ nT Ft) (TtQ nT Ft) (SiQ sn.1) (AtQ sn.2.1) (PtQ 0 (fun _ => 0)) (QlQ qn qL) nC 0 le nx n qn kn co nu va st po (nI tm) aq ob (nI w) r e sm un nT th sn.2.2.1 qd (sn.2.2.2.2.toInt64 &&& 4294967295) sn.2.2.2.1  (xs (nI i + 1).toNatClampNeg) (xs (nI i + 2).toNatClampNeg) (by have := hD.1; omega) hM  (fun f9 h9 => h9.1)) (cwV 2 B.1.2.2.2.2 gL_law_X12_key rfl rfl rfl (by decide +kernel) ⟨Nat.le_of_ble_eq_true rfl, Nat.le_of_ble_eq_true rfl⟩) hy0 rfl rfl rfl rfl (Nat.le_of_ble_eq_true rfl) dL_law_1569 (rmL (by omega) (by omega) (by decide) (by decide)) (fun v2 Φ2 sz2 st2 hp2 hs2 => ?_)
  obtain ⟨⟨r2, rfl⟩, hz2, ⟨th1_, hM2⟩, hF2⟩ := hp2
  have hg2 := (hF2 (y + 25) (fun j q hj => by replace hj : j = 0 := hj; have := hD.1; have := hD.2.1; have := hD.2.2; omega)).trans hg0
  subst sz2
  replace hs2 : st2 = [.int r2] := hs2
  subst st2
  have hJ2 : JK G x y o d (ca) n f co po (tm, r, w, aq, e, ob, sm, un, (nC, F), (nT, Ft)) sn (qn, qL, qd) c n g co po (tm, r, w, aq, e, ob, sm, un, (nC, F), (nT, Ft)) sn (qn, qL, qd) c Φ2 := ⟨In.eq hJ1.1 (fun k hk => hF2 (x + k) (fun j q hj => by replace hj : j = 0 := hj; have := hD.1; have := hD.2.1; have := hD.2.2; omega)), ⟨⟨_, _, _, _, _, _, _, _, hM2⟩, hg2⟩, ⟨_, (hF2 (o) (fun j q hj => by replace hj : j = 0 := hj; have := hD.1; have := hD.2.1; have := hD.2.2; omega)).trans (Classical.choose_spec hJ1.2.2.1)⟩, ⟨_, (hF2 (d) (fun j q hj => by replace hj : j = 0 := hj; have := hD.1; have := hD.2.1; have := hD.2.2; omega)).trans (Classical.choose_spec hJ1.2.2.2.1)⟩, (hF2 (x + 1) (fun j q hj => by replace hj : j = 0 := hj; have := hD.1; have := hD.2.1; have := hD.2.2; omega)).trans hJ1.2.2.2.2.1, (hF2 (x + 2) (fun j q hj => by replace hj : j = 0 := hj; have := hD.1; have := hD.2.1; have := hD.2.2; omega)).trans hJ1.2.2.2.2.2.1, C24.eq hJ1.2.2.2.2.2.2.1 (hF2 (x + 24) (fun j q hj => by replace hj : j = 0 := hj; have := hD.1; have := hD.2.1; have := hD.2.2; omega)), XC.eq hJ1.2.2.2.2.2.2.2.1 (fun k9 q1 q2 => hF2 (x + k9) (fun j q hj => by replace hj : j = 0 := hj; have := hD.1; have := hD.2.1; have := hD.2.2; omega)), SQ.eq hJ1.2.2.2.2.2.2.2.2.1 (fun k9 q1 q2 => hF2 (x + k9) (fun j q hj => by replace hj : j = 0 := hj; have := hD.1; have := hD.2.1; have := hD.2.2; omega)), CfC.eq hJ1.2.2.2.2.2.2.2.2.2 (fun k9 q1 q2 => hF2 (x + k9) (fun j q hj => by replace hj : j = 0 := hj; have := hD.1; have := hD.2.1; have := hD.2.2; omega))⟩
  refine z_istore (lv' := [(7, .int r2), (6, .int r1), (5, .int (nI i)), (4, .ref d), (3, .ref o), (2, .ref y), (1, .ref x), (0, .ref b)]) B dL_law_1572 (Nat.le_of_ble_eq_true rfl) rfl ?_
  refine z_goto (tgt := 2001) B dL_law_1574 rfl ?_
  refine z_lv [2, 3, 4, 5, 6, 7] rfl ?_
  refine z_widen (k := cells + 2) (n := slots + 12) (by omega) (by omega) ?_
  exact hT _ hd0 Φ2 sz1 (JJ.of (JK.up hJ2 (by omega)) hG rfl rfl rfl rfl rfl rfl rfl hEq)

set_option maxHeartbeats 4000000 in
set_option maxRecDepth 100000 in
theorem lc_49 {p9 : Program} {e9 : Env} {s9 : State} {m9 : MethodId} {a9 : Array Value} {w9 : List Frame} {t9 : Method} {k9 : Code} {Q9 : State → Prop} {nm9 : String} (G : EnvG) (l : Launch) (hl9 : l.stackTraces = false) {d0 : Drawn} (hd0 : s9.drawn.sameBut d0 lw_cs) (B : Bd p9 (s9.setDrawn d0) m9 a9 t9 k9 G code 9 RL wsL_law ret nm9) (Φ : Hm) (sz b L i : Nat) (xs : Nat → Int32) (hX : va_X b L xs (s9.setDrawn d0) (s9.setDrawn d0).heap) (hbn : b < G.2.2.2) (hL : L ≤ 3584) (hi : i + 7 ≤ L) (x y o d ca cells slots : Nat) (hna : G.2.2.2 ≤ x) (hD : Ds x y o d) (hca : ca ≤ 10000) (hcl : cells ≤ 8000) (hsl : slots ≤ 80000) (hJ : JJ G x y o d ca Φ) (hT : ∀ (d1 : Drawn), s9.drawn.sameBut d1 lw_cs → ∀ (Φ1 : Hm) (sz1 : Nat), JJ G x y o d (ca + 12) Φ1 → Z p9 l e9 room_1 (s9.setDrawn d1) m9 a9 w9 t9 k9 Q9 G 9 2001 [(5, .int (nI i)), (4, .ref d), (3, .ref o), (2, .ref y), (1, .ref x), (0, .ref b)] [] Φ1 sz1 (cells + 2) (slots + 12)) : Z p9 l e9 room_1 (s9.setDrawn d0) m9 a9 w9 t9 k9 Q9 G 9 1577 [(5, .int (nI i)), (4, .ref d), (3, .ref o), (2, .ref y), (1, .ref x), (0, .ref b)] [] Φ sz cells slots := by
  obtain ⟨n, f, g, co, po, ⟨tm, r, w, aq, e, ob, sm, un, ⟨nC, F⟩, nT, Ft⟩, sn, ⟨qn, qL, qd⟩, c, hJ, hG, hEq⟩ := hJ
  have hq12 : qn ≤ 12 := SQ.le hJ.2.2.2.2.2.2.2.2.1
  obtain ⟨t7, s7, hCA7⟩ := hJ.2.2.2.2.2.2.2.2.2
  have hW7 := CfA.W hCA7 hG
  have hR7 := CfA.R hCA7 hG
  refine z_aload_n B dL_law_1577 rfl 4 rfl ?_
  refine z_aload_n B dL_law_1578 rfl 5 rfl ?_
  refine z_iload B dL_law_1579 0 rfl ?_
  refine z_iconst (v := 1) B dL_law_1581 rfl ?_
  refine z_iadd B dL_law_1582 ?_
  refine z_sald B hX hbn (vinL (n := 1) rfl (by omega) hL) dL_law_1583 ?_
  refine z_aload_n B dL_law_1584 rfl 5 rfl ?_
  refine z_iload B dL_law_1585 0 rfl ?_
  refine z_iconst (v := 2) B dL_law_1587 rfl ?_
  refine z_iadd B dL_law_1588 ?_
  refine z_sald B hX hbn (vinL (n := 2) rfl (by omega) hL) dL_law_1589 ?_
  refine z_aload_n B dL_law_1590 rfl 5 rfl ?_
  refine z_iload B dL_law_1591 0 rfl ?_
  refine z_iconst (v := 3) B dL_law_1593 rfl ?_
  refine z_iadd B dL_law_1594 ?_
  refine z_sald B hX hbn (vinL (n := 3) rfl (by omega) hL) dL_law_1595 ?_
  refine z_aload_n B dL_law_1596 rfl 5 rfl ?_
  refine z_iload B dL_law_1597 0 rfl ?_
  refine z_iconst (v := 4) B dL_law_1599 rfl ?_
  refine z_iadd B dL_law_1600 ?_
  refine z_sald B hX hbn (vinL (n := 4) rfl (by omega) hL) dL_law_1601 ?_
  have h0 : Φ x = some (o_ 13 [.ref (x + 1), .ref (x + 3), .ref (x + 24), .ref (x + 46), .ref (x + 74), .ref (x + 80), .ref (x + 132), .ref (x + 121)]) := in0 (k := 0) hJ.1 rfl
  refine z_callV (As := [.int (xs (nI i + 1).toNatClampNeg), .int (xs (nI i + 2).toNatClampNeg), .int (xs (nI i + 3).toNatClampNeg), .int (xs (nI i + 4).toNatClampNeg)]) (rest := []) B (s_X11_find G l Φ sz x ca (xs (nI i + 1).toNatClampNeg) (xs (nI i + 2).toNatClampNeg) (xs (nI i + 3).toNatClampNeg) (xs (nI i + 4).toNatClampNeg) hna hJ.1  ) (cwV 4 B.1.2.2.2.2 gL_law_X11_find rfl rfl rfl (by decide +kernel) ⟨Nat.le_of_ble_eq_true rfl, Nat.le_of_ble_eq_true rfl⟩) h0 rfl rfl rfl rfl (Nat.le_of_ble_eq_true rfl) dL_law_1602 (rmL (by omega) (by omega) (by decide) (by decide)) (fun v1 Φ1 sz1 st1 hp1 hs1 => ?_)
  obtain ⟨⟨r1, rfl⟩, hz1, hI1, hF1⟩ := hp1
  subst sz1
  replace hs1 : st1 = [.int r1] := hs1
  subst st1
  have hJ1 : JK G x y o d (ca) n f co po (tm, r, w, aq, e, ob, sm, un, (nC, F), (nT, Ft)) sn (qn, qL, qd) c n g co po (tm, r, w, aq, e, ob, sm, un, (nC, F), (nT, Ft)) sn (qn, qL, qd) c Φ1 := ⟨hI1, JM.eq hJ.2.1 (fun k hk => hF1 (y + k) (fun j q hj => (show False from hj).elim)), ⟨_, (hF1 (o) (fun j q hj => (show False from hj).elim)).trans (Classical.choose_spec hJ.2.2.1)⟩, ⟨_, (hF1 (d) (fun j q hj => (show False from hj).elim)).trans (Classical.choose_spec hJ.2.2.2.1)⟩, (hF1 (x + 1) (fun j q hj => (show False from hj).elim)).trans hJ.2.2.2.2.1, (hF1 (x + 2) (fun j q hj => (show False from hj).elim)).trans hJ.2.2.2.2.2.1, C24.eq hJ.2.2.2.2.2.2.1 (hF1 (x + 24) (fun j q hj => (show False from hj).elim)), XC.eq hJ.2.2.2.2.2.2.2.1 (fun k9 q1 q2 => hF1 (x + k9) (fun j q hj => (show False from hj).elim)), SQ.eq hJ.2.2.2.2.2.2.2.2.1 (fun k9 q1 q2 => hF1 (x + k9) (fun j q hj => (show False from hj).elim)), CfC.eq hJ.2.2.2.2.2.2.2.2.2 (fun k9 q1 q2 => hF1 (x + k9) (fun j q hj => (show False from hj).elim))⟩
  refine z_pop B dL_law_1605 rfl ?_
  refine z_aload_n B dL_law_1606 rfl 3 rfl ?_
  refine z_aload_n B dL_law_1607 rfl 5 rfl ?_
  refine z_iload B dL_law_1608 0 rfl ?_
  refine z_iconst (v := 1) B dL_law_1610 rfl ?_
  refine z_iadd B dL_law_1611 ?_
  refine z_sald B hX hbn (vinL (n := 1) rfl (by omega) hL) dL_law_1612 ?_
  refine z_aload_n B dL_law_1613 rfl 5 rfl ?_
  refine z_iload B dL_law_1614 0 rfl ?_
  refine z_iconst (v := 2) B dL_law_1616 rfl ?_
  refine z_iadd B dL_law_1617 ?_
  refine z_sald B hX hbn (vinL (n := 2) rfl (by omega) hL) dL_law_1618 ?_
  refine z_aload_n B dL_law_1619 rfl 5 rfl ?_
  refine z_iload B dL_law_1620 0 rfl ?_
  refine z_iconst (v := 3) B dL_law_1622 rfl ?_
  refine z_iadd B dL_law_1623 ?_
  refine z_sald B hX hbn (vinL (n := 3) rfl (by omega) hL) dL_law_1624 ?_
  refine z_aload_n B dL_law_1625 rfl 5 rfl ?_
  refine z_iload B dL_law_1626 0 rfl ?_
  refine z_iconst (v := 4) B dL_law_1628 rfl ?_
  refine z_iadd B dL_law_1629 ?_
  refine z_sald B hX hbn (vinL (n := 4) rfl (by omega) hL) dL_law_1630 ?_
  obtain ⟨⟨rd, le, nx, kn, nu, va, st, th, hM⟩, hg0⟩ := hJ1.2.1
  obtain ⟨fs, hy0⟩ := JM.obj hJ1.2.1
  refine z_callV (As := [.int (xs (nI i + 1).toNatClampNeg), .int (xs (nI i + 2).toNatClampNeg), .int (xs (nI i + 3).toNatClampNeg), .int (xs (nI i + 4).toNatClampNeg)]) (rest := []) B (r_find G l Φ1 sz y rd (NNq c) (CaQ nC F) (TpQ nT Ft) (TtQ nT Ft) (SiQ sn.1) (AtQ sn.2.1) (PtQ 0 (fun _ => 0)) (QlQ qn qL) nC 0 le nx n qn kn co nu va st po (nI tm) aq ob (nI w) r e sm un nT th sn.2.2.1 qd (sn.2.2.2.2.toInt64 &&& 4294967295) sn.2.2.2.1  (xs (nI i + 1).toNatClampNeg) (xs (nI i + 2).toNatClampNeg) (xs (nI i + 3).toNatClampNeg) (xs (nI i + 4).toNatClampNeg) (by have := hD.1; omega) hM  (fun f9 h9 => h9.1)) (cwV 4 B.1.2.2.2.2 gL_law_X12_find rfl rfl rfl (by decide +kernel) ⟨Nat.le_of_ble_eq_true rfl, Nat.le_of_ble_eq_true rfl⟩) hy0 rfl rfl rfl rfl (Nat.le_of_ble_eq_true rfl) dL_law_1631 (rmL (by omega) (by omega) (by decide) (by decide)) (fun v2 Φ2 sz2 st2 hp2 hs2 => ?_)
  obtain ⟨⟨r2, rfl⟩, hz2, ⟨th1_, hM2⟩, hF2⟩ := hp2
  have hg2 := (hF2 (y + 25) (fun j q hj => by replace hj : j = 0 := hj; have := hD.1; have := hD.2.1; have := hD.2.2; omega)).trans hg0
  subst sz2
  replace hs2 : st2 = [.int r2] := hs2
  subst st2
  have hJ2 : JK G x y o d (ca) n f co po (tm, r, w, aq, e, ob, sm, un, (nC, F), (nT, Ft)) sn (qn, qL, qd) c n g co po (tm, r, w, aq, e, ob, sm, un, (nC, F), (nT, Ft)) sn (qn, qL, qd) c Φ2 := ⟨In.eq hJ1.1 (fun k hk => hF2 (x + k) (fun j q hj => by replace hj : j = 0 := hj; have := hD.1; have := hD.2.1; have := hD.2.2; omega)), ⟨⟨_, _, _, _, _, _, _, _, hM2⟩, hg2⟩, ⟨_, (hF2 (o) (fun j q hj => by replace hj : j = 0 := hj; have := hD.1; have := hD.2.1; have := hD.2.2; omega)).trans (Classical.choose_spec hJ1.2.2.1)⟩, ⟨_, (hF2 (d) (fun j q hj => by replace hj : j = 0 := hj; have := hD.1; have := hD.2.1; have := hD.2.2; omega)).trans (Classical.choose_spec hJ1.2.2.2.1)⟩, (hF2 (x + 1) (fun j q hj => by replace hj : j = 0 := hj; have := hD.1; have := hD.2.1; have := hD.2.2; omega)).trans hJ1.2.2.2.2.1, (hF2 (x + 2) (fun j q hj => by replace hj : j = 0 := hj; have := hD.1; have := hD.2.1; have := hD.2.2; omega)).trans hJ1.2.2.2.2.2.1, C24.eq hJ1.2.2.2.2.2.2.1 (hF2 (x + 24) (fun j q hj => by replace hj : j = 0 := hj; have := hD.1; have := hD.2.1; have := hD.2.2; omega)), XC.eq hJ1.2.2.2.2.2.2.2.1 (fun k9 q1 q2 => hF2 (x + k9) (fun j q hj => by replace hj : j = 0 := hj; have := hD.1; have := hD.2.1; have := hD.2.2; omega)), SQ.eq hJ1.2.2.2.2.2.2.2.2.1 (fun k9 q1 q2 => hF2 (x + k9) (fun j q hj => by replace hj : j = 0 := hj; have := hD.1; have := hD.2.1; have := hD.2.2; omega)), CfC.eq hJ1.2.2.2.2.2.2.2.2.2 (fun k9 q1 q2 => hF2 (x + k9) (fun j q hj => by replace hj : j = 0 := hj; have := hD.1; have := hD.2.1; have := hD.2.2; omega))⟩
  refine z_pop B dL_law_1634 rfl ?_
  refine z_goto (tgt := 2001) B dL_law_1635 rfl ?_
  refine z_widen (k := cells + 2) (n := slots + 12) (by omega) (by omega) ?_
  exact hT _ hd0 Φ2 sz (JJ.of (JK.up hJ2 (by omega)) hG rfl rfl rfl rfl rfl rfl rfl hEq)

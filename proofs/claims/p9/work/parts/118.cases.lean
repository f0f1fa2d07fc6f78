set_option maxHeartbeats 4000000 in
set_option maxRecDepth 100000 in
theorem lc_38 {p9 : Program} {e9 : Env} {s9 : State} {m9 : MethodId} {a9 : Array Value} {w9 : List Frame} {t9 : Method} {k9 : Code} {Q9 : State → Prop} {nm9 : String} (G : EnvG) (l : Launch) (hl9 : l.stackTraces = false) {d0 : Drawn} (hd0 : s9.drawn.sameBut d0 lw_cs) (B : Bd p9 (s9.setDrawn d0) m9 a9 t9 k9 G code 9 RL wsL_law ret nm9) (Φ : Hm) (sz b L i : Nat) (xs : Nat → Int32) (hX : va_X b L xs (s9.setDrawn d0) (s9.setDrawn d0).heap) (hbn : b < G.2.2.2) (hL : L ≤ 3584) (hi : i + 7 ≤ L) (x y o d ca cells slots : Nat) (hna : G.2.2.2 ≤ x) (hD : Ds x y o d) (hca : ca ≤ 10000) (hcl : cells ≤ 8000) (hsl : slots ≤ 80000) (hJ : JJ G x y o d ca Φ) (hT : ∀ (d1 : Drawn), s9.drawn.sameBut d1 lw_cs → ∀ (Φ1 : Hm) (sz1 : Nat), JJ G x y o d (ca + 12) Φ1 → Z p9 l e9 room_1 (s9.setDrawn d1) m9 a9 w9 t9 k9 Q9 G 9 1994 [(5, .int (nI i)), (4, .ref d), (3, .ref o), (2, .ref y), (1, .ref x), (0, .ref b)] [] Φ1 sz1 (cells + 2) (slots + 12)) : Z p9 l e9 room_1 (s9.setDrawn d0) m9 a9 w9 t9 k9 Q9 G 9 1324 [(5, .int (nI i)), (4, .ref d), (3, .ref o), (2, .ref y), (1, .ref x), (0, .ref b)] [] Φ sz cells slots := by
  obtain ⟨n, f, g, co, po, ⟨tm, r, w, aq, e, ob, sm, un, ⟨nC, F⟩, nT, Ft⟩, c, hJ, hG, hEq⟩ := hJ
  refine z_aload_n B dL_law_1324 rfl 4 rfl ?_
  refine z_aload_n B dL_law_1325 rfl 5 rfl ?_
  refine z_iload B dL_law_1326 0 rfl ?_
  refine z_iconst (v := 1) B dL_law_1328 rfl ?_
  refine z_iadd B dL_law_1329 ?_
  refine z_sald B hX hbn (vinL (n := 1) rfl (by omega) hL) dL_law_1330 ?_
  refine z_aload_n B dL_law_1331 rfl 2 rfl ?_
  obtain ⟨fo, hco⟩ := hJ.2.2.1
  refine z_callSW (As := [.ref x, .int (xs (nI i + 1).toNatClampNeg), .ref o]) (rest := []) B (w_duplicate G l hl9 Φ sz x ca (xs (nI i + 1).toNatClampNeg) o fo hna (by have := hD.1; have := hD.2.1; have := hD.2.2; omega) (fun j hj => by have := hD.1; have := hD.2.1; have := hD.2.2; omega) hJ.1 hco ) (vx_cwSW 3 B.1.2.2.2.2 gL_law_L_duplicate rfl rfl rfl (by decide +kernel) ⟨Nat.le_of_ble_eq_true rfl, Nat.le_of_ble_eq_true rfl⟩) rfl rfl (Nat.le_of_ble_eq_true rfl) dL_law_1332 (rmL (by omega) (by omega) (by decide) (by decide)) (fun v1 Φ1 sz1 st1 hp1 hs1 => ?_)
  obtain ⟨⟨r1, rfl⟩, hI1, ho1, hf1⟩ := hp1
  replace hs1 : st1 = [.int r1] := hs1
  subst st1
  have hJ1 : JK G x y o d (ca) n f co po (tm, r, w, aq, e, ob, sm, un, (nC, F), (nT, Ft)) c n g co po (tm, r, w, aq, e, ob, sm, un, (nC, F), (nT, Ft)) c Φ1 := ⟨hI1, JM.eq hJ.2.1 (fun k hk => hf1 (y + k) (fun j hj => by replace hj : 46 ≤ j ∧ j < 74 := hj; have := hD.1; have := hD.2.1; have := hD.2.2; omega) (by have := hD.1; have := hD.2.1; have := hD.2.2; omega)), ho1, ⟨_, (hf1 d (fun j hj => by replace hj : 46 ≤ j ∧ j < 74 := hj; have := hD.1; have := hD.2.1; have := hD.2.2; omega) (by have := hD.1; have := hD.2.1; have := hD.2.2; omega)).trans (Classical.choose_spec hJ.2.2.2.1)⟩, (hf1 (x + 1) (fun j hj => by replace hj : 46 ≤ j ∧ j < 74 := hj; have := hD.1; have := hD.2.1; have := hD.2.2; omega) (by have := hD.1; have := hD.2.1; have := hD.2.2; omega)).trans hJ.2.2.2.2.1, (hf1 (x + 2) (fun j hj => by replace hj : 46 ≤ j ∧ j < 74 := hj; have := hD.1; have := hD.2.1; have := hD.2.2; omega) (by have := hD.1; have := hD.2.1; have := hD.2.2; omega)).trans hJ.2.2.2.2.2.1, C24.eq hJ.2.2.2.2.2.2.1 (hf1 (x + 24) (fun j hj => by replace hj : 46 ≤ j ∧ j < 74 := hj; have := hD.1; have := hD.2.1; have := hD.2.2; omega) (by have := hD.1; have := hD.2.1; have := hD.2.2; omega)), XC.eq hJ.2.2.2.2.2.2.2.1 (fun k9 q1 q2 => hf1 (x + k9) (fun j hj => by replace hj : 46 ≤ j ∧ j < 74 := hj; have := hD.1; have := hD.2.1; have := hD.2.2; omega) (by have := hD.1; have := hD.2.1; have := hD.2.2; omega)), CfC.eq hJ.2.2.2.2.2.2.2.2 (fun k9 q1 q2 => hf1 (x + k9) (fun j hj => by replace hj : 46 ≤ j ∧ j < 74 := hj; have := hD.1; have := hD.2.1; have := hD.2.2; omega) (by have := hD.1; have := hD.2.1; have := hD.2.2; omega))⟩
  refine z_istore (lv' := [(6, .int r1), (5, .int (nI i)), (4, .ref d), (3, .ref o), (2, .ref y), (1, .ref x), (0, .ref b)]) B dL_law_1335 (Nat.le_of_ble_eq_true rfl) rfl ?_
  refine z_aload_n B dL_law_1337 rfl 4 rfl ?_
  refine z_aload_n B dL_law_1338 rfl 6 rfl ?_
  refine z_iload B dL_law_1339 1 rfl ?_
  refine z_iconst (v := 1) B dL_law_1341 rfl ?_
  refine z_iadd B dL_law_1342 ?_
  refine z_sald B hX hbn (vinL (n := 1) rfl (by omega) hL) dL_law_1343 ?_
  obtain ⟨⟨rd, le, nx, qu, kn, nu, va, st, th, hM⟩, hg0⟩ := hJ1.2.1
  obtain ⟨fs, hy0⟩ := JM.obj hJ1.2.1
  refine z_callV (As := [.int (xs (nI i + 1).toNatClampNeg)]) (rest := []) B (r_duplicate G l Φ1 sz1 y rd (NNq c) (CaQ nC F) (TpQ nT Ft) (TtQ nT Ft) nC 0 le nx n qu kn co nu va st po (nI tm) aq ob (nI w) r e sm un nT th  (xs (nI i + 1).toNatClampNeg) (by have := hD.1; omega) hM  (fun f9 h9 => h9.1)) (cwV 1 B.1.2.2.2.2 gL_law_X12_duplicate rfl rfl rfl (by decide +kernel) ⟨Nat.le_of_ble_eq_true rfl, Nat.le_of_ble_eq_true rfl⟩) hy0 rfl rfl rfl rfl (Nat.le_of_ble_eq_true rfl) dL_law_1344 (rmL (by omega) (by omega) (by decide) (by decide)) (fun v2 Φ2 sz2 st2 hp2 hs2 => ?_)
  obtain ⟨⟨r2, rfl, hb2⟩, hz2, ⟨qu1_, th1_, hM2⟩, hF2⟩ := hp2
  have hg2 := (hF2 (y + 25) (fun j q hj => by replace hj : j = 0 ∨ j = 9 ∨ j = 10 := hj; have := hD.1; have := hD.2.1; have := hD.2.2; omega)).trans hg0
  subst sz2
  replace hs2 : st2 = [.int r2] := hs2
  subst st2
  have hJ2 : JK G x y o d (ca) n f co po (tm, r, w, aq, e, ob, sm, un, (nC, F), (nT, Ft)) c n g co po (tm, r, w, aq, e, ob, sm, un, (nC, F), (nT, Ft)) c Φ2 := ⟨In.eq hJ1.1 (fun k hk => hF2 (x + k) (fun j q hj => by replace hj : j = 0 ∨ j = 9 ∨ j = 10 := hj; have := hD.1; have := hD.2.1; have := hD.2.2; omega)), ⟨⟨_, _, _, _, _, _, _, _, _, hM2⟩, hg2⟩, ⟨_, (hF2 (o) (fun j q hj => by replace hj : j = 0 ∨ j = 9 ∨ j = 10 := hj; have := hD.1; have := hD.2.1; have := hD.2.2; omega)).trans (Classical.choose_spec hJ1.2.2.1)⟩, ⟨_, (hF2 (d) (fun j q hj => by replace hj : j = 0 ∨ j = 9 ∨ j = 10 := hj; have := hD.1; have := hD.2.1; have := hD.2.2; omega)).trans (Classical.choose_spec hJ1.2.2.2.1)⟩, (hF2 (x + 1) (fun j q hj => by replace hj : j = 0 ∨ j = 9 ∨ j = 10 := hj; have := hD.1; have := hD.2.1; have := hD.2.2; omega)).trans hJ1.2.2.2.2.1, (hF2 (x + 2) (fun j q hj => by replace hj : j = 0 ∨ j = 9 ∨ j = 10 := hj; have := hD.1; have := hD.2.1; have := hD.2.2; omega)).trans hJ1.2.2.2.2.2.1, C24.eq hJ1.2.2.2.2.2.2.1 (hF2 (x + 24) (fun j q hj => by replace hj : j = 0 ∨ j = 9 ∨ j = 10 := hj; have := hD.1; have := hD.2.1; have := hD.2.2; omega)), XC.eq hJ1.2.2.2.2.2.2.2.1 (fun k9 q1 q2 => hF2 (x + k9) (fun j q hj => by replace hj : j = 0 ∨ j = 9 ∨ j = 10 := hj; have := hD.1; have := hD.2.1; have := hD.2.2; omega)), CfC.eq hJ1.2.2.2.2.2.2.2.2 (fun k9 q1 q2 => hF2 (x + k9) (fun j q hj => by replace hj : j = 0 ∨ j = 9 ∨ j = 10 := hj; have := hD.1; have := hD.2.1; have := hD.2.2; omega))⟩
  refine z_istore (lv' := [(7, .int r2), (6, .int r1), (5, .int (nI i)), (4, .ref d), (3, .ref o), (2, .ref y), (1, .ref x), (0, .ref b)]) B dL_law_1347 (Nat.le_of_ble_eq_true rfl) rfl ?_
  refine z_goto (tgt := 1994) B dL_law_1349 rfl ?_
  refine z_lv [2, 3, 4, 5, 6, 7] rfl ?_
  refine z_widen (k := cells + 2) (n := slots + 12) (by omega) (by omega) ?_
  exact hT _ hd0 Φ2 sz1 (JJ.of (JK.up hJ2 (by omega)) hG rfl rfl rfl rfl rfl hEq)

set_option maxHeartbeats 4000000 in
set_option maxRecDepth 100000 in
theorem lc_39 {p9 : Program} {e9 : Env} {s9 : State} {m9 : MethodId} {a9 : Array Value} {w9 : List Frame} {t9 : Method} {k9 : Code} {Q9 : State → Prop} {nm9 : String} (G : EnvG) (l : Launch) (hl9 : l.stackTraces = false) {d0 : Drawn} (hd0 : s9.drawn.sameBut d0 lw_cs) (B : Bd p9 (s9.setDrawn d0) m9 a9 t9 k9 G code 9 RL wsL_law ret nm9) (Φ : Hm) (sz b L i : Nat) (xs : Nat → Int32) (hX : va_X b L xs (s9.setDrawn d0) (s9.setDrawn d0).heap) (hbn : b < G.2.2.2) (hL : L ≤ 3584) (hi : i + 7 ≤ L) (x y o d ca cells slots : Nat) (hna : G.2.2.2 ≤ x) (hD : Ds x y o d) (hca : ca ≤ 10000) (hcl : cells ≤ 8000) (hsl : slots ≤ 80000) (hJ : JJ G x y o d ca Φ) (hT : ∀ (d1 : Drawn), s9.drawn.sameBut d1 lw_cs → ∀ (Φ1 : Hm) (sz1 : Nat), JJ G x y o d (ca + 12) Φ1 → Z p9 l e9 room_1 (s9.setDrawn d1) m9 a9 w9 t9 k9 Q9 G 9 1994 [(5, .int (nI i)), (4, .ref d), (3, .ref o), (2, .ref y), (1, .ref x), (0, .ref b)] [] Φ1 sz1 (cells + 2) (slots + 12)) : Z p9 l e9 room_1 (s9.setDrawn d0) m9 a9 w9 t9 k9 Q9 G 9 1352 [(5, .int (nI i)), (4, .ref d), (3, .ref o), (2, .ref y), (1, .ref x), (0, .ref b)] [] Φ sz cells slots := by
  obtain ⟨n, f, g, co, po, ⟨tm, r, w, aq, e, ob, sm, un, ⟨nC, F⟩, nT, Ft⟩, c, hJ, hG, hEq⟩ := hJ
  refine z_aload_n B dL_law_1352 rfl 4 rfl ?_
  refine z_aload_n B dL_law_1353 rfl 5 rfl ?_
  refine z_iload B dL_law_1354 0 rfl ?_
  refine z_iconst (v := 1) B dL_law_1356 rfl ?_
  refine z_iadd B dL_law_1357 ?_
  refine z_sald B hX hbn (vinL (n := 1) rfl (by omega) hL) dL_law_1358 ?_
  refine z_aload_n B dL_law_1359 rfl 5 rfl ?_
  refine z_iload B dL_law_1360 0 rfl ?_
  refine z_iconst (v := 2) B dL_law_1362 rfl ?_
  refine z_iadd B dL_law_1363 ?_
  refine z_sald B hX hbn (vinL (n := 2) rfl (by omega) hL) dL_law_1364 ?_
  refine z_aload_n B dL_law_1365 rfl 2 rfl ?_
  obtain ⟨fo, hco⟩ := hJ.2.2.1
  refine z_callSW (As := [.ref x, .int (xs (nI i + 1).toNatClampNeg), .int (xs (nI i + 2).toNatClampNeg), .ref o]) (rest := []) B (w_exchange G l hl9 Φ sz x ca (xs (nI i + 1).toNatClampNeg) (xs (nI i + 2).toNatClampNeg) o fo hna (by have := hD.1; have := hD.2.1; have := hD.2.2; omega) (fun j hj => by have := hD.1; have := hD.2.1; have := hD.2.2; omega) hJ.1 hco ) (vx_cwSW 4 B.1.2.2.2.2 gL_law_L_exchange rfl rfl rfl (by decide +kernel) ⟨Nat.le_of_ble_eq_true rfl, Nat.le_of_ble_eq_true rfl⟩) rfl rfl (Nat.le_of_ble_eq_true rfl) dL_law_1366 (rmL (by omega) (by omega) (by decide) (by decide)) (fun v1 Φ1 sz1 st1 hp1 hs1 => ?_)
  obtain ⟨⟨r1, rfl⟩, hI1, ho1, hf1⟩ := hp1
  replace hs1 : st1 = [.int r1] := hs1
  subst st1
  have hJ1 : JK G x y o d (ca) n f co po (tm, r, w, aq, e, ob, sm, un, (nC, F), (nT, Ft)) c n g co po (tm, r, w, aq, e, ob, sm, un, (nC, F), (nT, Ft)) c Φ1 := ⟨hI1, JM.eq hJ.2.1 (fun k hk => hf1 (y + k) (fun j hj => by replace hj : 46 ≤ j ∧ j < 74 := hj; have := hD.1; have := hD.2.1; have := hD.2.2; omega) (by have := hD.1; have := hD.2.1; have := hD.2.2; omega)), ho1, ⟨_, (hf1 d (fun j hj => by replace hj : 46 ≤ j ∧ j < 74 := hj; have := hD.1; have := hD.2.1; have := hD.2.2; omega) (by have := hD.1; have := hD.2.1; have := hD.2.2; omega)).trans (Classical.choose_spec hJ.2.2.2.1)⟩, (hf1 (x + 1) (fun j hj => by replace hj : 46 ≤ j ∧ j < 74 := hj; have := hD.1; have := hD.2.1; have := hD.2.2; omega) (by have := hD.1; have := hD.2.1; have := hD.2.2; omega)).trans hJ.2.2.2.2.1, (hf1 (x + 2) (fun j hj => by replace hj : 46 ≤ j ∧ j < 74 := hj; have := hD.1; have := hD.2.1; have := hD.2.2; omega) (by have := hD.1; have := hD.2.1; have := hD.2.2; omega)).trans hJ.2.2.2.2.2.1, C24.eq hJ.2.2.2.2.2.2.1 (hf1 (x + 24) (fun j hj => by replace hj : 46 ≤ j ∧ j < 74 := hj; have := hD.1; have := hD.2.1; have := hD.2.2; omega) (by have := hD.1; have := hD.2.1; have := hD.2.2; omega)), XC.eq hJ.2.2.2.2.2.2.2.1 (fun k9 q1 q2 => hf1 (x + k9) (fun j hj => by replace hj : 46 ≤ j ∧ j < 74 := hj; have := hD.1; have := hD.2.1; have := hD.2.2; omega) (by have := hD.1; have := hD.2.1; have := hD.2.2; omega)), CfC.eq hJ.2.2.2.2.2.2.2.2 (fun k9 q1 q2 => hf1 (x + k9) (fun j hj => by replace hj : 46 ≤ j ∧ j < 74 := hj; have := hD.1; have := hD.2.1; have := hD.2.2; omega) (by have := hD.1; have := hD.2.1; have := hD.2.2; omega))⟩
  refine z_istore (lv' := [(6, .int r1), (5, .int (nI i)), (4, .ref d), (3, .ref o), (2, .ref y), (1, .ref x), (0, .ref b)]) B dL_law_1369 (Nat.le_of_ble_eq_true rfl) rfl ?_
  refine z_aload_n B dL_law_1371 rfl 4 rfl ?_
  refine z_aload_n B dL_law_1372 rfl 6 rfl ?_
  refine z_iload B dL_law_1373 1 rfl ?_
  refine z_iconst (v := 1) B dL_law_1375 rfl ?_
  refine z_iadd B dL_law_1376 ?_
  refine z_sald B hX hbn (vinL (n := 1) rfl (by omega) hL) dL_law_1377 ?_
  refine z_aload_n B dL_law_1378 rfl 6 rfl ?_
  refine z_iload B dL_law_1379 1 rfl ?_
  refine z_iconst (v := 2) B dL_law_1381 rfl ?_
  refine z_iadd B dL_law_1382 ?_
  refine z_sald B hX hbn (vinL (n := 2) rfl (by omega) hL) dL_law_1383 ?_
  obtain ⟨⟨rd, le, nx, qu, kn, nu, va, st, th, hM⟩, hg0⟩ := hJ1.2.1
  obtain ⟨fs, hy0⟩ := JM.obj hJ1.2.1
  refine z_callV (As := [.int (xs (nI i + 1).toNatClampNeg), .int (xs (nI i + 2).toNatClampNeg)]) (rest := []) B (r_exchange G l Φ1 sz1 y rd (NNq c) (CaQ nC F) (TpQ nT Ft) (TtQ nT Ft) nC 0 le nx n qu kn co nu va st po (nI tm) aq ob (nI w) r e sm un nT th  (xs (nI i + 1).toNatClampNeg) (xs (nI i + 2).toNatClampNeg) (by have := hD.1; omega) hM  (fun f9 h9 => h9.1)) (cwV 2 B.1.2.2.2.2 gL_law_X12_exchange rfl rfl rfl (by decide +kernel) ⟨Nat.le_of_ble_eq_true rfl, Nat.le_of_ble_eq_true rfl⟩) hy0 rfl rfl rfl rfl (Nat.le_of_ble_eq_true rfl) dL_law_1384 (rmL (by omega) (by omega) (by decide) (by decide)) (fun v2 Φ2 sz2 st2 hp2 hs2 => ?_)
  obtain ⟨⟨r2, rfl, hb2⟩, hz2, ⟨th1_, hM2⟩, hF2⟩ := hp2
  have hg2 := (hF2 (y + 25) (fun j q hj => by replace hj : j = 0 ∨ j = 9 ∨ j = 10 := hj; have := hD.1; have := hD.2.1; have := hD.2.2; omega)).trans hg0
  subst sz2
  replace hs2 : st2 = [.int r2] := hs2
  subst st2
  have hJ2 : JK G x y o d (ca) n f co po (tm, r, w, aq, e, ob, sm, un, (nC, F), (nT, Ft)) c n g co po (tm, r, w, aq, e, ob, sm, un, (nC, F), (nT, Ft)) c Φ2 := ⟨In.eq hJ1.1 (fun k hk => hF2 (x + k) (fun j q hj => by replace hj : j = 0 ∨ j = 9 ∨ j = 10 := hj; have := hD.1; have := hD.2.1; have := hD.2.2; omega)), ⟨⟨_, _, _, _, _, _, _, _, _, hM2⟩, hg2⟩, ⟨_, (hF2 (o) (fun j q hj => by replace hj : j = 0 ∨ j = 9 ∨ j = 10 := hj; have := hD.1; have := hD.2.1; have := hD.2.2; omega)).trans (Classical.choose_spec hJ1.2.2.1)⟩, ⟨_, (hF2 (d) (fun j q hj => by replace hj : j = 0 ∨ j = 9 ∨ j = 10 := hj; have := hD.1; have := hD.2.1; have := hD.2.2; omega)).trans (Classical.choose_spec hJ1.2.2.2.1)⟩, (hF2 (x + 1) (fun j q hj => by replace hj : j = 0 ∨ j = 9 ∨ j = 10 := hj; have := hD.1; have := hD.2.1; have := hD.2.2; omega)).trans hJ1.2.2.2.2.1, (hF2 (x + 2) (fun j q hj => by replace hj : j = 0 ∨ j = 9 ∨ j = 10 := hj; have := hD.1; have := hD.2.1; have := hD.2.2; omega)).trans hJ1.2.2.2.2.2.1, C24.eq hJ1.2.2.2.2.2.2.1 (hF2 (x + 24) (fun j q hj => by replace hj : j = 0 ∨ j = 9 ∨ j = 10 := hj; have := hD.1; have := hD.2.1; have := hD.2.2; omega)), XC.eq hJ1.2.2.2.2.2.2.2.1 (fun k9 q1 q2 => hF2 (x + k9) (fun j q hj => by replace hj : j = 0 ∨ j = 9 ∨ j = 10 := hj; have := hD.1; have := hD.2.1; have := hD.2.2; omega)), CfC.eq hJ1.2.2.2.2.2.2.2.2 (fun k9 q1 q2 => hF2 (x + k9) (fun j q hj => by replace hj : j = 0 ∨ j = 9 ∨ j = 10 := hj; have := hD.1; have := hD.2.1; have := hD.2.2; omega))⟩
  refine z_istore (lv' := [(7, .int r2), (6, .int r1), (5, .int (nI i)), (4, .ref d), (3, .ref o), (2, .ref y), (1, .ref x), (0, .ref b)]) B dL_law_1387 (Nat.le_of_ble_eq_true rfl) rfl ?_
  refine z_goto (tgt := 1994) B dL_law_1389 rfl ?_
  refine z_lv [2, 3, 4, 5, 6, 7] rfl ?_
  refine z_widen (k := cells + 2) (n := slots + 12) (by omega) (by omega) ?_
  exact hT _ hd0 Φ2 sz1 (JJ.of (JK.up hJ2 (by omega)) hG rfl rfl rfl rfl rfl hEq)

set_option maxHeartbeats 4000000 in
set_option maxRecDepth 100000 in
theorem lc_40 {p9 : Program} {e9 : Env} {s9 : State} {m9 : MethodId} {a9 : Array Value} {w9 : List Frame} {t9 : Method} {k9 : Code} {Q9 : State → Prop} {nm9 : String} (G : EnvG) (l : Launch) (hl9 : l.stackTraces = false) {d0 : Drawn} (hd0 : s9.drawn.sameBut d0 lw_cs) (B : Bd p9 (s9.setDrawn d0) m9 a9 t9 k9 G code 9 RL wsL_law ret nm9) (Φ : Hm) (sz b L i : Nat) (xs : Nat → Int32) (hX : va_X b L xs (s9.setDrawn d0) (s9.setDrawn d0).heap) (hbn : b < G.2.2.2) (hL : L ≤ 3584) (hi : i + 7 ≤ L) (x y o d ca cells slots : Nat) (hna : G.2.2.2 ≤ x) (hD : Ds x y o d) (hca : ca ≤ 10000) (hcl : cells ≤ 8000) (hsl : slots ≤ 80000) (hJ : JJ G x y o d ca Φ) (hT : ∀ (d1 : Drawn), s9.drawn.sameBut d1 lw_cs → ∀ (Φ1 : Hm) (sz1 : Nat), JJ G x y o d (ca + 12) Φ1 → Z p9 l e9 room_1 (s9.setDrawn d1) m9 a9 w9 t9 k9 Q9 G 9 1994 [(5, .int (nI i)), (4, .ref d), (3, .ref o), (2, .ref y), (1, .ref x), (0, .ref b)] [] Φ1 sz1 (cells + 2) (slots + 12)) : Z p9 l e9 room_1 (s9.setDrawn d0) m9 a9 w9 t9 k9 Q9 G 9 1392 [(5, .int (nI i)), (4, .ref d), (3, .ref o), (2, .ref y), (1, .ref x), (0, .ref b)] [] Φ sz cells slots := by
  obtain ⟨n, f, g, co, po, ⟨tm, r, w, aq, e, ob, sm, un, ⟨nC, F⟩, nT, Ft⟩, c, hJ, hG, hEq⟩ := hJ
  refine z_aload_n B dL_law_1392 rfl 4 rfl ?_
  have h0 : Φ x = some (o_ 13 [.ref (x + 1), .ref (x + 3), .ref (x + 24), .ref (x + 46), .ref (x + 74), .ref (x + 80), .ref (x + 132), .ref (x + 121)]) := in0 (k := 0) hJ.1 rfl
  refine z_callV (As := []) (rest := []) B (s_X11_receive G l Φ sz x ca  hna hJ.1  (by omega)) (cwV 0 B.1.2.2.2.2 gL_law_X11_receive rfl rfl rfl (by decide +kernel) ⟨Nat.le_of_ble_eq_true rfl, Nat.le_of_ble_eq_true rfl⟩) h0 rfl rfl rfl rfl (Nat.le_of_ble_eq_true rfl) dL_law_1393 (rmL (by omega) (by omega) (by decide) (by decide)) (fun v1 Φ1 sz1 st1 hp1 hs1 => ?_)
  obtain ⟨⟨⟨r1, rfl⟩, hC1⟩, hz1, hI1, hF1⟩ := hp1
  subst sz1
  replace hs1 : st1 = [.int r1] := hs1
  subst st1
  have hJ1 : JK G x y o d (ca + 1) 0 f co po (tm, r, w, aq, e, ob, sm, un, (nC, F), (nT, Ft)) c n g co po (tm, r, w, aq, e, ob, sm, un, (nC, F), (nT, Ft)) c Φ1 := ⟨hI1, JM.eq hJ.2.1 (fun k hk => hF1 (y + k) (fun j q hj => by replace hj : j = 1 ∨ (121 ≤ j ∧ j < 149) := hj; have := hD.1; have := hD.2.1; have := hD.2.2; omega)), ⟨_, (hF1 (o) (fun j q hj => by replace hj : j = 1 ∨ (121 ≤ j ∧ j < 149) := hj; have := hD.1; have := hD.2.1; have := hD.2.2; omega)).trans (Classical.choose_spec hJ.2.2.1)⟩, ⟨_, (hF1 (d) (fun j q hj => by replace hj : j = 1 ∨ (121 ≤ j ∧ j < 149) := hj; have := hD.1; have := hD.2.1; have := hD.2.2; omega)).trans (Classical.choose_spec hJ.2.2.2.1)⟩, hC1, (hF1 (x + 2) (fun j q hj => by replace hj : j = 1 ∨ (121 ≤ j ∧ j < 149) := hj; have := hD.1; have := hD.2.1; have := hD.2.2; omega)).trans hJ.2.2.2.2.2.1, C24.eq hJ.2.2.2.2.2.2.1 (hF1 (x + 24) (fun j q hj => by replace hj : j = 1 ∨ (121 ≤ j ∧ j < 149) := hj; have := hD.1; have := hD.2.1; have := hD.2.2; omega)), XC.eq hJ.2.2.2.2.2.2.2.1 (fun k9 q1 q2 => hF1 (x + k9) (fun j q hj => by replace hj : j = 1 ∨ (121 ≤ j ∧ j < 149) := hj; have := hD.1; have := hD.2.1; have := hD.2.2; omega)), CfC.eq hJ.2.2.2.2.2.2.2.2 (fun k9 q1 q2 => hF1 (x + k9) (fun j q hj => by replace hj : j = 1 ∨ (121 ≤ j ∧ j < 149) := hj; have := hD.1; have := hD.2.1; have := hD.2.2; omega))⟩
  refine z_pop B dL_law_1396 rfl ?_
  refine z_aload_n B dL_law_1397 rfl 3 rfl ?_
  obtain ⟨⟨rd, le, nx, qu, kn, nu, va, st, th, hM⟩, hg0⟩ := hJ1.2.1
  obtain ⟨fs, hy0⟩ := JM.obj hJ1.2.1
  refine zd_callV (As := []) (rest := []) B (r_receive G l Φ1 sz y rd (NNq c) (CaQ nC F) (TpQ nT Ft) (TtQ nT Ft) nC 0 le nx n qu kn co nu va st po (nI tm) aq ob (nI w) r e sm un nT th   (by have := hD.1; omega) hM  (fun f9 h9 => h9.1)) (cwV 0 B.1.2.2.2.2 gL_law_X12_receive rfl rfl rfl (by decide +kernel) ⟨Nat.le_of_ble_eq_true rfl, Nat.le_of_ble_eq_true rfl⟩) hy0 rfl rfl rfl rfl (Nat.le_of_ble_eq_true rfl) dL_law_1398 (rmL (by omega) (by omega) (by decide) (by decide)) (fun d2 hd2 v2 Φ2 sz2 st2 hp2 hs2 => ?_)
  obtain ⟨⟨r2, rfl⟩, hz2, ⟨le1_, th1_, hM2⟩, hF2⟩ := hp2
  have hg2 := (hF2 (y + 25) (fun j q hj => by replace hj : j = 0 ∨ j = 8 ∨ j = 11 ∨ j = 12 ∨ j = 13 ∨ j = 14 ∨ j = 15 ∨ j = 16 ∨ j = 17 ∨ j = 18 ∨ j = 19 ∨ j = 20 ∨ j = 21 ∨ j = 22 := hj; have := hD.1; have := hD.2.1; have := hD.2.2; omega)).trans hg0
  subst sz2
  replace hs2 : st2 = [.int r2] := hs2
  subst st2
  have hJ2 : JK G x y o d ((ca + 1)) 0 f co po (tm, r, w, aq, e, ob, sm, un, (nC, F), (nT, Ft)) c 0 g co po (tm, r, w, aq, e, ob, sm, un, (nC, F), (nT, Ft)) c Φ2 := ⟨In.eq hJ1.1 (fun k hk => hF2 (x + k) (fun j q hj => by replace hj : j = 0 ∨ j = 8 ∨ j = 11 ∨ j = 12 ∨ j = 13 ∨ j = 14 ∨ j = 15 ∨ j = 16 ∨ j = 17 ∨ j = 18 ∨ j = 19 ∨ j = 20 ∨ j = 21 ∨ j = 22 := hj; have := hD.1; have := hD.2.1; have := hD.2.2; omega)), ⟨⟨_, _, _, _, _, _, _, _, _, hM2⟩, hg2⟩, ⟨_, (hF2 (o) (fun j q hj => by replace hj : j = 0 ∨ j = 8 ∨ j = 11 ∨ j = 12 ∨ j = 13 ∨ j = 14 ∨ j = 15 ∨ j = 16 ∨ j = 17 ∨ j = 18 ∨ j = 19 ∨ j = 20 ∨ j = 21 ∨ j = 22 := hj; have := hD.1; have := hD.2.1; have := hD.2.2; omega)).trans (Classical.choose_spec hJ1.2.2.1)⟩, ⟨_, (hF2 (d) (fun j q hj => by replace hj : j = 0 ∨ j = 8 ∨ j = 11 ∨ j = 12 ∨ j = 13 ∨ j = 14 ∨ j = 15 ∨ j = 16 ∨ j = 17 ∨ j = 18 ∨ j = 19 ∨ j = 20 ∨ j = 21 ∨ j = 22 := hj; have := hD.1; have := hD.2.1; have := hD.2.2; omega)).trans (Classical.choose_spec hJ1.2.2.2.1)⟩, (hF2 (x + 1) (fun j q hj => by replace hj : j = 0 ∨ j = 8 ∨ j = 11 ∨ j = 12 ∨ j = 13 ∨ j = 14 ∨ j = 15 ∨ j = 16 ∨ j = 17 ∨ j = 18 ∨ j = 19 ∨ j = 20 ∨ j = 21 ∨ j = 22 := hj; have := hD.1; have := hD.2.1; have := hD.2.2; omega)).trans hJ1.2.2.2.2.1, (hF2 (x + 2) (fun j q hj => by replace hj : j = 0 ∨ j = 8 ∨ j = 11 ∨ j = 12 ∨ j = 13 ∨ j = 14 ∨ j = 15 ∨ j = 16 ∨ j = 17 ∨ j = 18 ∨ j = 19 ∨ j = 20 ∨ j = 21 ∨ j = 22 := hj; have := hD.1; have := hD.2.1; have := hD.2.2; omega)).trans hJ1.2.2.2.2.2.1, C24.eq hJ1.2.2.2.2.2.2.1 (hF2 (x + 24) (fun j q hj => by replace hj : j = 0 ∨ j = 8 ∨ j = 11 ∨ j = 12 ∨ j = 13 ∨ j = 14 ∨ j = 15 ∨ j = 16 ∨ j = 17 ∨ j = 18 ∨ j = 19 ∨ j = 20 ∨ j = 21 ∨ j = 22 := hj; have := hD.1; have := hD.2.1; have := hD.2.2; omega)), XC.eq hJ1.2.2.2.2.2.2.2.1 (fun k9 q1 q2 => hF2 (x + k9) (fun j q hj => by replace hj : j = 0 ∨ j = 8 ∨ j = 11 ∨ j = 12 ∨ j = 13 ∨ j = 14 ∨ j = 15 ∨ j = 16 ∨ j = 17 ∨ j = 18 ∨ j = 19 ∨ j = 20 ∨ j = 21 ∨ j = 22 := hj; have := hD.1; have := hD.2.1; have := hD.2.2; omega)), CfC.eq hJ1.2.2.2.2.2.2.2.2 (fun k9 q1 q2 => hF2 (x + k9) (fun j q hj => by replace hj : j = 0 ∨ j = 8 ∨ j = 11 ∨ j = 12 ∨ j = 13 ∨ j = 14 ∨ j = 15 ∨ j = 16 ∨ j = 17 ∨ j = 18 ∨ j = 19 ∨ j = 20 ∨ j = 21 ∨ j = 22 := hj; have := hD.1; have := hD.2.1; have := hD.2.2; omega))⟩
  have B : Bd p9 ((s9.setDrawn d0).setDrawn d2) m9 _ t9 k9 G _ _ _ _ _ _ := Bd.drawn B d2
  refine z_pop B dL_law_1401 rfl ?_
  refine z_goto (tgt := 1994) B dL_law_1402 rfl ?_
  refine z_widen (k := cells + 2) (n := slots + 12) (by omega) (by omega) ?_
  exact hT _ (Drawn.sameBut.trans hd0 hd2) Φ2 sz (JJ.of (JK.up hJ2 (by omega)) hG rfl rfl rfl rfl rfl (fun j hj => absurd hj (Nat.not_lt_zero _)))

set_option maxHeartbeats 4000000 in
set_option maxRecDepth 100000 in
theorem lc_41 {p9 : Program} {e9 : Env} {s9 : State} {m9 : MethodId} {a9 : Array Value} {w9 : List Frame} {t9 : Method} {k9 : Code} {Q9 : State → Prop} {nm9 : String} (G : EnvG) (l : Launch) (hl9 : l.stackTraces = false) {d0 : Drawn} (hd0 : s9.drawn.sameBut d0 lw_cs) (B : Bd p9 (s9.setDrawn d0) m9 a9 t9 k9 G code 9 RL wsL_law ret nm9) (Φ : Hm) (sz b L i : Nat) (xs : Nat → Int32) (hX : va_X b L xs (s9.setDrawn d0) (s9.setDrawn d0).heap) (hbn : b < G.2.2.2) (hL : L ≤ 3584) (hi : i + 7 ≤ L) (x y o d ca cells slots : Nat) (hna : G.2.2.2 ≤ x) (hD : Ds x y o d) (hca : ca ≤ 10000) (hcl : cells ≤ 8000) (hsl : slots ≤ 80000) (hJ : JJ G x y o d ca Φ) (hT : ∀ (d1 : Drawn), s9.drawn.sameBut d1 lw_cs → ∀ (Φ1 : Hm) (sz1 : Nat), JJ G x y o d (ca + 12) Φ1 → Z p9 l e9 room_1 (s9.setDrawn d1) m9 a9 w9 t9 k9 Q9 G 9 1994 [(5, .int (nI i)), (4, .ref d), (3, .ref o), (2, .ref y), (1, .ref x), (0, .ref b)] [] Φ1 sz1 (cells + 2) (slots + 12)) : Z p9 l e9 room_1 (s9.setDrawn d0) m9 a9 w9 t9 k9 Q9 G 9 1405 [(5, .int (nI i)), (4, .ref d), (3, .ref o), (2, .ref y), (1, .ref x), (0, .ref b)] [] Φ sz cells slots := by
  obtain ⟨n, f, g, co, po, ⟨tm, r, w, aq, e, ob, sm, un, ⟨nC, F⟩, nT, Ft⟩, c, hJ, hG, hEq⟩ := hJ
  refine z_aload_n B dL_law_1405 rfl 4 rfl ?_
  have h0 : Φ x = some (o_ 13 [.ref (x + 1), .ref (x + 3), .ref (x + 24), .ref (x + 46), .ref (x + 74), .ref (x + 80), .ref (x + 132), .ref (x + 121)]) := in0 (k := 0) hJ.1 rfl
  refine z_callV (As := []) (rest := []) B (s_X11_knownTemplates G l Φ sz x ca  hna hJ.1  ) (cwV 0 B.1.2.2.2.2 gL_law_X11_knownTemplates rfl rfl rfl (by decide +kernel) ⟨Nat.le_of_ble_eq_true rfl, Nat.le_of_ble_eq_true rfl⟩) h0 rfl rfl rfl rfl (Nat.le_of_ble_eq_true rfl) dL_law_1406 (rmL (by omega) (by omega) (by decide) (by decide)) (fun v1 Φ1 sz1 st1 hp1 hs1 => ?_)
  obtain ⟨⟨r1, rfl⟩, hz1, hI1, hF1⟩ := hp1
  subst sz1
  replace hs1 : st1 = [.int r1] := hs1
  subst st1
  have hJ1 : JK G x y o d (ca) n f co po (tm, r, w, aq, e, ob, sm, un, (nC, F), (nT, Ft)) c n g co po (tm, r, w, aq, e, ob, sm, un, (nC, F), (nT, Ft)) c Φ1 := ⟨hI1, JM.eq hJ.2.1 (fun k hk => hF1 (y + k) (fun j q hj => (show False from hj).elim)), ⟨_, (hF1 (o) (fun j q hj => (show False from hj).elim)).trans (Classical.choose_spec hJ.2.2.1)⟩, ⟨_, (hF1 (d) (fun j q hj => (show False from hj).elim)).trans (Classical.choose_spec hJ.2.2.2.1)⟩, (hF1 (x + 1) (fun j q hj => (show False from hj).elim)).trans hJ.2.2.2.2.1, (hF1 (x + 2) (fun j q hj => (show False from hj).elim)).trans hJ.2.2.2.2.2.1, C24.eq hJ.2.2.2.2.2.2.1 (hF1 (x + 24) (fun j q hj => (show False from hj).elim)), XC.eq hJ.2.2.2.2.2.2.2.1 (fun k9 q1 q2 => hF1 (x + k9) (fun j q hj => (show False from hj).elim)), CfC.eq hJ.2.2.2.2.2.2.2.2 (fun k9 q1 q2 => hF1 (x + k9) (fun j q hj => (show False from hj).elim))⟩
  refine z_pop B dL_law_1409 rfl ?_
  refine z_aload_n B dL_law_1410 rfl 3 rfl ?_
  obtain ⟨⟨rd, le, nx, qu, kn, nu, va, st, th, hM⟩, hg0⟩ := hJ1.2.1
  obtain ⟨fs, hy0⟩ := JM.obj hJ1.2.1
  refine z_callV (As := []) (rest := []) B (r_knownTemplates G l Φ1 sz y rd (NNq c) (CaQ nC F) (TpQ nT Ft) (TtQ nT Ft) nC 0 le nx n qu kn co nu va st po (nI tm) aq ob (nI w) r e sm un nT th   (by have := hD.1; omega) hM  (fun f9 h9 => h9.1)) (cwV 0 B.1.2.2.2.2 gL_law_X12_knownTemplates rfl rfl rfl (by decide +kernel) ⟨Nat.le_of_ble_eq_true rfl, Nat.le_of_ble_eq_true rfl⟩) hy0 rfl rfl rfl rfl (Nat.le_of_ble_eq_true rfl) dL_law_1411 (rmL (by omega) (by omega) (by decide) (by decide)) (fun v2 Φ2 sz2 st2 hp2 hs2 => ?_)
  obtain ⟨⟨r2, rfl⟩, hz2, ⟨th1_, hM2⟩, hF2⟩ := hp2
  have hg2 := (hF2 (y + 25) (fun j q hj => by replace hj : j = 0 := hj; have := hD.1; have := hD.2.1; have := hD.2.2; omega)).trans hg0
  subst sz2
  replace hs2 : st2 = [.int r2] := hs2
  subst st2
  have hJ2 : JK G x y o d (ca) n f co po (tm, r, w, aq, e, ob, sm, un, (nC, F), (nT, Ft)) c n g co po (tm, r, w, aq, e, ob, sm, un, (nC, F), (nT, Ft)) c Φ2 := ⟨In.eq hJ1.1 (fun k hk => hF2 (x + k) (fun j q hj => by replace hj : j = 0 := hj; have := hD.1; have := hD.2.1; have := hD.2.2; omega)), ⟨⟨_, _, _, _, _, _, _, _, _, hM2⟩, hg2⟩, ⟨_, (hF2 (o) (fun j q hj => by replace hj : j = 0 := hj; have := hD.1; have := hD.2.1; have := hD.2.2; omega)).trans (Classical.choose_spec hJ1.2.2.1)⟩, ⟨_, (hF2 (d) (fun j q hj => by replace hj : j = 0 := hj; have := hD.1; have := hD.2.1; have := hD.2.2; omega)).trans (Classical.choose_spec hJ1.2.2.2.1)⟩, (hF2 (x + 1) (fun j q hj => by replace hj : j = 0 := hj; have := hD.1; have := hD.2.1; have := hD.2.2; omega)).trans hJ1.2.2.2.2.1, (hF2 (x + 2) (fun j q hj => by replace hj : j = 0 := hj; have := hD.1; have := hD.2.1; have := hD.2.2; omega)).trans hJ1.2.2.2.2.2.1, C24.eq hJ1.2.2.2.2.2.2.1 (hF2 (x + 24) (fun j q hj => by replace hj : j = 0 := hj; have := hD.1; have := hD.2.1; have := hD.2.2; omega)), XC.eq hJ1.2.2.2.2.2.2.2.1 (fun k9 q1 q2 => hF2 (x + k9) (fun j q hj => by replace hj : j = 0 := hj; have := hD.1; have := hD.2.1; have := hD.2.2; omega)), CfC.eq hJ1.2.2.2.2.2.2.2.2 (fun k9 q1 q2 => hF2 (x + k9) (fun j q hj => by replace hj : j = 0 := hj; have := hD.1; have := hD.2.1; have := hD.2.2; omega))⟩
  refine z_pop B dL_law_1414 rfl ?_
  refine z_goto (tgt := 1994) B dL_law_1415 rfl ?_
  refine z_widen (k := cells + 2) (n := slots + 12) (by omega) (by omega) ?_
  exact hT _ hd0 Φ2 sz (JJ.of (JK.up hJ2 (by omega)) hG rfl rfl rfl rfl rfl hEq)

set_option maxHeartbeats 4000000 in
set_option maxRecDepth 100000 in
theorem lc_42 {p9 : Program} {e9 : Env} {s9 : State} {m9 : MethodId} {a9 : Array Value} {w9 : List Frame} {t9 : Method} {k9 : Code} {Q9 : State → Prop} {nm9 : String} (G : EnvG) (l : Launch) (hl9 : l.stackTraces = false) {d0 : Drawn} (hd0 : s9.drawn.sameBut d0 lw_cs) (B : Bd p9 (s9.setDrawn d0) m9 a9 t9 k9 G code 9 RL wsL_law ret nm9) (Φ : Hm) (sz b L i : Nat) (xs : Nat → Int32) (hX : va_X b L xs (s9.setDrawn d0) (s9.setDrawn d0).heap) (hbn : b < G.2.2.2) (hL : L ≤ 3584) (hi : i + 7 ≤ L) (x y o d ca cells slots : Nat) (hna : G.2.2.2 ≤ x) (hD : Ds x y o d) (hca : ca ≤ 10000) (hcl : cells ≤ 8000) (hsl : slots ≤ 80000) (hJ : JJ G x y o d ca Φ) (hT : ∀ (d1 : Drawn), s9.drawn.sameBut d1 lw_cs → ∀ (Φ1 : Hm) (sz1 : Nat), JJ G x y o d (ca + 12) Φ1 → Z p9 l e9 room_1 (s9.setDrawn d1) m9 a9 w9 t9 k9 Q9 G 9 1994 [(5, .int (nI i)), (4, .ref d), (3, .ref o), (2, .ref y), (1, .ref x), (0, .ref b)] [] Φ1 sz1 (cells + 2) (slots + 12)) : Z p9 l e9 room_1 (s9.setDrawn d0) m9 a9 w9 t9 k9 Q9 G 9 1418 [(5, .int (nI i)), (4, .ref d), (3, .ref o), (2, .ref y), (1, .ref x), (0, .ref b)] [] Φ sz cells slots := by
  obtain ⟨n, f, g, co, po, ⟨tm, r, w, aq, e, ob, sm, un, ⟨nC, F⟩, nT, Ft⟩, c, hJ, hG, hEq⟩ := hJ
  refine z_aload_n B dL_law_1418 rfl 4 rfl ?_
  refine z_aload_n B dL_law_1419 rfl 5 rfl ?_
  refine z_iload B dL_law_1420 0 rfl ?_
  refine z_iconst (v := 1) B dL_law_1422 rfl ?_
  refine z_iadd B dL_law_1423 ?_
  refine z_sald B hX hbn (vinL (n := 1) rfl (by omega) hL) dL_law_1424 ?_
  refine z_aload_n B dL_law_1425 rfl 2 rfl ?_
  obtain ⟨fo, hco⟩ := hJ.2.2.1
  refine z_callSW (As := [.ref x, .int (xs (nI i + 1).toNatClampNeg), .ref o]) (rest := []) B (w_templateAge G l hl9 Φ sz x ca (xs (nI i + 1).toNatClampNeg) o fo hna (by have := hD.1; have := hD.2.1; have := hD.2.2; omega) (fun j hj => by have := hD.1; have := hD.2.1; have := hD.2.2; omega) hJ.1 hco ) (vx_cwSW 3 B.1.2.2.2.2 gL_law_L_templateAge rfl rfl rfl (by decide +kernel) ⟨Nat.le_of_ble_eq_true rfl, Nat.le_of_ble_eq_true rfl⟩) rfl rfl (Nat.le_of_ble_eq_true rfl) dL_law_1426 (rmL (by omega) (by omega) (by decide) (by decide)) (fun v1 Φ1 sz1 st1 hp1 hs1 => ?_)
  obtain ⟨⟨r1, rfl⟩, hI1, ho1, hf1⟩ := hp1
  replace hs1 : st1 = [.int r1] := hs1
  subst st1
  have hJ1 : JK G x y o d (ca) n f co po (tm, r, w, aq, e, ob, sm, un, (nC, F), (nT, Ft)) c n g co po (tm, r, w, aq, e, ob, sm, un, (nC, F), (nT, Ft)) c Φ1 := ⟨hI1, JM.eq hJ.2.1 (fun k hk => hf1 (y + k) (fun j hj => (show False from hj).elim) (by have := hD.1; have := hD.2.1; have := hD.2.2; omega)), ho1, ⟨_, (hf1 d (fun j hj => (show False from hj).elim) (by have := hD.1; have := hD.2.1; have := hD.2.2; omega)).trans (Classical.choose_spec hJ.2.2.2.1)⟩, (hf1 (x + 1) (fun j hj => (show False from hj).elim) (by have := hD.1; have := hD.2.1; have := hD.2.2; omega)).trans hJ.2.2.2.2.1, (hf1 (x + 2) (fun j hj => (show False from hj).elim) (by have := hD.1; have := hD.2.1; have := hD.2.2; omega)).trans hJ.2.2.2.2.2.1, C24.eq hJ.2.2.2.2.2.2.1 (hf1 (x + 24) (fun j hj => (show False from hj).elim) (by have := hD.1; have := hD.2.1; have := hD.2.2; omega)), XC.eq hJ.2.2.2.2.2.2.2.1 (fun k9 q1 q2 => hf1 (x + k9) (fun j hj => (show False from hj).elim) (by have := hD.1; have := hD.2.1; have := hD.2.2; omega)), CfC.eq hJ.2.2.2.2.2.2.2.2 (fun k9 q1 q2 => hf1 (x + k9) (fun j hj => (show False from hj).elim) (by have := hD.1; have := hD.2.1; have := hD.2.2; omega))⟩
  refine z_istore (lv' := [(6, .int r1), (5, .int (nI i)), (4, .ref d), (3, .ref o), (2, .ref y), (1, .ref x), (0, .ref b)]) B dL_law_1429 (Nat.le_of_ble_eq_true rfl) rfl ?_
  refine z_aload_n B dL_law_1431 rfl 4 rfl ?_
  refine z_aload_n B dL_law_1432 rfl 6 rfl ?_
  refine z_iload B dL_law_1433 1 rfl ?_
  refine z_iconst (v := 1) B dL_law_1435 rfl ?_
  refine z_iadd B dL_law_1436 ?_
  refine z_sald B hX hbn (vinL (n := 1) rfl (by omega) hL) dL_law_1437 ?_
  obtain ⟨⟨rd, le, nx, qu, kn, nu, va, st, th, hM⟩, hg0⟩ := hJ1.2.1
  obtain ⟨fs, hy0⟩ := JM.obj hJ1.2.1
  refine z_callV (As := [.int (xs (nI i + 1).toNatClampNeg)]) (rest := []) B (r_templateAge G l Φ1 sz1 y rd (NNq c) (CaQ nC F) (TpQ nT Ft) (TtQ nT Ft) nC 0 le nx n qu kn co nu va st po (nI tm) aq ob (nI w) r e sm un nT th  (xs (nI i + 1).toNatClampNeg) (by have := hD.1; omega) hM  (fun f9 h9 => h9.1)) (cwV 1 B.1.2.2.2.2 gL_law_X12_templateAge rfl rfl rfl (by decide +kernel) ⟨Nat.le_of_ble_eq_true rfl, Nat.le_of_ble_eq_true rfl⟩) hy0 rfl rfl rfl rfl (Nat.le_of_ble_eq_true rfl) dL_law_1438 (rmL (by omega) (by omega) (by decide) (by decide)) (fun v2 Φ2 sz2 st2 hp2 hs2 => ?_)
  obtain ⟨⟨r2, rfl⟩, hz2, ⟨th1_, hM2⟩, hF2⟩ := hp2
  have hg2 := (hF2 (y + 25) (fun j q hj => by replace hj : j = 0 := hj; have := hD.1; have := hD.2.1; have := hD.2.2; omega)).trans hg0
  subst sz2
  replace hs2 : st2 = [.int r2] := hs2
  subst st2
  have hJ2 : JK G x y o d (ca) n f co po (tm, r, w, aq, e, ob, sm, un, (nC, F), (nT, Ft)) c n g co po (tm, r, w, aq, e, ob, sm, un, (nC, F), (nT, Ft)) c Φ2 := ⟨In.eq hJ1.1 (fun k hk => hF2 (x + k) (fun j q hj => by replace hj : j = 0 := hj; have := hD.1; have := hD.2.1; have := hD.2.2; omega)), ⟨⟨_, _, _, _, _, _, _, _, _, hM2⟩, hg2⟩, ⟨_, (hF2 (o) (fun j q hj => by replace hj : j = 0 := hj; have := hD.1; have := hD.2.1; have := hD.2.2; omega)).trans (Classical.choose_spec hJ1.2.2.1)⟩, ⟨_, (hF2 (d) (fun j q hj => by replace hj : j = 0 := hj; have := hD.1; have := hD.2.1; have := hD.2.2; omega)).trans (Classical.choose_spec hJ1.2.2.2.1)⟩, (hF2 (x + 1) (fun j q hj => by replace hj : j = 0 := hj; have := hD.1; have := hD.2.1; have := hD.2.2; omega)).trans hJ1.2.2.2.2.1, (hF2 (x + 2) (fun j q hj => by replace hj : j = 0 := hj; have := hD.1; have := hD.2.1; have := hD.2.2; omega)).trans hJ1.2.2.2.2.2.1, C24.eq hJ1.2.2.2.2.2.2.1 (hF2 (x + 24) (fun j q hj => by replace hj : j = 0 := hj; have := hD.1; have := hD.2.1; have := hD.2.2; omega)), XC.eq hJ1.2.2.2.2.2.2.2.1 (fun k9 q1 q2 => hF2 (x + k9) (fun j q hj => by replace hj : j = 0 := hj; have := hD.1; have := hD.2.1; have := hD.2.2; omega)), CfC.eq hJ1.2.2.2.2.2.2.2.2 (fun k9 q1 q2 => hF2 (x + k9) (fun j q hj => by replace hj : j = 0 := hj; have := hD.1; have := hD.2.1; have := hD.2.2; omega))⟩
  refine z_istore (lv' := [(7, .int r2), (6, .int r1), (5, .int (nI i)), (4, .ref d), (3, .ref o), (2, .ref y), (1, .ref x), (0, .ref b)]) B dL_law_1441 (Nat.le_of_ble_eq_true rfl) rfl ?_
  refine z_goto (tgt := 1994) B dL_law_1443 rfl ?_
  refine z_lv [2, 3, 4, 5, 6, 7] rfl ?_
  refine z_widen (k := cells + 2) (n := slots + 12) (by omega) (by omega) ?_
  exact hT _ hd0 Φ2 sz1 (JJ.of (JK.up hJ2 (by omega)) hG rfl rfl rfl rfl rfl hEq)

set_option maxHeartbeats 4000000 in
set_option maxRecDepth 100000 in
theorem lc_43 {p9 : Program} {e9 : Env} {s9 : State} {m9 : MethodId} {a9 : Array Value} {w9 : List Frame} {t9 : Method} {k9 : Code} {Q9 : State → Prop} {nm9 : String} (G : EnvG) (l : Launch) (hl9 : l.stackTraces = false) {d0 : Drawn} (hd0 : s9.drawn.sameBut d0 lw_cs) (B : Bd p9 (s9.setDrawn d0) m9 a9 t9 k9 G code 9 RL wsL_law ret nm9) (Φ : Hm) (sz b L i : Nat) (xs : Nat → Int32) (hX : va_X b L xs (s9.setDrawn d0) (s9.setDrawn d0).heap) (hbn : b < G.2.2.2) (hL : L ≤ 3584) (hi : i + 7 ≤ L) (x y o d ca cells slots : Nat) (hna : G.2.2.2 ≤ x) (hD : Ds x y o d) (hca : ca ≤ 10000) (hcl : cells ≤ 8000) (hsl : slots ≤ 80000) (hJ : JJ G x y o d ca Φ) (hT : ∀ (d1 : Drawn), s9.drawn.sameBut d1 lw_cs → ∀ (Φ1 : Hm) (sz1 : Nat), JJ G x y o d (ca + 12) Φ1 → Z p9 l e9 room_1 (s9.setDrawn d1) m9 a9 w9 t9 k9 Q9 G 9 1994 [(5, .int (nI i)), (4, .ref d), (3, .ref o), (2, .ref y), (1, .ref x), (0, .ref b)] [] Φ1 sz1 (cells + 2) (slots + 12)) : Z p9 l e9 room_1 (s9.setDrawn d0) m9 a9 w9 t9 k9 Q9 G 9 1446 [(5, .int (nI i)), (4, .ref d), (3, .ref o), (2, .ref y), (1, .ref x), (0, .ref b)] [] Φ sz cells slots := by
  obtain ⟨n, f, g, co, po, ⟨tm, r, w, aq, e, ob, sm, un, ⟨nC, F⟩, nT, Ft⟩, c, hJ, hG, hEq⟩ := hJ
  refine z_aload_n B dL_law_1446 rfl 4 rfl ?_
  have h0 : Φ x = some (o_ 13 [.ref (x + 1), .ref (x + 3), .ref (x + 24), .ref (x + 46), .ref (x + 74), .ref (x + 80), .ref (x + 132), .ref (x + 121)]) := in0 (k := 0) hJ.1 rfl
  refine z_callV (As := []) (rest := []) B (s_X11_expected G l Φ sz x ca  hna hJ.1  (by omega)) (cwV 0 B.1.2.2.2.2 gL_law_X11_expected rfl rfl rfl (by decide +kernel) ⟨Nat.le_of_ble_eq_true rfl, Nat.le_of_ble_eq_true rfl⟩) h0 rfl rfl rfl rfl (Nat.le_of_ble_eq_true rfl) dL_law_1447 (rmL (by omega) (by omega) (by decide) (by decide)) (fun v1 Φ1 sz1 st1 hp1 hs1 => ?_)
  obtain ⟨⟨r1, rfl⟩, hz1, hI1, hF1⟩ := hp1
  subst sz1
  replace hs1 : st1 = [.long r1] := hs1
  subst st1
  have hJ1 : JK G x y o d (ca) n f co po (tm, r, w, aq, e, ob, sm, un, (nC, F), (nT, Ft)) c n g co po (tm, r, w, aq, e, ob, sm, un, (nC, F), (nT, Ft)) c Φ1 := ⟨hI1, JM.eq hJ.2.1 (fun k hk => hF1 (y + k) (fun j q hj => (show False from hj).elim)), ⟨_, (hF1 (o) (fun j q hj => (show False from hj).elim)).trans (Classical.choose_spec hJ.2.2.1)⟩, ⟨_, (hF1 (d) (fun j q hj => (show False from hj).elim)).trans (Classical.choose_spec hJ.2.2.2.1)⟩, (hF1 (x + 1) (fun j q hj => (show False from hj).elim)).trans hJ.2.2.2.2.1, (hF1 (x + 2) (fun j q hj => (show False from hj).elim)).trans hJ.2.2.2.2.2.1, C24.eq hJ.2.2.2.2.2.2.1 (hF1 (x + 24) (fun j q hj => (show False from hj).elim)), XC.eq hJ.2.2.2.2.2.2.2.1 (fun k9 q1 q2 => hF1 (x + k9) (fun j q hj => (show False from hj).elim)), CfC.eq hJ.2.2.2.2.2.2.2.2 (fun k9 q1 q2 => hF1 (x + k9) (fun j q hj => (show False from hj).elim))⟩
  refine z_pop2_2 B dL_law_1450 rfl ?_
  refine z_aload_n B dL_law_1451 rfl 3 rfl ?_
  obtain ⟨⟨rd, le, nx, qu, kn, nu, va, st, th, hM⟩, hg0⟩ := hJ1.2.1
  obtain ⟨fs, hy0⟩ := JM.obj hJ1.2.1
  refine z_callV (As := []) (rest := []) B (r_expected G l Φ1 sz y rd (NNq c) (CaQ nC F) (TpQ nT Ft) (TtQ nT Ft) nC 0 le nx n qu kn co nu va st po (nI tm) aq ob (nI w) r e sm un nT th   (by have := hD.1; omega) hM  (fun f9 h9 => h9.1)) (cwV 0 B.1.2.2.2.2 gL_law_X12_expected rfl rfl rfl (by decide +kernel) ⟨Nat.le_of_ble_eq_true rfl, Nat.le_of_ble_eq_true rfl⟩) hy0 rfl rfl rfl rfl (Nat.le_of_ble_eq_true rfl) dL_law_1452 (rmL (by omega) (by omega) (by decide) (by decide)) (fun v2 Φ2 sz2 st2 hp2 hs2 => ?_)
  obtain ⟨⟨r2, rfl⟩, hz2, ⟨th1_, hM2⟩, hF2⟩ := hp2
  have hg2 := (hF2 (y + 25) (fun j q hj => by replace hj : j = 0 := hj; have := hD.1; have := hD.2.1; have := hD.2.2; omega)).trans hg0
  subst sz2
  replace hs2 : st2 = [.long r2] := hs2
  subst st2
  have hJ2 : JK G x y o d (ca) n f co po (tm, r, w, aq, e, ob, sm, un, (nC, F), (nT, Ft)) c n g co po (tm, r, w, aq, e, ob, sm, un, (nC, F), (nT, Ft)) c Φ2 := ⟨In.eq hJ1.1 (fun k hk => hF2 (x + k) (fun j q hj => by replace hj : j = 0 := hj; have := hD.1; have := hD.2.1; have := hD.2.2; omega)), ⟨⟨_, _, _, _, _, _, _, _, _, hM2⟩, hg2⟩, ⟨_, (hF2 (o) (fun j q hj => by replace hj : j = 0 := hj; have := hD.1; have := hD.2.1; have := hD.2.2; omega)).trans (Classical.choose_spec hJ1.2.2.1)⟩, ⟨_, (hF2 (d) (fun j q hj => by replace hj : j = 0 := hj; have := hD.1; have := hD.2.1; have := hD.2.2; omega)).trans (Classical.choose_spec hJ1.2.2.2.1)⟩, (hF2 (x + 1) (fun j q hj => by replace hj : j = 0 := hj; have := hD.1; have := hD.2.1; have := hD.2.2; omega)).trans hJ1.2.2.2.2.1, (hF2 (x + 2) (fun j q hj => by replace hj : j = 0 := hj; have := hD.1; have := hD.2.1; have := hD.2.2; omega)).trans hJ1.2.2.2.2.2.1, C24.eq hJ1.2.2.2.2.2.2.1 (hF2 (x + 24) (fun j q hj => by replace hj : j = 0 := hj; have := hD.1; have := hD.2.1; have := hD.2.2; omega)), XC.eq hJ1.2.2.2.2.2.2.2.1 (fun k9 q1 q2 => hF2 (x + k9) (fun j q hj => by replace hj : j = 0 := hj; have := hD.1; have := hD.2.1; have := hD.2.2; omega)), CfC.eq hJ1.2.2.2.2.2.2.2.2 (fun k9 q1 q2 => hF2 (x + k9) (fun j q hj => by replace hj : j = 0 := hj; have := hD.1; have := hD.2.1; have := hD.2.2; omega))⟩
  refine z_pop2_2 B dL_law_1455 rfl ?_
  refine z_goto (tgt := 1994) B dL_law_1456 rfl ?_
  refine z_widen (k := cells + 2) (n := slots + 12) (by omega) (by omega) ?_
  exact hT _ hd0 Φ2 sz (JJ.of (JK.up hJ2 (by omega)) hG rfl rfl rfl rfl rfl hEq)

set_option maxHeartbeats 4000000 in
set_option maxRecDepth 100000 in
theorem lc_44 {p9 : Program} {e9 : Env} {s9 : State} {m9 : MethodId} {a9 : Array Value} {w9 : List Frame} {t9 : Method} {k9 : Code} {Q9 : State → Prop} {nm9 : String} (G : EnvG) (l : Launch) (hl9 : l.stackTraces = false) {d0 : Drawn} (hd0 : s9.drawn.sameBut d0 lw_cs) (B : Bd p9 (s9.setDrawn d0) m9 a9 t9 k9 G code 9 RL wsL_law ret nm9) (Φ : Hm) (sz b L i : Nat) (xs : Nat → Int32) (hX : va_X b L xs (s9.setDrawn d0) (s9.setDrawn d0).heap) (hbn : b < G.2.2.2) (hL : L ≤ 3584) (hi : i + 7 ≤ L) (x y o d ca cells slots : Nat) (hna : G.2.2.2 ≤ x) (hD : Ds x y o d) (hca : ca ≤ 10000) (hcl : cells ≤ 8000) (hsl : slots ≤ 80000) (hJ : JJ G x y o d ca Φ) (hT : ∀ (d1 : Drawn), s9.drawn.sameBut d1 lw_cs → ∀ (Φ1 : Hm) (sz1 : Nat), JJ G x y o d (ca + 12) Φ1 → Z p9 l e9 room_1 (s9.setDrawn d1) m9 a9 w9 t9 k9 Q9 G 9 1994 [(5, .int (nI i)), (4, .ref d), (3, .ref o), (2, .ref y), (1, .ref x), (0, .ref b)] [] Φ1 sz1 (cells + 2) (slots + 12)) : Z p9 l e9 room_1 (s9.setDrawn d0) m9 a9 w9 t9 k9 Q9 G 9 1459 [(5, .int (nI i)), (4, .ref d), (3, .ref o), (2, .ref y), (1, .ref x), (0, .ref b)] [] Φ sz cells slots := by
  obtain ⟨n, f, g, co, po, ⟨tm, r, w, aq, e, ob, sm, un, ⟨nC, F⟩, nT, Ft⟩, c, hJ, hG, hEq⟩ := hJ
  refine z_aload_n B dL_law_1459 rfl 4 rfl ?_
  refine z_aload_n B dL_law_1460 rfl 5 rfl ?_
  refine z_iload B dL_law_1461 0 rfl ?_
  refine z_iconst (v := 1) B dL_law_1463 rfl ?_
  refine z_iadd B dL_law_1464 ?_
  refine z_sald B hX hbn (vinL (n := 1) rfl (by omega) hL) dL_law_1465 ?_
  refine z_aload_n B dL_law_1466 rfl 2 rfl ?_
  obtain ⟨fo, hco⟩ := hJ.2.2.1
  refine z_callSW (As := [.ref x, .int (xs (nI i + 1).toNatClampNeg), .ref o]) (rest := []) B (w_counter G l hl9 Φ sz x ca (xs (nI i + 1).toNatClampNeg) o fo hna (by have := hD.1; have := hD.2.1; have := hD.2.2; omega) (fun j hj => by have := hD.1; have := hD.2.1; have := hD.2.2; omega) hJ.1 hco ) (vx_cwSW 3 B.1.2.2.2.2 gL_law_L_counter rfl rfl rfl (by decide +kernel) ⟨Nat.le_of_ble_eq_true rfl, Nat.le_of_ble_eq_true rfl⟩) rfl rfl (Nat.le_of_ble_eq_true rfl) dL_law_1467 (rmL (by omega) (by omega) (by decide) (by decide)) (fun v1 Φ1 sz1 st1 hp1 hs1 => ?_)
  obtain ⟨⟨r1, rfl⟩, hI1, ho1, hf1⟩ := hp1
  replace hs1 : st1 = [.int r1] := hs1
  subst st1
  have hJ1 : JK G x y o d (ca) n f co po (tm, r, w, aq, e, ob, sm, un, (nC, F), (nT, Ft)) c n g co po (tm, r, w, aq, e, ob, sm, un, (nC, F), (nT, Ft)) c Φ1 := ⟨hI1, JM.eq hJ.2.1 (fun k hk => hf1 (y + k) (fun j hj => (show False from hj).elim) (by have := hD.1; have := hD.2.1; have := hD.2.2; omega)), ho1, ⟨_, (hf1 d (fun j hj => (show False from hj).elim) (by have := hD.1; have := hD.2.1; have := hD.2.2; omega)).trans (Classical.choose_spec hJ.2.2.2.1)⟩, (hf1 (x + 1) (fun j hj => (show False from hj).elim) (by have := hD.1; have := hD.2.1; have := hD.2.2; omega)).trans hJ.2.2.2.2.1, (hf1 (x + 2) (fun j hj => (show False from hj).elim) (by have := hD.1; have := hD.2.1; have := hD.2.2; omega)).trans hJ.2.2.2.2.2.1, C24.eq hJ.2.2.2.2.2.2.1 (hf1 (x + 24) (fun j hj => (show False from hj).elim) (by have := hD.1; have := hD.2.1; have := hD.2.2; omega)), XC.eq hJ.2.2.2.2.2.2.2.1 (fun k9 q1 q2 => hf1 (x + k9) (fun j hj => (show False from hj).elim) (by have := hD.1; have := hD.2.1; have := hD.2.2; omega)), CfC.eq hJ.2.2.2.2.2.2.2.2 (fun k9 q1 q2 => hf1 (x + k9) (fun j hj => (show False from hj).elim) (by have := hD.1; have := hD.2.1; have := hD.2.2; omega))⟩
  refine z_istore (lv' := [(6, .int r1), (5, .int (nI i)), (4, .ref d), (3, .ref o), (2, .ref y), (1, .ref x), (0, .ref b)]) B dL_law_1470 (Nat.le_of_ble_eq_true rfl) rfl ?_
  refine z_aload_n B dL_law_1472 rfl 4 rfl ?_
  refine z_aload_n B dL_law_1473 rfl 6 rfl ?_
  refine z_iload B dL_law_1474 1 rfl ?_
  refine z_iconst (v := 1) B dL_law_1476 rfl ?_
  refine z_iadd B dL_law_1477 ?_
  refine z_sald B hX hbn (vinL (n := 1) rfl (by omega) hL) dL_law_1478 ?_
  obtain ⟨⟨rd, le, nx, qu, kn, nu, va, st, th, hM⟩, hg0⟩ := hJ1.2.1
  obtain ⟨fs, hy0⟩ := JM.obj hJ1.2.1
  refine z_callV (As := [.int (xs (nI i + 1).toNatClampNeg)]) (rest := []) B (r_counter G l Φ1 sz1 y rd (NNq c) (CaQ nC F) (TpQ nT Ft) (TtQ nT Ft) nC 0 le nx n qu kn co nu va st po (nI tm) aq ob (nI w) r e sm un nT th  (xs (nI i + 1).toNatClampNeg) (by have := hD.1; omega) hM  (fun f9 h9 => h9.1)) (cwV 1 B.1.2.2.2.2 gL_law_X12_counter rfl rfl rfl (by decide +kernel) ⟨Nat.le_of_ble_eq_true rfl, Nat.le_of_ble_eq_true rfl⟩) hy0 rfl rfl rfl rfl (Nat.le_of_ble_eq_true rfl) dL_law_1479 (rmL (by omega) (by omega) (by decide) (by decide)) (fun v2 Φ2 sz2 st2 hp2 hs2 => ?_)
  obtain ⟨⟨r2, rfl⟩, hz2, ⟨th1_, hM2⟩, hF2⟩ := hp2
  have hg2 := (hF2 (y + 25) (fun j q hj => by replace hj : j = 0 := hj; have := hD.1; have := hD.2.1; have := hD.2.2; omega)).trans hg0
  subst sz2
  replace hs2 : st2 = [.long r2] := hs2
  subst st2
  have hJ2 : JK G x y o d (ca) n f co po (tm, r, w, aq, e, ob, sm, un, (nC, F), (nT, Ft)) c n g co po (tm, r, w, aq, e, ob, sm, un, (nC, F), (nT, Ft)) c Φ2 := ⟨In.eq hJ1.1 (fun k hk => hF2 (x + k) (fun j q hj => by replace hj : j = 0 := hj; have := hD.1; have := hD.2.1; have := hD.2.2; omega)), ⟨⟨_, _, _, _, _, _, _, _, _, hM2⟩, hg2⟩, ⟨_, (hF2 (o) (fun j q hj => by replace hj : j = 0 := hj; have := hD.1; have := hD.2.1; have := hD.2.2; omega)).trans (Classical.choose_spec hJ1.2.2.1)⟩, ⟨_, (hF2 (d) (fun j q hj => by replace hj : j = 0 := hj; have := hD.1; have := hD.2.1; have := hD.2.2; omega)).trans (Classical.choose_spec hJ1.2.2.2.1)⟩, (hF2 (x + 1) (fun j q hj => by replace hj : j = 0 := hj; have := hD.1; have := hD.2.1; have := hD.2.2; omega)).trans hJ1.2.2.2.2.1, (hF2 (x + 2) (fun j q hj => by replace hj : j = 0 := hj; have := hD.1; have := hD.2.1; have := hD.2.2; omega)).trans hJ1.2.2.2.2.2.1, C24.eq hJ1.2.2.2.2.2.2.1 (hF2 (x + 24) (fun j q hj => by replace hj : j = 0 := hj; have := hD.1; have := hD.2.1; have := hD.2.2; omega)), XC.eq hJ1.2.2.2.2.2.2.2.1 (fun k9 q1 q2 => hF2 (x + k9) (fun j q hj => by replace hj : j = 0 := hj; have := hD.1; have := hD.2.1; have := hD.2.2; omega)), CfC.eq hJ1.2.2.2.2.2.2.2.2 (fun k9 q1 q2 => hF2 (x + k9) (fun j q hj => by replace hj : j = 0 := hj; have := hD.1; have := hD.2.1; have := hD.2.2; omega))⟩
  refine z_lstore (lv' := [(7, .long r2), (6, .int r1), (5, .int (nI i)), (4, .ref d), (3, .ref o), (2, .ref y), (1, .ref x), (0, .ref b)]) B dL_law_1482 (Nat.le_of_ble_eq_true rfl) rfl ?_
  refine z_goto (tgt := 1994) B dL_law_1484 rfl ?_
  refine z_lv [2, 3, 4, 5, 6, 7] rfl ?_
  refine z_widen (k := cells + 2) (n := slots + 12) (by omega) (by omega) ?_
  exact hT _ hd0 Φ2 sz1 (JJ.of (JK.up hJ2 (by omega)) hG rfl rfl rfl rfl rfl hEq)

set_option maxHeartbeats 4000000 in
set_option maxRecDepth 100000 in
theorem lc_45 {p9 : Program} {e9 : Env} {s9 : State} {m9 : MethodId} {a9 : Array Value} {w9 : List Frame} {t9 : Method} {k9 : Code} {Q9 : State → Prop} {nm9 : String} (G : EnvG) (l : Launch) (hl9 : l.stackTraces = false) {d0 : Drawn} (hd0 : s9.drawn.sameBut d0 lw_cs) (B : Bd p9 (s9.setDrawn d0) m9 a9 t9 k9 G code 9 RL wsL_law ret nm9) (Φ : Hm) (sz b L i : Nat) (xs : Nat → Int32) (hX : va_X b L xs (s9.setDrawn d0) (s9.setDrawn d0).heap) (hbn : b < G.2.2.2) (hL : L ≤ 3584) (hi : i + 7 ≤ L) (x y o d ca cells slots : Nat) (hna : G.2.2.2 ≤ x) (hD : Ds x y o d) (hca : ca ≤ 10000) (hcl : cells ≤ 8000) (hsl : slots ≤ 80000) (hJ : JJ G x y o d ca Φ) (hT : ∀ (d1 : Drawn), s9.drawn.sameBut d1 lw_cs → ∀ (Φ1 : Hm) (sz1 : Nat), JJ G x y o d (ca + 12) Φ1 → Z p9 l e9 room_1 (s9.setDrawn d1) m9 a9 w9 t9 k9 Q9 G 9 1994 [(5, .int (nI i)), (4, .ref d), (3, .ref o), (2, .ref y), (1, .ref x), (0, .ref b)] [] Φ1 sz1 (cells + 2) (slots + 12)) : Z p9 l e9 room_1 (s9.setDrawn d0) m9 a9 w9 t9 k9 Q9 G 9 1487 [(5, .int (nI i)), (4, .ref d), (3, .ref o), (2, .ref y), (1, .ref x), (0, .ref b)] [] Φ sz cells slots := by
  obtain ⟨n, f, g, co, po, ⟨tm, r, w, aq, e, ob, sm, un, ⟨nC, F⟩, nT, Ft⟩, c, hJ, hG, hEq⟩ := hJ
  refine z_aload_n B dL_law_1487 rfl 4 rfl ?_
  refine z_aload B dL_law_1488 1 rfl ?_
  obtain ⟨fo, hco⟩ := hJ.2.2.2.1
  refine z_callSW (As := [.ref x, .ref d]) (rest := []) B (w_lossRate G l hl9 Φ sz x ca  d fo hna (by have := hD.1; have := hD.2.1; have := hD.2.2; omega) (fun j hj => by have := hD.1; have := hD.2.1; have := hD.2.2; omega) hJ.1 hco ) (vx_cwSW 2 B.1.2.2.2.2 gL_law_L_lossRate rfl rfl rfl (by decide +kernel) ⟨Nat.le_of_ble_eq_true rfl, Nat.le_of_ble_eq_true rfl⟩) rfl rfl (Nat.le_of_ble_eq_true rfl) dL_law_1490 (rmL (by omega) (by omega) (by decide) (by decide)) (fun v1 Φ1 sz1 st1 hp1 hs1 => ?_)
  obtain ⟨⟨r1, rfl⟩, hI1, ho1, hf1⟩ := hp1
  replace hs1 : st1 = [.int r1] := hs1
  subst st1
  have hJ1 : JK G x y o d (ca) n f co po (tm, r, w, aq, e, ob, sm, un, (nC, F), (nT, Ft)) c n g co po (tm, r, w, aq, e, ob, sm, un, (nC, F), (nT, Ft)) c Φ1 := ⟨hI1, JM.eq hJ.2.1 (fun k hk => hf1 (y + k) (fun j hj => (show False from hj).elim) (by have := hD.1; have := hD.2.1; have := hD.2.2; omega)), ⟨_, (hf1 o (fun j hj => (show False from hj).elim) (by have := hD.1; have := hD.2.1; have := hD.2.2; omega)).trans (Classical.choose_spec hJ.2.2.1)⟩, ho1, (hf1 (x + 1) (fun j hj => (show False from hj).elim) (by have := hD.1; have := hD.2.1; have := hD.2.2; omega)).trans hJ.2.2.2.2.1, (hf1 (x + 2) (fun j hj => (show False from hj).elim) (by have := hD.1; have := hD.2.1; have := hD.2.2; omega)).trans hJ.2.2.2.2.2.1, C24.eq hJ.2.2.2.2.2.2.1 (hf1 (x + 24) (fun j hj => (show False from hj).elim) (by have := hD.1; have := hD.2.1; have := hD.2.2; omega)), XC.eq hJ.2.2.2.2.2.2.2.1 (fun k9 q1 q2 => hf1 (x + k9) (fun j hj => (show False from hj).elim) (by have := hD.1; have := hD.2.1; have := hD.2.2; omega)), CfC.eq hJ.2.2.2.2.2.2.2.2 (fun k9 q1 q2 => hf1 (x + k9) (fun j hj => (show False from hj).elim) (by have := hD.1; have := hD.2.1; have := hD.2.2; omega))⟩
  refine z_istore (lv' := [(6, .int r1), (5, .int (nI i)), (4, .ref d), (3, .ref o), (2, .ref y), (1, .ref x), (0, .ref b)]) B dL_law_1493 (Nat.le_of_ble_eq_true rfl) rfl ?_
  refine z_aload_n B dL_law_1495 rfl 4 rfl ?_
  obtain ⟨⟨rd, le, nx, qu, kn, nu, va, st, th, hM⟩, hg0⟩ := hJ1.2.1
  obtain ⟨fs, hy0⟩ := JM.obj hJ1.2.1
  refine z_callV (As := []) (rest := []) B (r_lossRate G l Φ1 sz1 y rd (NNq c) (CaQ nC F) (TpQ nT Ft) (TtQ nT Ft) nC 0 le nx n qu kn co nu va st po (nI tm) aq ob (nI w) r e sm un nT th   (by have := hD.1; omega) hM  (fun f9 h9 => h9.1)) (cwV 0 B.1.2.2.2.2 gL_law_X12_lossRate rfl rfl rfl (by decide +kernel) ⟨Nat.le_of_ble_eq_true rfl, Nat.le_of_ble_eq_true rfl⟩) hy0 rfl rfl rfl rfl (Nat.le_of_ble_eq_true rfl) dL_law_1496 (rmL (by omega) (by omega) (by decide) (by decide)) (fun v2 Φ2 sz2 st2 hp2 hs2 => ?_)
  obtain ⟨⟨r2, rfl, hb2⟩, hz2, ⟨th1_, hM2⟩, hF2⟩ := hp2
  have hg2 := (hF2 (y + 25) (fun j q hj => by replace hj : j = 0 := hj; have := hD.1; have := hD.2.1; have := hD.2.2; omega)).trans hg0
  subst sz2
  replace hs2 : st2 = [.double r2] := hs2
  subst st2
  have hJ2 : JK G x y o d (ca) n f co po (tm, r, w, aq, e, ob, sm, un, (nC, F), (nT, Ft)) c n g co po (tm, r, w, aq, e, ob, sm, un, (nC, F), (nT, Ft)) c Φ2 := ⟨In.eq hJ1.1 (fun k hk => hF2 (x + k) (fun j q hj => by replace hj : j = 0 := hj; have := hD.1; have := hD.2.1; have := hD.2.2; omega)), ⟨⟨_, _, _, _, _, _, _, _, _, hM2⟩, hg2⟩, ⟨_, (hF2 (o) (fun j q hj => by replace hj : j = 0 := hj; have := hD.1; have := hD.2.1; have := hD.2.2; omega)).trans (Classical.choose_spec hJ1.2.2.1)⟩, ⟨_, (hF2 (d) (fun j q hj => by replace hj : j = 0 := hj; have := hD.1; have := hD.2.1; have := hD.2.2; omega)).trans (Classical.choose_spec hJ1.2.2.2.1)⟩, (hF2 (x + 1) (fun j q hj => by replace hj : j = 0 := hj; have := hD.1; have := hD.2.1; have := hD.2.2; omega)).trans hJ1.2.2.2.2.1, (hF2 (x + 2) (fun j q hj => by replace hj : j = 0 := hj; have := hD.1; have := hD.2.1; have := hD.2.2; omega)).trans hJ1.2.2.2.2.2.1, C24.eq hJ1.2.2.2.2.2.2.1 (hF2 (x + 24) (fun j q hj => by replace hj : j = 0 := hj; have := hD.1; have := hD.2.1; have := hD.2.2; omega)), XC.eq hJ1.2.2.2.2.2.2.2.1 (fun k9 q1 q2 => hF2 (x + k9) (fun j q hj => by replace hj : j = 0 := hj; have := hD.1; have := hD.2.1; have := hD.2.2; omega)), CfC.eq hJ1.2.2.2.2.2.2.2.2 (fun k9 q1 q2 => hF2 (x + k9) (fun j q hj => by replace hj : j = 0 := hj; have := hD.1; have := hD.2.1; have := hD.2.2; omega))⟩
  refine z_dstore (lv' := [(7, .double r2), (6, .int r1), (5, .int (nI i)), (4, .ref d), (3, .ref o), (2, .ref y), (1, .ref x), (0, .ref b)]) B dL_law_1499 (Nat.le_of_ble_eq_true rfl) rfl ?_
  refine z_goto (tgt := 1994) B dL_law_1501 rfl ?_
  refine z_lv [2, 3, 4, 5, 6, 7] rfl ?_
  refine z_widen (k := cells + 2) (n := slots + 12) (by omega) (by omega) ?_
  exact hT _ hd0 Φ2 sz1 (JJ.of (JK.up hJ2 (by omega)) hG rfl rfl rfl rfl rfl hEq)

set_option maxHeartbeats 4000000 in
set_option maxRecDepth 100000 in
theorem lc_46 {p9 : Program} {e9 : Env} {s9 : State} {m9 : MethodId} {a9 : Array Value} {w9 : List Frame} {t9 : Method} {k9 : Code} {Q9 : State → Prop} {nm9 : String} (G : EnvG) (l : Launch) (hl9 : l.stackTraces = false) {d0 : Drawn} (hd0 : s9.drawn.sameBut d0 lw_cs) (B : Bd p9 (s9.setDrawn d0) m9 a9 t9 k9 G code 9 RL wsL_law ret nm9) (Φ : Hm) (sz b L i : Nat) (xs : Nat → Int32) (hX : va_X b L xs (s9.setDrawn d0) (s9.setDrawn d0).heap) (hbn : b < G.2.2.2) (hL : L ≤ 3584) (hi : i + 7 ≤ L) (x y o d ca cells slots : Nat) (hna : G.2.2.2 ≤ x) (hD : Ds x y o d) (hca : ca ≤ 10000) (hcl : cells ≤ 8000) (hsl : slots ≤ 80000) (hJ : JJ G x y o d ca Φ) (hT : ∀ (d1 : Drawn), s9.drawn.sameBut d1 lw_cs → ∀ (Φ1 : Hm) (sz1 : Nat), JJ G x y o d (ca + 12) Φ1 → Z p9 l e9 room_1 (s9.setDrawn d1) m9 a9 w9 t9 k9 Q9 G 9 1994 [(5, .int (nI i)), (4, .ref d), (3, .ref o), (2, .ref y), (1, .ref x), (0, .ref b)] [] Φ1 sz1 (cells + 2) (slots + 12)) : Z p9 l e9 room_1 (s9.setDrawn d0) m9 a9 w9 t9 k9 Q9 G 9 1504 [(5, .int (nI i)), (4, .ref d), (3, .ref o), (2, .ref y), (1, .ref x), (0, .ref b)] [] Φ sz cells slots := by
  obtain ⟨n, f, g, co, po, ⟨tm, r, w, aq, e, ob, sm, un, ⟨nC, F⟩, nT, Ft⟩, c, hJ, hG, hEq⟩ := hJ
  refine z_aload_n B dL_law_1504 rfl 4 rfl ?_
  have h0 : Φ x = some (o_ 13 [.ref (x + 1), .ref (x + 3), .ref (x + 24), .ref (x + 46), .ref (x + 74), .ref (x + 80), .ref (x + 132), .ref (x + 121)]) := in0 (k := 0) hJ.1 rfl
  refine z_callV (As := []) (rest := []) B (s_X11_restartCollector G l Φ sz x ca  hna hJ.1  ) (cwV 0 B.1.2.2.2.2 gL_law_X11_restartCollector rfl rfl rfl (by decide +kernel) ⟨Nat.le_of_ble_eq_true rfl, Nat.le_of_ble_eq_true rfl⟩) h0 rfl rfl rfl rfl (Nat.le_of_ble_eq_true rfl) dL_law_1505 (rmL (by omega) (by omega) (by decide) (by decide)) (fun v1 Φ1 sz1 st1 hp1 hs1 => ?_)
  obtain ⟨⟨r1, rfl⟩, hz1, hI1, hF1⟩ := hp1
  subst sz1
  replace hs1 : st1 = [.int r1] := hs1
  subst st1
  have hJ1 : JK G x y o d (ca) n f co po (tm, r, w, aq, e, ob, sm, un, (nC, F), (nT, Ft)) c n g co po (tm, r, w, aq, e, ob, sm, un, (nC, F), (nT, Ft)) c Φ1 := ⟨hI1, JM.eq hJ.2.1 (fun k hk => hF1 (y + k) (fun j q hj => by replace hj : 132 ≤ j ∧ j < 149 := hj; have := hD.1; have := hD.2.1; have := hD.2.2; omega)), ⟨_, (hF1 (o) (fun j q hj => by replace hj : 132 ≤ j ∧ j < 149 := hj; have := hD.1; have := hD.2.1; have := hD.2.2; omega)).trans (Classical.choose_spec hJ.2.2.1)⟩, ⟨_, (hF1 (d) (fun j q hj => by replace hj : 132 ≤ j ∧ j < 149 := hj; have := hD.1; have := hD.2.1; have := hD.2.2; omega)).trans (Classical.choose_spec hJ.2.2.2.1)⟩, (hF1 (x + 1) (fun j q hj => by replace hj : 132 ≤ j ∧ j < 149 := hj; have := hD.1; have := hD.2.1; have := hD.2.2; omega)).trans hJ.2.2.2.2.1, (hF1 (x + 2) (fun j q hj => by replace hj : 132 ≤ j ∧ j < 149 := hj; have := hD.1; have := hD.2.1; have := hD.2.2; omega)).trans hJ.2.2.2.2.2.1, C24.eq hJ.2.2.2.2.2.2.1 (hF1 (x + 24) (fun j q hj => by replace hj : 132 ≤ j ∧ j < 149 := hj; have := hD.1; have := hD.2.1; have := hD.2.2; omega)), XC.eq hJ.2.2.2.2.2.2.2.1 (fun k9 q1 q2 => hF1 (x + k9) (fun j q hj => by replace hj : 132 ≤ j ∧ j < 149 := hj; have := hD.1; have := hD.2.1; have := hD.2.2; omega)), CfC.eq hJ.2.2.2.2.2.2.2.2 (fun k9 q1 q2 => hF1 (x + k9) (fun j q hj => by replace hj : 132 ≤ j ∧ j < 149 := hj; have := hD.1; have := hD.2.1; have := hD.2.2; omega))⟩
  refine z_pop B dL_law_1508 rfl ?_
  refine z_aload_n B dL_law_1509 rfl 3 rfl ?_
  obtain ⟨⟨rd, le, nx, qu, kn, nu, va, st, th, hM⟩, hg0⟩ := hJ1.2.1
  obtain ⟨fs, hy0⟩ := JM.obj hJ1.2.1
  refine z_callV (As := []) (rest := []) B (r_restartCollector G l Φ1 sz y rd (NNq c) (CaQ nC F) (TpQ nT Ft) (TtQ nT Ft) nC 0 le nx n qu kn co nu va st po (nI tm) aq ob (nI w) r e sm un nT th   (by have := hD.1; omega) hM  (fun f9 h9 => h9.1)) (cwV 0 B.1.2.2.2.2 gL_law_X12_restartCollector rfl rfl rfl (by decide +kernel) ⟨Nat.le_of_ble_eq_true rfl, Nat.le_of_ble_eq_true rfl⟩) hy0 rfl rfl rfl rfl (Nat.le_of_ble_eq_true rfl) dL_law_1510 (rmL (by omega) (by omega) (by decide) (by decide)) (fun v2 Φ2 sz2 st2 hp2 hs2 => ?_)
  obtain ⟨⟨r2, rfl⟩, hz2, ⟨th1_, hM2⟩, hF2⟩ := hp2
  have hg2 := (hF2 (y + 25) (fun j q hj => by replace hj : j = 0 ∨ j = 12 := hj; have := hD.1; have := hD.2.1; have := hD.2.2; omega)).trans hg0
  subst sz2
  replace hs2 : st2 = [.int r2] := hs2
  subst st2
  have hJ2 : JK G x y o d (ca) n f co po (tm, r, w, aq, e, ob, sm, un, (nC, F), (nT, Ft)) c n g co po (tm, r, w, aq, e, ob, sm, un, (nC, F), (nT, Ft)) c Φ2 := ⟨In.eq hJ1.1 (fun k hk => hF2 (x + k) (fun j q hj => by replace hj : j = 0 ∨ j = 12 := hj; have := hD.1; have := hD.2.1; have := hD.2.2; omega)), ⟨⟨_, _, _, _, _, _, _, _, _, hM2⟩, hg2⟩, ⟨_, (hF2 (o) (fun j q hj => by replace hj : j = 0 ∨ j = 12 := hj; have := hD.1; have := hD.2.1; have := hD.2.2; omega)).trans (Classical.choose_spec hJ1.2.2.1)⟩, ⟨_, (hF2 (d) (fun j q hj => by replace hj : j = 0 ∨ j = 12 := hj; have := hD.1; have := hD.2.1; have := hD.2.2; omega)).trans (Classical.choose_spec hJ1.2.2.2.1)⟩, (hF2 (x + 1) (fun j q hj => by replace hj : j = 0 ∨ j = 12 := hj; have := hD.1; have := hD.2.1; have := hD.2.2; omega)).trans hJ1.2.2.2.2.1, (hF2 (x + 2) (fun j q hj => by replace hj : j = 0 ∨ j = 12 := hj; have := hD.1; have := hD.2.1; have := hD.2.2; omega)).trans hJ1.2.2.2.2.2.1, C24.eq hJ1.2.2.2.2.2.2.1 (hF2 (x + 24) (fun j q hj => by replace hj : j = 0 ∨ j = 12 := hj; have := hD.1; have := hD.2.1; have := hD.2.2; omega)), XC.eq hJ1.2.2.2.2.2.2.2.1 (fun k9 q1 q2 => hF2 (x + k9) (fun j q hj => by replace hj : j = 0 ∨ j = 12 := hj; have := hD.1; have := hD.2.1; have := hD.2.2; omega)), CfC.eq hJ1.2.2.2.2.2.2.2.2 (fun k9 q1 q2 => hF2 (x + k9) (fun j q hj => by replace hj : j = 0 ∨ j = 12 := hj; have := hD.1; have := hD.2.1; have := hD.2.2; omega))⟩
  refine z_pop B dL_law_1513 rfl ?_
  refine z_goto (tgt := 1994) B dL_law_1514 rfl ?_
  refine z_widen (k := cells + 2) (n := slots + 12) (by omega) (by omega) ?_
  exact hT _ hd0 Φ2 sz (JJ.of (JK.up hJ2 (by omega)) hG rfl rfl rfl rfl rfl hEq)

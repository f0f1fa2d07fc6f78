set_option maxHeartbeats 4000000 in
set_option maxRecDepth 100000 in
theorem lc_0 {p9 : Program} {e9 : Env} {s9 : State} {m9 : MethodId} {a9 : Array Value} {w9 : List Frame} {t9 : Method} {k9 : Code} {Q9 : State → Prop} {nm9 : String} (G : EnvG) (l : Launch) (hl9 : l.stackTraces = false) {d0 : Drawn} (hd0 : s9.drawn.sameBut d0 lw_cs) (B : Bd p9 (s9.setDrawn d0) m9 a9 t9 k9 G code 9 RL wsL_law ret nm9) (Φ : Hm) (sz b L i : Nat) (xs : Nat → Int32) (hX : va_X b L xs (s9.setDrawn d0) (s9.setDrawn d0).heap) (hbn : b < G.2.2.2) (hL : L ≤ 3584) (hi : i + 7 ≤ L) (x y o d ca cells slots : Nat) (hna : G.2.2.2 ≤ x) (hD : Ds x y o d) (hca : ca ≤ 10000) (hcl : cells ≤ 8000) (hsl : slots ≤ 80000) (hJ : JJ G x y o d ca Φ) (hT : ∀ (d1 : Drawn), s9.drawn.sameBut d1 lw_cs → ∀ (Φ1 : Hm) (sz1 : Nat), JJ G x y o d (ca + 12) Φ1 → Z p9 l e9 room_1 (s9.setDrawn d1) m9 a9 w9 t9 k9 Q9 G 9 1994 [(5, .int (nI i)), (4, .ref d), (3, .ref o), (2, .ref y), (1, .ref x), (0, .ref b)] [] Φ1 sz1 (cells + 2) (slots + 12)) : Z p9 l e9 room_1 (s9.setDrawn d0) m9 a9 w9 t9 k9 Q9 G 9 296 [(5, .int (nI i)), (4, .ref d), (3, .ref o), (2, .ref y), (1, .ref x), (0, .ref b)] [] Φ sz cells slots := by
  obtain ⟨n, f, g, co, po, nw, aq, ob, c, hJ, hEq⟩ := hJ
  refine z_aload_n B dL_law_296 rfl 4 rfl ?_
  refine z_aload_n B dL_law_297 rfl 5 rfl ?_
  refine z_iload B dL_law_298 0 rfl ?_
  refine z_iconst (v := 1) B dL_law_300 rfl ?_
  refine z_iadd B dL_law_301 ?_
  refine z_sald B hX hbn (vinL (n := 1) rfl (by omega) hL) dL_law_302 ?_
  refine z_aload_n B dL_law_303 rfl 5 rfl ?_
  refine z_iload B dL_law_304 0 rfl ?_
  refine z_iconst (v := 2) B dL_law_306 rfl ?_
  refine z_iadd B dL_law_307 ?_
  refine z_sald B hX hbn (vinL (n := 2) rfl (by omega) hL) dL_law_308 ?_
  refine z_aload_n B dL_law_309 rfl 5 rfl ?_
  refine z_iload B dL_law_310 0 rfl ?_
  refine z_iconst (v := 3) B dL_law_312 rfl ?_
  refine z_iadd B dL_law_313 ?_
  refine z_sald B hX hbn (vinL (n := 3) rfl (by omega) hL) dL_law_314 ?_
  refine z_aload_n B dL_law_315 rfl 5 rfl ?_
  refine z_iload B dL_law_316 0 rfl ?_
  refine z_iconst (v := 4) B dL_law_318 rfl ?_
  refine z_iadd B dL_law_319 ?_
  refine z_sald B hX hbn (vinL (n := 4) rfl (by omega) hL) dL_law_320 ?_
  refine z_aload_n B dL_law_321 rfl 5 rfl ?_
  refine z_iload B dL_law_322 0 rfl ?_
  refine z_iconst (v := 5) B dL_law_324 rfl ?_
  refine z_iadd B dL_law_325 ?_
  refine z_sald B hX hbn (vinL (n := 5) rfl (by omega) hL) dL_law_326 ?_
  have h0 : Φ x = some (o_ 13 [.ref (x + 1), .ref (x + 3), .ref (x + 24), .ref (x + 46), .ref (x + 74), .ref (x + 80), .ref (x + 132), .ref (x + 121)]) := in0 (k := 0) hJ.1 rfl
  refine z_callV (As := [.int (xs (nI i + 1).toNatClampNeg), .int (xs (nI i + 2).toNatClampNeg), .int (xs (nI i + 3).toNatClampNeg), .int (xs (nI i + 4).toNatClampNeg), .int (xs (nI i + 5).toNatClampNeg)]) (rest := []) B (s_X11_appendInputC G l Φ sz x ca n f (xs (nI i + 1).toNatClampNeg) (xs (nI i + 2).toNatClampNeg) (xs (nI i + 3).toNatClampNeg) (xs (nI i + 4).toNatClampNeg) (xs (nI i + 5).toNatClampNeg) hna hJ.1 hJ.2.2.2.2.1 hJ.2.2.2.2.2.1 (JK.il hJ) (JK.fit hJ)) (cwV 5 B.1.2.2.2.2 gL_law_X11_appendInput rfl rfl rfl (by decide +kernel) ⟨Nat.le_of_ble_eq_true rfl, Nat.le_of_ble_eq_true rfl⟩) h0 rfl rfl rfl rfl (Nat.le_of_ble_eq_true rfl) dL_law_327 (rmL (by omega) (by omega) (by decide) (by decide)) (fun v1 Φ1 sz1 st1 hp1 hs1 => ?_)
  obtain ⟨⟨n1_, f1_, hC1, hB1, hA1, hf3, hf4⟩, hz1, hI1, hF1⟩ := hp1
  obtain ⟨r1, rfl⟩ := apV_int hA1
  subst sz1
  replace hs1 : st1 = [.int r1] := hs1
  subst st1
  have hJ1 : JK G x y o d (ca) n1_ f1_ co po nw aq ob c n g co po nw aq ob c Φ1 := ⟨hI1, JM.eq hJ.2.1 (fun k hk => hF1 (y + k) (fun j q hj => by replace hj : j = 1 ∨ j = 2 := hj; have := hD.1; have := hD.2.1; have := hD.2.2; omega)), ⟨_, (hF1 (o) (fun j q hj => by replace hj : j = 1 ∨ j = 2 := hj; have := hD.1; have := hD.2.1; have := hD.2.2; omega)).trans (Classical.choose_spec hJ.2.2.1)⟩, ⟨_, (hF1 (d) (fun j q hj => by replace hj : j = 1 ∨ j = 2 := hj; have := hD.1; have := hD.2.1; have := hD.2.2; omega)).trans (Classical.choose_spec hJ.2.2.2.1)⟩, hC1, hB1, C24.eq hJ.2.2.2.2.2.2.1 (hF1 (x + 24) (fun j q hj => by replace hj : j = 1 ∨ j = 2 := hj; have := hD.1; have := hD.2.1; have := hD.2.2; omega)), C80.eq hJ.2.2.2.2.2.2.2.1 (hF1 (x + 80) (fun j q hj => by replace hj : j = 1 ∨ j = 2 := hj; have := hD.1; have := hD.2.1; have := hD.2.2; omega)), CfC.eq hJ.2.2.2.2.2.2.2.2 (fun k9 q1 q2 => hF1 (x + k9) (fun j q hj => by replace hj : j = 1 ∨ j = 2 := hj; have := hD.1; have := hD.2.1; have := hD.2.2; omega))⟩
  refine z_pop B dL_law_330 rfl ?_
  refine z_aload_n B dL_law_331 rfl 3 rfl ?_
  refine z_aload_n B dL_law_332 rfl 5 rfl ?_
  refine z_iload B dL_law_333 0 rfl ?_
  refine z_iconst (v := 1) B dL_law_335 rfl ?_
  refine z_iadd B dL_law_336 ?_
  refine z_sald B hX hbn (vinL (n := 1) rfl (by omega) hL) dL_law_337 ?_
  refine z_aload_n B dL_law_338 rfl 5 rfl ?_
  refine z_iload B dL_law_339 0 rfl ?_
  refine z_iconst (v := 2) B dL_law_341 rfl ?_
  refine z_iadd B dL_law_342 ?_
  refine z_sald B hX hbn (vinL (n := 2) rfl (by omega) hL) dL_law_343 ?_
  refine z_aload_n B dL_law_344 rfl 5 rfl ?_
  refine z_iload B dL_law_345 0 rfl ?_
  refine z_iconst (v := 3) B dL_law_347 rfl ?_
  refine z_iadd B dL_law_348 ?_
  refine z_sald B hX hbn (vinL (n := 3) rfl (by omega) hL) dL_law_349 ?_
  refine z_aload_n B dL_law_350 rfl 5 rfl ?_
  refine z_iload B dL_law_351 0 rfl ?_
  refine z_iconst (v := 4) B dL_law_353 rfl ?_
  refine z_iadd B dL_law_354 ?_
  refine z_sald B hX hbn (vinL (n := 4) rfl (by omega) hL) dL_law_355 ?_
  refine z_aload_n B dL_law_356 rfl 5 rfl ?_
  refine z_iload B dL_law_357 0 rfl ?_
  refine z_iconst (v := 5) B dL_law_359 rfl ?_
  refine z_iadd B dL_law_360 ?_
  refine z_sald B hX hbn (vinL (n := 5) rfl (by omega) hL) dL_law_361 ?_
  obtain ⟨⟨rd, fl, le, nx, qu, kn, nu, va, st, hM⟩, hg0⟩ := hJ1.2.1
  obtain ⟨fs, hy0⟩ := JM.obj hJ1.2.1
  refine z_callV (As := [.int (xs (nI i + 1).toNatClampNeg), .int (xs (nI i + 2).toNatClampNeg), .int (xs (nI i + 3).toNatClampNeg), .int (xs (nI i + 4).toNatClampNeg), .int (xs (nI i + 5).toNatClampNeg)]) (rest := []) B (r_appendInputB G l Φ1 sz y rd (NNq c) fl 0 le nx n qu kn co nu va st po nw aq ob g (xs (nI i + 1).toNatClampNeg) (xs (nI i + 2).toNatClampNeg) (xs (nI i + 3).toNatClampNeg) (xs (nI i + 4).toNatClampNeg) (xs (nI i + 5).toNatClampNeg) (by have := hD.1; omega) hM hg0 (fun f9 h9 => h9.1)) (cwV 5 B.1.2.2.2.2 gL_law_X12_appendInput rfl rfl rfl (by decide +kernel) ⟨Nat.le_of_ble_eq_true rfl, Nat.le_of_ble_eq_true rfl⟩) hy0 rfl rfl rfl rfl (Nat.le_of_ble_eq_true rfl) dL_law_362 (rmL (by omega) (by omega) (by decide) (by decide)) (fun v2 Φ2 sz2 st2 hp2 hs2 => ?_)
  obtain ⟨⟨r2, rfl⟩, hz2, ⟨il1_, hR2_0, hM2⟩, hF2⟩ := hp2
  obtain ⟨hA2, g1_, hg2, hk3, hk4⟩ := hR2_0
  have hq := fin_ap hEq hA1 hA2 hf3 hf4 hk3 hk4
  subst sz2
  replace hs2 : st2 = [.int r2] := hs2
  subst st2
  have hJ2 : JK G x y o d (ca) n1_ f1_ co po nw aq ob c il1_ g1_ co po nw aq ob c Φ2 := ⟨In.eq hJ1.1 (fun k hk => hF2 (x + k) (fun j q hj => by replace hj : j = 0 ∨ j = 25 := hj; have := hD.1; have := hD.2.1; have := hD.2.2; omega)), ⟨⟨_, _, _, _, _, _, _, _, _, hM2⟩, hg2⟩, ⟨_, (hF2 (o) (fun j q hj => by replace hj : j = 0 ∨ j = 25 := hj; have := hD.1; have := hD.2.1; have := hD.2.2; omega)).trans (Classical.choose_spec hJ1.2.2.1)⟩, ⟨_, (hF2 (d) (fun j q hj => by replace hj : j = 0 ∨ j = 25 := hj; have := hD.1; have := hD.2.1; have := hD.2.2; omega)).trans (Classical.choose_spec hJ1.2.2.2.1)⟩, (hF2 (x + 1) (fun j q hj => by replace hj : j = 0 ∨ j = 25 := hj; have := hD.1; have := hD.2.1; have := hD.2.2; omega)).trans hJ1.2.2.2.2.1, (hF2 (x + 2) (fun j q hj => by replace hj : j = 0 ∨ j = 25 := hj; have := hD.1; have := hD.2.1; have := hD.2.2; omega)).trans hJ1.2.2.2.2.2.1, C24.eq hJ1.2.2.2.2.2.2.1 (hF2 (x + 24) (fun j q hj => by replace hj : j = 0 ∨ j = 25 := hj; have := hD.1; have := hD.2.1; have := hD.2.2; omega)), C80.eq hJ1.2.2.2.2.2.2.2.1 (hF2 (x + 80) (fun j q hj => by replace hj : j = 0 ∨ j = 25 := hj; have := hD.1; have := hD.2.1; have := hD.2.2; omega)), CfC.eq hJ1.2.2.2.2.2.2.2.2 (fun k9 q1 q2 => hF2 (x + k9) (fun j q hj => by replace hj : j = 0 ∨ j = 25 := hj; have := hD.1; have := hD.2.1; have := hD.2.2; omega))⟩
  refine z_pop B dL_law_365 rfl ?_
  refine z_goto (tgt := 1994) B dL_law_366 rfl ?_
  refine z_widen (k := cells + 2) (n := slots + 12) (by omega) (by omega) ?_
  exact hT _ hd0 Φ2 sz (JJ.of (JK.up hJ2 (by omega)) hq.2.1 rfl rfl rfl rfl rfl rfl hq.2.2)

set_option maxHeartbeats 4000000 in
set_option maxRecDepth 100000 in
theorem lc_1 {p9 : Program} {e9 : Env} {s9 : State} {m9 : MethodId} {a9 : Array Value} {w9 : List Frame} {t9 : Method} {k9 : Code} {Q9 : State → Prop} {nm9 : String} (G : EnvG) (l : Launch) (hl9 : l.stackTraces = false) {d0 : Drawn} (hd0 : s9.drawn.sameBut d0 lw_cs) (B : Bd p9 (s9.setDrawn d0) m9 a9 t9 k9 G code 9 RL wsL_law ret nm9) (Φ : Hm) (sz b L i : Nat) (xs : Nat → Int32) (hX : va_X b L xs (s9.setDrawn d0) (s9.setDrawn d0).heap) (hbn : b < G.2.2.2) (hL : L ≤ 3584) (hi : i + 7 ≤ L) (x y o d ca cells slots : Nat) (hna : G.2.2.2 ≤ x) (hD : Ds x y o d) (hca : ca ≤ 10000) (hcl : cells ≤ 8000) (hsl : slots ≤ 80000) (hJ : JJ G x y o d ca Φ) (hT : ∀ (d1 : Drawn), s9.drawn.sameBut d1 lw_cs → ∀ (Φ1 : Hm) (sz1 : Nat), JJ G x y o d (ca + 12) Φ1 → Z p9 l e9 room_1 (s9.setDrawn d1) m9 a9 w9 t9 k9 Q9 G 9 1994 [(5, .int (nI i)), (4, .ref d), (3, .ref o), (2, .ref y), (1, .ref x), (0, .ref b)] [] Φ1 sz1 (cells + 2) (slots + 12)) : Z p9 l e9 room_1 (s9.setDrawn d0) m9 a9 w9 t9 k9 Q9 G 9 369 [(5, .int (nI i)), (4, .ref d), (3, .ref o), (2, .ref y), (1, .ref x), (0, .ref b)] [] Φ sz cells slots := by
  obtain ⟨n, f, g, co, po, nw, aq, ob, c, hJ, hEq⟩ := hJ
  refine z_aload_n B dL_law_369 rfl 4 rfl ?_
  refine z_aload_n B dL_law_370 rfl 5 rfl ?_
  refine z_iload B dL_law_371 0 rfl ?_
  refine z_iconst (v := 1) B dL_law_373 rfl ?_
  refine z_iadd B dL_law_374 ?_
  refine z_sald B hX hbn (vinL (n := 1) rfl (by omega) hL) dL_law_375 ?_
  have h0 : Φ x = some (o_ 13 [.ref (x + 1), .ref (x + 3), .ref (x + 24), .ref (x + 46), .ref (x + 74), .ref (x + 80), .ref (x + 132), .ref (x + 121)]) := in0 (k := 0) hJ.1 rfl
  refine z_callV (As := [.int (xs (nI i + 1).toNatClampNeg)]) (rest := []) B (s_X11_truncateInput G l Φ sz x ca n (xs (nI i + 1).toNatClampNeg) hna hJ.1 hJ.2.2.2.2.1 (JK.il hJ)) (cwV 1 B.1.2.2.2.2 gL_law_X11_truncateInput rfl rfl rfl (by decide +kernel) ⟨Nat.le_of_ble_eq_true rfl, Nat.le_of_ble_eq_true rfl⟩) h0 rfl rfl rfl rfl (Nat.le_of_ble_eq_true rfl) dL_law_376 (rmL (by omega) (by omega) (by decide) (by decide)) (fun v1 Φ1 sz1 st1 hp1 hs1 => ?_)
  obtain ⟨⟨n1_, hC1, hA1⟩, hz1, hI1, hF1⟩ := hp1
  obtain ⟨r1, rfl⟩ := trV_int hA1
  subst sz1
  replace hs1 : st1 = [.int r1] := hs1
  subst st1
  have hJ1 : JK G x y o d (ca) n1_ f co po nw aq ob c n g co po nw aq ob c Φ1 := ⟨hI1, JM.eq hJ.2.1 (fun k hk => hF1 (y + k) (fun j q hj => by replace hj : j = 1 := hj; have := hD.1; have := hD.2.1; have := hD.2.2; omega)), ⟨_, (hF1 (o) (fun j q hj => by replace hj : j = 1 := hj; have := hD.1; have := hD.2.1; have := hD.2.2; omega)).trans (Classical.choose_spec hJ.2.2.1)⟩, ⟨_, (hF1 (d) (fun j q hj => by replace hj : j = 1 := hj; have := hD.1; have := hD.2.1; have := hD.2.2; omega)).trans (Classical.choose_spec hJ.2.2.2.1)⟩, hC1, (hF1 (x + 2) (fun j q hj => by replace hj : j = 1 := hj; have := hD.1; have := hD.2.1; have := hD.2.2; omega)).trans hJ.2.2.2.2.2.1, C24.eq hJ.2.2.2.2.2.2.1 (hF1 (x + 24) (fun j q hj => by replace hj : j = 1 := hj; have := hD.1; have := hD.2.1; have := hD.2.2; omega)), C80.eq hJ.2.2.2.2.2.2.2.1 (hF1 (x + 80) (fun j q hj => by replace hj : j = 1 := hj; have := hD.1; have := hD.2.1; have := hD.2.2; omega)), CfC.eq hJ.2.2.2.2.2.2.2.2 (fun k9 q1 q2 => hF1 (x + k9) (fun j q hj => by replace hj : j = 1 := hj; have := hD.1; have := hD.2.1; have := hD.2.2; omega))⟩
  refine z_pop B dL_law_379 rfl ?_
  refine z_aload_n B dL_law_380 rfl 3 rfl ?_
  refine z_aload_n B dL_law_381 rfl 5 rfl ?_
  refine z_iload B dL_law_382 0 rfl ?_
  refine z_iconst (v := 1) B dL_law_384 rfl ?_
  refine z_iadd B dL_law_385 ?_
  refine z_sald B hX hbn (vinL (n := 1) rfl (by omega) hL) dL_law_386 ?_
  obtain ⟨⟨rd, fl, le, nx, qu, kn, nu, va, st, hM⟩, hg0⟩ := hJ1.2.1
  obtain ⟨fs, hy0⟩ := JM.obj hJ1.2.1
  refine z_callV (As := [.int (xs (nI i + 1).toNatClampNeg)]) (rest := []) B (r_truncateInput G l Φ1 sz y rd (NNq c) fl 0 le nx n qu kn co nu va st po nw aq ob  (xs (nI i + 1).toNatClampNeg) (by have := hD.1; omega) hM  (fun f9 h9 => h9.1)) (cwV 1 B.1.2.2.2.2 gL_law_X12_truncateInput rfl rfl rfl (by decide +kernel) ⟨Nat.le_of_ble_eq_true rfl, Nat.le_of_ble_eq_true rfl⟩) hy0 rfl rfl rfl rfl (Nat.le_of_ble_eq_true rfl) dL_law_387 (rmL (by omega) (by omega) (by decide) (by decide)) (fun v2 Φ2 sz2 st2 hp2 hs2 => ?_)
  obtain ⟨⟨r2, rfl⟩, hz2, ⟨il1_, hR2_0, hM2⟩, hF2⟩ := hp2
  have hg2 := (hF2 (y + 25) (fun j q hj => by replace hj : j = 0 := hj; have := hD.1; have := hD.2.1; have := hD.2.2; omega)).trans hg0
  have hq := fin_tr (JK.il hJ) hEq hA1 hR2_0
  subst sz2
  replace hs2 : st2 = [.int r2] := hs2
  subst st2
  have hJ2 : JK G x y o d (ca) n1_ f co po nw aq ob c il1_ g co po nw aq ob c Φ2 := ⟨In.eq hJ1.1 (fun k hk => hF2 (x + k) (fun j q hj => by replace hj : j = 0 := hj; have := hD.1; have := hD.2.1; have := hD.2.2; omega)), ⟨⟨_, _, _, _, _, _, _, _, _, hM2⟩, hg2⟩, ⟨_, (hF2 (o) (fun j q hj => by replace hj : j = 0 := hj; have := hD.1; have := hD.2.1; have := hD.2.2; omega)).trans (Classical.choose_spec hJ1.2.2.1)⟩, ⟨_, (hF2 (d) (fun j q hj => by replace hj : j = 0 := hj; have := hD.1; have := hD.2.1; have := hD.2.2; omega)).trans (Classical.choose_spec hJ1.2.2.2.1)⟩, (hF2 (x + 1) (fun j q hj => by replace hj : j = 0 := hj; have := hD.1; have := hD.2.1; have := hD.2.2; omega)).trans hJ1.2.2.2.2.1, (hF2 (x + 2) (fun j q hj => by replace hj : j = 0 := hj; have := hD.1; have := hD.2.1; have := hD.2.2; omega)).trans hJ1.2.2.2.2.2.1, C24.eq hJ1.2.2.2.2.2.2.1 (hF2 (x + 24) (fun j q hj => by replace hj : j = 0 := hj; have := hD.1; have := hD.2.1; have := hD.2.2; omega)), C80.eq hJ1.2.2.2.2.2.2.2.1 (hF2 (x + 80) (fun j q hj => by replace hj : j = 0 := hj; have := hD.1; have := hD.2.1; have := hD.2.2; omega)), CfC.eq hJ1.2.2.2.2.2.2.2.2 (fun k9 q1 q2 => hF2 (x + k9) (fun j q hj => by replace hj : j = 0 := hj; have := hD.1; have := hD.2.1; have := hD.2.2; omega))⟩
  refine z_pop B dL_law_390 rfl ?_
  refine z_goto (tgt := 1994) B dL_law_391 rfl ?_
  refine z_widen (k := cells + 2) (n := slots + 12) (by omega) (by omega) ?_
  exact hT _ hd0 Φ2 sz (JJ.of (JK.up hJ2 (by omega)) hq.2.1 rfl rfl rfl rfl rfl rfl hq.2.2)

set_option maxHeartbeats 4000000 in
set_option maxRecDepth 100000 in
theorem lc_2 {p9 : Program} {e9 : Env} {s9 : State} {m9 : MethodId} {a9 : Array Value} {w9 : List Frame} {t9 : Method} {k9 : Code} {Q9 : State → Prop} {nm9 : String} (G : EnvG) (l : Launch) (hl9 : l.stackTraces = false) {d0 : Drawn} (hd0 : s9.drawn.sameBut d0 lw_cs) (B : Bd p9 (s9.setDrawn d0) m9 a9 t9 k9 G code 9 RL wsL_law ret nm9) (Φ : Hm) (sz b L i : Nat) (xs : Nat → Int32) (hX : va_X b L xs (s9.setDrawn d0) (s9.setDrawn d0).heap) (hbn : b < G.2.2.2) (hL : L ≤ 3584) (hi : i + 7 ≤ L) (x y o d ca cells slots : Nat) (hna : G.2.2.2 ≤ x) (hD : Ds x y o d) (hca : ca ≤ 10000) (hcl : cells ≤ 8000) (hsl : slots ≤ 80000) (hJ : JJ G x y o d ca Φ) (hT : ∀ (d1 : Drawn), s9.drawn.sameBut d1 lw_cs → ∀ (Φ1 : Hm) (sz1 : Nat), JJ G x y o d (ca + 12) Φ1 → Z p9 l e9 room_1 (s9.setDrawn d1) m9 a9 w9 t9 k9 Q9 G 9 1994 [(5, .int (nI i)), (4, .ref d), (3, .ref o), (2, .ref y), (1, .ref x), (0, .ref b)] [] Φ1 sz1 (cells + 2) (slots + 12)) : Z p9 l e9 room_1 (s9.setDrawn d0) m9 a9 w9 t9 k9 Q9 G 9 394 [(5, .int (nI i)), (4, .ref d), (3, .ref o), (2, .ref y), (1, .ref x), (0, .ref b)] [] Φ sz cells slots := by
  obtain ⟨n, f, g, co, po, nw, aq, ob, c, hJ, hEq⟩ := hJ
  refine z_aload_n B dL_law_394 rfl 4 rfl ?_
  have h0 : Φ x = some (o_ 13 [.ref (x + 1), .ref (x + 3), .ref (x + 24), .ref (x + 46), .ref (x + 74), .ref (x + 80), .ref (x + 132), .ref (x + 121)]) := in0 (k := 0) hJ.1 rfl
  obtain ⟨nx0, ki0, sa0, nu0, hP0⟩ := hJ.2.2.2.2.2.2.1
  obtain ⟨rt0, dw0, xp0, xb0, sm0, un0, hE0⟩ := hJ.2.2.2.2.2.2.2.1
  obtain ⟨t0, s0, hCA0⟩ := hJ.2.2.2.2.2.2.2.2
  refine z_callV (As := []) (rest := []) B (s_X11_loadE G l Φ sz x ca n f co po nx0 ki0 sa0 nu0 nw rt0 dw0 aq xp0 xb0 ob sm0 un0 t0 s0 c hna hJ.1 hJ.2.2.2.2.1 hJ.2.2.2.2.2.1 hP0 hE0 hCA0 (JK.il hJ) (JK.aq hJ)) (cwV 0 B.1.2.2.2.2 gL_law_X11_load rfl rfl rfl (by decide +kernel) ⟨Nat.le_of_ble_eq_true rfl, Nat.le_of_ble_eq_true rfl⟩) h0 rfl rfl rfl rfl (Nat.le_of_ble_eq_true rfl) dL_law_395 (rmL (by omega) (by omega) (by decide) (by decide)) (fun v1 Φ1 sz1 st1 hp1 hs1 => ?_)
  obtain ⟨⟨⟨co1_, po1_, nx1_, ki1_, sa1_, nu1_, nw1c_, rt1c_, dw1c_, aq1c_, xp1c_, xb1c_, ob1c_, sm1c_, un1c_, hP1, hC1, hE1, hA1⟩, t1_, s1_, c1_, hCA1, hAc⟩, hz1, hI1, hF1⟩ := hp1
  obtain ⟨r1, rfl⟩ := LdW_int hA1
  subst sz1
  replace hs1 : st1 = [.int r1] := hs1
  subst st1
  have hJ1 : JK G x y o d (ca) 0 f co1_ po1_ nw1c_ aq1c_ ob1c_ c1_ n g co po nw aq ob c Φ1 := ⟨hI1, JM.eq hJ.2.1 (fun k hk => hF1 (y + k) (fun j q hj => by replace hj : 1 ≤ j ∧ ¬ j = 2 ∧ j < 149 := hj; have := hD.1; have := hD.2.1; have := hD.2.2; omega)), ⟨_, (hF1 (o) (fun j q hj => by replace hj : 1 ≤ j ∧ ¬ j = 2 ∧ j < 149 := hj; have := hD.1; have := hD.2.1; have := hD.2.2; omega)).trans (Classical.choose_spec hJ.2.2.1)⟩, ⟨_, (hF1 (d) (fun j q hj => by replace hj : 1 ≤ j ∧ ¬ j = 2 ∧ j < 149 := hj; have := hD.1; have := hD.2.1; have := hD.2.2; omega)).trans (Classical.choose_spec hJ.2.2.2.1)⟩, hC1, (hF1 (x + 2) (fun j q hj => by replace hj : 1 ≤ j ∧ ¬ j = 2 ∧ j < 149 := hj; have := hD.1; have := hD.2.1; have := hD.2.2; omega)).trans hJ.2.2.2.2.2.1, ⟨_, _, _, _, hP1⟩, ⟨_, _, _, _, _, _, hE1⟩, ⟨_, _, hCA1⟩⟩
  refine z_pop B dL_law_398 rfl ?_
  refine z_aload_n B dL_law_399 rfl 3 rfl ?_
  obtain ⟨⟨rd, fl, le, nx, qu, kn, nu, va, st, hM⟩, hg0⟩ := hJ1.2.1
  obtain ⟨fs, hy0⟩ := JM.obj hJ1.2.1
  refine z_callV (As := []) (rest := []) B (r_load G l Φ1 sz y rd fl le nx n qu kn co nu va st po nw aq ob g c  (by have := hD.1; omega) hM hg0 (JK.il hJ)) (cwV 0 B.1.2.2.2.2 gL_law_X12_load rfl rfl rfl (by decide +kernel) ⟨Nat.le_of_ble_eq_true rfl, Nat.le_of_ble_eq_true rfl⟩) hy0 rfl rfl rfl rfl (Nat.le_of_ble_eq_true rfl) dL_law_400 (rmL (by omega) (by omega) (by decide) (by decide)) (fun v2 Φ2 sz2 st2 hp2 hs2 => ?_)
  obtain ⟨⟨r2, rfl⟩, hz2, ⟨fl1_, qu1_, nx1_, kn1_, ec1_, nu1_, va1_, st1_, ep1_, ti1_, ad1_, ob1_, cf1_, hR2_0, hR2_1, hM2⟩, hF2⟩ := hp2
  have hg2 := (hF2 (y + 25) (fun j q hj => by replace hj : j = 0 ∨ j = 1 ∨ j = 2 ∨ j = 3 ∨ j = 11 ∨ j = 12 := hj; have := hD.1; have := hD.2.1; have := hD.2.2; omega)).trans hg0
  have hq := fin_ld hEq hA1 hR2_0
  have hqc := fin_ldc hEq hAc hR2_1
  subst sz2
  replace hs2 : st2 = [.int r2] := hs2
  subst st2
  have hJ2 : JK G x y o d (ca) 0 f co1_ po1_ nw1c_ aq1c_ ob1c_ c1_ 0 g ec1_ ep1_ ti1_ ad1_ ob1_ cf1_ Φ2 := ⟨In.eq hJ1.1 (fun k hk => hF2 (x + k) (fun j q hj => by replace hj : j = 0 ∨ j = 1 ∨ j = 2 ∨ j = 3 ∨ j = 11 ∨ j = 12 := hj; have := hD.1; have := hD.2.1; have := hD.2.2; omega)), ⟨⟨_, _, _, _, _, _, _, _, _, hM2⟩, hg2⟩, ⟨_, (hF2 (o) (fun j q hj => by replace hj : j = 0 ∨ j = 1 ∨ j = 2 ∨ j = 3 ∨ j = 11 ∨ j = 12 := hj; have := hD.1; have := hD.2.1; have := hD.2.2; omega)).trans (Classical.choose_spec hJ1.2.2.1)⟩, ⟨_, (hF2 (d) (fun j q hj => by replace hj : j = 0 ∨ j = 1 ∨ j = 2 ∨ j = 3 ∨ j = 11 ∨ j = 12 := hj; have := hD.1; have := hD.2.1; have := hD.2.2; omega)).trans (Classical.choose_spec hJ1.2.2.2.1)⟩, (hF2 (x + 1) (fun j q hj => by replace hj : j = 0 ∨ j = 1 ∨ j = 2 ∨ j = 3 ∨ j = 11 ∨ j = 12 := hj; have := hD.1; have := hD.2.1; have := hD.2.2; omega)).trans hJ1.2.2.2.2.1, (hF2 (x + 2) (fun j q hj => by replace hj : j = 0 ∨ j = 1 ∨ j = 2 ∨ j = 3 ∨ j = 11 ∨ j = 12 := hj; have := hD.1; have := hD.2.1; have := hD.2.2; omega)).trans hJ1.2.2.2.2.2.1, C24.eq hJ1.2.2.2.2.2.2.1 (hF2 (x + 24) (fun j q hj => by replace hj : j = 0 ∨ j = 1 ∨ j = 2 ∨ j = 3 ∨ j = 11 ∨ j = 12 := hj; have := hD.1; have := hD.2.1; have := hD.2.2; omega)), C80.eq hJ1.2.2.2.2.2.2.2.1 (hF2 (x + 80) (fun j q hj => by replace hj : j = 0 ∨ j = 1 ∨ j = 2 ∨ j = 3 ∨ j = 11 ∨ j = 12 := hj; have := hD.1; have := hD.2.1; have := hD.2.2; omega)), CfC.eq hJ1.2.2.2.2.2.2.2.2 (fun k9 q1 q2 => hF2 (x + k9) (fun j q hj => by replace hj : j = 0 ∨ j = 1 ∨ j = 2 ∨ j = 3 ∨ j = 11 ∨ j = 12 := hj; have := hD.1; have := hD.2.1; have := hD.2.2; omega))⟩
  refine z_pop B dL_law_403 rfl ?_
  refine z_goto (tgt := 1994) B dL_law_404 rfl ?_
  refine z_widen (k := cells + 2) (n := slots + 12) (by omega) (by omega) ?_
  exact hT _ hd0 Φ2 sz (JJ.of (JK.up hJ2 (by omega)) rfl hq.2.1 hq.2.2.1 hq.2.2.2.1 hq.2.2.2.2.1 hq.2.2.2.2.2 hqc (fun j hj => absurd hj (Nat.not_lt_zero _)))

set_option maxHeartbeats 4000000 in
set_option maxRecDepth 100000 in
theorem lc_3 {p9 : Program} {e9 : Env} {s9 : State} {m9 : MethodId} {a9 : Array Value} {w9 : List Frame} {t9 : Method} {k9 : Code} {Q9 : State → Prop} {nm9 : String} (G : EnvG) (l : Launch) (hl9 : l.stackTraces = false) {d0 : Drawn} (hd0 : s9.drawn.sameBut d0 lw_cs) (B : Bd p9 (s9.setDrawn d0) m9 a9 t9 k9 G code 9 RL wsL_law ret nm9) (Φ : Hm) (sz b L i : Nat) (xs : Nat → Int32) (hX : va_X b L xs (s9.setDrawn d0) (s9.setDrawn d0).heap) (hbn : b < G.2.2.2) (hL : L ≤ 3584) (hi : i + 7 ≤ L) (x y o d ca cells slots : Nat) (hna : G.2.2.2 ≤ x) (hD : Ds x y o d) (hca : ca ≤ 10000) (hcl : cells ≤ 8000) (hsl : slots ≤ 80000) (hJ : JJ G x y o d ca Φ) (hT : ∀ (d1 : Drawn), s9.drawn.sameBut d1 lw_cs → ∀ (Φ1 : Hm) (sz1 : Nat), JJ G x y o d (ca + 12) Φ1 → Z p9 l e9 room_1 (s9.setDrawn d1) m9 a9 w9 t9 k9 Q9 G 9 1994 [(5, .int (nI i)), (4, .ref d), (3, .ref o), (2, .ref y), (1, .ref x), (0, .ref b)] [] Φ1 sz1 (cells + 2) (slots + 12)) : Z p9 l e9 room_1 (s9.setDrawn d0) m9 a9 w9 t9 k9 Q9 G 9 407 [(5, .int (nI i)), (4, .ref d), (3, .ref o), (2, .ref y), (1, .ref x), (0, .ref b)] [] Φ sz cells slots := by
  obtain ⟨n, f, g, co, po, nw, aq, ob, c, hJ, hEq⟩ := hJ
  refine z_aload_n B dL_law_407 rfl 4 rfl ?_
  have h0 : Φ x = some (o_ 13 [.ref (x + 1), .ref (x + 3), .ref (x + 24), .ref (x + 46), .ref (x + 74), .ref (x + 80), .ref (x + 132), .ref (x + 121)]) := in0 (k := 0) hJ.1 rfl
  obtain ⟨nx0, ki0, sa0, nu0, hP0⟩ := hJ.2.2.2.2.2.2.1
  refine z_callV (As := []) (rest := []) B (s_X11_errorCodeE G l Φ sz x ca co po nx0 ki0 sa0 nu0 hna hJ.1 hP0 ) (cwV 0 B.1.2.2.2.2 gL_law_X11_errorCode rfl rfl rfl (by decide +kernel) ⟨Nat.le_of_ble_eq_true rfl, Nat.le_of_ble_eq_true rfl⟩) h0 rfl rfl rfl rfl (Nat.le_of_ble_eq_true rfl) dL_law_408 (rmL (by omega) (by omega) (by decide) (by decide)) (fun v1 Φ1 sz1 st1 hp1 hs1 => ?_)
  obtain ⟨rfl, hz1, hI1, hF1⟩ := hp1
  subst sz1
  replace hs1 : st1 = [.int co] := hs1
  subst st1
  have hJ1 : JK G x y o d (ca) n f co po nw aq ob c n g co po nw aq ob c Φ1 := ⟨hI1, JM.eq hJ.2.1 (fun k hk => hF1 (y + k) (fun j q hj => (show False from hj).elim)), ⟨_, (hF1 (o) (fun j q hj => (show False from hj).elim)).trans (Classical.choose_spec hJ.2.2.1)⟩, ⟨_, (hF1 (d) (fun j q hj => (show False from hj).elim)).trans (Classical.choose_spec hJ.2.2.2.1)⟩, (hF1 (x + 1) (fun j q hj => (show False from hj).elim)).trans hJ.2.2.2.2.1, (hF1 (x + 2) (fun j q hj => (show False from hj).elim)).trans hJ.2.2.2.2.2.1, C24.eq hJ.2.2.2.2.2.2.1 (hF1 (x + 24) (fun j q hj => (show False from hj).elim)), C80.eq hJ.2.2.2.2.2.2.2.1 (hF1 (x + 80) (fun j q hj => (show False from hj).elim)), CfC.eq hJ.2.2.2.2.2.2.2.2 (fun k9 q1 q2 => hF1 (x + k9) (fun j q hj => (show False from hj).elim))⟩
  refine z_pop B dL_law_411 rfl ?_
  refine z_aload_n B dL_law_412 rfl 3 rfl ?_
  obtain ⟨⟨rd, fl, le, nx, qu, kn, nu, va, st, hM⟩, hg0⟩ := hJ1.2.1
  obtain ⟨fs, hy0⟩ := JM.obj hJ1.2.1
  refine z_callV (As := []) (rest := []) B (r_errorCodeB G l Φ1 sz y rd (NNq c) fl 0 le nx n qu kn co nu va st po nw aq ob   (by have := hD.1; omega) hM  (fun f9 h9 => h9.1)) (cwV 0 B.1.2.2.2.2 gL_law_X12_errorCode rfl rfl rfl (by decide +kernel) ⟨Nat.le_of_ble_eq_true rfl, Nat.le_of_ble_eq_true rfl⟩) hy0 rfl rfl rfl rfl (Nat.le_of_ble_eq_true rfl) dL_law_413 (rmL (by omega) (by omega) (by decide) (by decide)) (fun v2 Φ2 sz2 st2 hp2 hs2 => ?_)
  obtain ⟨rfl, hz2, hM2, hF2⟩ := hp2
  have hg2 := (hF2 (y + 25) (fun j q hj => by replace hj : j = 0 := hj; have := hD.1; have := hD.2.1; have := hD.2.2; omega)).trans hg0
  subst sz2
  replace hs2 : st2 = [.int co] := hs2
  subst st2
  have hJ2 : JK G x y o d (ca) n f co po nw aq ob c n g co po nw aq ob c Φ2 := ⟨In.eq hJ1.1 (fun k hk => hF2 (x + k) (fun j q hj => by replace hj : j = 0 := hj; have := hD.1; have := hD.2.1; have := hD.2.2; omega)), ⟨⟨_, _, _, _, _, _, _, _, _, hM2⟩, hg2⟩, ⟨_, (hF2 (o) (fun j q hj => by replace hj : j = 0 := hj; have := hD.1; have := hD.2.1; have := hD.2.2; omega)).trans (Classical.choose_spec hJ1.2.2.1)⟩, ⟨_, (hF2 (d) (fun j q hj => by replace hj : j = 0 := hj; have := hD.1; have := hD.2.1; have := hD.2.2; omega)).trans (Classical.choose_spec hJ1.2.2.2.1)⟩, (hF2 (x + 1) (fun j q hj => by replace hj : j = 0 := hj; have := hD.1; have := hD.2.1; have := hD.2.2; omega)).trans hJ1.2.2.2.2.1, (hF2 (x + 2) (fun j q hj => by replace hj : j = 0 := hj; have := hD.1; have := hD.2.1; have := hD.2.2; omega)).trans hJ1.2.2.2.2.2.1, C24.eq hJ1.2.2.2.2.2.2.1 (hF2 (x + 24) (fun j q hj => by replace hj : j = 0 := hj; have := hD.1; have := hD.2.1; have := hD.2.2; omega)), C80.eq hJ1.2.2.2.2.2.2.2.1 (hF2 (x + 80) (fun j q hj => by replace hj : j = 0 := hj; have := hD.1; have := hD.2.1; have := hD.2.2; omega)), CfC.eq hJ1.2.2.2.2.2.2.2.2 (fun k9 q1 q2 => hF2 (x + k9) (fun j q hj => by replace hj : j = 0 := hj; have := hD.1; have := hD.2.1; have := hD.2.2; omega))⟩
  refine z_pop B dL_law_416 rfl ?_
  refine z_goto (tgt := 1994) B dL_law_417 rfl ?_
  refine z_widen (k := cells + 2) (n := slots + 12) (by omega) (by omega) ?_
  exact hT _ hd0 Φ2 sz (JJ.of (JK.up hJ2 (by omega)) rfl rfl rfl rfl rfl rfl rfl hEq)

set_option maxHeartbeats 4000000 in
set_option maxRecDepth 100000 in
theorem lc_4 {p9 : Program} {e9 : Env} {s9 : State} {m9 : MethodId} {a9 : Array Value} {w9 : List Frame} {t9 : Method} {k9 : Code} {Q9 : State → Prop} {nm9 : String} (G : EnvG) (l : Launch) (hl9 : l.stackTraces = false) {d0 : Drawn} (hd0 : s9.drawn.sameBut d0 lw_cs) (B : Bd p9 (s9.setDrawn d0) m9 a9 t9 k9 G code 9 RL wsL_law ret nm9) (Φ : Hm) (sz b L i : Nat) (xs : Nat → Int32) (hX : va_X b L xs (s9.setDrawn d0) (s9.setDrawn d0).heap) (hbn : b < G.2.2.2) (hL : L ≤ 3584) (hi : i + 7 ≤ L) (x y o d ca cells slots : Nat) (hna : G.2.2.2 ≤ x) (hD : Ds x y o d) (hca : ca ≤ 10000) (hcl : cells ≤ 8000) (hsl : slots ≤ 80000) (hJ : JJ G x y o d ca Φ) (hT : ∀ (d1 : Drawn), s9.drawn.sameBut d1 lw_cs → ∀ (Φ1 : Hm) (sz1 : Nat), JJ G x y o d (ca + 12) Φ1 → Z p9 l e9 room_1 (s9.setDrawn d1) m9 a9 w9 t9 k9 Q9 G 9 1994 [(5, .int (nI i)), (4, .ref d), (3, .ref o), (2, .ref y), (1, .ref x), (0, .ref b)] [] Φ1 sz1 (cells + 2) (slots + 12)) : Z p9 l e9 room_1 (s9.setDrawn d0) m9 a9 w9 t9 k9 Q9 G 9 420 [(5, .int (nI i)), (4, .ref d), (3, .ref o), (2, .ref y), (1, .ref x), (0, .ref b)] [] Φ sz cells slots := by
  obtain ⟨n, f, g, co, po, nw, aq, ob, c, hJ, hEq⟩ := hJ
  refine z_aload_n B dL_law_420 rfl 4 rfl ?_
  have h0 : Φ x = some (o_ 13 [.ref (x + 1), .ref (x + 3), .ref (x + 24), .ref (x + 46), .ref (x + 74), .ref (x + 80), .ref (x + 132), .ref (x + 121)]) := in0 (k := 0) hJ.1 rfl
  obtain ⟨nx0, ki0, sa0, nu0, hP0⟩ := hJ.2.2.2.2.2.2.1
  refine z_callV (As := []) (rest := []) B (s_X11_errorPositionE G l Φ sz x ca co po nx0 ki0 sa0 nu0 hna hJ.1 hP0 ) (cwV 0 B.1.2.2.2.2 gL_law_X11_errorPosition rfl rfl rfl (by decide +kernel) ⟨Nat.le_of_ble_eq_true rfl, Nat.le_of_ble_eq_true rfl⟩) h0 rfl rfl rfl rfl (Nat.le_of_ble_eq_true rfl) dL_law_421 (rmL (by omega) (by omega) (by decide) (by decide)) (fun v1 Φ1 sz1 st1 hp1 hs1 => ?_)
  obtain ⟨rfl, hz1, hI1, hF1⟩ := hp1
  subst sz1
  replace hs1 : st1 = [.int po] := hs1
  subst st1
  have hJ1 : JK G x y o d (ca) n f co po nw aq ob c n g co po nw aq ob c Φ1 := ⟨hI1, JM.eq hJ.2.1 (fun k hk => hF1 (y + k) (fun j q hj => (show False from hj).elim)), ⟨_, (hF1 (o) (fun j q hj => (show False from hj).elim)).trans (Classical.choose_spec hJ.2.2.1)⟩, ⟨_, (hF1 (d) (fun j q hj => (show False from hj).elim)).trans (Classical.choose_spec hJ.2.2.2.1)⟩, (hF1 (x + 1) (fun j q hj => (show False from hj).elim)).trans hJ.2.2.2.2.1, (hF1 (x + 2) (fun j q hj => (show False from hj).elim)).trans hJ.2.2.2.2.2.1, C24.eq hJ.2.2.2.2.2.2.1 (hF1 (x + 24) (fun j q hj => (show False from hj).elim)), C80.eq hJ.2.2.2.2.2.2.2.1 (hF1 (x + 80) (fun j q hj => (show False from hj).elim)), CfC.eq hJ.2.2.2.2.2.2.2.2 (fun k9 q1 q2 => hF1 (x + k9) (fun j q hj => (show False from hj).elim))⟩
  refine z_pop B dL_law_424 rfl ?_
  refine z_aload_n B dL_law_425 rfl 3 rfl ?_
  obtain ⟨⟨rd, fl, le, nx, qu, kn, nu, va, st, hM⟩, hg0⟩ := hJ1.2.1
  obtain ⟨fs, hy0⟩ := JM.obj hJ1.2.1
  refine z_callV (As := []) (rest := []) B (r_errorPositionB G l Φ1 sz y rd (NNq c) fl 0 le nx n qu kn co nu va st po nw aq ob   (by have := hD.1; omega) hM  (fun f9 h9 => h9.1)) (cwV 0 B.1.2.2.2.2 gL_law_X12_errorPosition rfl rfl rfl (by decide +kernel) ⟨Nat.le_of_ble_eq_true rfl, Nat.le_of_ble_eq_true rfl⟩) hy0 rfl rfl rfl rfl (Nat.le_of_ble_eq_true rfl) dL_law_426 (rmL (by omega) (by omega) (by decide) (by decide)) (fun v2 Φ2 sz2 st2 hp2 hs2 => ?_)
  obtain ⟨rfl, hz2, hM2, hF2⟩ := hp2
  have hg2 := (hF2 (y + 25) (fun j q hj => by replace hj : j = 0 := hj; have := hD.1; have := hD.2.1; have := hD.2.2; omega)).trans hg0
  subst sz2
  replace hs2 : st2 = [.int po] := hs2
  subst st2
  have hJ2 : JK G x y o d (ca) n f co po nw aq ob c n g co po nw aq ob c Φ2 := ⟨In.eq hJ1.1 (fun k hk => hF2 (x + k) (fun j q hj => by replace hj : j = 0 := hj; have := hD.1; have := hD.2.1; have := hD.2.2; omega)), ⟨⟨_, _, _, _, _, _, _, _, _, hM2⟩, hg2⟩, ⟨_, (hF2 (o) (fun j q hj => by replace hj : j = 0 := hj; have := hD.1; have := hD.2.1; have := hD.2.2; omega)).trans (Classical.choose_spec hJ1.2.2.1)⟩, ⟨_, (hF2 (d) (fun j q hj => by replace hj : j = 0 := hj; have := hD.1; have := hD.2.1; have := hD.2.2; omega)).trans (Classical.choose_spec hJ1.2.2.2.1)⟩, (hF2 (x + 1) (fun j q hj => by replace hj : j = 0 := hj; have := hD.1; have := hD.2.1; have := hD.2.2; omega)).trans hJ1.2.2.2.2.1, (hF2 (x + 2) (fun j q hj => by replace hj : j = 0 := hj; have := hD.1; have := hD.2.1; have := hD.2.2; omega)).trans hJ1.2.2.2.2.2.1, C24.eq hJ1.2.2.2.2.2.2.1 (hF2 (x + 24) (fun j q hj => by replace hj : j = 0 := hj; have := hD.1; have := hD.2.1; have := hD.2.2; omega)), C80.eq hJ1.2.2.2.2.2.2.2.1 (hF2 (x + 80) (fun j q hj => by replace hj : j = 0 := hj; have := hD.1; have := hD.2.1; have := hD.2.2; omega)), CfC.eq hJ1.2.2.2.2.2.2.2.2 (fun k9 q1 q2 => hF2 (x + k9) (fun j q hj => by replace hj : j = 0 := hj; have := hD.1; have := hD.2.1; have := hD.2.2; omega))⟩
  refine z_pop B dL_law_429 rfl ?_
  refine z_goto (tgt := 1994) B dL_law_430 rfl ?_
  refine z_widen (k := cells + 2) (n := slots + 12) (by omega) (by omega) ?_
  exact hT _ hd0 Φ2 sz (JJ.of (JK.up hJ2 (by omega)) rfl rfl rfl rfl rfl rfl rfl hEq)

set_option maxHeartbeats 4000000 in
set_option maxRecDepth 100000 in
theorem lc_5 {p9 : Program} {e9 : Env} {s9 : State} {m9 : MethodId} {a9 : Array Value} {w9 : List Frame} {t9 : Method} {k9 : Code} {Q9 : State → Prop} {nm9 : String} (G : EnvG) (l : Launch) (hl9 : l.stackTraces = false) {d0 : Drawn} (hd0 : s9.drawn.sameBut d0 lw_cs) (B : Bd p9 (s9.setDrawn d0) m9 a9 t9 k9 G code 9 RL wsL_law ret nm9) (Φ : Hm) (sz b L i : Nat) (xs : Nat → Int32) (hX : va_X b L xs (s9.setDrawn d0) (s9.setDrawn d0).heap) (hbn : b < G.2.2.2) (hL : L ≤ 3584) (hi : i + 7 ≤ L) (x y o d ca cells slots : Nat) (hna : G.2.2.2 ≤ x) (hD : Ds x y o d) (hca : ca ≤ 10000) (hcl : cells ≤ 8000) (hsl : slots ≤ 80000) (hJ : JJ G x y o d ca Φ) (hT : ∀ (d1 : Drawn), s9.drawn.sameBut d1 lw_cs → ∀ (Φ1 : Hm) (sz1 : Nat), JJ G x y o d (ca + 12) Φ1 → Z p9 l e9 room_1 (s9.setDrawn d1) m9 a9 w9 t9 k9 Q9 G 9 1994 [(5, .int (nI i)), (4, .ref d), (3, .ref o), (2, .ref y), (1, .ref x), (0, .ref b)] [] Φ1 sz1 (cells + 2) (slots + 12)) : Z p9 l e9 room_1 (s9.setDrawn d0) m9 a9 w9 t9 k9 Q9 G 9 433 [(5, .int (nI i)), (4, .ref d), (3, .ref o), (2, .ref y), (1, .ref x), (0, .ref b)] [] Φ sz cells slots := by
  obtain ⟨n, f, g, co, po, nw, aq, ob, c, hJ, hEq⟩ := hJ
  refine z_aload_n B dL_law_433 rfl 4 rfl ?_
  have h0 : Φ x = some (o_ 13 [.ref (x + 1), .ref (x + 3), .ref (x + 24), .ref (x + 46), .ref (x + 74), .ref (x + 80), .ref (x + 132), .ref (x + 121)]) := in0 (k := 0) hJ.1 rfl
  obtain ⟨rt0, dw0, xp0, xb0, sm0, un0, hE0⟩ := hJ.2.2.2.2.2.2.2.1
  refine z_callV (As := []) (rest := []) B (s_X11_now G l Φ sz x ca nw rt0 dw0 aq xp0 xb0 ob sm0 un0 hna hJ.1 hE0 (JK.aq hJ)) (cwV 0 B.1.2.2.2.2 gL_law_X11_now rfl rfl rfl (by decide +kernel) ⟨Nat.le_of_ble_eq_true rfl, Nat.le_of_ble_eq_true rfl⟩) h0 rfl rfl rfl rfl (Nat.le_of_ble_eq_true rfl) dL_law_434 (rmL (by omega) (by omega) (by decide) (by decide)) (fun v1 Φ1 sz1 st1 hp1 hs1 => ?_)
  obtain ⟨⟨rfl, hE1⟩, hz1, hI1, hF1⟩ := hp1
  subst sz1
  replace hs1 : st1 = [.int nw] := hs1
  subst st1
  have hJ1 : JK G x y o d (ca) n f co po nw aq ob c n g co po nw aq ob c Φ1 := ⟨hI1, JM.eq hJ.2.1 (fun k hk => hF1 (y + k) (fun j q hj => (show False from hj).elim)), ⟨_, (hF1 (o) (fun j q hj => (show False from hj).elim)).trans (Classical.choose_spec hJ.2.2.1)⟩, ⟨_, (hF1 (d) (fun j q hj => (show False from hj).elim)).trans (Classical.choose_spec hJ.2.2.2.1)⟩, (hF1 (x + 1) (fun j q hj => (show False from hj).elim)).trans hJ.2.2.2.2.1, (hF1 (x + 2) (fun j q hj => (show False from hj).elim)).trans hJ.2.2.2.2.2.1, C24.eq hJ.2.2.2.2.2.2.1 (hF1 (x + 24) (fun j q hj => (show False from hj).elim)), ⟨_, _, _, _, _, _, hE1⟩, CfC.eq hJ.2.2.2.2.2.2.2.2 (fun k9 q1 q2 => hF1 (x + k9) (fun j q hj => (show False from hj).elim))⟩
  refine z_pop B dL_law_437 rfl ?_
  refine z_aload_n B dL_law_438 rfl 3 rfl ?_
  obtain ⟨⟨rd, fl, le, nx, qu, kn, nu, va, st, hM⟩, hg0⟩ := hJ1.2.1
  obtain ⟨fs, hy0⟩ := JM.obj hJ1.2.1
  refine z_callV (As := []) (rest := []) B (r_now G l Φ1 sz y rd (NNq c) fl 0 le nx n qu kn co nu va st po nw aq ob   (by have := hD.1; omega) hM  (fun f9 h9 => h9.1)) (cwV 0 B.1.2.2.2.2 gL_law_X12_now rfl rfl rfl (by decide +kernel) ⟨Nat.le_of_ble_eq_true rfl, Nat.le_of_ble_eq_true rfl⟩) hy0 rfl rfl rfl rfl (Nat.le_of_ble_eq_true rfl) dL_law_439 (rmL (by omega) (by omega) (by decide) (by decide)) (fun v2 Φ2 sz2 st2 hp2 hs2 => ?_)
  obtain ⟨rfl, hz2, hM2, hF2⟩ := hp2
  have hg2 := (hF2 (y + 25) (fun j q hj => by replace hj : j = 0 := hj; have := hD.1; have := hD.2.1; have := hD.2.2; omega)).trans hg0
  subst sz2
  replace hs2 : st2 = [.int nw] := hs2
  subst st2
  have hJ2 : JK G x y o d (ca) n f co po nw aq ob c n g co po nw aq ob c Φ2 := ⟨In.eq hJ1.1 (fun k hk => hF2 (x + k) (fun j q hj => by replace hj : j = 0 := hj; have := hD.1; have := hD.2.1; have := hD.2.2; omega)), ⟨⟨_, _, _, _, _, _, _, _, _, hM2⟩, hg2⟩, ⟨_, (hF2 (o) (fun j q hj => by replace hj : j = 0 := hj; have := hD.1; have := hD.2.1; have := hD.2.2; omega)).trans (Classical.choose_spec hJ1.2.2.1)⟩, ⟨_, (hF2 (d) (fun j q hj => by replace hj : j = 0 := hj; have := hD.1; have := hD.2.1; have := hD.2.2; omega)).trans (Classical.choose_spec hJ1.2.2.2.1)⟩, (hF2 (x + 1) (fun j q hj => by replace hj : j = 0 := hj; have := hD.1; have := hD.2.1; have := hD.2.2; omega)).trans hJ1.2.2.2.2.1, (hF2 (x + 2) (fun j q hj => by replace hj : j = 0 := hj; have := hD.1; have := hD.2.1; have := hD.2.2; omega)).trans hJ1.2.2.2.2.2.1, C24.eq hJ1.2.2.2.2.2.2.1 (hF2 (x + 24) (fun j q hj => by replace hj : j = 0 := hj; have := hD.1; have := hD.2.1; have := hD.2.2; omega)), C80.eq hJ1.2.2.2.2.2.2.2.1 (hF2 (x + 80) (fun j q hj => by replace hj : j = 0 := hj; have := hD.1; have := hD.2.1; have := hD.2.2; omega)), CfC.eq hJ1.2.2.2.2.2.2.2.2 (fun k9 q1 q2 => hF2 (x + k9) (fun j q hj => by replace hj : j = 0 := hj; have := hD.1; have := hD.2.1; have := hD.2.2; omega))⟩
  refine z_pop B dL_law_442 rfl ?_
  refine z_goto (tgt := 1994) B dL_law_443 rfl ?_
  refine z_widen (k := cells + 2) (n := slots + 12) (by omega) (by omega) ?_
  exact hT _ hd0 Φ2 sz (JJ.of (JK.up hJ2 (by omega)) rfl rfl rfl rfl rfl rfl rfl hEq)

set_option maxHeartbeats 4000000 in
set_option maxRecDepth 100000 in
theorem lc_6 {p9 : Program} {e9 : Env} {s9 : State} {m9 : MethodId} {a9 : Array Value} {w9 : List Frame} {t9 : Method} {k9 : Code} {Q9 : State → Prop} {nm9 : String} (G : EnvG) (l : Launch) (hl9 : l.stackTraces = false) {d0 : Drawn} (hd0 : s9.drawn.sameBut d0 lw_cs) (B : Bd p9 (s9.setDrawn d0) m9 a9 t9 k9 G code 9 RL wsL_law ret nm9) (Φ : Hm) (sz b L i : Nat) (xs : Nat → Int32) (hX : va_X b L xs (s9.setDrawn d0) (s9.setDrawn d0).heap) (hbn : b < G.2.2.2) (hL : L ≤ 3584) (hi : i + 7 ≤ L) (x y o d ca cells slots : Nat) (hna : G.2.2.2 ≤ x) (hD : Ds x y o d) (hca : ca ≤ 10000) (hcl : cells ≤ 8000) (hsl : slots ≤ 80000) (hJ : JJ G x y o d ca Φ) (hT : ∀ (d1 : Drawn), s9.drawn.sameBut d1 lw_cs → ∀ (Φ1 : Hm) (sz1 : Nat), JJ G x y o d (ca + 12) Φ1 → Z p9 l e9 room_1 (s9.setDrawn d1) m9 a9 w9 t9 k9 Q9 G 9 1994 [(5, .int (nI i)), (4, .ref d), (3, .ref o), (2, .ref y), (1, .ref x), (0, .ref b)] [] Φ1 sz1 (cells + 2) (slots + 12)) : Z p9 l e9 room_1 (s9.setDrawn d0) m9 a9 w9 t9 k9 Q9 G 9 446 [(5, .int (nI i)), (4, .ref d), (3, .ref o), (2, .ref y), (1, .ref x), (0, .ref b)] [] Φ sz cells slots := by
  obtain ⟨n, f, g, co, po, nw, aq, ob, c, hJ, hEq⟩ := hJ
  refine z_aload_n B dL_law_446 rfl 4 rfl ?_
  refine z_aload_n B dL_law_447 rfl 5 rfl ?_
  refine z_iload B dL_law_448 0 rfl ?_
  refine z_iconst (v := 1) B dL_law_450 rfl ?_
  refine z_iadd B dL_law_451 ?_
  refine z_sald B hX hbn (vinL (n := 1) rfl (by omega) hL) dL_law_452 ?_
  refine z_aload_n B dL_law_453 rfl 5 rfl ?_
  refine z_iload B dL_law_454 0 rfl ?_
  refine z_iconst (v := 2) B dL_law_456 rfl ?_
  refine z_iadd B dL_law_457 ?_
  refine z_sald B hX hbn (vinL (n := 2) rfl (by omega) hL) dL_law_458 ?_
  refine z_aload_n B dL_law_459 rfl 5 rfl ?_
  refine z_iload B dL_law_460 0 rfl ?_
  refine z_iconst (v := 3) B dL_law_462 rfl ?_
  refine z_iadd B dL_law_463 ?_
  refine z_sald B hX hbn (vinL (n := 3) rfl (by omega) hL) dL_law_464 ?_
  refine z_aload_n B dL_law_465 rfl 5 rfl ?_
  refine z_iload B dL_law_466 0 rfl ?_
  refine z_iconst (v := 4) B dL_law_468 rfl ?_
  refine z_iadd B dL_law_469 ?_
  refine z_sald B hX hbn (vinL (n := 4) rfl (by omega) hL) dL_law_470 ?_
  refine z_aload_n B dL_law_471 rfl 5 rfl ?_
  refine z_iload B dL_law_472 0 rfl ?_
  refine z_iconst (v := 5) B dL_law_474 rfl ?_
  refine z_iadd B dL_law_475 ?_
  refine z_sald B hX hbn (vinL (n := 5) rfl (by omega) hL) dL_law_476 ?_
  refine z_aload_n B dL_law_477 rfl 2 rfl ?_
  obtain ⟨fo, hco⟩ := hJ.2.2.1
  obtain ⟨rt0, dw0, xp0, xb0, sm0, un0, hE0⟩ := hJ.2.2.2.2.2.2.2.1
  refine z_callSW (As := [.ref x, .int (xs (nI i + 1).toNatClampNeg), .int (xs (nI i + 2).toNatClampNeg), .int (xs (nI i + 3).toNatClampNeg), .int (xs (nI i + 4).toNatClampNeg), .int (xs (nI i + 5).toNatClampNeg), .ref o]) (rest := []) B (w_observe G l hl9 Φ sz x ca nw rt0 dw0 aq xp0 xb0 ob sm0 un0 (xs (nI i + 1).toNatClampNeg) (xs (nI i + 2).toNatClampNeg) (xs (nI i + 3).toNatClampNeg) (xs (nI i + 4).toNatClampNeg) (xs (nI i + 5).toNatClampNeg) o fo hna (by have := hD.1; have := hD.2.1; have := hD.2.2; omega) (fun j hj => by have := hD.1; have := hD.2.1; have := hD.2.2; omega) hJ.1 hco hE0 (JK.aq hJ)) (vx_cwSW 7 B.1.2.2.2.2 gL_law_L_observe rfl rfl rfl (by decide +kernel) ⟨Nat.le_of_ble_eq_true rfl, Nat.le_of_ble_eq_true rfl⟩) rfl rfl (Nat.le_of_ble_eq_true rfl) dL_law_478 (rmL (by omega) (by omega) (by decide) (by decide)) (fun v1 Φ1 sz1 st1 hp1 hs1 => ?_)
  obtain ⟨⟨r1, rfl⟩, ⟨hI1, ho1, hf1⟩, hX1⟩ := hp1
  replace hs1 : st1 = [.int r1] := hs1
  subst st1
  obtain ⟨q1, hC1, hw1⟩ := xq_observe hX1
  have hJ1 : JK G x y o d (ca) n f co po nw aq q1 c n g co po nw aq ob c Φ1 := ⟨hI1, JM.eq hJ.2.1 (fun k hk => hf1 (y + k) (fun j hj => by replace hj : 46 ≤ j ∧ j < 121 := hj; have := hD.1; have := hD.2.1; have := hD.2.2; omega) (by have := hD.1; have := hD.2.1; have := hD.2.2; omega)), ho1, ⟨_, (hf1 d (fun j hj => by replace hj : 46 ≤ j ∧ j < 121 := hj; have := hD.1; have := hD.2.1; have := hD.2.2; omega) (by have := hD.1; have := hD.2.1; have := hD.2.2; omega)).trans (Classical.choose_spec hJ.2.2.2.1)⟩, (hf1 (x + 1) (fun j hj => by replace hj : 46 ≤ j ∧ j < 121 := hj; have := hD.1; have := hD.2.1; have := hD.2.2; omega) (by have := hD.1; have := hD.2.1; have := hD.2.2; omega)).trans hJ.2.2.2.2.1, (hf1 (x + 2) (fun j hj => by replace hj : 46 ≤ j ∧ j < 121 := hj; have := hD.1; have := hD.2.1; have := hD.2.2; omega) (by have := hD.1; have := hD.2.1; have := hD.2.2; omega)).trans hJ.2.2.2.2.2.1, C24.eq hJ.2.2.2.2.2.2.1 (hf1 (x + 24) (fun j hj => by replace hj : 46 ≤ j ∧ j < 121 := hj; have := hD.1; have := hD.2.1; have := hD.2.2; omega) (by have := hD.1; have := hD.2.1; have := hD.2.2; omega)), hC1, CfC.eq hJ.2.2.2.2.2.2.2.2 (fun k9 q1 q2 => hf1 (x + k9) (fun j hj => by replace hj : 46 ≤ j ∧ j < 121 := hj; have := hD.1; have := hD.2.1; have := hD.2.2; omega) (by have := hD.1; have := hD.2.1; have := hD.2.2; omega))⟩
  refine z_istore (lv' := [(6, .int r1), (5, .int (nI i)), (4, .ref d), (3, .ref o), (2, .ref y), (1, .ref x), (0, .ref b)]) B dL_law_481 (Nat.le_of_ble_eq_true rfl) rfl ?_
  refine z_aload_n B dL_law_483 rfl 4 rfl ?_
  refine z_aload_n B dL_law_484 rfl 6 rfl ?_
  refine z_iload B dL_law_485 1 rfl ?_
  refine z_iconst (v := 1) B dL_law_487 rfl ?_
  refine z_iadd B dL_law_488 ?_
  refine z_sald B hX hbn (vinL (n := 1) rfl (by omega) hL) dL_law_489 ?_
  refine z_aload_n B dL_law_490 rfl 6 rfl ?_
  refine z_iload B dL_law_491 1 rfl ?_
  refine z_iconst (v := 2) B dL_law_493 rfl ?_
  refine z_iadd B dL_law_494 ?_
  refine z_sald B hX hbn (vinL (n := 2) rfl (by omega) hL) dL_law_495 ?_
  refine z_aload_n B dL_law_496 rfl 6 rfl ?_
  refine z_iload B dL_law_497 1 rfl ?_
  refine z_iconst (v := 3) B dL_law_499 rfl ?_
  refine z_iadd B dL_law_500 ?_
  refine z_sald B hX hbn (vinL (n := 3) rfl (by omega) hL) dL_law_501 ?_
  refine z_aload_n B dL_law_502 rfl 6 rfl ?_
  refine z_iload B dL_law_503 1 rfl ?_
  refine z_iconst (v := 4) B dL_law_505 rfl ?_
  refine z_iadd B dL_law_506 ?_
  refine z_sald B hX hbn (vinL (n := 4) rfl (by omega) hL) dL_law_507 ?_
  refine z_aload_n B dL_law_508 rfl 6 rfl ?_
  refine z_iload B dL_law_509 1 rfl ?_
  refine z_iconst (v := 5) B dL_law_511 rfl ?_
  refine z_iadd B dL_law_512 ?_
  refine z_sald B hX hbn (vinL (n := 5) rfl (by omega) hL) dL_law_513 ?_
  obtain ⟨⟨rd, fl, le, nx, qu, kn, nu, va, st, hM⟩, hg0⟩ := hJ1.2.1
  obtain ⟨fs, hy0⟩ := JM.obj hJ1.2.1
  refine z_callV (As := [.int (xs (nI i + 1).toNatClampNeg), .int (xs (nI i + 2).toNatClampNeg), .int (xs (nI i + 3).toNatClampNeg), .int (xs (nI i + 4).toNatClampNeg), .int (xs (nI i + 5).toNatClampNeg)]) (rest := []) B (r_observe G l Φ1 sz1 y rd (NNq c) fl le nx n qu kn co nu va st po nw aq ob  (xs (nI i + 1).toNatClampNeg) (xs (nI i + 2).toNatClampNeg) (xs (nI i + 3).toNatClampNeg) (xs (nI i + 4).toNatClampNeg) (xs (nI i + 5).toNatClampNeg) (by have := hD.1; omega) hM  (fun f9 h9 => h9.1)) (cwV 5 B.1.2.2.2.2 gL_law_X12_observe rfl rfl rfl (by decide +kernel) ⟨Nat.le_of_ble_eq_true rfl, Nat.le_of_ble_eq_true rfl⟩) hy0 rfl rfl rfl rfl (Nat.le_of_ble_eq_true rfl) dL_law_514 (rmL (by omega) (by omega) (by decide) (by decide)) (fun v2 Φ2 sz2 st2 hp2 hs2 => ?_)
  obtain ⟨⟨r2, rfl, hb2⟩, hz2, ⟨fl1_, le1_, qu1_, ob1_, hR2_0, hM2⟩, hF2⟩ := hp2
  have hg2 := (hF2 (y + 25) (fun j q hj => by replace hj : j = 0 ∨ j = 3 ∨ j = 4 ∨ j = 5 ∨ j = 6 ∨ j = 7 ∨ j = 8 ∨ j = 9 ∨ j = 10 ∨ j = 23 ∨ j = 24 := hj; have := hD.1; have := hD.2.1; have := hD.2.2; omega)).trans hg0
  subst sz2
  replace hs2 : st2 = [.int r2] := hs2
  subst st2
  have hJ2 : JK G x y o d (ca) n f co po nw aq q1 c n g co po nw aq ob1_ c Φ2 := ⟨In.eq hJ1.1 (fun k hk => hF2 (x + k) (fun j q hj => by replace hj : j = 0 ∨ j = 3 ∨ j = 4 ∨ j = 5 ∨ j = 6 ∨ j = 7 ∨ j = 8 ∨ j = 9 ∨ j = 10 ∨ j = 23 ∨ j = 24 := hj; have := hD.1; have := hD.2.1; have := hD.2.2; omega)), ⟨⟨_, _, _, _, _, _, _, _, _, hM2⟩, hg2⟩, ⟨_, (hF2 (o) (fun j q hj => by replace hj : j = 0 ∨ j = 3 ∨ j = 4 ∨ j = 5 ∨ j = 6 ∨ j = 7 ∨ j = 8 ∨ j = 9 ∨ j = 10 ∨ j = 23 ∨ j = 24 := hj; have := hD.1; have := hD.2.1; have := hD.2.2; omega)).trans (Classical.choose_spec hJ1.2.2.1)⟩, ⟨_, (hF2 (d) (fun j q hj => by replace hj : j = 0 ∨ j = 3 ∨ j = 4 ∨ j = 5 ∨ j = 6 ∨ j = 7 ∨ j = 8 ∨ j = 9 ∨ j = 10 ∨ j = 23 ∨ j = 24 := hj; have := hD.1; have := hD.2.1; have := hD.2.2; omega)).trans (Classical.choose_spec hJ1.2.2.2.1)⟩, (hF2 (x + 1) (fun j q hj => by replace hj : j = 0 ∨ j = 3 ∨ j = 4 ∨ j = 5 ∨ j = 6 ∨ j = 7 ∨ j = 8 ∨ j = 9 ∨ j = 10 ∨ j = 23 ∨ j = 24 := hj; have := hD.1; have := hD.2.1; have := hD.2.2; omega)).trans hJ1.2.2.2.2.1, (hF2 (x + 2) (fun j q hj => by replace hj : j = 0 ∨ j = 3 ∨ j = 4 ∨ j = 5 ∨ j = 6 ∨ j = 7 ∨ j = 8 ∨ j = 9 ∨ j = 10 ∨ j = 23 ∨ j = 24 := hj; have := hD.1; have := hD.2.1; have := hD.2.2; omega)).trans hJ1.2.2.2.2.2.1, C24.eq hJ1.2.2.2.2.2.2.1 (hF2 (x + 24) (fun j q hj => by replace hj : j = 0 ∨ j = 3 ∨ j = 4 ∨ j = 5 ∨ j = 6 ∨ j = 7 ∨ j = 8 ∨ j = 9 ∨ j = 10 ∨ j = 23 ∨ j = 24 := hj; have := hD.1; have := hD.2.1; have := hD.2.2; omega)), C80.eq hJ1.2.2.2.2.2.2.2.1 (hF2 (x + 80) (fun j q hj => by replace hj : j = 0 ∨ j = 3 ∨ j = 4 ∨ j = 5 ∨ j = 6 ∨ j = 7 ∨ j = 8 ∨ j = 9 ∨ j = 10 ∨ j = 23 ∨ j = 24 := hj; have := hD.1; have := hD.2.1; have := hD.2.2; omega)), CfC.eq hJ1.2.2.2.2.2.2.2.2 (fun k9 q1 q2 => hF2 (x + k9) (fun j q hj => by replace hj : j = 0 ∨ j = 3 ∨ j = 4 ∨ j = 5 ∨ j = 6 ∨ j = 7 ∨ j = 8 ∨ j = 9 ∨ j = 10 ∨ j = 23 ∨ j = 24 := hj; have := hD.1; have := hD.2.1; have := hD.2.2; omega))⟩
  refine z_istore (lv' := [(7, .int r2), (6, .int r1), (5, .int (nI i)), (4, .ref d), (3, .ref o), (2, .ref y), (1, .ref x), (0, .ref b)]) B dL_law_517 (Nat.le_of_ble_eq_true rfl) rfl ?_
  refine z_goto (tgt := 1994) B dL_law_519 rfl ?_
  refine z_lv [2, 3, 4, 5, 6, 7] rfl ?_
  refine z_widen (k := cells + 2) (n := slots + 12) (by omega) (by omega) ?_
  exact hT _ hd0 Φ2 sz1 (JJ.of (JK.up hJ2 (by omega)) rfl rfl rfl rfl rfl (fin_ob hw1 hR2_0) rfl hEq)

set_option maxHeartbeats 4000000 in
set_option maxRecDepth 100000 in
theorem lc_7 {p9 : Program} {e9 : Env} {s9 : State} {m9 : MethodId} {a9 : Array Value} {w9 : List Frame} {t9 : Method} {k9 : Code} {Q9 : State → Prop} {nm9 : String} (G : EnvG) (l : Launch) (hl9 : l.stackTraces = false) {d0 : Drawn} (hd0 : s9.drawn.sameBut d0 lw_cs) (B : Bd p9 (s9.setDrawn d0) m9 a9 t9 k9 G code 9 RL wsL_law ret nm9) (Φ : Hm) (sz b L i : Nat) (xs : Nat → Int32) (hX : va_X b L xs (s9.setDrawn d0) (s9.setDrawn d0).heap) (hbn : b < G.2.2.2) (hL : L ≤ 3584) (hi : i + 7 ≤ L) (x y o d ca cells slots : Nat) (hna : G.2.2.2 ≤ x) (hD : Ds x y o d) (hca : ca ≤ 10000) (hcl : cells ≤ 8000) (hsl : slots ≤ 80000) (hJ : JJ G x y o d ca Φ) (hT : ∀ (d1 : Drawn), s9.drawn.sameBut d1 lw_cs → ∀ (Φ1 : Hm) (sz1 : Nat), JJ G x y o d (ca + 12) Φ1 → Z p9 l e9 room_1 (s9.setDrawn d1) m9 a9 w9 t9 k9 Q9 G 9 1994 [(5, .int (nI i)), (4, .ref d), (3, .ref o), (2, .ref y), (1, .ref x), (0, .ref b)] [] Φ1 sz1 (cells + 2) (slots + 12)) : Z p9 l e9 room_1 (s9.setDrawn d0) m9 a9 w9 t9 k9 Q9 G 9 522 [(5, .int (nI i)), (4, .ref d), (3, .ref o), (2, .ref y), (1, .ref x), (0, .ref b)] [] Φ sz cells slots := by
  obtain ⟨n, f, g, co, po, nw, aq, ob, c, hJ, hEq⟩ := hJ
  refine z_aload_n B dL_law_522 rfl 4 rfl ?_
  refine z_aload_n B dL_law_523 rfl 5 rfl ?_
  refine z_iload B dL_law_524 0 rfl ?_
  refine z_iconst (v := 1) B dL_law_526 rfl ?_
  refine z_iadd B dL_law_527 ?_
  refine z_sald B hX hbn (vinL (n := 1) rfl (by omega) hL) dL_law_528 ?_
  refine z_aload_n B dL_law_529 rfl 5 rfl ?_
  refine z_iload B dL_law_530 0 rfl ?_
  refine z_iconst (v := 2) B dL_law_532 rfl ?_
  refine z_iadd B dL_law_533 ?_
  refine z_sald B hX hbn (vinL (n := 2) rfl (by omega) hL) dL_law_534 ?_
  refine z_aload_n B dL_law_535 rfl 5 rfl ?_
  refine z_iload B dL_law_536 0 rfl ?_
  refine z_iconst (v := 3) B dL_law_538 rfl ?_
  refine z_iadd B dL_law_539 ?_
  refine z_sald B hX hbn (vinL (n := 3) rfl (by omega) hL) dL_law_540 ?_
  refine z_aload_n B dL_law_541 rfl 5 rfl ?_
  refine z_iload B dL_law_542 0 rfl ?_
  refine z_iconst (v := 4) B dL_law_544 rfl ?_
  refine z_iadd B dL_law_545 ?_
  refine z_sald B hX hbn (vinL (n := 4) rfl (by omega) hL) dL_law_546 ?_
  refine z_aload_n B dL_law_547 rfl 5 rfl ?_
  refine z_iload B dL_law_548 0 rfl ?_
  refine z_iconst (v := 5) B dL_law_550 rfl ?_
  refine z_iadd B dL_law_551 ?_
  refine z_sald B hX hbn (vinL (n := 5) rfl (by omega) hL) dL_law_552 ?_
  refine z_aload_n B dL_law_553 rfl 5 rfl ?_
  refine z_iload B dL_law_554 0 rfl ?_
  refine z_bipush (v := 6) B dL_law_556 rfl ?_
  refine z_iadd B dL_law_558 ?_
  refine z_sald B hX hbn (vinL (n := 6) rfl (by omega) hL) dL_law_559 ?_
  refine z_aload_n B dL_law_560 rfl 2 rfl ?_
  obtain ⟨fo, hco⟩ := hJ.2.2.1
  obtain ⟨rt0, dw0, xp0, xb0, sm0, un0, hE0⟩ := hJ.2.2.2.2.2.2.2.1
  refine z_callSW (As := [.ref x, .int (xs (nI i + 1).toNatClampNeg), .int (xs (nI i + 2).toNatClampNeg), .int (xs (nI i + 3).toNatClampNeg), .int (xs (nI i + 4).toNatClampNeg), .int (xs (nI i + 5).toNatClampNeg), .int (xs (nI i + 6).toNatClampNeg), .ref o]) (rest := []) B (w_observeMany G l hl9 Φ sz x ca nw rt0 dw0 aq xp0 xb0 ob sm0 un0 (xs (nI i + 1).toNatClampNeg) (xs (nI i + 2).toNatClampNeg) (xs (nI i + 3).toNatClampNeg) (xs (nI i + 4).toNatClampNeg) (xs (nI i + 5).toNatClampNeg) (xs (nI i + 6).toNatClampNeg) o fo hna (by have := hD.1; have := hD.2.1; have := hD.2.2; omega) (fun j hj => by have := hD.1; have := hD.2.1; have := hD.2.2; omega) hJ.1 hco hE0 (JK.aq hJ)) (vx_cwSW 8 B.1.2.2.2.2 gL_law_L_observeMany rfl rfl rfl (by decide +kernel) ⟨Nat.le_of_ble_eq_true rfl, Nat.le_of_ble_eq_true rfl⟩) rfl rfl (Nat.le_of_ble_eq_true rfl) dL_law_561 (rmL (by omega) (by omega) (by decide) (by decide)) (fun v1 Φ1 sz1 st1 hp1 hs1 => ?_)
  obtain ⟨⟨r1, rfl⟩, ⟨hI1, ho1, hf1⟩, hX1⟩ := hp1
  replace hs1 : st1 = [.int r1] := hs1
  subst st1
  obtain ⟨q1, hC1, hw1⟩ := xq_observeMany hX1
  have hJ1 : JK G x y o d (ca) n f co po nw aq q1 c n g co po nw aq ob c Φ1 := ⟨hI1, JM.eq hJ.2.1 (fun k hk => hf1 (y + k) (fun j hj => by replace hj : 46 ≤ j ∧ j < 121 := hj; have := hD.1; have := hD.2.1; have := hD.2.2; omega) (by have := hD.1; have := hD.2.1; have := hD.2.2; omega)), ho1, ⟨_, (hf1 d (fun j hj => by replace hj : 46 ≤ j ∧ j < 121 := hj; have := hD.1; have := hD.2.1; have := hD.2.2; omega) (by have := hD.1; have := hD.2.1; have := hD.2.2; omega)).trans (Classical.choose_spec hJ.2.2.2.1)⟩, (hf1 (x + 1) (fun j hj => by replace hj : 46 ≤ j ∧ j < 121 := hj; have := hD.1; have := hD.2.1; have := hD.2.2; omega) (by have := hD.1; have := hD.2.1; have := hD.2.2; omega)).trans hJ.2.2.2.2.1, (hf1 (x + 2) (fun j hj => by replace hj : 46 ≤ j ∧ j < 121 := hj; have := hD.1; have := hD.2.1; have := hD.2.2; omega) (by have := hD.1; have := hD.2.1; have := hD.2.2; omega)).trans hJ.2.2.2.2.2.1, C24.eq hJ.2.2.2.2.2.2.1 (hf1 (x + 24) (fun j hj => by replace hj : 46 ≤ j ∧ j < 121 := hj; have := hD.1; have := hD.2.1; have := hD.2.2; omega) (by have := hD.1; have := hD.2.1; have := hD.2.2; omega)), hC1, CfC.eq hJ.2.2.2.2.2.2.2.2 (fun k9 q1 q2 => hf1 (x + k9) (fun j hj => by replace hj : 46 ≤ j ∧ j < 121 := hj; have := hD.1; have := hD.2.1; have := hD.2.2; omega) (by have := hD.1; have := hD.2.1; have := hD.2.2; omega))⟩
  refine z_istore (lv' := [(6, .int r1), (5, .int (nI i)), (4, .ref d), (3, .ref o), (2, .ref y), (1, .ref x), (0, .ref b)]) B dL_law_564 (Nat.le_of_ble_eq_true rfl) rfl ?_
  refine z_aload_n B dL_law_566 rfl 4 rfl ?_
  refine z_aload_n B dL_law_567 rfl 6 rfl ?_
  refine z_iload B dL_law_568 1 rfl ?_
  refine z_iconst (v := 1) B dL_law_570 rfl ?_
  refine z_iadd B dL_law_571 ?_
  refine z_sald B hX hbn (vinL (n := 1) rfl (by omega) hL) dL_law_572 ?_
  refine z_aload_n B dL_law_573 rfl 6 rfl ?_
  refine z_iload B dL_law_574 1 rfl ?_
  refine z_iconst (v := 2) B dL_law_576 rfl ?_
  refine z_iadd B dL_law_577 ?_
  refine z_sald B hX hbn (vinL (n := 2) rfl (by omega) hL) dL_law_578 ?_
  refine z_aload_n B dL_law_579 rfl 6 rfl ?_
  refine z_iload B dL_law_580 1 rfl ?_
  refine z_iconst (v := 3) B dL_law_582 rfl ?_
  refine z_iadd B dL_law_583 ?_
  refine z_sald B hX hbn (vinL (n := 3) rfl (by omega) hL) dL_law_584 ?_
  refine z_aload_n B dL_law_585 rfl 6 rfl ?_
  refine z_iload B dL_law_586 1 rfl ?_
  refine z_iconst (v := 4) B dL_law_588 rfl ?_
  refine z_iadd B dL_law_589 ?_
  refine z_sald B hX hbn (vinL (n := 4) rfl (by omega) hL) dL_law_590 ?_
  refine z_aload_n B dL_law_591 rfl 6 rfl ?_
  refine z_iload B dL_law_592 1 rfl ?_
  refine z_iconst (v := 5) B dL_law_594 rfl ?_
  refine z_iadd B dL_law_595 ?_
  refine z_sald B hX hbn (vinL (n := 5) rfl (by omega) hL) dL_law_596 ?_
  refine z_aload_n B dL_law_597 rfl 6 rfl ?_
  refine z_iload B dL_law_598 1 rfl ?_
  refine z_bipush (v := 6) B dL_law_600 rfl ?_
  refine z_iadd B dL_law_602 ?_
  refine z_sald B hX hbn (vinL (n := 6) rfl (by omega) hL) dL_law_603 ?_
  obtain ⟨⟨rd, fl, le, nx, qu, kn, nu, va, st, hM⟩, hg0⟩ := hJ1.2.1
  obtain ⟨fs, hy0⟩ := JM.obj hJ1.2.1
  refine z_callV (As := [.int (xs (nI i + 1).toNatClampNeg), .int (xs (nI i + 2).toNatClampNeg), .int (xs (nI i + 3).toNatClampNeg), .int (xs (nI i + 4).toNatClampNeg), .int (xs (nI i + 5).toNatClampNeg), .int (xs (nI i + 6).toNatClampNeg)]) (rest := []) B (r_observeMany G l Φ1 sz1 y rd (NNq c) fl le nx n qu kn co nu va st po nw aq ob  (xs (nI i + 1).toNatClampNeg) (xs (nI i + 2).toNatClampNeg) (xs (nI i + 3).toNatClampNeg) (xs (nI i + 4).toNatClampNeg) (xs (nI i + 5).toNatClampNeg) (xs (nI i + 6).toNatClampNeg) (by have := hD.1; omega) hM  (fun f9 h9 => h9.1)) (cwV 6 B.1.2.2.2.2 gL_law_X12_observeMany rfl rfl rfl (by decide +kernel) ⟨Nat.le_of_ble_eq_true rfl, Nat.le_of_ble_eq_true rfl⟩) hy0 rfl rfl rfl rfl (Nat.le_of_ble_eq_true rfl) dL_law_604 (rmL (by omega) (by omega) (by decide) (by decide)) (fun v2 Φ2 sz2 st2 hp2 hs2 => ?_)
  obtain ⟨⟨r2, rfl⟩, hz2, ⟨fl1_, le1_, qu1_, ob1_, hR2_0, hM2⟩, hF2⟩ := hp2
  have hg2 := (hF2 (y + 25) (fun j q hj => by replace hj : j = 0 ∨ j = 3 ∨ j = 4 ∨ j = 5 ∨ j = 6 ∨ j = 7 ∨ j = 8 ∨ j = 9 ∨ j = 10 ∨ j = 23 ∨ j = 24 := hj; have := hD.1; have := hD.2.1; have := hD.2.2; omega)).trans hg0
  subst sz2
  replace hs2 : st2 = [.int r2] := hs2
  subst st2
  have hJ2 : JK G x y o d (ca) n f co po nw aq q1 c n g co po nw aq ob1_ c Φ2 := ⟨In.eq hJ1.1 (fun k hk => hF2 (x + k) (fun j q hj => by replace hj : j = 0 ∨ j = 3 ∨ j = 4 ∨ j = 5 ∨ j = 6 ∨ j = 7 ∨ j = 8 ∨ j = 9 ∨ j = 10 ∨ j = 23 ∨ j = 24 := hj; have := hD.1; have := hD.2.1; have := hD.2.2; omega)), ⟨⟨_, _, _, _, _, _, _, _, _, hM2⟩, hg2⟩, ⟨_, (hF2 (o) (fun j q hj => by replace hj : j = 0 ∨ j = 3 ∨ j = 4 ∨ j = 5 ∨ j = 6 ∨ j = 7 ∨ j = 8 ∨ j = 9 ∨ j = 10 ∨ j = 23 ∨ j = 24 := hj; have := hD.1; have := hD.2.1; have := hD.2.2; omega)).trans (Classical.choose_spec hJ1.2.2.1)⟩, ⟨_, (hF2 (d) (fun j q hj => by replace hj : j = 0 ∨ j = 3 ∨ j = 4 ∨ j = 5 ∨ j = 6 ∨ j = 7 ∨ j = 8 ∨ j = 9 ∨ j = 10 ∨ j = 23 ∨ j = 24 := hj; have := hD.1; have := hD.2.1; have := hD.2.2; omega)).trans (Classical.choose_spec hJ1.2.2.2.1)⟩, (hF2 (x + 1) (fun j q hj => by replace hj : j = 0 ∨ j = 3 ∨ j = 4 ∨ j = 5 ∨ j = 6 ∨ j = 7 ∨ j = 8 ∨ j = 9 ∨ j = 10 ∨ j = 23 ∨ j = 24 := hj; have := hD.1; have := hD.2.1; have := hD.2.2; omega)).trans hJ1.2.2.2.2.1, (hF2 (x + 2) (fun j q hj => by replace hj : j = 0 ∨ j = 3 ∨ j = 4 ∨ j = 5 ∨ j = 6 ∨ j = 7 ∨ j = 8 ∨ j = 9 ∨ j = 10 ∨ j = 23 ∨ j = 24 := hj; have := hD.1; have := hD.2.1; have := hD.2.2; omega)).trans hJ1.2.2.2.2.2.1, C24.eq hJ1.2.2.2.2.2.2.1 (hF2 (x + 24) (fun j q hj => by replace hj : j = 0 ∨ j = 3 ∨ j = 4 ∨ j = 5 ∨ j = 6 ∨ j = 7 ∨ j = 8 ∨ j = 9 ∨ j = 10 ∨ j = 23 ∨ j = 24 := hj; have := hD.1; have := hD.2.1; have := hD.2.2; omega)), C80.eq hJ1.2.2.2.2.2.2.2.1 (hF2 (x + 80) (fun j q hj => by replace hj : j = 0 ∨ j = 3 ∨ j = 4 ∨ j = 5 ∨ j = 6 ∨ j = 7 ∨ j = 8 ∨ j = 9 ∨ j = 10 ∨ j = 23 ∨ j = 24 := hj; have := hD.1; have := hD.2.1; have := hD.2.2; omega)), CfC.eq hJ1.2.2.2.2.2.2.2.2 (fun k9 q1 q2 => hF2 (x + k9) (fun j q hj => by replace hj : j = 0 ∨ j = 3 ∨ j = 4 ∨ j = 5 ∨ j = 6 ∨ j = 7 ∨ j = 8 ∨ j = 9 ∨ j = 10 ∨ j = 23 ∨ j = 24 := hj; have := hD.1; have := hD.2.1; have := hD.2.2; omega))⟩
  refine z_istore (lv' := [(7, .int r2), (6, .int r1), (5, .int (nI i)), (4, .ref d), (3, .ref o), (2, .ref y), (1, .ref x), (0, .ref b)]) B dL_law_607 (Nat.le_of_ble_eq_true rfl) rfl ?_
  refine z_goto (tgt := 1994) B dL_law_609 rfl ?_
  refine z_lv [2, 3, 4, 5, 6, 7] rfl ?_
  refine z_widen (k := cells + 2) (n := slots + 12) (by omega) (by omega) ?_
  exact hT _ hd0 Φ2 sz1 (JJ.of (JK.up hJ2 (by omega)) rfl rfl rfl rfl rfl (fin_obm hw1 hR2_0) rfl hEq)

set_option maxHeartbeats 4000000 in
set_option maxRecDepth 100000 in
theorem lc_0 {p9 : Program} {e9 : Env} {s9 : State} {m9 : MethodId} {a9 : Array Value} {w9 : List Frame} {t9 : Method} {k9 : Code} {Q9 : State → Prop} {nm9 : String} (G : EnvG) (l : Launch) (hl9 : l.stackTraces = false) (B : Bd p9 s9 m9 a9 t9 k9 G code 9 RL wsL_law ret nm9) (Φ : Hm) (sz : Nat) (b : Nat) (xs : Nat → Int32) (hX : va_X b 7 xs s9 s9.heap) (hbn : b < G.2.2.2) (x y o d : Nat) (a1 : Int32) (a2 : Int32) (a3 : Int32) (a4 : Int32) (a5 : Int32) (go : Nat → Int64) (gd : Nat → UInt64) (hna : G.2.2.2 ≤ x) (hxy : x + 149 ≤ y) (hyo : y + 26 ≤ o) (hyd : y + 26 ≤ d) (hod : o ≠ d) (hx_0 : Φ x = some (o_ 13 [.ref (x + 1), .ref (x + 3), .ref (x + 24), .ref (x + 46), .ref (x + 74), .ref (x + 80), .ref (x + 132), .ref (x + 121)])) (hx_1 : Φ (x + 1) = some (o_ 7 [.ref (x + 2), .int 0])) (hx_2 : Φ (x + 2) = some (ab_ G 700 (fun _ => 0))) (hy_0 : Φ y = some (o_ 14 [.int 0, .ref (y + 1), .ref (y + 2), .int 0, .int 1, .int 1, .int 0, .int 0, .ref (y + 3), .ref (y + 4), .int 0, .long 0, .ref (y + 5), .int 0, .int 0, .long 0, .long 0, .long 0, .long 0, .ref (y + 6), .ref (y + 7), .int 0, .ref (y + 8), .int 0, .ref (y + 9), .ref (y + 10), .int 0, .ref (y + 11), .ref (y + 12), .ref (y + 13), .ref (y + 14), .ref (y + 15), .ref (y + 16), .int 0, .long (-1), .ref (y + 17), .ref (y + 18), .ref (y + 19), .ref (y + 20), .ref (y + 21), .ref (y + 22), .int 0, .ref (y + 23), .ref (y + 24), .int 0, .ref (y + 25), .int 0, .int 0, .int 0, .int (-1), .int 0, .int 0, .int 0, .long 0])) (hy_25 : Φ (y + 25) = some (ab_ G 700 (fun _ => 0))) (hx1 : xs 1 = a1) (hx2 : xs 2 = a2) (hx3 : xs 3 = a3) (hx4 : xs 4 = a4) (hx5 : xs 5 = a5) (hT : ∀ (Φ1 : Hm) (sz1 : Nat), Z p9 l e9 room_1 s9 m9 a9 w9 t9 k9 Q9 G 9 2893 [(5, .int 0), (4, .ref d), (3, .ref o), (2, .ref y), (1, .ref x), (0, .ref b)] [] Φ1 sz1 178 20844) : Z p9 l e9 room_1 s9 m9 a9 w9 t9 k9 Q9 G 9 296 [(5, .int 0), (4, .ref d), (3, .ref o), (2, .ref y), (1, .ref x), (0, .ref b)] [] Φ sz 177 20838 := by
  refine z_aload_n B dL_law_296 rfl 4 rfl ?_
  refine z_aload_n B dL_law_297 rfl 5 rfl ?_
  refine z_iload B dL_law_298 0 rfl ?_
  refine z_iconst (v := 1) B dL_law_300 rfl ?_
  refine z_iadd B dL_law_301 ?_
  refine z_top (st1 := [.int 1, .ref b, .ref x]) (congrArg (fun w9 : Int32 => ([.int w9, .ref b, .ref x] : List Value)) (show (0 + 1 : Int32) = 1 by decide +kernel)) ?_
  refine z_sald B hX hbn (vin rfl) dL_law_302 ?_
  refine z_top (st1 := [.int a1, .ref x]) (congrArg (fun w9 : Int32 => ([.int w9, .ref x] : List Value)) (show xs (1 : Int32).toNatClampNeg = a1 from hx1)) ?_
  refine z_aload_n B dL_law_303 rfl 5 rfl ?_
  refine z_iload B dL_law_304 0 rfl ?_
  refine z_iconst (v := 2) B dL_law_306 rfl ?_
  refine z_iadd B dL_law_307 ?_
  refine z_top (st1 := [.int 2, .ref b, .int a1, .ref x]) (congrArg (fun w9 : Int32 => ([.int w9, .ref b, .int a1, .ref x] : List Value)) (show (0 + 2 : Int32) = 2 by decide +kernel)) ?_
  refine z_sald B hX hbn (vin rfl) dL_law_308 ?_
  refine z_top (st1 := [.int a2, .int a1, .ref x]) (congrArg (fun w9 : Int32 => ([.int w9, .int a1, .ref x] : List Value)) (show xs (2 : Int32).toNatClampNeg = a2 from hx2)) ?_
  refine z_aload_n B dL_law_309 rfl 5 rfl ?_
  refine z_iload B dL_law_310 0 rfl ?_
  refine z_iconst (v := 3) B dL_law_312 rfl ?_
  refine z_iadd B dL_law_313 ?_
  refine z_top (st1 := [.int 3, .ref b, .int a2, .int a1, .ref x]) (congrArg (fun w9 : Int32 => ([.int w9, .ref b, .int a2, .int a1, .ref x] : List Value)) (show (0 + 3 : Int32) = 3 by decide +kernel)) ?_
  refine z_sald B hX hbn (vin rfl) dL_law_314 ?_
  refine z_top (st1 := [.int a3, .int a2, .int a1, .ref x]) (congrArg (fun w9 : Int32 => ([.int w9, .int a2, .int a1, .ref x] : List Value)) (show xs (3 : Int32).toNatClampNeg = a3 from hx3)) ?_
  refine z_aload_n B dL_law_315 rfl 5 rfl ?_
  refine z_iload B dL_law_316 0 rfl ?_
  refine z_iconst (v := 4) B dL_law_318 rfl ?_
  refine z_iadd B dL_law_319 ?_
  refine z_top (st1 := [.int 4, .ref b, .int a3, .int a2, .int a1, .ref x]) (congrArg (fun w9 : Int32 => ([.int w9, .ref b, .int a3, .int a2, .int a1, .ref x] : List Value)) (show (0 + 4 : Int32) = 4 by decide +kernel)) ?_
  refine z_sald B hX hbn (vin rfl) dL_law_320 ?_
  refine z_top (st1 := [.int a4, .int a3, .int a2, .int a1, .ref x]) (congrArg (fun w9 : Int32 => ([.int w9, .int a3, .int a2, .int a1, .ref x] : List Value)) (show xs (4 : Int32).toNatClampNeg = a4 from hx4)) ?_
  refine z_aload_n B dL_law_321 rfl 5 rfl ?_
  refine z_iload B dL_law_322 0 rfl ?_
  refine z_iconst (v := 5) B dL_law_324 rfl ?_
  refine z_iadd B dL_law_325 ?_
  refine z_top (st1 := [.int 5, .ref b, .int a4, .int a3, .int a2, .int a1, .ref x]) (congrArg (fun w9 : Int32 => ([.int w9, .ref b, .int a4, .int a3, .int a2, .int a1, .ref x] : List Value)) (show (0 + 5 : Int32) = 5 by decide +kernel)) ?_
  refine z_sald B hX hbn (vin rfl) dL_law_326 ?_
  refine z_top (st1 := [.int a5, .int a4, .int a3, .int a2, .int a1, .ref x]) (congrArg (fun w9 : Int32 => ([.int w9, .int a4, .int a3, .int a2, .int a1, .ref x] : List Value)) (show xs (5 : Int32).toNatClampNeg = a5 from hx5)) ?_
  refine z_callV (As := [.int a1, .int a2, .int a3, .int a4, .int a5]) (rest := []) B (f_X11_appendInput G l Φ sz x a1 a2 a3 a4 a5 hx_0 hx_1 hx_2 hna) (cwV 5 B.1.2.2.2.2 gL_law_X11_appendInput rfl rfl rfl (by decide +kernel) ⟨Nat.le_of_ble_eq_true rfl, Nat.le_of_ble_eq_true rfl⟩) hx_0 rfl rfl rfl rfl (Nat.le_of_ble_eq_true rfl) dL_law_327 ⟨Nat.le_of_ble_eq_true rfl, Nat.le_of_ble_eq_true rfl⟩ (fun v1 Φ1 sz1 st1 hp1 hs1 => ?_)
  obtain ⟨rfl, fr1⟩ := hp1
  replace hs1 : st1 = [.int 20] := hs1
  subst st1
  refine z_aload_n B dL_law_330 rfl 3 rfl ?_
  refine z_aload_n B dL_law_331 rfl 5 rfl ?_
  refine z_iload B dL_law_332 0 rfl ?_
  refine z_iconst (v := 1) B dL_law_334 rfl ?_
  refine z_iadd B dL_law_335 ?_
  refine z_top (st1 := [.int 1, .ref b, .ref y, .int 20]) (congrArg (fun w9 : Int32 => ([.int w9, .ref b, .ref y, .int 20] : List Value)) (show (0 + 1 : Int32) = 1 by decide +kernel)) ?_
  refine z_sald B hX hbn (vin rfl) dL_law_336 ?_
  refine z_top (st1 := [.int a1, .ref y, .int 20]) (congrArg (fun w9 : Int32 => ([.int w9, .ref y, .int 20] : List Value)) (show xs (1 : Int32).toNatClampNeg = a1 from hx1)) ?_
  refine z_aload_n B dL_law_337 rfl 5 rfl ?_
  refine z_iload B dL_law_338 0 rfl ?_
  refine z_iconst (v := 2) B dL_law_340 rfl ?_
  refine z_iadd B dL_law_341 ?_
  refine z_top (st1 := [.int 2, .ref b, .int a1, .ref y, .int 20]) (congrArg (fun w9 : Int32 => ([.int w9, .ref b, .int a1, .ref y, .int 20] : List Value)) (show (0 + 2 : Int32) = 2 by decide +kernel)) ?_
  refine z_sald B hX hbn (vin rfl) dL_law_342 ?_
  refine z_top (st1 := [.int a2, .int a1, .ref y, .int 20]) (congrArg (fun w9 : Int32 => ([.int w9, .int a1, .ref y, .int 20] : List Value)) (show xs (2 : Int32).toNatClampNeg = a2 from hx2)) ?_
  refine z_aload_n B dL_law_343 rfl 5 rfl ?_
  refine z_iload B dL_law_344 0 rfl ?_
  refine z_iconst (v := 3) B dL_law_346 rfl ?_
  refine z_iadd B dL_law_347 ?_
  refine z_top (st1 := [.int 3, .ref b, .int a2, .int a1, .ref y, .int 20]) (congrArg (fun w9 : Int32 => ([.int w9, .ref b, .int a2, .int a1, .ref y, .int 20] : List Value)) (show (0 + 3 : Int32) = 3 by decide +kernel)) ?_
  refine z_sald B hX hbn (vin rfl) dL_law_348 ?_
  refine z_top (st1 := [.int a3, .int a2, .int a1, .ref y, .int 20]) (congrArg (fun w9 : Int32 => ([.int w9, .int a2, .int a1, .ref y, .int 20] : List Value)) (show xs (3 : Int32).toNatClampNeg = a3 from hx3)) ?_
  refine z_aload_n B dL_law_349 rfl 5 rfl ?_
  refine z_iload B dL_law_350 0 rfl ?_
  refine z_iconst (v := 4) B dL_law_352 rfl ?_
  refine z_iadd B dL_law_353 ?_
  refine z_top (st1 := [.int 4, .ref b, .int a3, .int a2, .int a1, .ref y, .int 20]) (congrArg (fun w9 : Int32 => ([.int w9, .ref b, .int a3, .int a2, .int a1, .ref y, .int 20] : List Value)) (show (0 + 4 : Int32) = 4 by decide +kernel)) ?_
  refine z_sald B hX hbn (vin rfl) dL_law_354 ?_
  refine z_top (st1 := [.int a4, .int a3, .int a2, .int a1, .ref y, .int 20]) (congrArg (fun w9 : Int32 => ([.int w9, .int a3, .int a2, .int a1, .ref y, .int 20] : List Value)) (show xs (4 : Int32).toNatClampNeg = a4 from hx4)) ?_
  refine z_aload_n B dL_law_355 rfl 5 rfl ?_
  refine z_iload B dL_law_356 0 rfl ?_
  refine z_iconst (v := 5) B dL_law_358 rfl ?_
  refine z_iadd B dL_law_359 ?_
  refine z_top (st1 := [.int 5, .ref b, .int a4, .int a3, .int a2, .int a1, .ref y, .int 20]) (congrArg (fun w9 : Int32 => ([.int w9, .ref b, .int a4, .int a3, .int a2, .int a1, .ref y, .int 20] : List Value)) (show (0 + 5 : Int32) = 5 by decide +kernel)) ?_
  refine z_sald B hX hbn (vin rfl) dL_law_360 ?_
  refine z_top (st1 := [.int a5, .int a4, .int a3, .int a2, .int a1, .ref y, .int 20]) (congrArg (fun w9 : Int32 => ([.int w9, .int a4, .int a3, .int a2, .int a1, .ref y, .int 20] : List Value)) (show xs (5 : Int32).toNatClampNeg = a5 from hx5)) ?_
  have h_1 : Φ1 y = some (o_ 14 [.int 0, .ref (y + 1), .ref (y + 2), .int 0, .int 1, .int 1, .int 0, .int 0, .ref (y + 3), .ref (y + 4), .int 0, .long 0, .ref (y + 5), .int 0, .int 0, .long 0, .long 0, .long 0, .long 0, .ref (y + 6), .ref (y + 7), .int 0, .ref (y + 8), .int 0, .ref (y + 9), .ref (y + 10), .int 0, .ref (y + 11), .ref (y + 12), .ref (y + 13), .ref (y + 14), .ref (y + 15), .ref (y + 16), .int 0, .long (-1), .ref (y + 17), .ref (y + 18), .ref (y + 19), .ref (y + 20), .ref (y + 21), .ref (y + 22), .int 0, .ref (y + 23), .ref (y + 24), .int 0, .ref (y + 25), .int 0, .int 0, .int 0, .int (-1), .int 0, .int 0, .int 0, .long 0]) := ((fr1 y hxy).trans hy_0)
  have h_2 : Φ1 (y + 25) = some (ab_ G 700 (fun _ => 0)) := ((fr1 (y + 25) (Nat.le_trans hxy (Nat.le_add_right y 25))).trans hy_25)
  refine z_callV (As := [.int a1, .int a2, .int a3, .int a4, .int a5]) (rest := [.int 20]) B (m_X12_appendInput G l Φ1 sz1 y a1 a2 a3 a4 a5 h_1 h_2 (Nat.le_trans hna (Nat.le_trans (Nat.le_add_right x 149) hxy))) (cwV 5 B.1.2.2.2.2 gL_law_X12_appendInput rfl rfl rfl (by decide +kernel) ⟨Nat.le_of_ble_eq_true rfl, Nat.le_of_ble_eq_true rfl⟩) h_1 rfl rfl rfl rfl (Nat.le_of_ble_eq_true rfl) dL_law_361 ⟨Nat.le_of_ble_eq_true rfl, Nat.le_of_ble_eq_true rfl⟩ (fun v2 Φ2 sz2 st2 hp2 hs2 => ?_)
  obtain ⟨rfl, ⟨fs1, hy1, hk1⟩, fr2⟩ := hp2
  replace hs2 : st2 = [.int 20, .int 20] := hs2
  subst st2
  refine z_icmp_eq (tgt := 2893) B dL_law_364 rfl (fun c_1 => ?_) (fun h9 => absurd (by decide) h9)
  refine z_lv [0, 1, 2, 3, 4, 5] rfl ?_
  refine z_widen (k := 178) (n := 20844) (Nat.le_of_ble_eq_true rfl) (Nat.le_of_ble_eq_true rfl) ?_
  exact hT _ _

set_option maxHeartbeats 4000000 in
set_option maxRecDepth 100000 in
theorem lc_1_n {p9 : Program} {e9 : Env} {s9 : State} {m9 : MethodId} {a9 : Array Value} {w9 : List Frame} {t9 : Method} {k9 : Code} {Q9 : State → Prop} {nm9 : String} (G : EnvG) (l : Launch) (hl9 : l.stackTraces = false) (B : Bd p9 s9 m9 a9 t9 k9 G code 9 RL wsL_law ret nm9) (Φ : Hm) (sz : Nat) (b : Nat) (xs : Nat → Int32) (hX : va_X b 7 xs s9 s9.heap) (hbn : b < G.2.2.2) (x y o d : Nat) (a1 : Int32) (go : Nat → Int64) (gd : Nat → UInt64) (hna : G.2.2.2 ≤ x) (hxy : x + 149 ≤ y) (hyo : y + 26 ≤ o) (hyd : y + 26 ≤ d) (hod : o ≠ d) (hx_0 : Φ x = some (o_ 13 [.ref (x + 1), .ref (x + 3), .ref (x + 24), .ref (x + 46), .ref (x + 74), .ref (x + 80), .ref (x + 132), .ref (x + 121)])) (hx_1 : Φ (x + 1) = some (o_ 7 [.ref (x + 2), .int 0])) (hy_0 : Φ y = some (o_ 14 [.int 0, .ref (y + 1), .ref (y + 2), .int 0, .int 1, .int 1, .int 0, .int 0, .ref (y + 3), .ref (y + 4), .int 0, .long 0, .ref (y + 5), .int 0, .int 0, .long 0, .long 0, .long 0, .long 0, .ref (y + 6), .ref (y + 7), .int 0, .ref (y + 8), .int 0, .ref (y + 9), .ref (y + 10), .int 0, .ref (y + 11), .ref (y + 12), .ref (y + 13), .ref (y + 14), .ref (y + 15), .ref (y + 16), .int 0, .long (-1), .ref (y + 17), .ref (y + 18), .ref (y + 19), .ref (y + 20), .ref (y + 21), .ref (y + 22), .int 0, .ref (y + 23), .ref (y + 24), .int 0, .ref (y + 25), .int 0, .int 0, .int 0, .int (-1), .int 0, .int 0, .int 0, .long 0])) (hx1 : xs 1 = a1) (Mhp : ¬ inP a1.toInt64 0 0) (hv : (if a1 < 0 then -1 else if a1 ≤ 0 then a1 else -1 : Int32) = (-1)) (hT : ∀ (Φ1 : Hm) (sz1 : Nat), Z p9 l e9 room_1 s9 m9 a9 w9 t9 k9 Q9 G 9 2893 [(5, .int 0), (4, .ref d), (3, .ref o), (2, .ref y), (1, .ref x), (0, .ref b)] [] Φ1 sz1 178 20844) : Z p9 l e9 room_1 s9 m9 a9 w9 t9 k9 Q9 G 9 369 [(5, .int 0), (4, .ref d), (3, .ref o), (2, .ref y), (1, .ref x), (0, .ref b)] [] Φ sz 177 20838 := by
  refine z_aload_n B dL_law_369 rfl 4 rfl ?_
  refine z_aload_n B dL_law_370 rfl 5 rfl ?_
  refine z_iload B dL_law_371 0 rfl ?_
  refine z_iconst (v := 1) B dL_law_373 rfl ?_
  refine z_iadd B dL_law_374 ?_
  refine z_top (st1 := [.int 1, .ref b, .ref x]) (congrArg (fun w9 : Int32 => ([.int w9, .ref b, .ref x] : List Value)) (show (0 + 1 : Int32) = 1 by decide +kernel)) ?_
  refine z_sald B hX hbn (vin rfl) dL_law_375 ?_
  refine z_top (st1 := [.int a1, .ref x]) (congrArg (fun w9 : Int32 => ([.int w9, .ref x] : List Value)) (show xs (1 : Int32).toNatClampNeg = a1 from hx1)) ?_
  refine z_callV (As := [.int a1]) (rest := []) B (f_X11_truncateInput G l Φ sz x a1 hx_0 hx_1 hna) (cwV 1 B.1.2.2.2.2 gL_law_X11_truncateInput rfl rfl rfl (by decide +kernel) ⟨Nat.le_of_ble_eq_true rfl, Nat.le_of_ble_eq_true rfl⟩) hx_0 rfl rfl rfl rfl (Nat.le_of_ble_eq_true rfl) dL_law_376 ⟨Nat.le_of_ble_eq_true rfl, Nat.le_of_ble_eq_true rfl⟩ (fun v1 Φ1 sz1 st1 hp1 hs1 => ?_)
  obtain ⟨rfl, fr1⟩ := hp1
  replace hs1 : st1 = [.int (if a1 < 0 then -1 else if a1 ≤ 0 then a1 else -1)] := hs1
  subst st1
  refine z_top (st1 := [.int (-1)]) (congrArg (fun w9 : Int32 => ([.int w9] : List Value)) hv) ?_
  refine z_aload_n B dL_law_379 rfl 3 rfl ?_
  refine z_aload_n B dL_law_380 rfl 5 rfl ?_
  refine z_iload B dL_law_381 0 rfl ?_
  refine z_iconst (v := 1) B dL_law_383 rfl ?_
  refine z_iadd B dL_law_384 ?_
  refine z_top (st1 := [.int 1, .ref b, .ref y, .int (-1)]) (congrArg (fun w9 : Int32 => ([.int w9, .ref b, .ref y, .int (-1)] : List Value)) (show (0 + 1 : Int32) = 1 by decide +kernel)) ?_
  refine z_sald B hX hbn (vin rfl) dL_law_385 ?_
  refine z_top (st1 := [.int a1, .ref y, .int (-1)]) (congrArg (fun w9 : Int32 => ([.int w9, .ref y, .int (-1)] : List Value)) (show xs (1 : Int32).toNatClampNeg = a1 from hx1)) ?_
  have h_1 : Φ1 y = some (o_ 14 [.int 0, .ref (y + 1), .ref (y + 2), .int 0, .int 1, .int 1, .int 0, .int 0, .ref (y + 3), .ref (y + 4), .int 0, .long 0, .ref (y + 5), .int 0, .int 0, .long 0, .long 0, .long 0, .long 0, .ref (y + 6), .ref (y + 7), .int 0, .ref (y + 8), .int 0, .ref (y + 9), .ref (y + 10), .int 0, .ref (y + 11), .ref (y + 12), .ref (y + 13), .ref (y + 14), .ref (y + 15), .ref (y + 16), .int 0, .long (-1), .ref (y + 17), .ref (y + 18), .ref (y + 19), .ref (y + 20), .ref (y + 21), .ref (y + 22), .int 0, .ref (y + 23), .ref (y + 24), .int 0, .ref (y + 25), .int 0, .int 0, .int 0, .int (-1), .int 0, .int 0, .int 0, .long 0]) := ((fr1 y hxy).trans hy_0)
  refine z_callV (As := [.int a1]) (rest := [.int (-1)]) B (m_X12_truncateInput_n G l Φ1 sz1 y a1 h_1 (Nat.le_trans hna (Nat.le_trans (Nat.le_add_right x 149) hxy)) Mhp) (cwV 1 B.1.2.2.2.2 gL_law_X12_truncateInput rfl rfl rfl (by decide +kernel) ⟨Nat.le_of_ble_eq_true rfl, Nat.le_of_ble_eq_true rfl⟩) h_1 rfl rfl rfl rfl (Nat.le_of_ble_eq_true rfl) dL_law_386 ⟨Nat.le_of_ble_eq_true rfl, Nat.le_of_ble_eq_true rfl⟩ (fun v2 Φ2 sz2 st2 hp2 hs2 => ?_)
  obtain ⟨rfl, ⟨fs1, hy1, hk1⟩, fr2⟩ := hp2
  replace hs2 : st2 = [.int (-1), .int (-1)] := hs2
  subst st2
  refine z_icmp_eq (tgt := 2893) B dL_law_389 rfl (fun c_1 => ?_) (fun h9 => absurd (by decide) h9)
  refine z_lv [0, 1, 2, 3, 4, 5] rfl ?_
  refine z_widen (k := 178) (n := 20844) (Nat.le_of_ble_eq_true rfl) (Nat.le_of_ble_eq_true rfl) ?_
  exact hT _ _

set_option maxHeartbeats 4000000 in
set_option maxRecDepth 100000 in
theorem lc_1_0 {p9 : Program} {e9 : Env} {s9 : State} {m9 : MethodId} {a9 : Array Value} {w9 : List Frame} {t9 : Method} {k9 : Code} {Q9 : State → Prop} {nm9 : String} (G : EnvG) (l : Launch) (hl9 : l.stackTraces = false) (B : Bd p9 s9 m9 a9 t9 k9 G code 9 RL wsL_law ret nm9) (Φ : Hm) (sz : Nat) (b : Nat) (xs : Nat → Int32) (hX : va_X b 7 xs s9 s9.heap) (hbn : b < G.2.2.2) (x y o d : Nat)  (go : Nat → Int64) (gd : Nat → UInt64) (hna : G.2.2.2 ≤ x) (hxy : x + 149 ≤ y) (hyo : y + 26 ≤ o) (hyd : y + 26 ≤ d) (hod : o ≠ d) (hx_0 : Φ x = some (o_ 13 [.ref (x + 1), .ref (x + 3), .ref (x + 24), .ref (x + 46), .ref (x + 74), .ref (x + 80), .ref (x + 132), .ref (x + 121)])) (hx_1 : Φ (x + 1) = some (o_ 7 [.ref (x + 2), .int 0])) (hy_0 : Φ y = some (o_ 14 [.int 0, .ref (y + 1), .ref (y + 2), .int 0, .int 1, .int 1, .int 0, .int 0, .ref (y + 3), .ref (y + 4), .int 0, .long 0, .ref (y + 5), .int 0, .int 0, .long 0, .long 0, .long 0, .long 0, .ref (y + 6), .ref (y + 7), .int 0, .ref (y + 8), .int 0, .ref (y + 9), .ref (y + 10), .int 0, .ref (y + 11), .ref (y + 12), .ref (y + 13), .ref (y + 14), .ref (y + 15), .ref (y + 16), .int 0, .long (-1), .ref (y + 17), .ref (y + 18), .ref (y + 19), .ref (y + 20), .ref (y + 21), .ref (y + 22), .int 0, .ref (y + 23), .ref (y + 24), .int 0, .ref (y + 25), .int 0, .int 0, .int 0, .int (-1), .int 0, .int 0, .int 0, .long 0])) (hx1 : xs 1 = 0) (hv : (if (0 : Int32) < 0 then -1 else if (0 : Int32) ≤ 0 then (0 : Int32) else -1 : Int32) = 0) (hT : ∀ (Φ1 : Hm) (sz1 : Nat), Z p9 l e9 room_1 s9 m9 a9 w9 t9 k9 Q9 G 9 2893 [(5, .int 0), (4, .ref d), (3, .ref o), (2, .ref y), (1, .ref x), (0, .ref b)] [] Φ1 sz1 178 20844) : Z p9 l e9 room_1 s9 m9 a9 w9 t9 k9 Q9 G 9 369 [(5, .int 0), (4, .ref d), (3, .ref o), (2, .ref y), (1, .ref x), (0, .ref b)] [] Φ sz 177 20838 := by
  refine z_aload_n B dL_law_369 rfl 4 rfl ?_
  refine z_aload_n B dL_law_370 rfl 5 rfl ?_
  refine z_iload B dL_law_371 0 rfl ?_
  refine z_iconst (v := 1) B dL_law_373 rfl ?_
  refine z_iadd B dL_law_374 ?_
  refine z_top (st1 := [.int 1, .ref b, .ref x]) (congrArg (fun w9 : Int32 => ([.int w9, .ref b, .ref x] : List Value)) (show (0 + 1 : Int32) = 1 by decide +kernel)) ?_
  refine z_sald B hX hbn (vin rfl) dL_law_375 ?_
  refine z_top (st1 := [.int 0, .ref x]) (congrArg (fun w9 : Int32 => ([.int w9, .ref x] : List Value)) (show xs (1 : Int32).toNatClampNeg = 0 from hx1)) ?_
  refine z_callV (As := [.int 0]) (rest := []) B (f_X11_truncateInput G l Φ sz x 0 hx_0 hx_1 hna) (cwV 1 B.1.2.2.2.2 gL_law_X11_truncateInput rfl rfl rfl (by decide +kernel) ⟨Nat.le_of_ble_eq_true rfl, Nat.le_of_ble_eq_true rfl⟩) hx_0 rfl rfl rfl rfl (Nat.le_of_ble_eq_true rfl) dL_law_376 ⟨Nat.le_of_ble_eq_true rfl, Nat.le_of_ble_eq_true rfl⟩ (fun v1 Φ1 sz1 st1 hp1 hs1 => ?_)
  obtain ⟨rfl, fr1⟩ := hp1
  replace hs1 : st1 = [.int (if (0 : Int32) < 0 then -1 else if (0 : Int32) ≤ 0 then (0 : Int32) else -1)] := hs1
  subst st1
  refine z_top (st1 := [.int 0]) (congrArg (fun w9 : Int32 => ([.int w9] : List Value)) hv) ?_
  refine z_aload_n B dL_law_379 rfl 3 rfl ?_
  refine z_aload_n B dL_law_380 rfl 5 rfl ?_
  refine z_iload B dL_law_381 0 rfl ?_
  refine z_iconst (v := 1) B dL_law_383 rfl ?_
  refine z_iadd B dL_law_384 ?_
  refine z_top (st1 := [.int 1, .ref b, .ref y, .int 0]) (congrArg (fun w9 : Int32 => ([.int w9, .ref b, .ref y, .int 0] : List Value)) (show (0 + 1 : Int32) = 1 by decide +kernel)) ?_
  refine z_sald B hX hbn (vin rfl) dL_law_385 ?_
  refine z_top (st1 := [.int 0, .ref y, .int 0]) (congrArg (fun w9 : Int32 => ([.int w9, .ref y, .int 0] : List Value)) (show xs (1 : Int32).toNatClampNeg = 0 from hx1)) ?_
  have h_1 : Φ1 y = some (o_ 14 [.int 0, .ref (y + 1), .ref (y + 2), .int 0, .int 1, .int 1, .int 0, .int 0, .ref (y + 3), .ref (y + 4), .int 0, .long 0, .ref (y + 5), .int 0, .int 0, .long 0, .long 0, .long 0, .long 0, .ref (y + 6), .ref (y + 7), .int 0, .ref (y + 8), .int 0, .ref (y + 9), .ref (y + 10), .int 0, .ref (y + 11), .ref (y + 12), .ref (y + 13), .ref (y + 14), .ref (y + 15), .ref (y + 16), .int 0, .long (-1), .ref (y + 17), .ref (y + 18), .ref (y + 19), .ref (y + 20), .ref (y + 21), .ref (y + 22), .int 0, .ref (y + 23), .ref (y + 24), .int 0, .ref (y + 25), .int 0, .int 0, .int 0, .int (-1), .int 0, .int 0, .int 0, .long 0]) := ((fr1 y hxy).trans hy_0)
  refine z_callV (As := [.int 0]) (rest := [.int 0]) B (m_X12_truncateInput_0 G l Φ1 sz1 y h_1 (Nat.le_trans hna (Nat.le_trans (Nat.le_add_right x 149) hxy))) (cwV 1 B.1.2.2.2.2 gL_law_X12_truncateInput rfl rfl rfl (by decide +kernel) ⟨Nat.le_of_ble_eq_true rfl, Nat.le_of_ble_eq_true rfl⟩) h_1 rfl rfl rfl rfl (Nat.le_of_ble_eq_true rfl) dL_law_386 ⟨Nat.le_of_ble_eq_true rfl, Nat.le_of_ble_eq_true rfl⟩ (fun v2 Φ2 sz2 st2 hp2 hs2 => ?_)
  obtain ⟨rfl, ⟨fs1, hy1, hk1⟩, fr2⟩ := hp2
  replace hs2 : st2 = [.int 0, .int 0] := hs2
  subst st2
  refine z_icmp_eq (tgt := 2893) B dL_law_389 rfl (fun c_1 => ?_) (fun h9 => absurd (by decide) h9)
  refine z_lv [0, 1, 2, 3, 4, 5] rfl ?_
  refine z_widen (k := 178) (n := 20844) (Nat.le_of_ble_eq_true rfl) (Nat.le_of_ble_eq_true rfl) ?_
  exact hT _ _

set_option maxHeartbeats 4000000 in
set_option maxRecDepth 100000 in
theorem lc_2 {p9 : Program} {e9 : Env} {s9 : State} {m9 : MethodId} {a9 : Array Value} {w9 : List Frame} {t9 : Method} {k9 : Code} {Q9 : State → Prop} {nm9 : String} (G : EnvG) (l : Launch) (hl9 : l.stackTraces = false) (B : Bd p9 s9 m9 a9 t9 k9 G code 9 RL wsL_law ret nm9) (Φ : Hm) (sz : Nat) (b : Nat) (xs : Nat → Int32) (hX : va_X b 7 xs s9 s9.heap) (hbn : b < G.2.2.2) (x y o d : Nat)  (go : Nat → Int64) (gd : Nat → UInt64) (hna : G.2.2.2 ≤ x) (hxy : x + 149 ≤ y) (hyo : y + 26 ≤ o) (hyd : y + 26 ≤ d) (hod : o ≠ d) (hx_0 : Φ x = some (o_ 13 [.ref (x + 1), .ref (x + 3), .ref (x + 24), .ref (x + 46), .ref (x + 74), .ref (x + 80), .ref (x + 132), .ref (x + 121)])) (hx_1 : Φ (x + 1) = some (o_ 7 [.ref (x + 2), .int 0])) (hx_3 : Φ (x + 3) = some (o_ 3 [.ref (x + 4), .ref (x + 5), .ref (x + 6), .ref (x + 7), .int 1, .int 511])) (hx_4 : Φ (x + 4) = some (ai_ G 9 usT)) (hx_5 : Φ (x + 5) = some (ai_ G 256 (fun _ => 0))) (hx_6 : Φ (x + 6) = some (aq_ G 4 4 (va_up (va_up (va_up (va_up (fun _ => none) (0 : Int32).toNatClampNeg (some (x + 8))) (1 : Int32).toNatClampNeg (some (x + 12))) (2 : Int32).toNatClampNeg (some (x + 16))) (3 : Int32).toNatClampNeg (some (x + 20))))) (hx_7 : Φ (x + 7) = some (aq_ G 4 4 (va_up (va_up (va_up (va_up (fun _ => none) (0 : Int32).toNatClampNeg (some (x + 10))) (1 : Int32).toNatClampNeg (some (x + 14))) (2 : Int32).toNatClampNeg (some (x + 18))) (3 : Int32).toNatClampNeg (some (x + 22))))) (hx_8 : Φ (x + 8) = some (o_ 12 [.ref (x + 9), .int 9, .int 511, .int 29])) (hx_9 : Φ (x + 9) = some (ai_ G 9 (upd (upd (upd (upd (upd (upd (upd (upd (upd (fun _ => 0) (0 : Int32).toNatClampNeg 0) (1 : Int32).toNatClampNeg 1) (2 : Int32).toNatClampNeg 2) (3 : Int32).toNatClampNeg 3) (4 : Int32).toNatClampNeg 4) (5 : Int32).toNatClampNeg 5) (6 : Int32).toNatClampNeg 6) (7 : Int32).toNatClampNeg 7) (8 : Int32).toNatClampNeg 8))) (hx_10 : Φ (x + 10) = some (o_ 12 [.ref (x + 11), .int 9, .int 511, .int 29])) (hx_11 : Φ (x + 11) = some (ai_ G 9 (upd (upd (upd (upd (upd (upd (upd (upd (upd (fun _ => 0) (0 : Int32).toNatClampNeg 0) (1 : Int32).toNatClampNeg 1) (2 : Int32).toNatClampNeg 2) (3 : Int32).toNatClampNeg 3) (4 : Int32).toNatClampNeg 4) (5 : Int32).toNatClampNeg 5) (6 : Int32).toNatClampNeg 6) (7 : Int32).toNatClampNeg 7) (8 : Int32).toNatClampNeg 8))) (hx_12 : Φ (x + 12) = some (o_ 12 [.ref (x + 13), .int 0, .int 0, .int 0])) (hx_14 : Φ (x + 14) = some (o_ 12 [.ref (x + 15), .int 0, .int 0, .int 0])) (hx_16 : Φ (x + 16) = some (o_ 12 [.ref (x + 17), .int 0, .int 0, .int 0])) (hx_18 : Φ (x + 18) = some (o_ 12 [.ref (x + 19), .int 0, .int 0, .int 0])) (hx_20 : Φ (x + 20) = some (o_ 12 [.ref (x + 21), .int 0, .int 0, .int 0])) (hx_22 : Φ (x + 22) = some (o_ 12 [.ref (x + 23), .int 0, .int 0, .int 0])) (hx_24 : Φ (x + 24) = some (o_ 8 [.ref (x + 25), .int 0, .int (-1), .ref (x + 1), .int 0, .int 0, .int 0, .int 0])) (hx_25 : Φ (x + 25) = some (o_ 3 [.ref (x + 26), .ref (x + 27), .ref (x + 28), .ref (x + 29), .int 1, .int 511])) (hx_26 : Φ (x + 26) = some (ai_ G 9 usT)) (hx_27 : Φ (x + 27) = some (ai_ G 256 (fun _ => 0))) (hx_28 : Φ (x + 28) = some (aq_ G 4 4 (va_up (va_up (va_up (va_up (fun _ => none) (0 : Int32).toNatClampNeg (some (x + 30))) (1 : Int32).toNatClampNeg (some (x + 34))) (2 : Int32).toNatClampNeg (some (x + 38))) (3 : Int32).toNatClampNeg (some (x + 42))))) (hx_30 : Φ (x + 30) = some (o_ 12 [.ref (x + 31), .int 9, .int 511, .int 29])) (hx_31 : Φ (x + 31) = some (ai_ G 9 (upd (upd (upd (upd (upd (upd (upd (upd (upd (fun _ => 0) (0 : Int32).toNatClampNeg 0) (1 : Int32).toNatClampNeg 1) (2 : Int32).toNatClampNeg 2) (3 : Int32).toNatClampNeg 3) (4 : Int32).toNatClampNeg 4) (5 : Int32).toNatClampNeg 5) (6 : Int32).toNatClampNeg 6) (7 : Int32).toNatClampNeg 7) (8 : Int32).toNatClampNeg 8))) (hx_34 : Φ (x + 34) = some (o_ 12 [.ref (x + 35), .int 0, .int 0, .int 0])) (hx_38 : Φ (x + 38) = some (o_ 12 [.ref (x + 39), .int 0, .int 0, .int 0])) (hx_42 : Φ (x + 42) = some (o_ 12 [.ref (x + 43), .int 0, .int 0, .int 0])) (hx_46 : Φ (x + 46) = some (o_ 9 [.ref (x + 47), .int 0, .int 0])) (hx_74 : Φ (x + 74) = some (o_ 10 [.ref (x + 3), .ref (x + 46), .ref (x + 75), .ref (x + 77), .int 0, .ref (x + 78), .ref (x + 79), .int 0, .long 0, .int 0])) (hx_75 : Φ (x + 75) = some (o_ 7 [.ref (x + 76), .int 0])) (hx_78 : Φ (x + 78) = some (ai_ G 4 (fun _ => 0))) (hx_80 : Φ (x + 80) = some (o_ 4 [.ref (x + 3), .ref (x + 74), .ref (x + 81), .ref (x + 95), .int 0, .int 1, .int 1, .int 0, .int 0, .int 0, .long 0, .long 0, .long 0])) (hx_81 : Φ (x + 81) = some (o_ 6 [.ref (x + 82), .int 0])) (hx_95 : Φ (x + 95) = some (o_ 6 [.ref (x + 96), .int 0])) (hx_121 : Φ (x + 121) = some (o_ 11 [.ref (x + 122), .ref (x + 123), .ref (x + 126), .ref (x + 129), .int 0])) (hx_132 : Φ (x + 132) = some (o_ 2 [.ref (x + 3), .ref (x + 121), .ref (x + 133), .ref (x + 134), .ref (x + 135), .ref (x + 137), .ref (x + 138), .ref (x + 139), .ref (x + 140), .int 0, .int 0, .int 0])) (hx_133 : Φ (x + 133) = some (aq_ G 4 4 (va_up (va_up (va_up (va_up (fun _ => none) (0 : Int32).toNatClampNeg (some (x + 141))) (1 : Int32).toNatClampNeg (some (x + 143))) (2 : Int32).toNatClampNeg (some (x + 145))) (3 : Int32).toNatClampNeg (some (x + 147))))) (hx_139 : Φ (x + 139) = some (al_ G 9 (fun _ => 0))) (hx_141 : Φ (x + 141) = some (o_ 12 [.ref (x + 142), .int 0, .int 0, .int 0])) (hx_143 : Φ (x + 143) = some (o_ 12 [.ref (x + 144), .int 0, .int 0, .int 0])) (hx_145 : Φ (x + 145) = some (o_ 12 [.ref (x + 146), .int 0, .int 0, .int 0])) (hx_147 : Φ (x + 147) = some (o_ 12 [.ref (x + 148), .int 0, .int 0, .int 0])) (hy_0 : Φ y = some (o_ 14 [.int 0, .ref (y + 1), .ref (y + 2), .int 0, .int 1, .int 1, .int 0, .int 0, .ref (y + 3), .ref (y + 4), .int 0, .long 0, .ref (y + 5), .int 0, .int 0, .long 0, .long 0, .long 0, .long 0, .ref (y + 6), .ref (y + 7), .int 0, .ref (y + 8), .int 0, .ref (y + 9), .ref (y + 10), .int 0, .ref (y + 11), .ref (y + 12), .ref (y + 13), .ref (y + 14), .ref (y + 15), .ref (y + 16), .int 0, .long (-1), .ref (y + 17), .ref (y + 18), .ref (y + 19), .ref (y + 20), .ref (y + 21), .ref (y + 22), .int 0, .ref (y + 23), .ref (y + 24), .int 0, .ref (y + 25), .int 0, .int 0, .int 0, .int (-1), .int 0, .int 0, .int 0, .long 0])) (hy_1 : Φ (y + 1) = some (ai_ G 307 (upd (upd (upd (upd (upd (upd (upd (upd (upd (upd (upd (upd (upd (upd (upd (upd (upd (upd (upd (upd (upd (fun _ => 0) (0 : Int32).toNatClampNeg 1) (1 : Int32).toNatClampNeg 100) (2 : Int32).toNatClampNeg 1000) (3 : Int32).toNatClampNeg 100) (4 : Int32).toNatClampNeg 20) (5 : Int32).toNatClampNeg 1000) (6 : Int32).toNatClampNeg 5000) (7 : Int32).toNatClampNeg 512) (8 : Int32).toNatClampNeg 1) (9 : Int32).toNatClampNeg 511) (10 : Int32).toNatClampNeg 1) (11 : Int32).toNatClampNeg 9) (15 : Int32).toNatClampNeg 0) (16 : Int32).toNatClampNeg 1) (17 : Int32).toNatClampNeg 2) (18 : Int32).toNatClampNeg 3) (19 : Int32).toNatClampNeg 4) (20 : Int32).toNatClampNeg 5) (21 : Int32).toNatClampNeg 6) (22 : Int32).toNatClampNeg 7) (23 : Int32).toNatClampNeg 8))) (hy_2 : Φ (y + 2) = some (ai_ G 307 (upd (upd (upd (upd (upd (upd (upd (upd (upd (upd (upd (upd (upd (upd (upd (upd (upd (upd (upd (upd (upd (fun _ => 0) (0 : Int32).toNatClampNeg 1) (1 : Int32).toNatClampNeg 100) (2 : Int32).toNatClampNeg 1000) (3 : Int32).toNatClampNeg 100) (4 : Int32).toNatClampNeg 20) (5 : Int32).toNatClampNeg 1000) (6 : Int32).toNatClampNeg 5000) (7 : Int32).toNatClampNeg 512) (8 : Int32).toNatClampNeg 1) (9 : Int32).toNatClampNeg 511) (10 : Int32).toNatClampNeg 1) (11 : Int32).toNatClampNeg 9) (15 : Int32).toNatClampNeg 0) (16 : Int32).toNatClampNeg 1) (17 : Int32).toNatClampNeg 2) (18 : Int32).toNatClampNeg 3) (19 : Int32).toNatClampNeg 4) (20 : Int32).toNatClampNeg 5) (21 : Int32).toNatClampNeg 6) (22 : Int32).toNatClampNeg 7) (23 : Int32).toNatClampNeg 8))) (hy_3 : Φ (y + 3) = some (ai_ G 4 (upd (upd (upd (upd (fun _ => 0) (0 : Int32).toNatClampNeg (-1)) (1 : Int32).toNatClampNeg (-1)) (2 : Int32).toNatClampNeg (-1)) (3 : Int32).toNatClampNeg (-1)))) (hy_11 : Φ (y + 11) = some (al_ G 9 (vp_updL (vp_updL (vp_updL (vp_updL (vp_updL (vp_updL (vp_updL (vp_updL (vp_updL (fun _ => 0) (0 : Int32).toNatClampNeg 0) (1 : Int32).toNatClampNeg 0) (2 : Int32).toNatClampNeg 0) (3 : Int32).toNatClampNeg 0) (4 : Int32).toNatClampNeg 0) (5 : Int32).toNatClampNeg 0) (6 : Int32).toNatClampNeg 0) (7 : Int32).toNatClampNeg 0) (8 : Int32).toNatClampNeg 0))) (hy_12 : Φ (y + 12) = some (ai_ G 4 (upd (upd (upd (upd (fun _ => 0) (0 : Int32).toNatClampNeg 0) (1 : Int32).toNatClampNeg 0) (2 : Int32).toNatClampNeg 0) (3 : Int32).toNatClampNeg 0)))  (hT : ∀ (Φ1 : Hm) (sz1 : Nat), Z p9 l e9 room_1 s9 m9 a9 w9 t9 k9 Q9 G 9 2893 [(5, .int 0), (4, .ref d), (3, .ref o), (2, .ref y), (1, .ref x), (0, .ref b)] [] Φ1 sz1 178 20844) : Z p9 l e9 room_1 s9 m9 a9 w9 t9 k9 Q9 G 9 394 [(5, .int 0), (4, .ref d), (3, .ref o), (2, .ref y), (1, .ref x), (0, .ref b)] [] Φ sz 177 20838 := by
  refine z_aload_n B dL_law_394 rfl 4 rfl ?_
  refine z_callV (As := []) (rest := []) B (f_X11_load G l Φ sz x hx_0 hx_1 hx_3 hx_4 hx_5 hx_6 hx_7 hx_8 hx_9 hx_10 hx_11 hx_12 hx_14 hx_16 hx_18 hx_20 hx_22 hx_24 hx_25 hx_26 hx_27 hx_28 hx_30 hx_31 hx_34 hx_38 hx_42 hx_46 hx_74 hx_75 hx_78 hx_80 hx_81 hx_95 hx_121 hx_132 hx_133 hx_139 hx_141 hx_143 hx_145 hx_147 hna) (cwV 0 B.1.2.2.2.2 gL_law_X11_load rfl rfl rfl (by decide +kernel) ⟨Nat.le_of_ble_eq_true rfl, Nat.le_of_ble_eq_true rfl⟩) hx_0 rfl rfl rfl rfl (Nat.le_of_ble_eq_true rfl) dL_law_395 ⟨Nat.le_of_ble_eq_true rfl, Nat.le_of_ble_eq_true rfl⟩ (fun v1 Φ1 sz1 st1 hp1 hs1 => ?_)
  obtain ⟨rfl, fr1⟩ := hp1
  replace hs1 : st1 = [.int 0] := hs1
  subst st1
  refine z_aload_n B dL_law_398 rfl 3 rfl ?_
  have h_1 : Φ1 y = some (o_ 14 [.int 0, .ref (y + 1), .ref (y + 2), .int 0, .int 1, .int 1, .int 0, .int 0, .ref (y + 3), .ref (y + 4), .int 0, .long 0, .ref (y + 5), .int 0, .int 0, .long 0, .long 0, .long 0, .long 0, .ref (y + 6), .ref (y + 7), .int 0, .ref (y + 8), .int 0, .ref (y + 9), .ref (y + 10), .int 0, .ref (y + 11), .ref (y + 12), .ref (y + 13), .ref (y + 14), .ref (y + 15), .ref (y + 16), .int 0, .long (-1), .ref (y + 17), .ref (y + 18), .ref (y + 19), .ref (y + 20), .ref (y + 21), .ref (y + 22), .int 0, .ref (y + 23), .ref (y + 24), .int 0, .ref (y + 25), .int 0, .int 0, .int 0, .int (-1), .int 0, .int 0, .int 0, .long 0]) := ((fr1 y hxy).trans hy_0)
  have h_2 : Φ1 (y + 1) = some (ai_ G 307 (upd (upd (upd (upd (upd (upd (upd (upd (upd (upd (upd (upd (upd (upd (upd (upd (upd (upd (upd (upd (upd (fun _ => 0) (0 : Int32).toNatClampNeg 1) (1 : Int32).toNatClampNeg 100) (2 : Int32).toNatClampNeg 1000) (3 : Int32).toNatClampNeg 100) (4 : Int32).toNatClampNeg 20) (5 : Int32).toNatClampNeg 1000) (6 : Int32).toNatClampNeg 5000) (7 : Int32).toNatClampNeg 512) (8 : Int32).toNatClampNeg 1) (9 : Int32).toNatClampNeg 511) (10 : Int32).toNatClampNeg 1) (11 : Int32).toNatClampNeg 9) (15 : Int32).toNatClampNeg 0) (16 : Int32).toNatClampNeg 1) (17 : Int32).toNatClampNeg 2) (18 : Int32).toNatClampNeg 3) (19 : Int32).toNatClampNeg 4) (20 : Int32).toNatClampNeg 5) (21 : Int32).toNatClampNeg 6) (22 : Int32).toNatClampNeg 7) (23 : Int32).toNatClampNeg 8)) := ((fr1 (y + 1) (Nat.le_trans hxy (Nat.le_add_right y 1))).trans hy_1)
  have h_3 : Φ1 (y + 2) = some (ai_ G 307 (upd (upd (upd (upd (upd (upd (upd (upd (upd (upd (upd (upd (upd (upd (upd (upd (upd (upd (upd (upd (upd (fun _ => 0) (0 : Int32).toNatClampNeg 1) (1 : Int32).toNatClampNeg 100) (2 : Int32).toNatClampNeg 1000) (3 : Int32).toNatClampNeg 100) (4 : Int32).toNatClampNeg 20) (5 : Int32).toNatClampNeg 1000) (6 : Int32).toNatClampNeg 5000) (7 : Int32).toNatClampNeg 512) (8 : Int32).toNatClampNeg 1) (9 : Int32).toNatClampNeg 511) (10 : Int32).toNatClampNeg 1) (11 : Int32).toNatClampNeg 9) (15 : Int32).toNatClampNeg 0) (16 : Int32).toNatClampNeg 1) (17 : Int32).toNatClampNeg 2) (18 : Int32).toNatClampNeg 3) (19 : Int32).toNatClampNeg 4) (20 : Int32).toNatClampNeg 5) (21 : Int32).toNatClampNeg 6) (22 : Int32).toNatClampNeg 7) (23 : Int32).toNatClampNeg 8)) := ((fr1 (y + 2) (Nat.le_trans hxy (Nat.le_add_right y 2))).trans hy_2)
  have h_4 : Φ1 (y + 3) = some (ai_ G 4 (upd (upd (upd (upd (fun _ => 0) (0 : Int32).toNatClampNeg (-1)) (1 : Int32).toNatClampNeg (-1)) (2 : Int32).toNatClampNeg (-1)) (3 : Int32).toNatClampNeg (-1))) := ((fr1 (y + 3) (Nat.le_trans hxy (Nat.le_add_right y 3))).trans hy_3)
  have h_5 : Φ1 (y + 11) = some (al_ G 9 (vp_updL (vp_updL (vp_updL (vp_updL (vp_updL (vp_updL (vp_updL (vp_updL (vp_updL (fun _ => 0) (0 : Int32).toNatClampNeg 0) (1 : Int32).toNatClampNeg 0) (2 : Int32).toNatClampNeg 0) (3 : Int32).toNatClampNeg 0) (4 : Int32).toNatClampNeg 0) (5 : Int32).toNatClampNeg 0) (6 : Int32).toNatClampNeg 0) (7 : Int32).toNatClampNeg 0) (8 : Int32).toNatClampNeg 0)) := ((fr1 (y + 11) (Nat.le_trans hxy (Nat.le_add_right y 11))).trans hy_11)
  have h_6 : Φ1 (y + 12) = some (ai_ G 4 (upd (upd (upd (upd (fun _ => 0) (0 : Int32).toNatClampNeg 0) (1 : Int32).toNatClampNeg 0) (2 : Int32).toNatClampNeg 0) (3 : Int32).toNatClampNeg 0)) := ((fr1 (y + 12) (Nat.le_trans hxy (Nat.le_add_right y 12))).trans hy_12)
  refine z_callV (As := []) (rest := [.int 0]) B (m_X12_load G l Φ1 sz1 y h_1 h_2 h_3 h_4 h_5 h_6 (Nat.le_trans hna (Nat.le_trans (Nat.le_add_right x 149) hxy))) (cwV 0 B.1.2.2.2.2 gL_law_X12_load rfl rfl rfl (by decide +kernel) ⟨Nat.le_of_ble_eq_true rfl, Nat.le_of_ble_eq_true rfl⟩) h_1 rfl rfl rfl rfl (Nat.le_of_ble_eq_true rfl) dL_law_399 ⟨Nat.le_of_ble_eq_true rfl, Nat.le_of_ble_eq_true rfl⟩ (fun v2 Φ2 sz2 st2 hp2 hs2 => ?_)
  obtain ⟨rfl, ⟨fs1, hy1, hk1⟩, fr2⟩ := hp2
  replace hs2 : st2 = [.int 0, .int 0] := hs2
  subst st2
  refine z_icmp_eq (tgt := 2893) B dL_law_402 rfl (fun c_1 => ?_) (fun h9 => absurd (by decide) h9)
  refine z_lv [0, 1, 2, 3, 4, 5] rfl ?_
  refine z_widen (k := 178) (n := 20844) (Nat.le_of_ble_eq_true rfl) (Nat.le_of_ble_eq_true rfl) ?_
  exact hT _ _

set_option maxHeartbeats 4000000 in
set_option maxRecDepth 100000 in
theorem lc_3 {p9 : Program} {e9 : Env} {s9 : State} {m9 : MethodId} {a9 : Array Value} {w9 : List Frame} {t9 : Method} {k9 : Code} {Q9 : State → Prop} {nm9 : String} (G : EnvG) (l : Launch) (hl9 : l.stackTraces = false) (B : Bd p9 s9 m9 a9 t9 k9 G code 9 RL wsL_law ret nm9) (Φ : Hm) (sz : Nat) (b : Nat) (xs : Nat → Int32) (hX : va_X b 7 xs s9 s9.heap) (hbn : b < G.2.2.2) (x y o d : Nat)  (go : Nat → Int64) (gd : Nat → UInt64) (hna : G.2.2.2 ≤ x) (hxy : x + 149 ≤ y) (hyo : y + 26 ≤ o) (hyd : y + 26 ≤ d) (hod : o ≠ d) (hx_0 : Φ x = some (o_ 13 [.ref (x + 1), .ref (x + 3), .ref (x + 24), .ref (x + 46), .ref (x + 74), .ref (x + 80), .ref (x + 132), .ref (x + 121)])) (hx_24 : Φ (x + 24) = some (o_ 8 [.ref (x + 25), .int 0, .int (-1), .ref (x + 1), .int 0, .int 0, .int 0, .int 0])) (hy_0 : Φ y = some (o_ 14 [.int 0, .ref (y + 1), .ref (y + 2), .int 0, .int 1, .int 1, .int 0, .int 0, .ref (y + 3), .ref (y + 4), .int 0, .long 0, .ref (y + 5), .int 0, .int 0, .long 0, .long 0, .long 0, .long 0, .ref (y + 6), .ref (y + 7), .int 0, .ref (y + 8), .int 0, .ref (y + 9), .ref (y + 10), .int 0, .ref (y + 11), .ref (y + 12), .ref (y + 13), .ref (y + 14), .ref (y + 15), .ref (y + 16), .int 0, .long (-1), .ref (y + 17), .ref (y + 18), .ref (y + 19), .ref (y + 20), .ref (y + 21), .ref (y + 22), .int 0, .ref (y + 23), .ref (y + 24), .int 0, .ref (y + 25), .int 0, .int 0, .int 0, .int (-1), .int 0, .int 0, .int 0, .long 0]))  (hT : ∀ (Φ1 : Hm) (sz1 : Nat), Z p9 l e9 room_1 s9 m9 a9 w9 t9 k9 Q9 G 9 2893 [(5, .int 0), (4, .ref d), (3, .ref o), (2, .ref y), (1, .ref x), (0, .ref b)] [] Φ1 sz1 178 20844) : Z p9 l e9 room_1 s9 m9 a9 w9 t9 k9 Q9 G 9 407 [(5, .int 0), (4, .ref d), (3, .ref o), (2, .ref y), (1, .ref x), (0, .ref b)] [] Φ sz 177 20838 := by
  refine z_aload_n B dL_law_407 rfl 4 rfl ?_
  refine z_callV (As := []) (rest := []) B (f_X11_errorCode G l Φ sz x hx_0 hx_24) (cwV 0 B.1.2.2.2.2 gL_law_X11_errorCode rfl rfl rfl (by decide +kernel) ⟨Nat.le_of_ble_eq_true rfl, Nat.le_of_ble_eq_true rfl⟩) hx_0 rfl rfl rfl rfl (Nat.le_of_ble_eq_true rfl) dL_law_408 ⟨Nat.le_of_ble_eq_true rfl, Nat.le_of_ble_eq_true rfl⟩ (fun v1 Φ1 sz1 st1 hp1 hs1 => ?_)
  obtain ⟨rfl, fr1⟩ := hp1
  replace hs1 : st1 = [.int 0] := hs1
  subst st1
  refine z_aload_n B dL_law_411 rfl 3 rfl ?_
  have h_1 : Φ1 y = some (o_ 14 [.int 0, .ref (y + 1), .ref (y + 2), .int 0, .int 1, .int 1, .int 0, .int 0, .ref (y + 3), .ref (y + 4), .int 0, .long 0, .ref (y + 5), .int 0, .int 0, .long 0, .long 0, .long 0, .long 0, .ref (y + 6), .ref (y + 7), .int 0, .ref (y + 8), .int 0, .ref (y + 9), .ref (y + 10), .int 0, .ref (y + 11), .ref (y + 12), .ref (y + 13), .ref (y + 14), .ref (y + 15), .ref (y + 16), .int 0, .long (-1), .ref (y + 17), .ref (y + 18), .ref (y + 19), .ref (y + 20), .ref (y + 21), .ref (y + 22), .int 0, .ref (y + 23), .ref (y + 24), .int 0, .ref (y + 25), .int 0, .int 0, .int 0, .int (-1), .int 0, .int 0, .int 0, .long 0]) := ((fr1 y hxy).trans hy_0)
  refine z_callV (As := []) (rest := [.int 0]) B (m_X12_errorCode G l Φ1 sz1 y h_1 (Nat.le_trans hna (Nat.le_trans (Nat.le_add_right x 149) hxy))) (cwV 0 B.1.2.2.2.2 gL_law_X12_errorCode rfl rfl rfl (by decide +kernel) ⟨Nat.le_of_ble_eq_true rfl, Nat.le_of_ble_eq_true rfl⟩) h_1 rfl rfl rfl rfl (Nat.le_of_ble_eq_true rfl) dL_law_412 ⟨Nat.le_of_ble_eq_true rfl, Nat.le_of_ble_eq_true rfl⟩ (fun v2 Φ2 sz2 st2 hp2 hs2 => ?_)
  obtain ⟨rfl, ⟨fs1, hy1, hk1⟩, fr2⟩ := hp2
  replace hs2 : st2 = [.int 0, .int 0] := hs2
  subst st2
  refine z_icmp_eq (tgt := 2893) B dL_law_415 rfl (fun c_1 => ?_) (fun h9 => absurd (by decide) h9)
  refine z_lv [0, 1, 2, 3, 4, 5] rfl ?_
  refine z_widen (k := 178) (n := 20844) (Nat.le_of_ble_eq_true rfl) (Nat.le_of_ble_eq_true rfl) ?_
  exact hT _ _

set_option maxHeartbeats 4000000 in
set_option maxRecDepth 100000 in
theorem lc_4 {p9 : Program} {e9 : Env} {s9 : State} {m9 : MethodId} {a9 : Array Value} {w9 : List Frame} {t9 : Method} {k9 : Code} {Q9 : State → Prop} {nm9 : String} (G : EnvG) (l : Launch) (hl9 : l.stackTraces = false) (B : Bd p9 s9 m9 a9 t9 k9 G code 9 RL wsL_law ret nm9) (Φ : Hm) (sz : Nat) (b : Nat) (xs : Nat → Int32) (hX : va_X b 7 xs s9 s9.heap) (hbn : b < G.2.2.2) (x y o d : Nat)  (go : Nat → Int64) (gd : Nat → UInt64) (hna : G.2.2.2 ≤ x) (hxy : x + 149 ≤ y) (hyo : y + 26 ≤ o) (hyd : y + 26 ≤ d) (hod : o ≠ d) (hx_0 : Φ x = some (o_ 13 [.ref (x + 1), .ref (x + 3), .ref (x + 24), .ref (x + 46), .ref (x + 74), .ref (x + 80), .ref (x + 132), .ref (x + 121)])) (hx_24 : Φ (x + 24) = some (o_ 8 [.ref (x + 25), .int 0, .int (-1), .ref (x + 1), .int 0, .int 0, .int 0, .int 0])) (hy_0 : Φ y = some (o_ 14 [.int 0, .ref (y + 1), .ref (y + 2), .int 0, .int 1, .int 1, .int 0, .int 0, .ref (y + 3), .ref (y + 4), .int 0, .long 0, .ref (y + 5), .int 0, .int 0, .long 0, .long 0, .long 0, .long 0, .ref (y + 6), .ref (y + 7), .int 0, .ref (y + 8), .int 0, .ref (y + 9), .ref (y + 10), .int 0, .ref (y + 11), .ref (y + 12), .ref (y + 13), .ref (y + 14), .ref (y + 15), .ref (y + 16), .int 0, .long (-1), .ref (y + 17), .ref (y + 18), .ref (y + 19), .ref (y + 20), .ref (y + 21), .ref (y + 22), .int 0, .ref (y + 23), .ref (y + 24), .int 0, .ref (y + 25), .int 0, .int 0, .int 0, .int (-1), .int 0, .int 0, .int 0, .long 0]))  (hT : ∀ (Φ1 : Hm) (sz1 : Nat), Z p9 l e9 room_1 s9 m9 a9 w9 t9 k9 Q9 G 9 2893 [(5, .int 0), (4, .ref d), (3, .ref o), (2, .ref y), (1, .ref x), (0, .ref b)] [] Φ1 sz1 178 20844) : Z p9 l e9 room_1 s9 m9 a9 w9 t9 k9 Q9 G 9 420 [(5, .int 0), (4, .ref d), (3, .ref o), (2, .ref y), (1, .ref x), (0, .ref b)] [] Φ sz 177 20838 := by
  refine z_aload_n B dL_law_420 rfl 4 rfl ?_
  refine z_callV (As := []) (rest := []) B (f_X11_errorPosition G l Φ sz x hx_0 hx_24) (cwV 0 B.1.2.2.2.2 gL_law_X11_errorPosition rfl rfl rfl (by decide +kernel) ⟨Nat.le_of_ble_eq_true rfl, Nat.le_of_ble_eq_true rfl⟩) hx_0 rfl rfl rfl rfl (Nat.le_of_ble_eq_true rfl) dL_law_421 ⟨Nat.le_of_ble_eq_true rfl, Nat.le_of_ble_eq_true rfl⟩ (fun v1 Φ1 sz1 st1 hp1 hs1 => ?_)
  obtain ⟨rfl, fr1⟩ := hp1
  replace hs1 : st1 = [.int (-1)] := hs1
  subst st1
  refine z_aload_n B dL_law_424 rfl 3 rfl ?_
  have h_1 : Φ1 y = some (o_ 14 [.int 0, .ref (y + 1), .ref (y + 2), .int 0, .int 1, .int 1, .int 0, .int 0, .ref (y + 3), .ref (y + 4), .int 0, .long 0, .ref (y + 5), .int 0, .int 0, .long 0, .long 0, .long 0, .long 0, .ref (y + 6), .ref (y + 7), .int 0, .ref (y + 8), .int 0, .ref (y + 9), .ref (y + 10), .int 0, .ref (y + 11), .ref (y + 12), .ref (y + 13), .ref (y + 14), .ref (y + 15), .ref (y + 16), .int 0, .long (-1), .ref (y + 17), .ref (y + 18), .ref (y + 19), .ref (y + 20), .ref (y + 21), .ref (y + 22), .int 0, .ref (y + 23), .ref (y + 24), .int 0, .ref (y + 25), .int 0, .int 0, .int 0, .int (-1), .int 0, .int 0, .int 0, .long 0]) := ((fr1 y hxy).trans hy_0)
  refine z_callV (As := []) (rest := [.int (-1)]) B (m_X12_errorPosition G l Φ1 sz1 y h_1 (Nat.le_trans hna (Nat.le_trans (Nat.le_add_right x 149) hxy))) (cwV 0 B.1.2.2.2.2 gL_law_X12_errorPosition rfl rfl rfl (by decide +kernel) ⟨Nat.le_of_ble_eq_true rfl, Nat.le_of_ble_eq_true rfl⟩) h_1 rfl rfl rfl rfl (Nat.le_of_ble_eq_true rfl) dL_law_425 ⟨Nat.le_of_ble_eq_true rfl, Nat.le_of_ble_eq_true rfl⟩ (fun v2 Φ2 sz2 st2 hp2 hs2 => ?_)
  obtain ⟨rfl, ⟨fs1, hy1, hk1⟩, fr2⟩ := hp2
  replace hs2 : st2 = [.int (-1), .int (-1)] := hs2
  subst st2
  refine z_icmp_eq (tgt := 2893) B dL_law_428 rfl (fun c_1 => ?_) (fun h9 => absurd (by decide) h9)
  refine z_lv [0, 1, 2, 3, 4, 5] rfl ?_
  refine z_widen (k := 178) (n := 20844) (Nat.le_of_ble_eq_true rfl) (Nat.le_of_ble_eq_true rfl) ?_
  exact hT _ _

set_option maxHeartbeats 4000000 in
set_option maxRecDepth 100000 in
theorem lc_5 {p9 : Program} {e9 : Env} {s9 : State} {m9 : MethodId} {a9 : Array Value} {w9 : List Frame} {t9 : Method} {k9 : Code} {Q9 : State → Prop} {nm9 : String} (G : EnvG) (l : Launch) (hl9 : l.stackTraces = false) (B : Bd p9 s9 m9 a9 t9 k9 G code 9 RL wsL_law ret nm9) (Φ : Hm) (sz : Nat) (b : Nat) (xs : Nat → Int32) (hX : va_X b 7 xs s9 s9.heap) (hbn : b < G.2.2.2) (x y o d : Nat)  (go : Nat → Int64) (gd : Nat → UInt64) (hna : G.2.2.2 ≤ x) (hxy : x + 149 ≤ y) (hyo : y + 26 ≤ o) (hyd : y + 26 ≤ d) (hod : o ≠ d) (hx_0 : Φ x = some (o_ 13 [.ref (x + 1), .ref (x + 3), .ref (x + 24), .ref (x + 46), .ref (x + 74), .ref (x + 80), .ref (x + 132), .ref (x + 121)])) (hx_80 : Φ (x + 80) = some (o_ 4 [.ref (x + 3), .ref (x + 74), .ref (x + 81), .ref (x + 95), .int 0, .int 1, .int 1, .int 0, .int 0, .int 0, .long 0, .long 0, .long 0])) (hy_0 : Φ y = some (o_ 14 [.int 0, .ref (y + 1), .ref (y + 2), .int 0, .int 1, .int 1, .int 0, .int 0, .ref (y + 3), .ref (y + 4), .int 0, .long 0, .ref (y + 5), .int 0, .int 0, .long 0, .long 0, .long 0, .long 0, .ref (y + 6), .ref (y + 7), .int 0, .ref (y + 8), .int 0, .ref (y + 9), .ref (y + 10), .int 0, .ref (y + 11), .ref (y + 12), .ref (y + 13), .ref (y + 14), .ref (y + 15), .ref (y + 16), .int 0, .long (-1), .ref (y + 17), .ref (y + 18), .ref (y + 19), .ref (y + 20), .ref (y + 21), .ref (y + 22), .int 0, .ref (y + 23), .ref (y + 24), .int 0, .ref (y + 25), .int 0, .int 0, .int 0, .int (-1), .int 0, .int 0, .int 0, .long 0]))  (hT : ∀ (Φ1 : Hm) (sz1 : Nat), Z p9 l e9 room_1 s9 m9 a9 w9 t9 k9 Q9 G 9 2893 [(5, .int 0), (4, .ref d), (3, .ref o), (2, .ref y), (1, .ref x), (0, .ref b)] [] Φ1 sz1 178 20844) : Z p9 l e9 room_1 s9 m9 a9 w9 t9 k9 Q9 G 9 433 [(5, .int 0), (4, .ref d), (3, .ref o), (2, .ref y), (1, .ref x), (0, .ref b)] [] Φ sz 177 20838 := by
  refine z_aload_n B dL_law_433 rfl 4 rfl ?_
  refine z_callV (As := []) (rest := []) B (f_X11_now G l Φ sz x hx_0 hx_80) (cwV 0 B.1.2.2.2.2 gL_law_X11_now rfl rfl rfl (by decide +kernel) ⟨Nat.le_of_ble_eq_true rfl, Nat.le_of_ble_eq_true rfl⟩) hx_0 rfl rfl rfl rfl (Nat.le_of_ble_eq_true rfl) dL_law_434 ⟨Nat.le_of_ble_eq_true rfl, Nat.le_of_ble_eq_true rfl⟩ (fun v1 Φ1 sz1 st1 hp1 hs1 => ?_)
  obtain ⟨rfl, fr1⟩ := hp1
  replace hs1 : st1 = [.int 0] := hs1
  subst st1
  refine z_aload_n B dL_law_437 rfl 3 rfl ?_
  have h_1 : Φ1 y = some (o_ 14 [.int 0, .ref (y + 1), .ref (y + 2), .int 0, .int 1, .int 1, .int 0, .int 0, .ref (y + 3), .ref (y + 4), .int 0, .long 0, .ref (y + 5), .int 0, .int 0, .long 0, .long 0, .long 0, .long 0, .ref (y + 6), .ref (y + 7), .int 0, .ref (y + 8), .int 0, .ref (y + 9), .ref (y + 10), .int 0, .ref (y + 11), .ref (y + 12), .ref (y + 13), .ref (y + 14), .ref (y + 15), .ref (y + 16), .int 0, .long (-1), .ref (y + 17), .ref (y + 18), .ref (y + 19), .ref (y + 20), .ref (y + 21), .ref (y + 22), .int 0, .ref (y + 23), .ref (y + 24), .int 0, .ref (y + 25), .int 0, .int 0, .int 0, .int (-1), .int 0, .int 0, .int 0, .long 0]) := ((fr1 y hxy).trans hy_0)
  refine z_callV (As := []) (rest := [.int 0]) B (m_X12_now G l Φ1 sz1 y h_1 (Nat.le_trans hna (Nat.le_trans (Nat.le_add_right x 149) hxy))) (cwV 0 B.1.2.2.2.2 gL_law_X12_now rfl rfl rfl (by decide +kernel) ⟨Nat.le_of_ble_eq_true rfl, Nat.le_of_ble_eq_true rfl⟩) h_1 rfl rfl rfl rfl (Nat.le_of_ble_eq_true rfl) dL_law_438 ⟨Nat.le_of_ble_eq_true rfl, Nat.le_of_ble_eq_true rfl⟩ (fun v2 Φ2 sz2 st2 hp2 hs2 => ?_)
  obtain ⟨rfl, ⟨fs1, hy1, hk1⟩, fr2⟩ := hp2
  replace hs2 : st2 = [.int 0, .int 0] := hs2
  subst st2
  refine z_icmp_eq (tgt := 2893) B dL_law_441 rfl (fun c_1 => ?_) (fun h9 => absurd (by decide) h9)
  refine z_lv [0, 1, 2, 3, 4, 5] rfl ?_
  refine z_widen (k := 178) (n := 20844) (Nat.le_of_ble_eq_true rfl) (Nat.le_of_ble_eq_true rfl) ?_
  exact hT _ _

set_option maxHeartbeats 4000000 in
set_option maxRecDepth 100000 in
theorem lc_9 {p9 : Program} {e9 : Env} {s9 : State} {m9 : MethodId} {a9 : Array Value} {w9 : List Frame} {t9 : Method} {k9 : Code} {Q9 : State → Prop} {nm9 : String} (G : EnvG) (l : Launch) (hl9 : l.stackTraces = false) (B : Bd p9 s9 m9 a9 t9 k9 G code 9 RL wsL_law ret nm9) (Φ : Hm) (sz : Nat) (b : Nat) (xs : Nat → Int32) (hX : va_X b 7 xs s9 s9.heap) (hbn : b < G.2.2.2) (x y o d : Nat)  (go : Nat → Int64) (gd : Nat → UInt64) (hna : G.2.2.2 ≤ x) (hxy : x + 149 ≤ y) (hyo : y + 26 ≤ o) (hyd : y + 26 ≤ d) (hod : o ≠ d) (hx_0 : Φ x = some (o_ 13 [.ref (x + 1), .ref (x + 3), .ref (x + 24), .ref (x + 46), .ref (x + 74), .ref (x + 80), .ref (x + 132), .ref (x + 121)])) (hx_74 : Φ (x + 74) = some (o_ 10 [.ref (x + 3), .ref (x + 46), .ref (x + 75), .ref (x + 77), .int 0, .ref (x + 78), .ref (x + 79), .int 0, .long 0, .int 0])) (hx_80 : Φ (x + 80) = some (o_ 4 [.ref (x + 3), .ref (x + 74), .ref (x + 81), .ref (x + 95), .int 0, .int 1, .int 1, .int 0, .int 0, .int 0, .long 0, .long 0, .long 0])) (hx_81 : Φ (x + 81) = some (o_ 6 [.ref (x + 82), .int 0])) (hy_0 : Φ y = some (o_ 14 [.int 0, .ref (y + 1), .ref (y + 2), .int 0, .int 1, .int 1, .int 0, .int 0, .ref (y + 3), .ref (y + 4), .int 0, .long 0, .ref (y + 5), .int 0, .int 0, .long 0, .long 0, .long 0, .long 0, .ref (y + 6), .ref (y + 7), .int 0, .ref (y + 8), .int 0, .ref (y + 9), .ref (y + 10), .int 0, .ref (y + 11), .ref (y + 12), .ref (y + 13), .ref (y + 14), .ref (y + 15), .ref (y + 16), .int 0, .long (-1), .ref (y + 17), .ref (y + 18), .ref (y + 19), .ref (y + 20), .ref (y + 21), .ref (y + 22), .int 0, .ref (y + 23), .ref (y + 24), .int 0, .ref (y + 25), .int 0, .int 0, .int 0, .int (-1), .int 0, .int 0, .int 0, .long 0]))  (hT : ∀ (Φ1 : Hm) (sz1 : Nat), Z p9 l e9 room_1 s9 m9 a9 w9 t9 k9 Q9 G 9 2893 [(5, .int 0), (4, .ref d), (3, .ref o), (2, .ref y), (1, .ref x), (0, .ref b)] [] Φ1 sz1 178 20844) : Z p9 l e9 room_1 s9 m9 a9 w9 t9 k9 Q9 G 9 731 [(5, .int 0), (4, .ref d), (3, .ref o), (2, .ref y), (1, .ref x), (0, .ref b)] [] Φ sz 177 20838 := by
  refine z_aload_n B dL_law_731 rfl 4 rfl ?_
  refine z_callV (As := []) (rest := []) B (f_X11_flush G l Φ sz x hx_0 hx_74 hx_80 hx_81) (cwV 0 B.1.2.2.2.2 gL_law_X11_flush rfl rfl rfl (by decide +kernel) ⟨Nat.le_of_ble_eq_true rfl, Nat.le_of_ble_eq_true rfl⟩) hx_0 rfl rfl rfl rfl (Nat.le_of_ble_eq_true rfl) dL_law_732 ⟨Nat.le_of_ble_eq_true rfl, Nat.le_of_ble_eq_true rfl⟩ (fun v1 Φ1 sz1 st1 hp1 hs1 => ?_)
  obtain ⟨rfl, fr1⟩ := hp1
  replace hs1 : st1 = [.int 0] := hs1
  subst st1
  refine z_aload_n B dL_law_735 rfl 3 rfl ?_
  have h_1 : Φ1 y = some (o_ 14 [.int 0, .ref (y + 1), .ref (y + 2), .int 0, .int 1, .int 1, .int 0, .int 0, .ref (y + 3), .ref (y + 4), .int 0, .long 0, .ref (y + 5), .int 0, .int 0, .long 0, .long 0, .long 0, .long 0, .ref (y + 6), .ref (y + 7), .int 0, .ref (y + 8), .int 0, .ref (y + 9), .ref (y + 10), .int 0, .ref (y + 11), .ref (y + 12), .ref (y + 13), .ref (y + 14), .ref (y + 15), .ref (y + 16), .int 0, .long (-1), .ref (y + 17), .ref (y + 18), .ref (y + 19), .ref (y + 20), .ref (y + 21), .ref (y + 22), .int 0, .ref (y + 23), .ref (y + 24), .int 0, .ref (y + 25), .int 0, .int 0, .int 0, .int (-1), .int 0, .int 0, .int 0, .long 0]) := ((fr1 y hxy).trans hy_0)
  refine z_callV (As := []) (rest := [.int 0]) B (m_X12_flush G l Φ1 sz1 y h_1 (Nat.le_trans hna (Nat.le_trans (Nat.le_add_right x 149) hxy))) (cwV 0 B.1.2.2.2.2 gL_law_X12_flush rfl rfl rfl (by decide +kernel) ⟨Nat.le_of_ble_eq_true rfl, Nat.le_of_ble_eq_true rfl⟩) h_1 rfl rfl rfl rfl (Nat.le_of_ble_eq_true rfl) dL_law_736 ⟨Nat.le_of_ble_eq_true rfl, Nat.le_of_ble_eq_true rfl⟩ (fun v2 Φ2 sz2 st2 hp2 hs2 => ?_)
  obtain ⟨rfl, ⟨fs1, hy1, hk1⟩, fr2⟩ := hp2
  replace hs2 : st2 = [.int 0, .int 0] := hs2
  subst st2
  refine z_icmp_eq (tgt := 2893) B dL_law_739 rfl (fun c_1 => ?_) (fun h9 => absurd (by decide) h9)
  refine z_lv [0, 1, 2, 3, 4, 5] rfl ?_
  refine z_widen (k := 178) (n := 20844) (Nat.le_of_ble_eq_true rfl) (Nat.le_of_ble_eq_true rfl) ?_
  exact hT _ _

set_option maxHeartbeats 4000000 in
set_option maxRecDepth 100000 in
theorem lc_10 {p9 : Program} {e9 : Env} {s9 : State} {m9 : MethodId} {a9 : Array Value} {w9 : List Frame} {t9 : Method} {k9 : Code} {Q9 : State → Prop} {nm9 : String} (G : EnvG) (l : Launch) (hl9 : l.stackTraces = false) (B : Bd p9 s9 m9 a9 t9 k9 G code 9 RL wsL_law ret nm9) (Φ : Hm) (sz : Nat) (b : Nat) (xs : Nat → Int32) (hX : va_X b 7 xs s9 s9.heap) (hbn : b < G.2.2.2) (x y o d : Nat)  (go : Nat → Int64) (gd : Nat → UInt64) (hna : G.2.2.2 ≤ x) (hxy : x + 149 ≤ y) (hyo : y + 26 ≤ o) (hyd : y + 26 ≤ d) (hod : o ≠ d) (hx_0 : Φ x = some (o_ 13 [.ref (x + 1), .ref (x + 3), .ref (x + 24), .ref (x + 46), .ref (x + 74), .ref (x + 80), .ref (x + 132), .ref (x + 121)])) (hx_80 : Φ (x + 80) = some (o_ 4 [.ref (x + 3), .ref (x + 74), .ref (x + 81), .ref (x + 95), .int 0, .int 1, .int 1, .int 0, .int 0, .int 0, .long 0, .long 0, .long 0])) (hx_81 : Φ (x + 81) = some (o_ 6 [.ref (x + 82), .int 0])) (hy_0 : Φ y = some (o_ 14 [.int 0, .ref (y + 1), .ref (y + 2), .int 0, .int 1, .int 1, .int 0, .int 0, .ref (y + 3), .ref (y + 4), .int 0, .long 0, .ref (y + 5), .int 0, .int 0, .long 0, .long 0, .long 0, .long 0, .ref (y + 6), .ref (y + 7), .int 0, .ref (y + 8), .int 0, .ref (y + 9), .ref (y + 10), .int 0, .ref (y + 11), .ref (y + 12), .ref (y + 13), .ref (y + 14), .ref (y + 15), .ref (y + 16), .int 0, .long (-1), .ref (y + 17), .ref (y + 18), .ref (y + 19), .ref (y + 20), .ref (y + 21), .ref (y + 22), .int 0, .ref (y + 23), .ref (y + 24), .int 0, .ref (y + 25), .int 0, .int 0, .int 0, .int (-1), .int 0, .int 0, .int 0, .long 0]))  (hT : ∀ (Φ1 : Hm) (sz1 : Nat), Z p9 l e9 room_1 s9 m9 a9 w9 t9 k9 Q9 G 9 2893 [(5, .int 0), (4, .ref d), (3, .ref o), (2, .ref y), (1, .ref x), (0, .ref b)] [] Φ1 sz1 178 20844) : Z p9 l e9 room_1 s9 m9 a9 w9 t9 k9 Q9 G 9 744 [(5, .int 0), (4, .ref d), (3, .ref o), (2, .ref y), (1, .ref x), (0, .ref b)] [] Φ sz 177 20838 := by
  refine z_aload_n B dL_law_744 rfl 4 rfl ?_
  refine z_callV (As := []) (rest := []) B (f_X11_cacheSize G l Φ sz x hx_0 hx_80 hx_81) (cwV 0 B.1.2.2.2.2 gL_law_X11_cacheSize rfl rfl rfl (by decide +kernel) ⟨Nat.le_of_ble_eq_true rfl, Nat.le_of_ble_eq_true rfl⟩) hx_0 rfl rfl rfl rfl (Nat.le_of_ble_eq_true rfl) dL_law_745 ⟨Nat.le_of_ble_eq_true rfl, Nat.le_of_ble_eq_true rfl⟩ (fun v1 Φ1 sz1 st1 hp1 hs1 => ?_)
  obtain ⟨rfl, fr1⟩ := hp1
  replace hs1 : st1 = [.int 0] := hs1
  subst st1
  refine z_aload_n B dL_law_748 rfl 3 rfl ?_
  have h_1 : Φ1 y = some (o_ 14 [.int 0, .ref (y + 1), .ref (y + 2), .int 0, .int 1, .int 1, .int 0, .int 0, .ref (y + 3), .ref (y + 4), .int 0, .long 0, .ref (y + 5), .int 0, .int 0, .long 0, .long 0, .long 0, .long 0, .ref (y + 6), .ref (y + 7), .int 0, .ref (y + 8), .int 0, .ref (y + 9), .ref (y + 10), .int 0, .ref (y + 11), .ref (y + 12), .ref (y + 13), .ref (y + 14), .ref (y + 15), .ref (y + 16), .int 0, .long (-1), .ref (y + 17), .ref (y + 18), .ref (y + 19), .ref (y + 20), .ref (y + 21), .ref (y + 22), .int 0, .ref (y + 23), .ref (y + 24), .int 0, .ref (y + 25), .int 0, .int 0, .int 0, .int (-1), .int 0, .int 0, .int 0, .long 0]) := ((fr1 y hxy).trans hy_0)
  refine z_callV (As := []) (rest := [.int 0]) B (m_X12_cacheSize G l Φ1 sz1 y h_1 (Nat.le_trans hna (Nat.le_trans (Nat.le_add_right x 149) hxy))) (cwV 0 B.1.2.2.2.2 gL_law_X12_cacheSize rfl rfl rfl (by decide +kernel) ⟨Nat.le_of_ble_eq_true rfl, Nat.le_of_ble_eq_true rfl⟩) h_1 rfl rfl rfl rfl (Nat.le_of_ble_eq_true rfl) dL_law_749 ⟨Nat.le_of_ble_eq_true rfl, Nat.le_of_ble_eq_true rfl⟩ (fun v2 Φ2 sz2 st2 hp2 hs2 => ?_)
  obtain ⟨rfl, ⟨fs1, hy1, hk1⟩, fr2⟩ := hp2
  replace hs2 : st2 = [.int 0, .int 0] := hs2
  subst st2
  refine z_icmp_eq (tgt := 2893) B dL_law_752 rfl (fun c_1 => ?_) (fun h9 => absurd (by decide) h9)
  refine z_lv [0, 1, 2, 3, 4, 5] rfl ?_
  refine z_widen (k := 178) (n := 20844) (Nat.le_of_ble_eq_true rfl) (Nat.le_of_ble_eq_true rfl) ?_
  exact hT _ _

set_option maxHeartbeats 4000000 in
set_option maxRecDepth 100000 in
theorem lc_12 {p9 : Program} {e9 : Env} {s9 : State} {m9 : MethodId} {a9 : Array Value} {w9 : List Frame} {t9 : Method} {k9 : Code} {Q9 : State → Prop} {nm9 : String} (G : EnvG) (l : Launch) (hl9 : l.stackTraces = false) (B : Bd p9 s9 m9 a9 t9 k9 G code 9 RL wsL_law ret nm9) (Φ : Hm) (sz : Nat) (b : Nat) (xs : Nat → Int32) (hX : va_X b 7 xs s9 s9.heap) (hbn : b < G.2.2.2) (x y o d : Nat)  (go : Nat → Int64) (gd : Nat → UInt64) (hna : G.2.2.2 ≤ x) (hxy : x + 149 ≤ y) (hyo : y + 26 ≤ o) (hyd : y + 26 ≤ d) (hod : o ≠ d) (hx_0 : Φ x = some (o_ 13 [.ref (x + 1), .ref (x + 3), .ref (x + 24), .ref (x + 46), .ref (x + 74), .ref (x + 80), .ref (x + 132), .ref (x + 121)])) (hx_80 : Φ (x + 80) = some (o_ 4 [.ref (x + 3), .ref (x + 74), .ref (x + 81), .ref (x + 95), .int 0, .int 1, .int 1, .int 0, .int 0, .int 0, .long 0, .long 0, .long 0])) (hy_0 : Φ y = some (o_ 14 [.int 0, .ref (y + 1), .ref (y + 2), .int 0, .int 1, .int 1, .int 0, .int 0, .ref (y + 3), .ref (y + 4), .int 0, .long 0, .ref (y + 5), .int 0, .int 0, .long 0, .long 0, .long 0, .long 0, .ref (y + 6), .ref (y + 7), .int 0, .ref (y + 8), .int 0, .ref (y + 9), .ref (y + 10), .int 0, .ref (y + 11), .ref (y + 12), .ref (y + 13), .ref (y + 14), .ref (y + 15), .ref (y + 16), .int 0, .long (-1), .ref (y + 17), .ref (y + 18), .ref (y + 19), .ref (y + 20), .ref (y + 21), .ref (y + 22), .int 0, .ref (y + 23), .ref (y + 24), .int 0, .ref (y + 25), .int 0, .int 0, .int 0, .int (-1), .int 0, .int 0, .int 0, .long 0]))  (hT : ∀ (Φ1 : Hm) (sz1 : Nat), Z p9 l e9 room_1 s9 m9 a9 w9 t9 k9 Q9 G 9 2893 [(5, .int 0), (4, .ref d), (3, .ref o), (2, .ref y), (1, .ref x), (0, .ref b)] [] Φ1 sz1 178 20844) : Z p9 l e9 room_1 s9 m9 a9 w9 t9 k9 Q9 G 9 824 [(5, .int 0), (4, .ref d), (3, .ref o), (2, .ref y), (1, .ref x), (0, .ref b)] [] Φ sz 177 20838 := by
  refine z_aload_n B dL_law_824 rfl 4 rfl ?_
  refine z_callV (As := []) (rest := []) B (f_X11_rate G l Φ sz x hx_0 hx_80) (cwV 0 B.1.2.2.2.2 gL_law_X11_rate rfl rfl rfl (by decide +kernel) ⟨Nat.le_of_ble_eq_true rfl, Nat.le_of_ble_eq_true rfl⟩) hx_0 rfl rfl rfl rfl (Nat.le_of_ble_eq_true rfl) dL_law_825 ⟨Nat.le_of_ble_eq_true rfl, Nat.le_of_ble_eq_true rfl⟩ (fun v1 Φ1 sz1 st1 hp1 hs1 => ?_)
  obtain ⟨rfl, fr1⟩ := hp1
  replace hs1 : st1 = [.int 1] := hs1
  subst st1
  refine z_aload_n B dL_law_828 rfl 3 rfl ?_
  have h_1 : Φ1 y = some (o_ 14 [.int 0, .ref (y + 1), .ref (y + 2), .int 0, .int 1, .int 1, .int 0, .int 0, .ref (y + 3), .ref (y + 4), .int 0, .long 0, .ref (y + 5), .int 0, .int 0, .long 0, .long 0, .long 0, .long 0, .ref (y + 6), .ref (y + 7), .int 0, .ref (y + 8), .int 0, .ref (y + 9), .ref (y + 10), .int 0, .ref (y + 11), .ref (y + 12), .ref (y + 13), .ref (y + 14), .ref (y + 15), .ref (y + 16), .int 0, .long (-1), .ref (y + 17), .ref (y + 18), .ref (y + 19), .ref (y + 20), .ref (y + 21), .ref (y + 22), .int 0, .ref (y + 23), .ref (y + 24), .int 0, .ref (y + 25), .int 0, .int 0, .int 0, .int (-1), .int 0, .int 0, .int 0, .long 0]) := ((fr1 y hxy).trans hy_0)
  refine z_callV (As := []) (rest := [.int 1]) B (m_X12_rate G l Φ1 sz1 y h_1 (Nat.le_trans hna (Nat.le_trans (Nat.le_add_right x 149) hxy))) (cwV 0 B.1.2.2.2.2 gL_law_X12_rate rfl rfl rfl (by decide +kernel) ⟨Nat.le_of_ble_eq_true rfl, Nat.le_of_ble_eq_true rfl⟩) h_1 rfl rfl rfl rfl (Nat.le_of_ble_eq_true rfl) dL_law_829 ⟨Nat.le_of_ble_eq_true rfl, Nat.le_of_ble_eq_true rfl⟩ (fun v2 Φ2 sz2 st2 hp2 hs2 => ?_)
  obtain ⟨rfl, ⟨fs1, hy1, hk1⟩, fr2⟩ := hp2
  replace hs2 : st2 = [.int 1, .int 1] := hs2
  subst st2
  refine z_icmp_eq (tgt := 2893) B dL_law_832 rfl (fun c_1 => ?_) (fun h9 => absurd (by decide) h9)
  refine z_lv [0, 1, 2, 3, 4, 5] rfl ?_
  refine z_widen (k := 178) (n := 20844) (Nat.le_of_ble_eq_true rfl) (Nat.le_of_ble_eq_true rfl) ?_
  exact hT _ _

set_option maxHeartbeats 4000000 in
set_option maxRecDepth 100000 in
theorem lc_13 {p9 : Program} {e9 : Env} {s9 : State} {m9 : MethodId} {a9 : Array Value} {w9 : List Frame} {t9 : Method} {k9 : Code} {Q9 : State → Prop} {nm9 : String} (G : EnvG) (l : Launch) (hl9 : l.stackTraces = false) (B : Bd p9 s9 m9 a9 t9 k9 G code 9 RL wsL_law ret nm9) (Φ : Hm) (sz : Nat) (b : Nat) (xs : Nat → Int32) (hX : va_X b 7 xs s9 s9.heap) (hbn : b < G.2.2.2) (x y o d : Nat)  (go : Nat → Int64) (gd : Nat → UInt64) (hna : G.2.2.2 ≤ x) (hxy : x + 149 ≤ y) (hyo : y + 26 ≤ o) (hyd : y + 26 ≤ d) (hod : o ≠ d) (hx_0 : Φ x = some (o_ 13 [.ref (x + 1), .ref (x + 3), .ref (x + 24), .ref (x + 46), .ref (x + 74), .ref (x + 80), .ref (x + 132), .ref (x + 121)])) (hx_80 : Φ (x + 80) = some (o_ 4 [.ref (x + 3), .ref (x + 74), .ref (x + 81), .ref (x + 95), .int 0, .int 1, .int 1, .int 0, .int 0, .int 0, .long 0, .long 0, .long 0])) (hy_0 : Φ y = some (o_ 14 [.int 0, .ref (y + 1), .ref (y + 2), .int 0, .int 1, .int 1, .int 0, .int 0, .ref (y + 3), .ref (y + 4), .int 0, .long 0, .ref (y + 5), .int 0, .int 0, .long 0, .long 0, .long 0, .long 0, .ref (y + 6), .ref (y + 7), .int 0, .ref (y + 8), .int 0, .ref (y + 9), .ref (y + 10), .int 0, .ref (y + 11), .ref (y + 12), .ref (y + 13), .ref (y + 14), .ref (y + 15), .ref (y + 16), .int 0, .long (-1), .ref (y + 17), .ref (y + 18), .ref (y + 19), .ref (y + 20), .ref (y + 21), .ref (y + 22), .int 0, .ref (y + 23), .ref (y + 24), .int 0, .ref (y + 25), .int 0, .int 0, .int 0, .int (-1), .int 0, .int 0, .int 0, .long 0]))  (hT : ∀ (Φ1 : Hm) (sz1 : Nat), Z p9 l e9 room_1 s9 m9 a9 w9 t9 k9 Q9 G 9 2893 [(5, .int 0), (4, .ref d), (3, .ref o), (2, .ref y), (1, .ref x), (0, .ref b)] [] Φ1 sz1 178 20844) : Z p9 l e9 room_1 s9 m9 a9 w9 t9 k9 Q9 G 9 837 [(5, .int 0), (4, .ref d), (3, .ref o), (2, .ref y), (1, .ref x), (0, .ref b)] [] Φ sz 177 20838 := by
  refine z_aload_n B dL_law_837 rfl 4 rfl ?_
  refine z_callV (As := []) (rest := []) B (f_X11_rateBits G l Φ sz x hx_0 hx_80) (cwV 0 B.1.2.2.2.2 gL_law_X11_rateBits rfl rfl rfl (by decide +kernel) ⟨Nat.le_of_ble_eq_true rfl, Nat.le_of_ble_eq_true rfl⟩) hx_0 rfl rfl rfl rfl (Nat.le_of_ble_eq_true rfl) dL_law_838 ⟨Nat.le_of_ble_eq_true rfl, Nat.le_of_ble_eq_true rfl⟩ (fun v1 Φ1 sz1 st1 hp1 hs1 => ?_)
  obtain ⟨rfl, fr1⟩ := hp1
  replace hs1 : st1 = [.int 1065353216] := hs1
  subst st1
  refine z_aload_n B dL_law_841 rfl 3 rfl ?_
  have h_1 : Φ1 y = some (o_ 14 [.int 0, .ref (y + 1), .ref (y + 2), .int 0, .int 1, .int 1, .int 0, .int 0, .ref (y + 3), .ref (y + 4), .int 0, .long 0, .ref (y + 5), .int 0, .int 0, .long 0, .long 0, .long 0, .long 0, .ref (y + 6), .ref (y + 7), .int 0, .ref (y + 8), .int 0, .ref (y + 9), .ref (y + 10), .int 0, .ref (y + 11), .ref (y + 12), .ref (y + 13), .ref (y + 14), .ref (y + 15), .ref (y + 16), .int 0, .long (-1), .ref (y + 17), .ref (y + 18), .ref (y + 19), .ref (y + 20), .ref (y + 21), .ref (y + 22), .int 0, .ref (y + 23), .ref (y + 24), .int 0, .ref (y + 25), .int 0, .int 0, .int 0, .int (-1), .int 0, .int 0, .int 0, .long 0]) := ((fr1 y hxy).trans hy_0)
  refine z_callV (As := []) (rest := [.int 1065353216]) B (m_X12_rateBits G l Φ1 sz1 y h_1 (Nat.le_trans hna (Nat.le_trans (Nat.le_add_right x 149) hxy))) (cwV 0 B.1.2.2.2.2 gL_law_X12_rateBits rfl rfl rfl (by decide +kernel) ⟨Nat.le_of_ble_eq_true rfl, Nat.le_of_ble_eq_true rfl⟩) h_1 rfl rfl rfl rfl (Nat.le_of_ble_eq_true rfl) dL_law_842 ⟨Nat.le_of_ble_eq_true rfl, Nat.le_of_ble_eq_true rfl⟩ (fun v2 Φ2 sz2 st2 hp2 hs2 => ?_)
  obtain ⟨rfl, ⟨fs1, hy1, hk1⟩, fr2⟩ := hp2
  replace hs2 : st2 = [.int 1065353216, .int 1065353216] := hs2
  subst st2
  refine z_icmp_eq (tgt := 2893) B dL_law_845 rfl (fun c_1 => ?_) (fun h9 => absurd (by decide) h9)
  refine z_lv [0, 1, 2, 3, 4, 5] rfl ?_
  refine z_widen (k := 178) (n := 20844) (Nat.le_of_ble_eq_true rfl) (Nat.le_of_ble_eq_true rfl) ?_
  exact hT _ _

set_option maxHeartbeats 4000000 in
set_option maxRecDepth 100000 in
theorem lc_16 {p9 : Program} {e9 : Env} {s9 : State} {m9 : MethodId} {a9 : Array Value} {w9 : List Frame} {t9 : Method} {k9 : Code} {Q9 : State → Prop} {nm9 : String} (G : EnvG) (l : Launch) (hl9 : l.stackTraces = false) (B : Bd p9 s9 m9 a9 t9 k9 G code 9 RL wsL_law ret nm9) (Φ : Hm) (sz : Nat) (b : Nat) (xs : Nat → Int32) (hX : va_X b 7 xs s9 s9.heap) (hbn : b < G.2.2.2) (x y o d : Nat) (a1 : Int32) (go : Nat → Int64) (gd : Nat → UInt64) (hna : G.2.2.2 ≤ x) (hxy : x + 149 ≤ y) (hyo : y + 26 ≤ o) (hyd : y + 26 ≤ d) (hod : o ≠ d) (hx_0 : Φ x = some (o_ 13 [.ref (x + 1), .ref (x + 3), .ref (x + 24), .ref (x + 46), .ref (x + 74), .ref (x + 80), .ref (x + 132), .ref (x + 121)])) (hx_80 : Φ (x + 80) = some (o_ 4 [.ref (x + 3), .ref (x + 74), .ref (x + 81), .ref (x + 95), .int 0, .int 1, .int 1, .int 0, .int 0, .int 0, .long 0, .long 0, .long 0])) (hy_0 : Φ y = some (o_ 14 [.int 0, .ref (y + 1), .ref (y + 2), .int 0, .int 1, .int 1, .int 0, .int 0, .ref (y + 3), .ref (y + 4), .int 0, .long 0, .ref (y + 5), .int 0, .int 0, .long 0, .long 0, .long 0, .long 0, .ref (y + 6), .ref (y + 7), .int 0, .ref (y + 8), .int 0, .ref (y + 9), .ref (y + 10), .int 0, .ref (y + 11), .ref (y + 12), .ref (y + 13), .ref (y + 14), .ref (y + 15), .ref (y + 16), .int 0, .long (-1), .ref (y + 17), .ref (y + 18), .ref (y + 19), .ref (y + 20), .ref (y + 21), .ref (y + 22), .int 0, .ref (y + 23), .ref (y + 24), .int 0, .ref (y + 25), .int 0, .int 0, .int 0, .int (-1), .int 0, .int 0, .int 0, .long 0])) (hx1 : xs 1 = a1) (hT : ∀ (Φ1 : Hm) (sz1 : Nat), Z p9 l e9 room_1 s9 m9 a9 w9 t9 k9 Q9 G 9 2893 [(5, .int 0), (4, .ref d), (3, .ref o), (2, .ref y), (1, .ref x), (0, .ref b)] [] Φ1 sz1 178 20844) : Z p9 l e9 room_1 s9 m9 a9 w9 t9 k9 Q9 G 9 916 [(5, .int 0), (4, .ref d), (3, .ref o), (2, .ref y), (1, .ref x), (0, .ref b)] [] Φ sz 177 20838 := by
  refine z_aload_n B dL_law_916 rfl 4 rfl ?_
  refine z_aload_n B dL_law_917 rfl 5 rfl ?_
  refine z_iload B dL_law_918 0 rfl ?_
  refine z_iconst (v := 1) B dL_law_920 rfl ?_
  refine z_iadd B dL_law_921 ?_
  refine z_top (st1 := [.int 1, .ref b, .ref x]) (congrArg (fun w9 : Int32 => ([.int w9, .ref b, .ref x] : List Value)) (show (0 + 1 : Int32) = 1 by decide +kernel)) ?_
  refine z_sald B hX hbn (vin rfl) dL_law_922 ?_
  refine z_top (st1 := [.int a1, .ref x]) (congrArg (fun w9 : Int32 => ([.int w9, .ref x] : List Value)) (show xs (1 : Int32).toNatClampNeg = a1 from hx1)) ?_
  refine z_callV (As := [.int a1]) (rest := []) B (f_X11_setSeed G l Φ sz x a1 hx_0 hx_80 hna) (cwV 1 B.1.2.2.2.2 gL_law_X11_setSeed rfl rfl rfl (by decide +kernel) ⟨Nat.le_of_ble_eq_true rfl, Nat.le_of_ble_eq_true rfl⟩) hx_0 rfl rfl rfl rfl (Nat.le_of_ble_eq_true rfl) dL_law_923 ⟨Nat.le_of_ble_eq_true rfl, Nat.le_of_ble_eq_true rfl⟩ (fun v1 Φ1 sz1 st1 hp1 hs1 => ?_)
  obtain ⟨rfl, fr1⟩ := hp1
  replace hs1 : st1 = [.int (if a1 < 0 then 0 else 1)] := hs1
  subst st1
  refine z_aload_n B dL_law_926 rfl 3 rfl ?_
  refine z_aload_n B dL_law_927 rfl 5 rfl ?_
  refine z_iload B dL_law_928 0 rfl ?_
  refine z_iconst (v := 1) B dL_law_930 rfl ?_
  refine z_iadd B dL_law_931 ?_
  refine z_top (st1 := [.int 1, .ref b, .ref y, .int (if a1 < 0 then 0 else 1)]) (congrArg (fun w9 : Int32 => ([.int w9, .ref b, .ref y, .int (if a1 < 0 then 0 else 1)] : List Value)) (show (0 + 1 : Int32) = 1 by decide +kernel)) ?_
  refine z_sald B hX hbn (vin rfl) dL_law_932 ?_
  refine z_top (st1 := [.int a1, .ref y, .int (if a1 < 0 then 0 else 1)]) (congrArg (fun w9 : Int32 => ([.int w9, .ref y, .int (if a1 < 0 then 0 else 1)] : List Value)) (show xs (1 : Int32).toNatClampNeg = a1 from hx1)) ?_
  have h_1 : Φ1 y = some (o_ 14 [.int 0, .ref (y + 1), .ref (y + 2), .int 0, .int 1, .int 1, .int 0, .int 0, .ref (y + 3), .ref (y + 4), .int 0, .long 0, .ref (y + 5), .int 0, .int 0, .long 0, .long 0, .long 0, .long 0, .ref (y + 6), .ref (y + 7), .int 0, .ref (y + 8), .int 0, .ref (y + 9), .ref (y + 10), .int 0, .ref (y + 11), .ref (y + 12), .ref (y + 13), .ref (y + 14), .ref (y + 15), .ref (y + 16), .int 0, .long (-1), .ref (y + 17), .ref (y + 18), .ref (y + 19), .ref (y + 20), .ref (y + 21), .ref (y + 22), .int 0, .ref (y + 23), .ref (y + 24), .int 0, .ref (y + 25), .int 0, .int 0, .int 0, .int (-1), .int 0, .int 0, .int 0, .long 0]) := ((fr1 y hxy).trans hy_0)
  refine z_callV (As := [.int a1]) (rest := [.int (if a1 < 0 then 0 else 1)]) B (m_X12_setSeed G l Φ1 sz1 y a1 h_1 (Nat.le_trans hna (Nat.le_trans (Nat.le_add_right x 149) hxy))) (cwV 1 B.1.2.2.2.2 gL_law_X12_setSeed rfl rfl rfl (by decide +kernel) ⟨Nat.le_of_ble_eq_true rfl, Nat.le_of_ble_eq_true rfl⟩) h_1 rfl rfl rfl rfl (Nat.le_of_ble_eq_true rfl) dL_law_933 ⟨Nat.le_of_ble_eq_true rfl, Nat.le_of_ble_eq_true rfl⟩ (fun v2 Φ2 sz2 st2 hp2 hs2 => ?_)
  obtain ⟨rfl, ⟨fs1, hy1, hk1⟩, fr2⟩ := hp2
  replace hs2 : st2 = [.int (if a1 < 0 then 0 else 1), .int (if a1 < 0 then 0 else 1)] := hs2
  subst st2
  refine z_icmp_eq (tgt := 2893) B dL_law_936 rfl (fun c_1 => ?_) (fun h9 => absurd (Eq.refl _) h9)
  refine z_lv [0, 1, 2, 3, 4, 5] rfl ?_
  refine z_widen (k := 178) (n := 20844) (Nat.le_of_ble_eq_true rfl) (Nat.le_of_ble_eq_true rfl) ?_
  exact hT _ _

set_option maxHeartbeats 4000000 in
set_option maxRecDepth 100000 in
theorem lc_17 {p9 : Program} {e9 : Env} {s9 : State} {m9 : MethodId} {a9 : Array Value} {w9 : List Frame} {t9 : Method} {k9 : Code} {Q9 : State → Prop} {nm9 : String} (G : EnvG) (l : Launch) (hl9 : l.stackTraces = false) (B : Bd p9 s9 m9 a9 t9 k9 G code 9 RL wsL_law ret nm9) (Φ : Hm) (sz : Nat) (b : Nat) (xs : Nat → Int32) (hX : va_X b 7 xs s9 s9.heap) (hbn : b < G.2.2.2) (x y o d : Nat)  (go : Nat → Int64) (gd : Nat → UInt64) (hna : G.2.2.2 ≤ x) (hxy : x + 149 ≤ y) (hyo : y + 26 ≤ o) (hyd : y + 26 ≤ d) (hod : o ≠ d) (hx_0 : Φ x = some (o_ 13 [.ref (x + 1), .ref (x + 3), .ref (x + 24), .ref (x + 46), .ref (x + 74), .ref (x + 80), .ref (x + 132), .ref (x + 121)])) (hx_3 : Φ (x + 3) = some (o_ 3 [.ref (x + 4), .ref (x + 5), .ref (x + 6), .ref (x + 7), .int 1, .int 511])) (hy_0 : Φ y = some (o_ 14 [.int 0, .ref (y + 1), .ref (y + 2), .int 0, .int 1, .int 1, .int 0, .int 0, .ref (y + 3), .ref (y + 4), .int 0, .long 0, .ref (y + 5), .int 0, .int 0, .long 0, .long 0, .long 0, .long 0, .ref (y + 6), .ref (y + 7), .int 0, .ref (y + 8), .int 0, .ref (y + 9), .ref (y + 10), .int 0, .ref (y + 11), .ref (y + 12), .ref (y + 13), .ref (y + 14), .ref (y + 15), .ref (y + 16), .int 0, .long (-1), .ref (y + 17), .ref (y + 18), .ref (y + 19), .ref (y + 20), .ref (y + 21), .ref (y + 22), .int 0, .ref (y + 23), .ref (y + 24), .int 0, .ref (y + 25), .int 0, .int 0, .int 0, .int (-1), .int 0, .int 0, .int 0, .long 0])) (hy_2 : Φ (y + 2) = some (ai_ G 307 (upd (upd (upd (upd (upd (upd (upd (upd (upd (upd (upd (upd (upd (upd (upd (upd (upd (upd (upd (upd (upd (fun _ => 0) (0 : Int32).toNatClampNeg 1) (1 : Int32).toNatClampNeg 100) (2 : Int32).toNatClampNeg 1000) (3 : Int32).toNatClampNeg 100) (4 : Int32).toNatClampNeg 20) (5 : Int32).toNatClampNeg 1000) (6 : Int32).toNatClampNeg 5000) (7 : Int32).toNatClampNeg 512) (8 : Int32).toNatClampNeg 1) (9 : Int32).toNatClampNeg 511) (10 : Int32).toNatClampNeg 1) (11 : Int32).toNatClampNeg 9) (15 : Int32).toNatClampNeg 0) (16 : Int32).toNatClampNeg 1) (17 : Int32).toNatClampNeg 2) (18 : Int32).toNatClampNeg 3) (19 : Int32).toNatClampNeg 4) (20 : Int32).toNatClampNeg 5) (21 : Int32).toNatClampNeg 6) (22 : Int32).toNatClampNeg 7) (23 : Int32).toNatClampNeg 8)))  (hT : ∀ (Φ1 : Hm) (sz1 : Nat), Z p9 l e9 room_1 s9 m9 a9 w9 t9 k9 Q9 G 9 2893 [(5, .int 0), (4, .ref d), (3, .ref o), (2, .ref y), (1, .ref x), (0, .ref b)] [] Φ1 sz1 178 20844) : Z p9 l e9 room_1 s9 m9 a9 w9 t9 k9 Q9 G 9 941 [(5, .int 0), (4, .ref d), (3, .ref o), (2, .ref y), (1, .ref x), (0, .ref b)] [] Φ sz 177 20838 := by
  refine z_aload_n B dL_law_941 rfl 4 rfl ?_
  refine z_callV (As := []) (rest := []) B (f_X11_templateCount G l Φ sz x hx_0 hx_3) (cwV 0 B.1.2.2.2.2 gL_law_X11_templateCount rfl rfl rfl (by decide +kernel) ⟨Nat.le_of_ble_eq_true rfl, Nat.le_of_ble_eq_true rfl⟩) hx_0 rfl rfl rfl rfl (Nat.le_of_ble_eq_true rfl) dL_law_942 ⟨Nat.le_of_ble_eq_true rfl, Nat.le_of_ble_eq_true rfl⟩ (fun v1 Φ1 sz1 st1 hp1 hs1 => ?_)
  obtain ⟨rfl, fr1⟩ := hp1
  replace hs1 : st1 = [.int 1] := hs1
  subst st1
  refine z_aload_n B dL_law_945 rfl 3 rfl ?_
  have h_1 : Φ1 y = some (o_ 14 [.int 0, .ref (y + 1), .ref (y + 2), .int 0, .int 1, .int 1, .int 0, .int 0, .ref (y + 3), .ref (y + 4), .int 0, .long 0, .ref (y + 5), .int 0, .int 0, .long 0, .long 0, .long 0, .long 0, .ref (y + 6), .ref (y + 7), .int 0, .ref (y + 8), .int 0, .ref (y + 9), .ref (y + 10), .int 0, .ref (y + 11), .ref (y + 12), .ref (y + 13), .ref (y + 14), .ref (y + 15), .ref (y + 16), .int 0, .long (-1), .ref (y + 17), .ref (y + 18), .ref (y + 19), .ref (y + 20), .ref (y + 21), .ref (y + 22), .int 0, .ref (y + 23), .ref (y + 24), .int 0, .ref (y + 25), .int 0, .int 0, .int 0, .int (-1), .int 0, .int 0, .int 0, .long 0]) := ((fr1 y hxy).trans hy_0)
  have h_2 : Φ1 (y + 2) = some (ai_ G 307 (upd (upd (upd (upd (upd (upd (upd (upd (upd (upd (upd (upd (upd (upd (upd (upd (upd (upd (upd (upd (upd (fun _ => 0) (0 : Int32).toNatClampNeg 1) (1 : Int32).toNatClampNeg 100) (2 : Int32).toNatClampNeg 1000) (3 : Int32).toNatClampNeg 100) (4 : Int32).toNatClampNeg 20) (5 : Int32).toNatClampNeg 1000) (6 : Int32).toNatClampNeg 5000) (7 : Int32).toNatClampNeg 512) (8 : Int32).toNatClampNeg 1) (9 : Int32).toNatClampNeg 511) (10 : Int32).toNatClampNeg 1) (11 : Int32).toNatClampNeg 9) (15 : Int32).toNatClampNeg 0) (16 : Int32).toNatClampNeg 1) (17 : Int32).toNatClampNeg 2) (18 : Int32).toNatClampNeg 3) (19 : Int32).toNatClampNeg 4) (20 : Int32).toNatClampNeg 5) (21 : Int32).toNatClampNeg 6) (22 : Int32).toNatClampNeg 7) (23 : Int32).toNatClampNeg 8)) := ((fr1 (y + 2) (Nat.le_trans hxy (Nat.le_add_right y 2))).trans hy_2)
  refine z_callV (As := []) (rest := [.int 1]) B (m_X12_templateCount G l Φ1 sz1 y h_1 h_2 (Nat.le_trans hna (Nat.le_trans (Nat.le_add_right x 149) hxy))) (cwV 0 B.1.2.2.2.2 gL_law_X12_templateCount rfl rfl rfl (by decide +kernel) ⟨Nat.le_of_ble_eq_true rfl, Nat.le_of_ble_eq_true rfl⟩) h_1 rfl rfl rfl rfl (Nat.le_of_ble_eq_true rfl) dL_law_946 ⟨Nat.le_of_ble_eq_true rfl, Nat.le_of_ble_eq_true rfl⟩ (fun v2 Φ2 sz2 st2 hp2 hs2 => ?_)
  obtain ⟨rfl, ⟨fs1, hy1, hk1⟩, fr2⟩ := hp2
  replace hs2 : st2 = [.int 1, .int 1] := hs2
  subst st2
  refine z_icmp_eq (tgt := 2893) B dL_law_949 rfl (fun c_1 => ?_) (fun h9 => absurd (by decide) h9)
  refine z_lv [0, 1, 2, 3, 4, 5] rfl ?_
  refine z_widen (k := 178) (n := 20844) (Nat.le_of_ble_eq_true rfl) (Nat.le_of_ble_eq_true rfl) ?_
  exact hT _ _

set_option maxHeartbeats 4000000 in
set_option maxRecDepth 100000 in
theorem lc_23 {p9 : Program} {e9 : Env} {s9 : State} {m9 : MethodId} {a9 : Array Value} {w9 : List Frame} {t9 : Method} {k9 : Code} {Q9 : State → Prop} {nm9 : String} (G : EnvG) (l : Launch) (hl9 : l.stackTraces = false) (B : Bd p9 s9 m9 a9 t9 k9 G code 9 RL wsL_law ret nm9) (Φ : Hm) (sz : Nat) (b : Nat) (xs : Nat → Int32) (hX : va_X b 7 xs s9 s9.heap) (hbn : b < G.2.2.2) (x y o d : Nat)  (go : Nat → Int64) (gd : Nat → UInt64) (hna : G.2.2.2 ≤ x) (hxy : x + 149 ≤ y) (hyo : y + 26 ≤ o) (hyd : y + 26 ≤ d) (hod : o ≠ d) (hx_0 : Φ x = some (o_ 13 [.ref (x + 1), .ref (x + 3), .ref (x + 24), .ref (x + 46), .ref (x + 74), .ref (x + 80), .ref (x + 132), .ref (x + 121)])) (hx_74 : Φ (x + 74) = some (o_ 10 [.ref (x + 3), .ref (x + 46), .ref (x + 75), .ref (x + 77), .int 0, .ref (x + 78), .ref (x + 79), .int 0, .long 0, .int 0])) (hx_78 : Φ (x + 78) = some (ai_ G 4 (fun _ => 0))) (hy_0 : Φ y = some (o_ 14 [.int 0, .ref (y + 1), .ref (y + 2), .int 0, .int 1, .int 1, .int 0, .int 0, .ref (y + 3), .ref (y + 4), .int 0, .long 0, .ref (y + 5), .int 0, .int 0, .long 0, .long 0, .long 0, .long 0, .ref (y + 6), .ref (y + 7), .int 0, .ref (y + 8), .int 0, .ref (y + 9), .ref (y + 10), .int 0, .ref (y + 11), .ref (y + 12), .ref (y + 13), .ref (y + 14), .ref (y + 15), .ref (y + 16), .int 0, .long (-1), .ref (y + 17), .ref (y + 18), .ref (y + 19), .ref (y + 20), .ref (y + 21), .ref (y + 22), .int 0, .ref (y + 23), .ref (y + 24), .int 0, .ref (y + 25), .int 0, .int 0, .int 0, .int (-1), .int 0, .int 0, .int 0, .long 0])) (hy_3 : Φ (y + 3) = some (ai_ G 4 (upd (upd (upd (upd (fun _ => 0) (0 : Int32).toNatClampNeg (-1)) (1 : Int32).toNatClampNeg (-1)) (2 : Int32).toNatClampNeg (-1)) (3 : Int32).toNatClampNeg (-1))))  (hT : ∀ (Φ1 : Hm) (sz1 : Nat), Z p9 l e9 room_1 s9 m9 a9 w9 t9 k9 Q9 G 9 2893 [(5, .int 0), (4, .ref d), (3, .ref o), (2, .ref y), (1, .ref x), (0, .ref b)] [] Φ1 sz1 178 20844) : Z p9 l e9 room_1 s9 m9 a9 w9 t9 k9 Q9 G 9 1281 [(5, .int 0), (4, .ref d), (3, .ref o), (2, .ref y), (1, .ref x), (0, .ref b)] [] Φ sz 177 20838 := by
  refine z_aload_n B dL_law_1281 rfl 4 rfl ?_
  refine z_callV (As := []) (rest := []) B (f_X11_requestTemplates G l Φ sz x hx_0 hx_74 hx_78 hna) (cwV 0 B.1.2.2.2.2 gL_law_X11_requestTemplates rfl rfl rfl (by decide +kernel) ⟨Nat.le_of_ble_eq_true rfl, Nat.le_of_ble_eq_true rfl⟩) hx_0 rfl rfl rfl rfl (Nat.le_of_ble_eq_true rfl) dL_law_1282 ⟨Nat.le_of_ble_eq_true rfl, Nat.le_of_ble_eq_true rfl⟩ (fun v1 Φ1 sz1 st1 hp1 hs1 => ?_)
  obtain ⟨rfl, fr1⟩ := hp1
  replace hs1 : st1 = [] := hs1
  subst st1
  refine z_aload_n B dL_law_1285 rfl 3 rfl ?_
  have h_1 : Φ1 y = some (o_ 14 [.int 0, .ref (y + 1), .ref (y + 2), .int 0, .int 1, .int 1, .int 0, .int 0, .ref (y + 3), .ref (y + 4), .int 0, .long 0, .ref (y + 5), .int 0, .int 0, .long 0, .long 0, .long 0, .long 0, .ref (y + 6), .ref (y + 7), .int 0, .ref (y + 8), .int 0, .ref (y + 9), .ref (y + 10), .int 0, .ref (y + 11), .ref (y + 12), .ref (y + 13), .ref (y + 14), .ref (y + 15), .ref (y + 16), .int 0, .long (-1), .ref (y + 17), .ref (y + 18), .ref (y + 19), .ref (y + 20), .ref (y + 21), .ref (y + 22), .int 0, .ref (y + 23), .ref (y + 24), .int 0, .ref (y + 25), .int 0, .int 0, .int 0, .int (-1), .int 0, .int 0, .int 0, .long 0]) := ((fr1 y hxy).trans hy_0)
  have h_2 : Φ1 (y + 3) = some (ai_ G 4 (upd (upd (upd (upd (fun _ => 0) (0 : Int32).toNatClampNeg (-1)) (1 : Int32).toNatClampNeg (-1)) (2 : Int32).toNatClampNeg (-1)) (3 : Int32).toNatClampNeg (-1))) := ((fr1 (y + 3) (Nat.le_trans hxy (Nat.le_add_right y 3))).trans hy_3)
  refine z_callV (As := []) (rest := []) B (m_X12_requestTemplates G l Φ1 sz1 y h_1 h_2 (Nat.le_trans hna (Nat.le_trans (Nat.le_add_right x 149) hxy))) (cwV 0 B.1.2.2.2.2 gL_law_X12_requestTemplates rfl rfl rfl (by decide +kernel) ⟨Nat.le_of_ble_eq_true rfl, Nat.le_of_ble_eq_true rfl⟩) h_1 rfl rfl rfl rfl (Nat.le_of_ble_eq_true rfl) dL_law_1286 ⟨Nat.le_of_ble_eq_true rfl, Nat.le_of_ble_eq_true rfl⟩ (fun v2 Φ2 sz2 st2 hp2 hs2 => ?_)
  obtain ⟨rfl, ⟨fs1, hy1, hk1⟩, fr2⟩ := hp2
  replace hs2 : st2 = [] := hs2
  subst st2
  refine z_goto (tgt := 2893) B dL_law_1289 rfl ?_
  refine z_lv [0, 1, 2, 3, 4, 5] rfl ?_
  refine z_widen (k := 178) (n := 20844) (Nat.le_of_ble_eq_true rfl) (Nat.le_of_ble_eq_true rfl) ?_
  exact hT _ _

set_option maxHeartbeats 4000000 in
set_option maxRecDepth 100000 in
theorem lc_25 {p9 : Program} {e9 : Env} {s9 : State} {m9 : MethodId} {a9 : Array Value} {w9 : List Frame} {t9 : Method} {k9 : Code} {Q9 : State → Prop} {nm9 : String} (G : EnvG) (l : Launch) (hl9 : l.stackTraces = false) (B : Bd p9 s9 m9 a9 t9 k9 G code 9 RL wsL_law ret nm9) (Φ : Hm) (sz : Nat) (b : Nat) (xs : Nat → Int32) (hX : va_X b 7 xs s9 s9.heap) (hbn : b < G.2.2.2) (x y o d : Nat)  (go : Nat → Int64) (gd : Nat → UInt64) (hna : G.2.2.2 ≤ x) (hxy : x + 149 ≤ y) (hyo : y + 26 ≤ o) (hyd : y + 26 ≤ d) (hod : o ≠ d) (hx_0 : Φ x = some (o_ 13 [.ref (x + 1), .ref (x + 3), .ref (x + 24), .ref (x + 46), .ref (x + 74), .ref (x + 80), .ref (x + 132), .ref (x + 121)])) (hx_74 : Φ (x + 74) = some (o_ 10 [.ref (x + 3), .ref (x + 46), .ref (x + 75), .ref (x + 77), .int 0, .ref (x + 78), .ref (x + 79), .int 0, .long 0, .int 0])) (hx_75 : Φ (x + 75) = some (o_ 7 [.ref (x + 76), .int 0])) (hx_78 : Φ (x + 78) = some (ai_ G 4 (fun _ => 0))) (hx_80 : Φ (x + 80) = some (o_ 4 [.ref (x + 3), .ref (x + 74), .ref (x + 81), .ref (x + 95), .int 0, .int 1, .int 1, .int 0, .int 0, .int 0, .long 0, .long 0, .long 0])) (hx_81 : Φ (x + 81) = some (o_ 6 [.ref (x + 82), .int 0])) (hy_0 : Φ y = some (o_ 14 [.int 0, .ref (y + 1), .ref (y + 2), .int 0, .int 1, .int 1, .int 0, .int 0, .ref (y + 3), .ref (y + 4), .int 0, .long 0, .ref (y + 5), .int 0, .int 0, .long 0, .long 0, .long 0, .long 0, .ref (y + 6), .ref (y + 7), .int 0, .ref (y + 8), .int 0, .ref (y + 9), .ref (y + 10), .int 0, .ref (y + 11), .ref (y + 12), .ref (y + 13), .ref (y + 14), .ref (y + 15), .ref (y + 16), .int 0, .long (-1), .ref (y + 17), .ref (y + 18), .ref (y + 19), .ref (y + 20), .ref (y + 21), .ref (y + 22), .int 0, .ref (y + 23), .ref (y + 24), .int 0, .ref (y + 25), .int 0, .int 0, .int 0, .int (-1), .int 0, .int 0, .int 0, .long 0])) (hy_3 : Φ (y + 3) = some (ai_ G 4 (upd (upd (upd (upd (fun _ => 0) (0 : Int32).toNatClampNeg (-1)) (1 : Int32).toNatClampNeg (-1)) (2 : Int32).toNatClampNeg (-1)) (3 : Int32).toNatClampNeg (-1))))  (hT : ∀ (Φ1 : Hm) (sz1 : Nat), Z p9 l e9 room_1 s9 m9 a9 w9 t9 k9 Q9 G 9 2893 [(5, .int 0), (4, .ref d), (3, .ref o), (2, .ref y), (1, .ref x), (0, .ref b)] [] Φ1 sz1 178 20844) : Z p9 l e9 room_1 s9 m9 a9 w9 t9 k9 Q9 G 9 1355 [(5, .int 0), (4, .ref d), (3, .ref o), (2, .ref y), (1, .ref x), (0, .ref b)] [] Φ sz 177 20838 := by
  refine z_aload_n B dL_law_1355 rfl 4 rfl ?_
  refine z_callV (As := []) (rest := []) B (f_X11_restartExporter G l Φ sz x hx_0 hx_74 hx_75 hx_78 hx_80 hx_81 hna) (cwV 0 B.1.2.2.2.2 gL_law_X11_restartExporter rfl rfl rfl (by decide +kernel) ⟨Nat.le_of_ble_eq_true rfl, Nat.le_of_ble_eq_true rfl⟩) hx_0 rfl rfl rfl rfl (Nat.le_of_ble_eq_true rfl) dL_law_1356 ⟨Nat.le_of_ble_eq_true rfl, Nat.le_of_ble_eq_true rfl⟩ (fun v1 Φ1 sz1 st1 hp1 hs1 => ?_)
  obtain ⟨rfl, fr1⟩ := hp1
  replace hs1 : st1 = [.int 0] := hs1
  subst st1
  refine z_aload_n B dL_law_1359 rfl 3 rfl ?_
  have h_1 : Φ1 y = some (o_ 14 [.int 0, .ref (y + 1), .ref (y + 2), .int 0, .int 1, .int 1, .int 0, .int 0, .ref (y + 3), .ref (y + 4), .int 0, .long 0, .ref (y + 5), .int 0, .int 0, .long 0, .long 0, .long 0, .long 0, .ref (y + 6), .ref (y + 7), .int 0, .ref (y + 8), .int 0, .ref (y + 9), .ref (y + 10), .int 0, .ref (y + 11), .ref (y + 12), .ref (y + 13), .ref (y + 14), .ref (y + 15), .ref (y + 16), .int 0, .long (-1), .ref (y + 17), .ref (y + 18), .ref (y + 19), .ref (y + 20), .ref (y + 21), .ref (y + 22), .int 0, .ref (y + 23), .ref (y + 24), .int 0, .ref (y + 25), .int 0, .int 0, .int 0, .int (-1), .int 0, .int 0, .int 0, .long 0]) := ((fr1 y hxy).trans hy_0)
  have h_2 : Φ1 (y + 3) = some (ai_ G 4 (upd (upd (upd (upd (fun _ => 0) (0 : Int32).toNatClampNeg (-1)) (1 : Int32).toNatClampNeg (-1)) (2 : Int32).toNatClampNeg (-1)) (3 : Int32).toNatClampNeg (-1))) := ((fr1 (y + 3) (Nat.le_trans hxy (Nat.le_add_right y 3))).trans hy_3)
  refine z_callV (As := []) (rest := [.int 0]) B (m_X12_restartExporter G l Φ1 sz1 y h_1 h_2 (Nat.le_trans hna (Nat.le_trans (Nat.le_add_right x 149) hxy))) (cwV 0 B.1.2.2.2.2 gL_law_X12_restartExporter rfl rfl rfl (by decide +kernel) ⟨Nat.le_of_ble_eq_true rfl, Nat.le_of_ble_eq_true rfl⟩) h_1 rfl rfl rfl rfl (Nat.le_of_ble_eq_true rfl) dL_law_1360 ⟨Nat.le_of_ble_eq_true rfl, Nat.le_of_ble_eq_true rfl⟩ (fun v2 Φ2 sz2 st2 hp2 hs2 => ?_)
  obtain ⟨rfl, ⟨fs1, hy1, hk1⟩, fr2⟩ := hp2
  replace hs2 : st2 = [.int 0, .int 0] := hs2
  subst st2
  refine z_icmp_eq (tgt := 2893) B dL_law_1363 rfl (fun c_1 => ?_) (fun h9 => absurd (by decide) h9)
  refine z_lv [0, 1, 2, 3, 4, 5] rfl ?_
  refine z_widen (k := 178) (n := 20844) (Nat.le_of_ble_eq_true rfl) (Nat.le_of_ble_eq_true rfl) ?_
  exact hT _ _

set_option maxHeartbeats 4000000 in
set_option maxRecDepth 100000 in
theorem lc_26 {p9 : Program} {e9 : Env} {s9 : State} {m9 : MethodId} {a9 : Array Value} {w9 : List Frame} {t9 : Method} {k9 : Code} {Q9 : State → Prop} {nm9 : String} (G : EnvG) (l : Launch) (hl9 : l.stackTraces = false) (B : Bd p9 s9 m9 a9 t9 k9 G code 9 RL wsL_law ret nm9) (Φ : Hm) (sz : Nat) (b : Nat) (xs : Nat → Int32) (hX : va_X b 7 xs s9 s9.heap) (hbn : b < G.2.2.2) (x y o d : Nat)  (go : Nat → Int64) (gd : Nat → UInt64) (hna : G.2.2.2 ≤ x) (hxy : x + 149 ≤ y) (hyo : y + 26 ≤ o) (hyd : y + 26 ≤ d) (hod : o ≠ d) (hx_0 : Φ x = some (o_ 13 [.ref (x + 1), .ref (x + 3), .ref (x + 24), .ref (x + 46), .ref (x + 74), .ref (x + 80), .ref (x + 132), .ref (x + 121)])) (hx_80 : Φ (x + 80) = some (o_ 4 [.ref (x + 3), .ref (x + 74), .ref (x + 81), .ref (x + 95), .int 0, .int 1, .int 1, .int 0, .int 0, .int 0, .long 0, .long 0, .long 0])) (hy_0 : Φ y = some (o_ 14 [.int 0, .ref (y + 1), .ref (y + 2), .int 0, .int 1, .int 1, .int 0, .int 0, .ref (y + 3), .ref (y + 4), .int 0, .long 0, .ref (y + 5), .int 0, .int 0, .long 0, .long 0, .long 0, .long 0, .ref (y + 6), .ref (y + 7), .int 0, .ref (y + 8), .int 0, .ref (y + 9), .ref (y + 10), .int 0, .ref (y + 11), .ref (y + 12), .ref (y + 13), .ref (y + 14), .ref (y + 15), .ref (y + 16), .int 0, .long (-1), .ref (y + 17), .ref (y + 18), .ref (y + 19), .ref (y + 20), .ref (y + 21), .ref (y + 22), .int 0, .ref (y + 23), .ref (y + 24), .int 0, .ref (y + 25), .int 0, .int 0, .int 0, .int (-1), .int 0, .int 0, .int 0, .long 0]))  (hT : ∀ (Φ1 : Hm) (sz1 : Nat), Z p9 l e9 room_1 s9 m9 a9 w9 t9 k9 Q9 G 9 2893 [(5, .int 0), (4, .ref d), (3, .ref o), (2, .ref y), (1, .ref x), (0, .ref b)] [] Φ1 sz1 178 20844) : Z p9 l e9 room_1 s9 m9 a9 w9 t9 k9 Q9 G 9 1368 [(5, .int 0), (4, .ref d), (3, .ref o), (2, .ref y), (1, .ref x), (0, .ref b)] [] Φ sz 177 20838 := by
  refine z_aload_n B dL_law_1368 rfl 4 rfl ?_
  refine z_callV (As := []) (rest := []) B (f_X11_observed G l Φ sz x hx_0 hx_80) (cwV 0 B.1.2.2.2.2 gL_law_X11_observed rfl rfl rfl (by decide +kernel) ⟨Nat.le_of_ble_eq_true rfl, Nat.le_of_ble_eq_true rfl⟩) hx_0 rfl rfl rfl rfl (Nat.le_of_ble_eq_true rfl) dL_law_1369 ⟨Nat.le_of_ble_eq_true rfl, Nat.le_of_ble_eq_true rfl⟩ (fun v1 Φ1 sz1 st1 hp1 hs1 => ?_)
  obtain ⟨rfl, fr1⟩ := hp1
  replace hs1 : st1 = [.long 0] := hs1
  subst st1
  refine z_aload_n B dL_law_1372 rfl 3 rfl ?_
  have h_1 : Φ1 y = some (o_ 14 [.int 0, .ref (y + 1), .ref (y + 2), .int 0, .int 1, .int 1, .int 0, .int 0, .ref (y + 3), .ref (y + 4), .int 0, .long 0, .ref (y + 5), .int 0, .int 0, .long 0, .long 0, .long 0, .long 0, .ref (y + 6), .ref (y + 7), .int 0, .ref (y + 8), .int 0, .ref (y + 9), .ref (y + 10), .int 0, .ref (y + 11), .ref (y + 12), .ref (y + 13), .ref (y + 14), .ref (y + 15), .ref (y + 16), .int 0, .long (-1), .ref (y + 17), .ref (y + 18), .ref (y + 19), .ref (y + 20), .ref (y + 21), .ref (y + 22), .int 0, .ref (y + 23), .ref (y + 24), .int 0, .ref (y + 25), .int 0, .int 0, .int 0, .int (-1), .int 0, .int 0, .int 0, .long 0]) := ((fr1 y hxy).trans hy_0)
  refine z_callV (As := []) (rest := [.long 0]) B (m_X12_observed G l Φ1 sz1 y h_1 (Nat.le_trans hna (Nat.le_trans (Nat.le_add_right x 149) hxy))) (cwV 0 B.1.2.2.2.2 gL_law_X12_observed rfl rfl rfl (by decide +kernel) ⟨Nat.le_of_ble_eq_true rfl, Nat.le_of_ble_eq_true rfl⟩) h_1 rfl rfl rfl rfl (Nat.le_of_ble_eq_true rfl) dL_law_1373 ⟨Nat.le_of_ble_eq_true rfl, Nat.le_of_ble_eq_true rfl⟩ (fun v2 Φ2 sz2 st2 hp2 hs2 => ?_)
  obtain ⟨rfl, ⟨fs1, hy1, hk1⟩, fr2⟩ := hp2
  replace hs2 : st2 = [.long 0, .long 0] := hs2
  subst st2
  refine z_lcmp B dL_law_1376 ?_
  refine z_top (st1 := [.int 0]) (congrArg (fun w9 : Int32 => ([.int w9] : List Value)) (show (lg_cmp 0 0 : Int32) = 0 by decide +kernel)) ?_
  refine z_if_eq (tgt := 2893) B dL_law_1377 rfl (fun c_1 => ?_) (fun h9 => absurd (by decide) h9)
  refine z_lv [0, 1, 2, 3, 4, 5] rfl ?_
  refine z_widen (k := 178) (n := 20844) (Nat.le_of_ble_eq_true rfl) (Nat.le_of_ble_eq_true rfl) ?_
  exact hT _ _

set_option maxHeartbeats 4000000 in
set_option maxRecDepth 100000 in
theorem lc_27 {p9 : Program} {e9 : Env} {s9 : State} {m9 : MethodId} {a9 : Array Value} {w9 : List Frame} {t9 : Method} {k9 : Code} {Q9 : State → Prop} {nm9 : String} (G : EnvG) (l : Launch) (hl9 : l.stackTraces = false) (B : Bd p9 s9 m9 a9 t9 k9 G code 9 RL wsL_law ret nm9) (Φ : Hm) (sz : Nat) (b : Nat) (xs : Nat → Int32) (hX : va_X b 7 xs s9 s9.heap) (hbn : b < G.2.2.2) (x y o d : Nat)  (go : Nat → Int64) (gd : Nat → UInt64) (hna : G.2.2.2 ≤ x) (hxy : x + 149 ≤ y) (hyo : y + 26 ≤ o) (hyd : y + 26 ≤ d) (hod : o ≠ d) (hx_0 : Φ x = some (o_ 13 [.ref (x + 1), .ref (x + 3), .ref (x + 24), .ref (x + 46), .ref (x + 74), .ref (x + 80), .ref (x + 132), .ref (x + 121)])) (hx_80 : Φ (x + 80) = some (o_ 4 [.ref (x + 3), .ref (x + 74), .ref (x + 81), .ref (x + 95), .int 0, .int 1, .int 1, .int 0, .int 0, .int 0, .long 0, .long 0, .long 0])) (hy_0 : Φ y = some (o_ 14 [.int 0, .ref (y + 1), .ref (y + 2), .int 0, .int 1, .int 1, .int 0, .int 0, .ref (y + 3), .ref (y + 4), .int 0, .long 0, .ref (y + 5), .int 0, .int 0, .long 0, .long 0, .long 0, .long 0, .ref (y + 6), .ref (y + 7), .int 0, .ref (y + 8), .int 0, .ref (y + 9), .ref (y + 10), .int 0, .ref (y + 11), .ref (y + 12), .ref (y + 13), .ref (y + 14), .ref (y + 15), .ref (y + 16), .int 0, .long (-1), .ref (y + 17), .ref (y + 18), .ref (y + 19), .ref (y + 20), .ref (y + 21), .ref (y + 22), .int 0, .ref (y + 23), .ref (y + 24), .int 0, .ref (y + 25), .int 0, .int 0, .int 0, .int (-1), .int 0, .int 0, .int 0, .long 0]))  (hT : ∀ (Φ1 : Hm) (sz1 : Nat), Z p9 l e9 room_1 s9 m9 a9 w9 t9 k9 Q9 G 9 2893 [(5, .int 0), (4, .ref d), (3, .ref o), (2, .ref y), (1, .ref x), (0, .ref b)] [] Φ1 sz1 178 20844) : Z p9 l e9 room_1 s9 m9 a9 w9 t9 k9 Q9 G 9 1382 [(5, .int 0), (4, .ref d), (3, .ref o), (2, .ref y), (1, .ref x), (0, .ref b)] [] Φ sz 177 20838 := by
  refine z_aload_n B dL_law_1382 rfl 4 rfl ?_
  refine z_callV (As := []) (rest := []) B (f_X11_sampled G l Φ sz x hx_0 hx_80) (cwV 0 B.1.2.2.2.2 gL_law_X11_sampled rfl rfl rfl (by decide +kernel) ⟨Nat.le_of_ble_eq_true rfl, Nat.le_of_ble_eq_true rfl⟩) hx_0 rfl rfl rfl rfl (Nat.le_of_ble_eq_true rfl) dL_law_1383 ⟨Nat.le_of_ble_eq_true rfl, Nat.le_of_ble_eq_true rfl⟩ (fun v1 Φ1 sz1 st1 hp1 hs1 => ?_)
  obtain ⟨rfl, fr1⟩ := hp1
  replace hs1 : st1 = [.long 0] := hs1
  subst st1
  refine z_aload_n B dL_law_1386 rfl 3 rfl ?_
  have h_1 : Φ1 y = some (o_ 14 [.int 0, .ref (y + 1), .ref (y + 2), .int 0, .int 1, .int 1, .int 0, .int 0, .ref (y + 3), .ref (y + 4), .int 0, .long 0, .ref (y + 5), .int 0, .int 0, .long 0, .long 0, .long 0, .long 0, .ref (y + 6), .ref (y + 7), .int 0, .ref (y + 8), .int 0, .ref (y + 9), .ref (y + 10), .int 0, .ref (y + 11), .ref (y + 12), .ref (y + 13), .ref (y + 14), .ref (y + 15), .ref (y + 16), .int 0, .long (-1), .ref (y + 17), .ref (y + 18), .ref (y + 19), .ref (y + 20), .ref (y + 21), .ref (y + 22), .int 0, .ref (y + 23), .ref (y + 24), .int 0, .ref (y + 25), .int 0, .int 0, .int 0, .int (-1), .int 0, .int 0, .int 0, .long 0]) := ((fr1 y hxy).trans hy_0)
  refine z_callV (As := []) (rest := [.long 0]) B (m_X12_sampled G l Φ1 sz1 y h_1 (Nat.le_trans hna (Nat.le_trans (Nat.le_add_right x 149) hxy))) (cwV 0 B.1.2.2.2.2 gL_law_X12_sampled rfl rfl rfl (by decide +kernel) ⟨Nat.le_of_ble_eq_true rfl, Nat.le_of_ble_eq_true rfl⟩) h_1 rfl rfl rfl rfl (Nat.le_of_ble_eq_true rfl) dL_law_1387 ⟨Nat.le_of_ble_eq_true rfl, Nat.le_of_ble_eq_true rfl⟩ (fun v2 Φ2 sz2 st2 hp2 hs2 => ?_)
  obtain ⟨rfl, ⟨fs1, hy1, hk1⟩, fr2⟩ := hp2
  replace hs2 : st2 = [.long 0, .long 0] := hs2
  subst st2
  refine z_lcmp B dL_law_1390 ?_
  refine z_top (st1 := [.int 0]) (congrArg (fun w9 : Int32 => ([.int w9] : List Value)) (show (lg_cmp 0 0 : Int32) = 0 by decide +kernel)) ?_
  refine z_if_eq (tgt := 2893) B dL_law_1391 rfl (fun c_1 => ?_) (fun h9 => absurd (by decide) h9)
  refine z_lv [0, 1, 2, 3, 4, 5] rfl ?_
  refine z_widen (k := 178) (n := 20844) (Nat.le_of_ble_eq_true rfl) (Nat.le_of_ble_eq_true rfl) ?_
  exact hT _ _

set_option maxHeartbeats 4000000 in
set_option maxRecDepth 100000 in
theorem lc_28 {p9 : Program} {e9 : Env} {s9 : State} {m9 : MethodId} {a9 : Array Value} {w9 : List Frame} {t9 : Method} {k9 : Code} {Q9 : State → Prop} {nm9 : String} (G : EnvG) (l : Launch) (hl9 : l.stackTraces = false) (B : Bd p9 s9 m9 a9 t9 k9 G code 9 RL wsL_law ret nm9) (Φ : Hm) (sz : Nat) (b : Nat) (xs : Nat → Int32) (hX : va_X b 7 xs s9 s9.heap) (hbn : b < G.2.2.2) (x y o d : Nat)  (go : Nat → Int64) (gd : Nat → UInt64) (hna : G.2.2.2 ≤ x) (hxy : x + 149 ≤ y) (hyo : y + 26 ≤ o) (hyd : y + 26 ≤ d) (hod : o ≠ d) (hx_0 : Φ x = some (o_ 13 [.ref (x + 1), .ref (x + 3), .ref (x + 24), .ref (x + 46), .ref (x + 74), .ref (x + 80), .ref (x + 132), .ref (x + 121)])) (hx_74 : Φ (x + 74) = some (o_ 10 [.ref (x + 3), .ref (x + 46), .ref (x + 75), .ref (x + 77), .int 0, .ref (x + 78), .ref (x + 79), .int 0, .long 0, .int 0])) (hy_0 : Φ y = some (o_ 14 [.int 0, .ref (y + 1), .ref (y + 2), .int 0, .int 1, .int 1, .int 0, .int 0, .ref (y + 3), .ref (y + 4), .int 0, .long 0, .ref (y + 5), .int 0, .int 0, .long 0, .long 0, .long 0, .long 0, .ref (y + 6), .ref (y + 7), .int 0, .ref (y + 8), .int 0, .ref (y + 9), .ref (y + 10), .int 0, .ref (y + 11), .ref (y + 12), .ref (y + 13), .ref (y + 14), .ref (y + 15), .ref (y + 16), .int 0, .long (-1), .ref (y + 17), .ref (y + 18), .ref (y + 19), .ref (y + 20), .ref (y + 21), .ref (y + 22), .int 0, .ref (y + 23), .ref (y + 24), .int 0, .ref (y + 25), .int 0, .int 0, .int 0, .int (-1), .int 0, .int 0, .int 0, .long 0]))  (hT : ∀ (Φ1 : Hm) (sz1 : Nat), Z p9 l e9 room_1 s9 m9 a9 w9 t9 k9 Q9 G 9 2893 [(5, .int 0), (4, .ref d), (3, .ref o), (2, .ref y), (1, .ref x), (0, .ref b)] [] Φ1 sz1 178 20844) : Z p9 l e9 room_1 s9 m9 a9 w9 t9 k9 Q9 G 9 1396 [(5, .int 0), (4, .ref d), (3, .ref o), (2, .ref y), (1, .ref x), (0, .ref b)] [] Φ sz 177 20838 := by
  refine z_aload_n B dL_law_1396 rfl 4 rfl ?_
  refine z_callV (As := []) (rest := []) B (f_X11_sent G l Φ sz x hx_0 hx_74) (cwV 0 B.1.2.2.2.2 gL_law_X11_sent rfl rfl rfl (by decide +kernel) ⟨Nat.le_of_ble_eq_true rfl, Nat.le_of_ble_eq_true rfl⟩) hx_0 rfl rfl rfl rfl (Nat.le_of_ble_eq_true rfl) dL_law_1397 ⟨Nat.le_of_ble_eq_true rfl, Nat.le_of_ble_eq_true rfl⟩ (fun v1 Φ1 sz1 st1 hp1 hs1 => ?_)
  obtain ⟨rfl, fr1⟩ := hp1
  replace hs1 : st1 = [.long 0] := hs1
  subst st1
  refine z_aload_n B dL_law_1400 rfl 3 rfl ?_
  have h_1 : Φ1 y = some (o_ 14 [.int 0, .ref (y + 1), .ref (y + 2), .int 0, .int 1, .int 1, .int 0, .int 0, .ref (y + 3), .ref (y + 4), .int 0, .long 0, .ref (y + 5), .int 0, .int 0, .long 0, .long 0, .long 0, .long 0, .ref (y + 6), .ref (y + 7), .int 0, .ref (y + 8), .int 0, .ref (y + 9), .ref (y + 10), .int 0, .ref (y + 11), .ref (y + 12), .ref (y + 13), .ref (y + 14), .ref (y + 15), .ref (y + 16), .int 0, .long (-1), .ref (y + 17), .ref (y + 18), .ref (y + 19), .ref (y + 20), .ref (y + 21), .ref (y + 22), .int 0, .ref (y + 23), .ref (y + 24), .int 0, .ref (y + 25), .int 0, .int 0, .int 0, .int (-1), .int 0, .int 0, .int 0, .long 0]) := ((fr1 y hxy).trans hy_0)
  refine z_callV (As := []) (rest := [.long 0]) B (m_X12_sent G l Φ1 sz1 y h_1 (Nat.le_trans hna (Nat.le_trans (Nat.le_add_right x 149) hxy))) (cwV 0 B.1.2.2.2.2 gL_law_X12_sent rfl rfl rfl (by decide +kernel) ⟨Nat.le_of_ble_eq_true rfl, Nat.le_of_ble_eq_true rfl⟩) h_1 rfl rfl rfl rfl (Nat.le_of_ble_eq_true rfl) dL_law_1401 ⟨Nat.le_of_ble_eq_true rfl, Nat.le_of_ble_eq_true rfl⟩ (fun v2 Φ2 sz2 st2 hp2 hs2 => ?_)
  obtain ⟨rfl, ⟨fs1, hy1, hk1⟩, fr2⟩ := hp2
  replace hs2 : st2 = [.long 0, .long 0] := hs2
  subst st2
  refine z_lcmp B dL_law_1404 ?_
  refine z_top (st1 := [.int 0]) (congrArg (fun w9 : Int32 => ([.int w9] : List Value)) (show (lg_cmp 0 0 : Int32) = 0 by decide +kernel)) ?_
  refine z_if_eq (tgt := 2893) B dL_law_1405 rfl (fun c_1 => ?_) (fun h9 => absurd (by decide) h9)
  refine z_lv [0, 1, 2, 3, 4, 5] rfl ?_
  refine z_widen (k := 178) (n := 20844) (Nat.le_of_ble_eq_true rfl) (Nat.le_of_ble_eq_true rfl) ?_
  exact hT _ _

set_option maxHeartbeats 4000000 in
set_option maxRecDepth 100000 in
theorem lc_29 {p9 : Program} {e9 : Env} {s9 : State} {m9 : MethodId} {a9 : Array Value} {w9 : List Frame} {t9 : Method} {k9 : Code} {Q9 : State → Prop} {nm9 : String} (G : EnvG) (l : Launch) (hl9 : l.stackTraces = false) (B : Bd p9 s9 m9 a9 t9 k9 G code 9 RL wsL_law ret nm9) (Φ : Hm) (sz : Nat) (b : Nat) (xs : Nat → Int32) (hX : va_X b 7 xs s9 s9.heap) (hbn : b < G.2.2.2) (x y o d : Nat)  (go : Nat → Int64) (gd : Nat → UInt64) (hna : G.2.2.2 ≤ x) (hxy : x + 149 ≤ y) (hyo : y + 26 ≤ o) (hyd : y + 26 ≤ d) (hod : o ≠ d) (hx_0 : Φ x = some (o_ 13 [.ref (x + 1), .ref (x + 3), .ref (x + 24), .ref (x + 46), .ref (x + 74), .ref (x + 80), .ref (x + 132), .ref (x + 121)])) (hx_80 : Φ (x + 80) = some (o_ 4 [.ref (x + 3), .ref (x + 74), .ref (x + 81), .ref (x + 95), .int 0, .int 1, .int 1, .int 0, .int 0, .int 0, .long 0, .long 0, .long 0])) (hy_0 : Φ y = some (o_ 14 [.int 0, .ref (y + 1), .ref (y + 2), .int 0, .int 1, .int 1, .int 0, .int 0, .ref (y + 3), .ref (y + 4), .int 0, .long 0, .ref (y + 5), .int 0, .int 0, .long 0, .long 0, .long 0, .long 0, .ref (y + 6), .ref (y + 7), .int 0, .ref (y + 8), .int 0, .ref (y + 9), .ref (y + 10), .int 0, .ref (y + 11), .ref (y + 12), .ref (y + 13), .ref (y + 14), .ref (y + 15), .ref (y + 16), .int 0, .long (-1), .ref (y + 17), .ref (y + 18), .ref (y + 19), .ref (y + 20), .ref (y + 21), .ref (y + 22), .int 0, .ref (y + 23), .ref (y + 24), .int 0, .ref (y + 25), .int 0, .int 0, .int 0, .int (-1), .int 0, .int 0, .int 0, .long 0]))  (hT : ∀ (Φ1 : Hm) (sz1 : Nat), Z p9 l e9 room_1 s9 m9 a9 w9 t9 k9 Q9 G 9 2893 [(5, .int 0), (4, .ref d), (3, .ref o), (2, .ref y), (1, .ref x), (0, .ref b)] [] Φ1 sz1 178 20844) : Z p9 l e9 room_1 s9 m9 a9 w9 t9 k9 Q9 G 9 1410 [(5, .int 0), (4, .ref d), (3, .ref o), (2, .ref y), (1, .ref x), (0, .ref b)] [] Φ sz 177 20838 := by
  refine z_aload_n B dL_law_1410 rfl 4 rfl ?_
  refine z_callV (As := []) (rest := []) B (f_X11_unsent G l Φ sz x hx_0 hx_80) (cwV 0 B.1.2.2.2.2 gL_law_X11_unsent rfl rfl rfl (by decide +kernel) ⟨Nat.le_of_ble_eq_true rfl, Nat.le_of_ble_eq_true rfl⟩) hx_0 rfl rfl rfl rfl (Nat.le_of_ble_eq_true rfl) dL_law_1411 ⟨Nat.le_of_ble_eq_true rfl, Nat.le_of_ble_eq_true rfl⟩ (fun v1 Φ1 sz1 st1 hp1 hs1 => ?_)
  obtain ⟨rfl, fr1⟩ := hp1
  replace hs1 : st1 = [.long 0] := hs1
  subst st1
  refine z_aload_n B dL_law_1414 rfl 3 rfl ?_
  have h_1 : Φ1 y = some (o_ 14 [.int 0, .ref (y + 1), .ref (y + 2), .int 0, .int 1, .int 1, .int 0, .int 0, .ref (y + 3), .ref (y + 4), .int 0, .long 0, .ref (y + 5), .int 0, .int 0, .long 0, .long 0, .long 0, .long 0, .ref (y + 6), .ref (y + 7), .int 0, .ref (y + 8), .int 0, .ref (y + 9), .ref (y + 10), .int 0, .ref (y + 11), .ref (y + 12), .ref (y + 13), .ref (y + 14), .ref (y + 15), .ref (y + 16), .int 0, .long (-1), .ref (y + 17), .ref (y + 18), .ref (y + 19), .ref (y + 20), .ref (y + 21), .ref (y + 22), .int 0, .ref (y + 23), .ref (y + 24), .int 0, .ref (y + 25), .int 0, .int 0, .int 0, .int (-1), .int 0, .int 0, .int 0, .long 0]) := ((fr1 y hxy).trans hy_0)
  refine z_callV (As := []) (rest := [.long 0]) B (m_X12_unsent G l Φ1 sz1 y h_1 (Nat.le_trans hna (Nat.le_trans (Nat.le_add_right x 149) hxy))) (cwV 0 B.1.2.2.2.2 gL_law_X12_unsent rfl rfl rfl (by decide +kernel) ⟨Nat.le_of_ble_eq_true rfl, Nat.le_of_ble_eq_true rfl⟩) h_1 rfl rfl rfl rfl (Nat.le_of_ble_eq_true rfl) dL_law_1415 ⟨Nat.le_of_ble_eq_true rfl, Nat.le_of_ble_eq_true rfl⟩ (fun v2 Φ2 sz2 st2 hp2 hs2 => ?_)
  obtain ⟨rfl, ⟨fs1, hy1, hk1⟩, fr2⟩ := hp2
  replace hs2 : st2 = [.long 0, .long 0] := hs2
  subst st2
  refine z_lcmp B dL_law_1418 ?_
  refine z_top (st1 := [.int 0]) (congrArg (fun w9 : Int32 => ([.int w9] : List Value)) (show (lg_cmp 0 0 : Int32) = 0 by decide +kernel)) ?_
  refine z_if_eq (tgt := 2893) B dL_law_1419 rfl (fun c_1 => ?_) (fun h9 => absurd (by decide) h9)
  refine z_lv [0, 1, 2, 3, 4, 5] rfl ?_
  refine z_widen (k := 178) (n := 20844) (Nat.le_of_ble_eq_true rfl) (Nat.le_of_ble_eq_true rfl) ?_
  exact hT _ _

set_option maxHeartbeats 4000000 in
set_option maxRecDepth 100000 in
theorem lc_30 {p9 : Program} {e9 : Env} {s9 : State} {m9 : MethodId} {a9 : Array Value} {w9 : List Frame} {t9 : Method} {k9 : Code} {Q9 : State → Prop} {nm9 : String} (G : EnvG) (l : Launch) (hl9 : l.stackTraces = false) (B : Bd p9 s9 m9 a9 t9 k9 G code 9 RL wsL_law ret nm9) (Φ : Hm) (sz : Nat) (b : Nat) (xs : Nat → Int32) (hX : va_X b 7 xs s9 s9.heap) (hbn : b < G.2.2.2) (x y o d : Nat)  (go : Nat → Int64) (gd : Nat → UInt64) (hna : G.2.2.2 ≤ x) (hxy : x + 149 ≤ y) (hyo : y + 26 ≤ o) (hyd : y + 26 ≤ d) (hod : o ≠ d) (hx_0 : Φ x = some (o_ 13 [.ref (x + 1), .ref (x + 3), .ref (x + 24), .ref (x + 46), .ref (x + 74), .ref (x + 80), .ref (x + 132), .ref (x + 121)])) (hx_46 : Φ (x + 46) = some (o_ 9 [.ref (x + 47), .int 0, .int 0])) (hy_0 : Φ y = some (o_ 14 [.int 0, .ref (y + 1), .ref (y + 2), .int 0, .int 1, .int 1, .int 0, .int 0, .ref (y + 3), .ref (y + 4), .int 0, .long 0, .ref (y + 5), .int 0, .int 0, .long 0, .long 0, .long 0, .long 0, .ref (y + 6), .ref (y + 7), .int 0, .ref (y + 8), .int 0, .ref (y + 9), .ref (y + 10), .int 0, .ref (y + 11), .ref (y + 12), .ref (y + 13), .ref (y + 14), .ref (y + 15), .ref (y + 16), .int 0, .long (-1), .ref (y + 17), .ref (y + 18), .ref (y + 19), .ref (y + 20), .ref (y + 21), .ref (y + 22), .int 0, .ref (y + 23), .ref (y + 24), .int 0, .ref (y + 25), .int 0, .int 0, .int 0, .int (-1), .int 0, .int 0, .int 0, .long 0]))  (hT : ∀ (Φ1 : Hm) (sz1 : Nat), Z p9 l e9 room_1 s9 m9 a9 w9 t9 k9 Q9 G 9 2893 [(5, .int 0), (4, .ref d), (3, .ref o), (2, .ref y), (1, .ref x), (0, .ref b)] [] Φ1 sz1 178 20844) : Z p9 l e9 room_1 s9 m9 a9 w9 t9 k9 Q9 G 9 1424 [(5, .int 0), (4, .ref d), (3, .ref o), (2, .ref y), (1, .ref x), (0, .ref b)] [] Φ sz 177 20838 := by
  refine z_aload_n B dL_law_1424 rfl 4 rfl ?_
  refine z_callV (As := []) (rest := []) B (f_X11_dropped G l Φ sz x hx_0 hx_46) (cwV 0 B.1.2.2.2.2 gL_law_X11_dropped rfl rfl rfl (by decide +kernel) ⟨Nat.le_of_ble_eq_true rfl, Nat.le_of_ble_eq_true rfl⟩) hx_0 rfl rfl rfl rfl (Nat.le_of_ble_eq_true rfl) dL_law_1425 ⟨Nat.le_of_ble_eq_true rfl, Nat.le_of_ble_eq_true rfl⟩ (fun v1 Φ1 sz1 st1 hp1 hs1 => ?_)
  obtain ⟨rfl, fr1⟩ := hp1
  replace hs1 : st1 = [.int 0] := hs1
  subst st1
  refine z_aload_n B dL_law_1428 rfl 3 rfl ?_
  have h_1 : Φ1 y = some (o_ 14 [.int 0, .ref (y + 1), .ref (y + 2), .int 0, .int 1, .int 1, .int 0, .int 0, .ref (y + 3), .ref (y + 4), .int 0, .long 0, .ref (y + 5), .int 0, .int 0, .long 0, .long 0, .long 0, .long 0, .ref (y + 6), .ref (y + 7), .int 0, .ref (y + 8), .int 0, .ref (y + 9), .ref (y + 10), .int 0, .ref (y + 11), .ref (y + 12), .ref (y + 13), .ref (y + 14), .ref (y + 15), .ref (y + 16), .int 0, .long (-1), .ref (y + 17), .ref (y + 18), .ref (y + 19), .ref (y + 20), .ref (y + 21), .ref (y + 22), .int 0, .ref (y + 23), .ref (y + 24), .int 0, .ref (y + 25), .int 0, .int 0, .int 0, .int (-1), .int 0, .int 0, .int 0, .long 0]) := ((fr1 y hxy).trans hy_0)
  refine z_callV (As := []) (rest := [.int 0]) B (m_X12_dropped G l Φ1 sz1 y h_1 (Nat.le_trans hna (Nat.le_trans (Nat.le_add_right x 149) hxy))) (cwV 0 B.1.2.2.2.2 gL_law_X12_dropped rfl rfl rfl (by decide +kernel) ⟨Nat.le_of_ble_eq_true rfl, Nat.le_of_ble_eq_true rfl⟩) h_1 rfl rfl rfl rfl (Nat.le_of_ble_eq_true rfl) dL_law_1429 ⟨Nat.le_of_ble_eq_true rfl, Nat.le_of_ble_eq_true rfl⟩ (fun v2 Φ2 sz2 st2 hp2 hs2 => ?_)
  obtain ⟨rfl, ⟨fs1, hy1, hk1⟩, fr2⟩ := hp2
  replace hs2 : st2 = [.int 0, .int 0] := hs2
  subst st2
  refine z_icmp_eq (tgt := 2893) B dL_law_1432 rfl (fun c_1 => ?_) (fun h9 => absurd (by decide) h9)
  refine z_lv [0, 1, 2, 3, 4, 5] rfl ?_
  refine z_widen (k := 178) (n := 20844) (Nat.le_of_ble_eq_true rfl) (Nat.le_of_ble_eq_true rfl) ?_
  exact hT _ _

set_option maxHeartbeats 4000000 in
set_option maxRecDepth 100000 in
theorem lc_31 {p9 : Program} {e9 : Env} {s9 : State} {m9 : MethodId} {a9 : Array Value} {w9 : List Frame} {t9 : Method} {k9 : Code} {Q9 : State → Prop} {nm9 : String} (G : EnvG) (l : Launch) (hl9 : l.stackTraces = false) (B : Bd p9 s9 m9 a9 t9 k9 G code 9 RL wsL_law ret nm9) (Φ : Hm) (sz : Nat) (b : Nat) (xs : Nat → Int32) (hX : va_X b 7 xs s9 s9.heap) (hbn : b < G.2.2.2) (x y o d : Nat)  (go : Nat → Int64) (gd : Nat → UInt64) (hna : G.2.2.2 ≤ x) (hxy : x + 149 ≤ y) (hyo : y + 26 ≤ o) (hyd : y + 26 ≤ d) (hod : o ≠ d) (hx_0 : Φ x = some (o_ 13 [.ref (x + 1), .ref (x + 3), .ref (x + 24), .ref (x + 46), .ref (x + 74), .ref (x + 80), .ref (x + 132), .ref (x + 121)])) (hx_74 : Φ (x + 74) = some (o_ 10 [.ref (x + 3), .ref (x + 46), .ref (x + 75), .ref (x + 77), .int 0, .ref (x + 78), .ref (x + 79), .int 0, .long 0, .int 0])) (hy_0 : Φ y = some (o_ 14 [.int 0, .ref (y + 1), .ref (y + 2), .int 0, .int 1, .int 1, .int 0, .int 0, .ref (y + 3), .ref (y + 4), .int 0, .long 0, .ref (y + 5), .int 0, .int 0, .long 0, .long 0, .long 0, .long 0, .ref (y + 6), .ref (y + 7), .int 0, .ref (y + 8), .int 0, .ref (y + 9), .ref (y + 10), .int 0, .ref (y + 11), .ref (y + 12), .ref (y + 13), .ref (y + 14), .ref (y + 15), .ref (y + 16), .int 0, .long (-1), .ref (y + 17), .ref (y + 18), .ref (y + 19), .ref (y + 20), .ref (y + 21), .ref (y + 22), .int 0, .ref (y + 23), .ref (y + 24), .int 0, .ref (y + 25), .int 0, .int 0, .int 0, .int (-1), .int 0, .int 0, .int 0, .long 0]))  (hT : ∀ (Φ1 : Hm) (sz1 : Nat), Z p9 l e9 room_1 s9 m9 a9 w9 t9 k9 Q9 G 9 2893 [(5, .int 0), (4, .ref d), (3, .ref o), (2, .ref y), (1, .ref x), (0, .ref b)] [] Φ1 sz1 178 20844) : Z p9 l e9 room_1 s9 m9 a9 w9 t9 k9 Q9 G 9 1437 [(5, .int 0), (4, .ref d), (3, .ref o), (2, .ref y), (1, .ref x), (0, .ref b)] [] Φ sz 177 20838 := by
  refine z_aload_n B dL_law_1437 rfl 4 rfl ?_
  refine z_callV (As := []) (rest := []) B (f_X11_sequence G l Φ sz x hx_0 hx_74) (cwV 0 B.1.2.2.2.2 gL_law_X11_sequence rfl rfl rfl (by decide +kernel) ⟨Nat.le_of_ble_eq_true rfl, Nat.le_of_ble_eq_true rfl⟩) hx_0 rfl rfl rfl rfl (Nat.le_of_ble_eq_true rfl) dL_law_1438 ⟨Nat.le_of_ble_eq_true rfl, Nat.le_of_ble_eq_true rfl⟩ (fun v1 Φ1 sz1 st1 hp1 hs1 => ?_)
  obtain ⟨rfl, fr1⟩ := hp1
  replace hs1 : st1 = [.long 0] := hs1
  subst st1
  refine z_aload_n B dL_law_1441 rfl 3 rfl ?_
  have h_1 : Φ1 y = some (o_ 14 [.int 0, .ref (y + 1), .ref (y + 2), .int 0, .int 1, .int 1, .int 0, .int 0, .ref (y + 3), .ref (y + 4), .int 0, .long 0, .ref (y + 5), .int 0, .int 0, .long 0, .long 0, .long 0, .long 0, .ref (y + 6), .ref (y + 7), .int 0, .ref (y + 8), .int 0, .ref (y + 9), .ref (y + 10), .int 0, .ref (y + 11), .ref (y + 12), .ref (y + 13), .ref (y + 14), .ref (y + 15), .ref (y + 16), .int 0, .long (-1), .ref (y + 17), .ref (y + 18), .ref (y + 19), .ref (y + 20), .ref (y + 21), .ref (y + 22), .int 0, .ref (y + 23), .ref (y + 24), .int 0, .ref (y + 25), .int 0, .int 0, .int 0, .int (-1), .int 0, .int 0, .int 0, .long 0]) := ((fr1 y hxy).trans hy_0)
  refine z_callV (As := []) (rest := [.long 0]) B (m_X12_sequence G l Φ1 sz1 y h_1 (Nat.le_trans hna (Nat.le_trans (Nat.le_add_right x 149) hxy))) (cwV 0 B.1.2.2.2.2 gL_law_X12_sequence rfl rfl rfl (by decide +kernel) ⟨Nat.le_of_ble_eq_true rfl, Nat.le_of_ble_eq_true rfl⟩) h_1 rfl rfl rfl rfl (Nat.le_of_ble_eq_true rfl) dL_law_1442 ⟨Nat.le_of_ble_eq_true rfl, Nat.le_of_ble_eq_true rfl⟩ (fun v2 Φ2 sz2 st2 hp2 hs2 => ?_)
  obtain ⟨rfl, ⟨fs1, hy1, hk1⟩, fr2⟩ := hp2
  replace hs2 : st2 = [.long 0, .long 0] := hs2
  subst st2
  refine z_lcmp B dL_law_1445 ?_
  refine z_top (st1 := [.int 0]) (congrArg (fun w9 : Int32 => ([.int w9] : List Value)) (show (lg_cmp 0 0 : Int32) = 0 by decide +kernel)) ?_
  refine z_if_eq (tgt := 2893) B dL_law_1446 rfl (fun c_1 => ?_) (fun h9 => absurd (by decide) h9)
  refine z_lv [0, 1, 2, 3, 4, 5] rfl ?_
  refine z_widen (k := 178) (n := 20844) (Nat.le_of_ble_eq_true rfl) (Nat.le_of_ble_eq_true rfl) ?_
  exact hT _ _

set_option maxHeartbeats 4000000 in
set_option maxRecDepth 100000 in
theorem lc_32 {p9 : Program} {e9 : Env} {s9 : State} {m9 : MethodId} {a9 : Array Value} {w9 : List Frame} {t9 : Method} {k9 : Code} {Q9 : State → Prop} {nm9 : String} (G : EnvG) (l : Launch) (hl9 : l.stackTraces = false) (B : Bd p9 s9 m9 a9 t9 k9 G code 9 RL wsL_law ret nm9) (Φ : Hm) (sz : Nat) (b : Nat) (xs : Nat → Int32) (hX : va_X b 7 xs s9 s9.heap) (hbn : b < G.2.2.2) (x y o d : Nat)  (go : Nat → Int64) (gd : Nat → UInt64) (hna : G.2.2.2 ≤ x) (hxy : x + 149 ≤ y) (hyo : y + 26 ≤ o) (hyd : y + 26 ≤ d) (hod : o ≠ d) (hx_0 : Φ x = some (o_ 13 [.ref (x + 1), .ref (x + 3), .ref (x + 24), .ref (x + 46), .ref (x + 74), .ref (x + 80), .ref (x + 132), .ref (x + 121)])) (hx_46 : Φ (x + 46) = some (o_ 9 [.ref (x + 47), .int 0, .int 0])) (hy_0 : Φ y = some (o_ 14 [.int 0, .ref (y + 1), .ref (y + 2), .int 0, .int 1, .int 1, .int 0, .int 0, .ref (y + 3), .ref (y + 4), .int 0, .long 0, .ref (y + 5), .int 0, .int 0, .long 0, .long 0, .long 0, .long 0, .ref (y + 6), .ref (y + 7), .int 0, .ref (y + 8), .int 0, .ref (y + 9), .ref (y + 10), .int 0, .ref (y + 11), .ref (y + 12), .ref (y + 13), .ref (y + 14), .ref (y + 15), .ref (y + 16), .int 0, .long (-1), .ref (y + 17), .ref (y + 18), .ref (y + 19), .ref (y + 20), .ref (y + 21), .ref (y + 22), .int 0, .ref (y + 23), .ref (y + 24), .int 0, .ref (y + 25), .int 0, .int 0, .int 0, .int (-1), .int 0, .int 0, .int 0, .long 0]))  (hT : ∀ (Φ1 : Hm) (sz1 : Nat), Z p9 l e9 room_1 s9 m9 a9 w9 t9 k9 Q9 G 9 2893 [(5, .int 0), (4, .ref d), (3, .ref o), (2, .ref y), (1, .ref x), (0, .ref b)] [] Φ1 sz1 178 20844) : Z p9 l e9 room_1 s9 m9 a9 w9 t9 k9 Q9 G 9 1451 [(5, .int 0), (4, .ref d), (3, .ref o), (2, .ref y), (1, .ref x), (0, .ref b)] [] Φ sz 177 20838 := by
  refine z_aload_n B dL_law_1451 rfl 4 rfl ?_
  refine z_callV (As := []) (rest := []) B (f_X11_queueLength G l Φ sz x hx_0 hx_46) (cwV 0 B.1.2.2.2.2 gL_law_X11_queueLength rfl rfl rfl (by decide +kernel) ⟨Nat.le_of_ble_eq_true rfl, Nat.le_of_ble_eq_true rfl⟩) hx_0 rfl rfl rfl rfl (Nat.le_of_ble_eq_true rfl) dL_law_1452 ⟨Nat.le_of_ble_eq_true rfl, Nat.le_of_ble_eq_true rfl⟩ (fun v1 Φ1 sz1 st1 hp1 hs1 => ?_)
  obtain ⟨rfl, fr1⟩ := hp1
  replace hs1 : st1 = [.int 0] := hs1
  subst st1
  refine z_aload_n B dL_law_1455 rfl 3 rfl ?_
  have h_1 : Φ1 y = some (o_ 14 [.int 0, .ref (y + 1), .ref (y + 2), .int 0, .int 1, .int 1, .int 0, .int 0, .ref (y + 3), .ref (y + 4), .int 0, .long 0, .ref (y + 5), .int 0, .int 0, .long 0, .long 0, .long 0, .long 0, .ref (y + 6), .ref (y + 7), .int 0, .ref (y + 8), .int 0, .ref (y + 9), .ref (y + 10), .int 0, .ref (y + 11), .ref (y + 12), .ref (y + 13), .ref (y + 14), .ref (y + 15), .ref (y + 16), .int 0, .long (-1), .ref (y + 17), .ref (y + 18), .ref (y + 19), .ref (y + 20), .ref (y + 21), .ref (y + 22), .int 0, .ref (y + 23), .ref (y + 24), .int 0, .ref (y + 25), .int 0, .int 0, .int 0, .int (-1), .int 0, .int 0, .int 0, .long 0]) := ((fr1 y hxy).trans hy_0)
  refine z_callV (As := []) (rest := [.int 0]) B (m_X12_queueLength G l Φ1 sz1 y h_1 (Nat.le_trans hna (Nat.le_trans (Nat.le_add_right x 149) hxy))) (cwV 0 B.1.2.2.2.2 gL_law_X12_queueLength rfl rfl rfl (by decide +kernel) ⟨Nat.le_of_ble_eq_true rfl, Nat.le_of_ble_eq_true rfl⟩) h_1 rfl rfl rfl rfl (Nat.le_of_ble_eq_true rfl) dL_law_1456 ⟨Nat.le_of_ble_eq_true rfl, Nat.le_of_ble_eq_true rfl⟩ (fun v2 Φ2 sz2 st2 hp2 hs2 => ?_)
  obtain ⟨rfl, ⟨fs1, hy1, hk1⟩, fr2⟩ := hp2
  replace hs2 : st2 = [.int 0, .int 0] := hs2
  subst st2
  refine z_icmp_eq (tgt := 2893) B dL_law_1459 rfl (fun c_1 => ?_) (fun h9 => absurd (by decide) h9)
  refine z_lv [0, 1, 2, 3, 4, 5] rfl ?_
  refine z_widen (k := 178) (n := 20844) (Nat.le_of_ble_eq_true rfl) (Nat.le_of_ble_eq_true rfl) ?_
  exact hT _ _

set_option maxHeartbeats 4000000 in
set_option maxRecDepth 100000 in
theorem lc_36 {p9 : Program} {e9 : Env} {s9 : State} {m9 : MethodId} {a9 : Array Value} {w9 : List Frame} {t9 : Method} {k9 : Code} {Q9 : State → Prop} {nm9 : String} (G : EnvG) (l : Launch) (hl9 : l.stackTraces = false) (B : Bd p9 s9 m9 a9 t9 k9 G code 9 RL wsL_law ret nm9) (Φ : Hm) (sz : Nat) (b : Nat) (xs : Nat → Int32) (hX : va_X b 7 xs s9 s9.heap) (hbn : b < G.2.2.2) (x y o d : Nat)  (go : Nat → Int64) (gd : Nat → UInt64) (hna : G.2.2.2 ≤ x) (hxy : x + 149 ≤ y) (hyo : y + 26 ≤ o) (hyd : y + 26 ≤ d) (hod : o ≠ d) (hx_0 : Φ x = some (o_ 13 [.ref (x + 1), .ref (x + 3), .ref (x + 24), .ref (x + 46), .ref (x + 74), .ref (x + 80), .ref (x + 132), .ref (x + 121)])) (hx_46 : Φ (x + 46) = some (o_ 9 [.ref (x + 47), .int 0, .int 0])) (hy_0 : Φ y = some (o_ 14 [.int 0, .ref (y + 1), .ref (y + 2), .int 0, .int 1, .int 1, .int 0, .int 0, .ref (y + 3), .ref (y + 4), .int 0, .long 0, .ref (y + 5), .int 0, .int 0, .long 0, .long 0, .long 0, .long 0, .ref (y + 6), .ref (y + 7), .int 0, .ref (y + 8), .int 0, .ref (y + 9), .ref (y + 10), .int 0, .ref (y + 11), .ref (y + 12), .ref (y + 13), .ref (y + 14), .ref (y + 15), .ref (y + 16), .int 0, .long (-1), .ref (y + 17), .ref (y + 18), .ref (y + 19), .ref (y + 20), .ref (y + 21), .ref (y + 22), .int 0, .ref (y + 23), .ref (y + 24), .int 0, .ref (y + 25), .int 0, .int 0, .int 0, .int (-1), .int 0, .int 0, .int 0, .long 0]))  (hT : ∀ (Φ1 : Hm) (sz1 : Nat), Z p9 l e9 room_1 s9 m9 a9 w9 t9 k9 Q9 G 9 2893 [(5, .int 0), (4, .ref d), (3, .ref o), (2, .ref y), (1, .ref x), (0, .ref b)] [] Φ1 sz1 178 20844) : Z p9 l e9 room_1 s9 m9 a9 w9 t9 k9 Q9 G 9 1644 [(5, .int 0), (4, .ref d), (3, .ref o), (2, .ref y), (1, .ref x), (0, .ref b)] [] Φ sz 177 20838 := by
  refine z_aload_n B dL_law_1644 rfl 4 rfl ?_
  refine z_callV (As := []) (rest := []) B (f_X11_deliverAll G l Φ sz x hx_0 hx_46) (cwV 0 B.1.2.2.2.2 gL_law_X11_deliverAll rfl rfl rfl (by decide +kernel) ⟨Nat.le_of_ble_eq_true rfl, Nat.le_of_ble_eq_true rfl⟩) hx_0 rfl rfl rfl rfl (Nat.le_of_ble_eq_true rfl) dL_law_1645 ⟨Nat.le_of_ble_eq_true rfl, Nat.le_of_ble_eq_true rfl⟩ (fun v1 Φ1 sz1 st1 hp1 hs1 => ?_)
  obtain ⟨rfl, fr1⟩ := hp1
  replace hs1 : st1 = [.int 0] := hs1
  subst st1
  refine z_aload_n B dL_law_1648 rfl 3 rfl ?_
  have h_1 : Φ1 y = some (o_ 14 [.int 0, .ref (y + 1), .ref (y + 2), .int 0, .int 1, .int 1, .int 0, .int 0, .ref (y + 3), .ref (y + 4), .int 0, .long 0, .ref (y + 5), .int 0, .int 0, .long 0, .long 0, .long 0, .long 0, .ref (y + 6), .ref (y + 7), .int 0, .ref (y + 8), .int 0, .ref (y + 9), .ref (y + 10), .int 0, .ref (y + 11), .ref (y + 12), .ref (y + 13), .ref (y + 14), .ref (y + 15), .ref (y + 16), .int 0, .long (-1), .ref (y + 17), .ref (y + 18), .ref (y + 19), .ref (y + 20), .ref (y + 21), .ref (y + 22), .int 0, .ref (y + 23), .ref (y + 24), .int 0, .ref (y + 25), .int 0, .int 0, .int 0, .int (-1), .int 0, .int 0, .int 0, .long 0]) := ((fr1 y hxy).trans hy_0)
  refine z_callV (As := []) (rest := [.int 0]) B (m_X12_deliverAll G l Φ1 sz1 y h_1 (Nat.le_trans hna (Nat.le_trans (Nat.le_add_right x 149) hxy))) (cwV 0 B.1.2.2.2.2 gL_law_X12_deliverAll rfl rfl rfl (by decide +kernel) ⟨Nat.le_of_ble_eq_true rfl, Nat.le_of_ble_eq_true rfl⟩) h_1 rfl rfl rfl rfl (Nat.le_of_ble_eq_true rfl) dL_law_1649 ⟨Nat.le_of_ble_eq_true rfl, Nat.le_of_ble_eq_true rfl⟩ (fun v2 Φ2 sz2 st2 hp2 hs2 => ?_)
  obtain ⟨rfl, ⟨fs1, hy1, hk1⟩, fr2⟩ := hp2
  replace hs2 : st2 = [.int 0, .int 0] := hs2
  subst st2
  refine z_icmp_eq (tgt := 2893) B dL_law_1652 rfl (fun c_1 => ?_) (fun h9 => absurd (by decide) h9)
  refine z_lv [0, 1, 2, 3, 4, 5] rfl ?_
  refine z_widen (k := 178) (n := 20844) (Nat.le_of_ble_eq_true rfl) (Nat.le_of_ble_eq_true rfl) ?_
  exact hT _ _

set_option maxHeartbeats 4000000 in
set_option maxRecDepth 100000 in
theorem lc_40 {p9 : Program} {e9 : Env} {s9 : State} {m9 : MethodId} {a9 : Array Value} {w9 : List Frame} {t9 : Method} {k9 : Code} {Q9 : State → Prop} {nm9 : String} (G : EnvG) (l : Launch) (hl9 : l.stackTraces = false) (B : Bd p9 s9 m9 a9 t9 k9 G code 9 RL wsL_law ret nm9) (Φ : Hm) (sz : Nat) (b : Nat) (xs : Nat → Int32) (hX : va_X b 7 xs s9 s9.heap) (hbn : b < G.2.2.2) (x y o d : Nat)  (go : Nat → Int64) (gd : Nat → UInt64) (hna : G.2.2.2 ≤ x) (hxy : x + 149 ≤ y) (hyo : y + 26 ≤ o) (hyd : y + 26 ≤ d) (hod : o ≠ d) (hx_0 : Φ x = some (o_ 13 [.ref (x + 1), .ref (x + 3), .ref (x + 24), .ref (x + 46), .ref (x + 74), .ref (x + 80), .ref (x + 132), .ref (x + 121)])) (hx_1 : Φ (x + 1) = some (o_ 7 [.ref (x + 2), .int 0])) (hx_80 : Φ (x + 80) = some (o_ 4 [.ref (x + 3), .ref (x + 74), .ref (x + 81), .ref (x + 95), .int 0, .int 1, .int 1, .int 0, .int 0, .int 0, .long 0, .long 0, .long 0])) (hx_132 : Φ (x + 132) = some (o_ 2 [.ref (x + 3), .ref (x + 121), .ref (x + 133), .ref (x + 134), .ref (x + 135), .ref (x + 137), .ref (x + 138), .ref (x + 139), .ref (x + 140), .int 0, .int 0, .int 0])) (hx_139 : Φ (x + 139) = some (al_ G 9 (fun _ => 0))) (hy_0 : Φ y = some (o_ 14 [.int 0, .ref (y + 1), .ref (y + 2), .int 0, .int 1, .int 1, .int 0, .int 0, .ref (y + 3), .ref (y + 4), .int 0, .long 0, .ref (y + 5), .int 0, .int 0, .long 0, .long 0, .long 0, .long 0, .ref (y + 6), .ref (y + 7), .int 0, .ref (y + 8), .int 0, .ref (y + 9), .ref (y + 10), .int 0, .ref (y + 11), .ref (y + 12), .ref (y + 13), .ref (y + 14), .ref (y + 15), .ref (y + 16), .int 0, .long (-1), .ref (y + 17), .ref (y + 18), .ref (y + 19), .ref (y + 20), .ref (y + 21), .ref (y + 22), .int 0, .ref (y + 23), .ref (y + 24), .int 0, .ref (y + 25), .int 0, .int 0, .int 0, .int (-1), .int 0, .int 0, .int 0, .long 0])) (hy_11 : Φ (y + 11) = some (al_ G 9 (vp_updL (vp_updL (vp_updL (vp_updL (vp_updL (vp_updL (vp_updL (vp_updL (vp_updL (fun _ => 0) (0 : Int32).toNatClampNeg 0) (1 : Int32).toNatClampNeg 0) (2 : Int32).toNatClampNeg 0) (3 : Int32).toNatClampNeg 0) (4 : Int32).toNatClampNeg 0) (5 : Int32).toNatClampNeg 0) (6 : Int32).toNatClampNeg 0) (7 : Int32).toNatClampNeg 0) (8 : Int32).toNatClampNeg 0)))  (hT : ∀ (Φ1 : Hm) (sz1 : Nat), Z p9 l e9 room_1 s9 m9 a9 w9 t9 k9 Q9 G 9 2893 [(5, .int 0), (4, .ref d), (3, .ref o), (2, .ref y), (1, .ref x), (0, .ref b)] [] Φ1 sz1 178 20844) : Z p9 l e9 room_1 s9 m9 a9 w9 t9 k9 Q9 G 9 1851 [(5, .int 0), (4, .ref d), (3, .ref o), (2, .ref y), (1, .ref x), (0, .ref b)] [] Φ sz 177 20838 := by
  refine z_aload_n B dL_law_1851 rfl 4 rfl ?_
  refine z_callV (As := []) (rest := []) B (f_X11_receive G l Φ sz x hx_0 hx_1 hx_80 hx_132 hx_139 hna) (cwV 0 B.1.2.2.2.2 gL_law_X11_receive rfl rfl rfl (by decide +kernel) ⟨Nat.le_of_ble_eq_true rfl, Nat.le_of_ble_eq_true rfl⟩) hx_0 rfl rfl rfl rfl (Nat.le_of_ble_eq_true rfl) dL_law_1852 ⟨Nat.le_of_ble_eq_true rfl, Nat.le_of_ble_eq_true rfl⟩ (fun v1 Φ1 sz1 st1 hp1 hs1 => ?_)
  obtain ⟨rfl, fr1⟩ := hp1
  replace hs1 : st1 = [.int 0] := hs1
  subst st1
  refine z_aload_n B dL_law_1855 rfl 3 rfl ?_
  have h_1 : Φ1 y = some (o_ 14 [.int 0, .ref (y + 1), .ref (y + 2), .int 0, .int 1, .int 1, .int 0, .int 0, .ref (y + 3), .ref (y + 4), .int 0, .long 0, .ref (y + 5), .int 0, .int 0, .long 0, .long 0, .long 0, .long 0, .ref (y + 6), .ref (y + 7), .int 0, .ref (y + 8), .int 0, .ref (y + 9), .ref (y + 10), .int 0, .ref (y + 11), .ref (y + 12), .ref (y + 13), .ref (y + 14), .ref (y + 15), .ref (y + 16), .int 0, .long (-1), .ref (y + 17), .ref (y + 18), .ref (y + 19), .ref (y + 20), .ref (y + 21), .ref (y + 22), .int 0, .ref (y + 23), .ref (y + 24), .int 0, .ref (y + 25), .int 0, .int 0, .int 0, .int (-1), .int 0, .int 0, .int 0, .long 0]) := ((fr1 y hxy).trans hy_0)
  have h_2 : Φ1 (y + 11) = some (al_ G 9 (vp_updL (vp_updL (vp_updL (vp_updL (vp_updL (vp_updL (vp_updL (vp_updL (vp_updL (fun _ => 0) (0 : Int32).toNatClampNeg 0) (1 : Int32).toNatClampNeg 0) (2 : Int32).toNatClampNeg 0) (3 : Int32).toNatClampNeg 0) (4 : Int32).toNatClampNeg 0) (5 : Int32).toNatClampNeg 0) (6 : Int32).toNatClampNeg 0) (7 : Int32).toNatClampNeg 0) (8 : Int32).toNatClampNeg 0)) := ((fr1 (y + 11) (Nat.le_trans hxy (Nat.le_add_right y 11))).trans hy_11)
  refine z_callV (As := []) (rest := [.int 0]) B (m_X12_receive G l Φ1 sz1 y h_1 h_2 (Nat.le_trans hna (Nat.le_trans (Nat.le_add_right x 149) hxy))) (cwV 0 B.1.2.2.2.2 gL_law_X12_receive rfl rfl rfl (by decide +kernel) ⟨Nat.le_of_ble_eq_true rfl, Nat.le_of_ble_eq_true rfl⟩) h_1 rfl rfl rfl rfl (Nat.le_of_ble_eq_true rfl) dL_law_1856 ⟨Nat.le_of_ble_eq_true rfl, Nat.le_of_ble_eq_true rfl⟩ (fun v2 Φ2 sz2 st2 hp2 hs2 => ?_)
  obtain ⟨rfl, ⟨fs1, hy1, hk1⟩, fr2⟩ := hp2
  replace hs2 : st2 = [.int 0, .int 0] := hs2
  subst st2
  refine z_icmp_eq (tgt := 2893) B dL_law_1859 rfl (fun c_1 => ?_) (fun h9 => absurd (by decide) h9)
  refine z_lv [0, 1, 2, 3, 4, 5] rfl ?_
  refine z_widen (k := 178) (n := 20844) (Nat.le_of_ble_eq_true rfl) (Nat.le_of_ble_eq_true rfl) ?_
  exact hT _ _

set_option maxHeartbeats 4000000 in
set_option maxRecDepth 100000 in
theorem lc_41 {p9 : Program} {e9 : Env} {s9 : State} {m9 : MethodId} {a9 : Array Value} {w9 : List Frame} {t9 : Method} {k9 : Code} {Q9 : State → Prop} {nm9 : String} (G : EnvG) (l : Launch) (hl9 : l.stackTraces = false) (B : Bd p9 s9 m9 a9 t9 k9 G code 9 RL wsL_law ret nm9) (Φ : Hm) (sz : Nat) (b : Nat) (xs : Nat → Int32) (hX : va_X b 7 xs s9 s9.heap) (hbn : b < G.2.2.2) (x y o d : Nat)  (go : Nat → Int64) (gd : Nat → UInt64) (hna : G.2.2.2 ≤ x) (hxy : x + 149 ≤ y) (hyo : y + 26 ≤ o) (hyd : y + 26 ≤ d) (hod : o ≠ d) (hx_0 : Φ x = some (o_ 13 [.ref (x + 1), .ref (x + 3), .ref (x + 24), .ref (x + 46), .ref (x + 74), .ref (x + 80), .ref (x + 132), .ref (x + 121)])) (hx_80 : Φ (x + 80) = some (o_ 4 [.ref (x + 3), .ref (x + 74), .ref (x + 81), .ref (x + 95), .int 0, .int 1, .int 1, .int 0, .int 0, .int 0, .long 0, .long 0, .long 0])) (hx_132 : Φ (x + 132) = some (o_ 2 [.ref (x + 3), .ref (x + 121), .ref (x + 133), .ref (x + 134), .ref (x + 135), .ref (x + 137), .ref (x + 138), .ref (x + 139), .ref (x + 140), .int 0, .int 0, .int 0])) (hx_133 : Φ (x + 133) = some (aq_ G 4 4 (va_up (va_up (va_up (va_up (fun _ => none) (0 : Int32).toNatClampNeg (some (x + 141))) (1 : Int32).toNatClampNeg (some (x + 143))) (2 : Int32).toNatClampNeg (some (x + 145))) (3 : Int32).toNatClampNeg (some (x + 147))))) (hx_141 : Φ (x + 141) = some (o_ 12 [.ref (x + 142), .int 0, .int 0, .int 0])) (hx_143 : Φ (x + 143) = some (o_ 12 [.ref (x + 144), .int 0, .int 0, .int 0])) (hx_145 : Φ (x + 145) = some (o_ 12 [.ref (x + 146), .int 0, .int 0, .int 0])) (hx_147 : Φ (x + 147) = some (o_ 12 [.ref (x + 148), .int 0, .int 0, .int 0])) (hy_0 : Φ y = some (o_ 14 [.int 0, .ref (y + 1), .ref (y + 2), .int 0, .int 1, .int 1, .int 0, .int 0, .ref (y + 3), .ref (y + 4), .int 0, .long 0, .ref (y + 5), .int 0, .int 0, .long 0, .long 0, .long 0, .long 0, .ref (y + 6), .ref (y + 7), .int 0, .ref (y + 8), .int 0, .ref (y + 9), .ref (y + 10), .int 0, .ref (y + 11), .ref (y + 12), .ref (y + 13), .ref (y + 14), .ref (y + 15), .ref (y + 16), .int 0, .long (-1), .ref (y + 17), .ref (y + 18), .ref (y + 19), .ref (y + 20), .ref (y + 21), .ref (y + 22), .int 0, .ref (y + 23), .ref (y + 24), .int 0, .ref (y + 25), .int 0, .int 0, .int 0, .int (-1), .int 0, .int 0, .int 0, .long 0])) (hy_12 : Φ (y + 12) = some (ai_ G 4 (upd (upd (upd (upd (fun _ => 0) (0 : Int32).toNatClampNeg 0) (1 : Int32).toNatClampNeg 0) (2 : Int32).toNatClampNeg 0) (3 : Int32).toNatClampNeg 0)))  (hT : ∀ (Φ1 : Hm) (sz1 : Nat), Z p9 l e9 room_1 s9 m9 a9 w9 t9 k9 Q9 G 9 2893 [(5, .int 0), (4, .ref d), (3, .ref o), (2, .ref y), (1, .ref x), (0, .ref b)] [] Φ1 sz1 178 20844) : Z p9 l e9 room_1 s9 m9 a9 w9 t9 k9 Q9 G 9 1864 [(5, .int 0), (4, .ref d), (3, .ref o), (2, .ref y), (1, .ref x), (0, .ref b)] [] Φ sz 177 20838 := by
  refine z_aload_n B dL_law_1864 rfl 4 rfl ?_
  refine z_callV (As := []) (rest := []) B (f_X11_knownTemplates G l Φ sz x hx_0 hx_80 hx_132 hx_133 hx_141 hx_143 hx_145 hx_147) (cwV 0 B.1.2.2.2.2 gL_law_X11_knownTemplates rfl rfl rfl (by decide +kernel) ⟨Nat.le_of_ble_eq_true rfl, Nat.le_of_ble_eq_true rfl⟩) hx_0 rfl rfl rfl rfl (Nat.le_of_ble_eq_true rfl) dL_law_1865 ⟨Nat.le_of_ble_eq_true rfl, Nat.le_of_ble_eq_true rfl⟩ (fun v1 Φ1 sz1 st1 hp1 hs1 => ?_)
  obtain ⟨rfl, fr1⟩ := hp1
  replace hs1 : st1 = [.int 0] := hs1
  subst st1
  refine z_aload_n B dL_law_1868 rfl 3 rfl ?_
  have h_1 : Φ1 y = some (o_ 14 [.int 0, .ref (y + 1), .ref (y + 2), .int 0, .int 1, .int 1, .int 0, .int 0, .ref (y + 3), .ref (y + 4), .int 0, .long 0, .ref (y + 5), .int 0, .int 0, .long 0, .long 0, .long 0, .long 0, .ref (y + 6), .ref (y + 7), .int 0, .ref (y + 8), .int 0, .ref (y + 9), .ref (y + 10), .int 0, .ref (y + 11), .ref (y + 12), .ref (y + 13), .ref (y + 14), .ref (y + 15), .ref (y + 16), .int 0, .long (-1), .ref (y + 17), .ref (y + 18), .ref (y + 19), .ref (y + 20), .ref (y + 21), .ref (y + 22), .int 0, .ref (y + 23), .ref (y + 24), .int 0, .ref (y + 25), .int 0, .int 0, .int 0, .int (-1), .int 0, .int 0, .int 0, .long 0]) := ((fr1 y hxy).trans hy_0)
  have h_2 : Φ1 (y + 12) = some (ai_ G 4 (upd (upd (upd (upd (fun _ => 0) (0 : Int32).toNatClampNeg 0) (1 : Int32).toNatClampNeg 0) (2 : Int32).toNatClampNeg 0) (3 : Int32).toNatClampNeg 0)) := ((fr1 (y + 12) (Nat.le_trans hxy (Nat.le_add_right y 12))).trans hy_12)
  refine z_callV (As := []) (rest := [.int 0]) B (m_X12_knownTemplates G l Φ1 sz1 y h_1 h_2 (Nat.le_trans hna (Nat.le_trans (Nat.le_add_right x 149) hxy))) (cwV 0 B.1.2.2.2.2 gL_law_X12_knownTemplates rfl rfl rfl (by decide +kernel) ⟨Nat.le_of_ble_eq_true rfl, Nat.le_of_ble_eq_true rfl⟩) h_1 rfl rfl rfl rfl (Nat.le_of_ble_eq_true rfl) dL_law_1869 ⟨Nat.le_of_ble_eq_true rfl, Nat.le_of_ble_eq_true rfl⟩ (fun v2 Φ2 sz2 st2 hp2 hs2 => ?_)
  obtain ⟨rfl, ⟨fs1, hy1, hk1⟩, fr2⟩ := hp2
  replace hs2 : st2 = [.int 0, .int 0] := hs2
  subst st2
  refine z_icmp_eq (tgt := 2893) B dL_law_1872 rfl (fun c_1 => ?_) (fun h9 => absurd (by decide) h9)
  refine z_lv [0, 1, 2, 3, 4, 5] rfl ?_
  refine z_widen (k := 178) (n := 20844) (Nat.le_of_ble_eq_true rfl) (Nat.le_of_ble_eq_true rfl) ?_
  exact hT _ _

set_option maxHeartbeats 4000000 in
set_option maxRecDepth 100000 in
theorem lc_43 {p9 : Program} {e9 : Env} {s9 : State} {m9 : MethodId} {a9 : Array Value} {w9 : List Frame} {t9 : Method} {k9 : Code} {Q9 : State → Prop} {nm9 : String} (G : EnvG) (l : Launch) (hl9 : l.stackTraces = false) (B : Bd p9 s9 m9 a9 t9 k9 G code 9 RL wsL_law ret nm9) (Φ : Hm) (sz : Nat) (b : Nat) (xs : Nat → Int32) (hX : va_X b 7 xs s9 s9.heap) (hbn : b < G.2.2.2) (x y o d : Nat)  (go : Nat → Int64) (gd : Nat → UInt64) (hna : G.2.2.2 ≤ x) (hxy : x + 149 ≤ y) (hyo : y + 26 ≤ o) (hyd : y + 26 ≤ d) (hod : o ≠ d) (hx_0 : Φ x = some (o_ 13 [.ref (x + 1), .ref (x + 3), .ref (x + 24), .ref (x + 46), .ref (x + 74), .ref (x + 80), .ref (x + 132), .ref (x + 121)])) (hx_132 : Φ (x + 132) = some (o_ 2 [.ref (x + 3), .ref (x + 121), .ref (x + 133), .ref (x + 134), .ref (x + 135), .ref (x + 137), .ref (x + 138), .ref (x + 139), .ref (x + 140), .int 0, .int 0, .int 0])) (hy_0 : Φ y = some (o_ 14 [.int 0, .ref (y + 1), .ref (y + 2), .int 0, .int 1, .int 1, .int 0, .int 0, .ref (y + 3), .ref (y + 4), .int 0, .long 0, .ref (y + 5), .int 0, .int 0, .long 0, .long 0, .long 0, .long 0, .ref (y + 6), .ref (y + 7), .int 0, .ref (y + 8), .int 0, .ref (y + 9), .ref (y + 10), .int 0, .ref (y + 11), .ref (y + 12), .ref (y + 13), .ref (y + 14), .ref (y + 15), .ref (y + 16), .int 0, .long (-1), .ref (y + 17), .ref (y + 18), .ref (y + 19), .ref (y + 20), .ref (y + 21), .ref (y + 22), .int 0, .ref (y + 23), .ref (y + 24), .int 0, .ref (y + 25), .int 0, .int 0, .int 0, .int (-1), .int 0, .int 0, .int 0, .long 0]))  (hT : ∀ (Φ1 : Hm) (sz1 : Nat), Z p9 l e9 room_1 s9 m9 a9 w9 t9 k9 Q9 G 9 2893 [(5, .int 0), (4, .ref d), (3, .ref o), (2, .ref y), (1, .ref x), (0, .ref b)] [] Φ1 sz1 178 20844) : Z p9 l e9 room_1 s9 m9 a9 w9 t9 k9 Q9 G 9 1933 [(5, .int 0), (4, .ref d), (3, .ref o), (2, .ref y), (1, .ref x), (0, .ref b)] [] Φ sz 177 20838 := by
  refine z_aload_n B dL_law_1933 rfl 4 rfl ?_
  refine z_callV (As := []) (rest := []) B (f_X11_expected G l Φ sz x hx_0 hx_132) (cwV 0 B.1.2.2.2.2 gL_law_X11_expected rfl rfl rfl (by decide +kernel) ⟨Nat.le_of_ble_eq_true rfl, Nat.le_of_ble_eq_true rfl⟩) hx_0 rfl rfl rfl rfl (Nat.le_of_ble_eq_true rfl) dL_law_1934 ⟨Nat.le_of_ble_eq_true rfl, Nat.le_of_ble_eq_true rfl⟩ (fun v1 Φ1 sz1 st1 hp1 hs1 => ?_)
  obtain ⟨rfl, fr1⟩ := hp1
  replace hs1 : st1 = [.long (-1)] := hs1
  subst st1
  refine z_aload_n B dL_law_1937 rfl 3 rfl ?_
  have h_1 : Φ1 y = some (o_ 14 [.int 0, .ref (y + 1), .ref (y + 2), .int 0, .int 1, .int 1, .int 0, .int 0, .ref (y + 3), .ref (y + 4), .int 0, .long 0, .ref (y + 5), .int 0, .int 0, .long 0, .long 0, .long 0, .long 0, .ref (y + 6), .ref (y + 7), .int 0, .ref (y + 8), .int 0, .ref (y + 9), .ref (y + 10), .int 0, .ref (y + 11), .ref (y + 12), .ref (y + 13), .ref (y + 14), .ref (y + 15), .ref (y + 16), .int 0, .long (-1), .ref (y + 17), .ref (y + 18), .ref (y + 19), .ref (y + 20), .ref (y + 21), .ref (y + 22), .int 0, .ref (y + 23), .ref (y + 24), .int 0, .ref (y + 25), .int 0, .int 0, .int 0, .int (-1), .int 0, .int 0, .int 0, .long 0]) := ((fr1 y hxy).trans hy_0)
  refine z_callV (As := []) (rest := [.long (-1)]) B (m_X12_expected G l Φ1 sz1 y h_1 (Nat.le_trans hna (Nat.le_trans (Nat.le_add_right x 149) hxy))) (cwV 0 B.1.2.2.2.2 gL_law_X12_expected rfl rfl rfl (by decide +kernel) ⟨Nat.le_of_ble_eq_true rfl, Nat.le_of_ble_eq_true rfl⟩) h_1 rfl rfl rfl rfl (Nat.le_of_ble_eq_true rfl) dL_law_1938 ⟨Nat.le_of_ble_eq_true rfl, Nat.le_of_ble_eq_true rfl⟩ (fun v2 Φ2 sz2 st2 hp2 hs2 => ?_)
  obtain ⟨rfl, ⟨fs1, hy1, hk1⟩, fr2⟩ := hp2
  replace hs2 : st2 = [.long (-1), .long (-1)] := hs2
  subst st2
  refine z_lcmp B dL_law_1941 ?_
  refine z_top (st1 := [.int 0]) (congrArg (fun w9 : Int32 => ([.int w9] : List Value)) (show (lg_cmp (-1) (-1) : Int32) = 0 by decide +kernel)) ?_
  refine z_if_eq (tgt := 2893) B dL_law_1942 rfl (fun c_1 => ?_) (fun h9 => absurd (by decide) h9)
  refine z_lv [0, 1, 2, 3, 4, 5] rfl ?_
  refine z_widen (k := 178) (n := 20844) (Nat.le_of_ble_eq_true rfl) (Nat.le_of_ble_eq_true rfl) ?_
  exact hT _ _

set_option maxHeartbeats 4000000 in
set_option maxRecDepth 100000 in
theorem lc_46 {p9 : Program} {e9 : Env} {s9 : State} {m9 : MethodId} {a9 : Array Value} {w9 : List Frame} {t9 : Method} {k9 : Code} {Q9 : State → Prop} {nm9 : String} (G : EnvG) (l : Launch) (hl9 : l.stackTraces = false) (B : Bd p9 s9 m9 a9 t9 k9 G code 9 RL wsL_law ret nm9) (Φ : Hm) (sz : Nat) (b : Nat) (xs : Nat → Int32) (hX : va_X b 7 xs s9 s9.heap) (hbn : b < G.2.2.2) (x y o d : Nat)  (go : Nat → Int64) (gd : Nat → UInt64) (hna : G.2.2.2 ≤ x) (hxy : x + 149 ≤ y) (hyo : y + 26 ≤ o) (hyd : y + 26 ≤ d) (hod : o ≠ d) (hx_0 : Φ x = some (o_ 13 [.ref (x + 1), .ref (x + 3), .ref (x + 24), .ref (x + 46), .ref (x + 74), .ref (x + 80), .ref (x + 132), .ref (x + 121)])) (hx_132 : Φ (x + 132) = some (o_ 2 [.ref (x + 3), .ref (x + 121), .ref (x + 133), .ref (x + 134), .ref (x + 135), .ref (x + 137), .ref (x + 138), .ref (x + 139), .ref (x + 140), .int 0, .int 0, .int 0])) (hx_133 : Φ (x + 133) = some (aq_ G 4 4 (va_up (va_up (va_up (va_up (fun _ => none) (0 : Int32).toNatClampNeg (some (x + 141))) (1 : Int32).toNatClampNeg (some (x + 143))) (2 : Int32).toNatClampNeg (some (x + 145))) (3 : Int32).toNatClampNeg (some (x + 147))))) (hx_141 : Φ (x + 141) = some (o_ 12 [.ref (x + 142), .int 0, .int 0, .int 0])) (hx_143 : Φ (x + 143) = some (o_ 12 [.ref (x + 144), .int 0, .int 0, .int 0])) (hx_145 : Φ (x + 145) = some (o_ 12 [.ref (x + 146), .int 0, .int 0, .int 0])) (hx_147 : Φ (x + 147) = some (o_ 12 [.ref (x + 148), .int 0, .int 0, .int 0])) (hy_0 : Φ y = some (o_ 14 [.int 0, .ref (y + 1), .ref (y + 2), .int 0, .int 1, .int 1, .int 0, .int 0, .ref (y + 3), .ref (y + 4), .int 0, .long 0, .ref (y + 5), .int 0, .int 0, .long 0, .long 0, .long 0, .long 0, .ref (y + 6), .ref (y + 7), .int 0, .ref (y + 8), .int 0, .ref (y + 9), .ref (y + 10), .int 0, .ref (y + 11), .ref (y + 12), .ref (y + 13), .ref (y + 14), .ref (y + 15), .ref (y + 16), .int 0, .long (-1), .ref (y + 17), .ref (y + 18), .ref (y + 19), .ref (y + 20), .ref (y + 21), .ref (y + 22), .int 0, .ref (y + 23), .ref (y + 24), .int 0, .ref (y + 25), .int 0, .int 0, .int 0, .int (-1), .int 0, .int 0, .int 0, .long 0])) (hy_12 : Φ (y + 12) = some (ai_ G 4 (upd (upd (upd (upd (fun _ => 0) (0 : Int32).toNatClampNeg 0) (1 : Int32).toNatClampNeg 0) (2 : Int32).toNatClampNeg 0) (3 : Int32).toNatClampNeg 0)))  (hT : ∀ (Φ1 : Hm) (sz1 : Nat), Z p9 l e9 room_1 s9 m9 a9 w9 t9 k9 Q9 G 9 2893 [(5, .int 0), (4, .ref d), (3, .ref o), (2, .ref y), (1, .ref x), (0, .ref b)] [] Φ1 sz1 178 20844) : Z p9 l e9 room_1 s9 m9 a9 w9 t9 k9 Q9 G 9 2067 [(5, .int 0), (4, .ref d), (3, .ref o), (2, .ref y), (1, .ref x), (0, .ref b)] [] Φ sz 177 20838 := by
  refine z_aload_n B dL_law_2067 rfl 4 rfl ?_
  refine z_callV (As := []) (rest := []) B (f_X11_restartCollector G l Φ sz x hx_0 hx_132 hx_133 hx_141 hx_143 hx_145 hx_147 hna) (cwV 0 B.1.2.2.2.2 gL_law_X11_restartCollector rfl rfl rfl (by decide +kernel) ⟨Nat.le_of_ble_eq_true rfl, Nat.le_of_ble_eq_true rfl⟩) hx_0 rfl rfl rfl rfl (Nat.le_of_ble_eq_true rfl) dL_law_2068 ⟨Nat.le_of_ble_eq_true rfl, Nat.le_of_ble_eq_true rfl⟩ (fun v1 Φ1 sz1 st1 hp1 hs1 => ?_)
  obtain ⟨rfl, fr1⟩ := hp1
  replace hs1 : st1 = [.int 0] := hs1
  subst st1
  refine z_aload_n B dL_law_2071 rfl 3 rfl ?_
  have h_1 : Φ1 y = some (o_ 14 [.int 0, .ref (y + 1), .ref (y + 2), .int 0, .int 1, .int 1, .int 0, .int 0, .ref (y + 3), .ref (y + 4), .int 0, .long 0, .ref (y + 5), .int 0, .int 0, .long 0, .long 0, .long 0, .long 0, .ref (y + 6), .ref (y + 7), .int 0, .ref (y + 8), .int 0, .ref (y + 9), .ref (y + 10), .int 0, .ref (y + 11), .ref (y + 12), .ref (y + 13), .ref (y + 14), .ref (y + 15), .ref (y + 16), .int 0, .long (-1), .ref (y + 17), .ref (y + 18), .ref (y + 19), .ref (y + 20), .ref (y + 21), .ref (y + 22), .int 0, .ref (y + 23), .ref (y + 24), .int 0, .ref (y + 25), .int 0, .int 0, .int 0, .int (-1), .int 0, .int 0, .int 0, .long 0]) := ((fr1 y hxy).trans hy_0)
  have h_2 : Φ1 (y + 12) = some (ai_ G 4 (upd (upd (upd (upd (fun _ => 0) (0 : Int32).toNatClampNeg 0) (1 : Int32).toNatClampNeg 0) (2 : Int32).toNatClampNeg 0) (3 : Int32).toNatClampNeg 0)) := ((fr1 (y + 12) (Nat.le_trans hxy (Nat.le_add_right y 12))).trans hy_12)
  refine z_callV (As := []) (rest := [.int 0]) B (m_X12_restartCollector G l Φ1 sz1 y h_1 h_2 (Nat.le_trans hna (Nat.le_trans (Nat.le_add_right x 149) hxy))) (cwV 0 B.1.2.2.2.2 gL_law_X12_restartCollector rfl rfl rfl (by decide +kernel) ⟨Nat.le_of_ble_eq_true rfl, Nat.le_of_ble_eq_true rfl⟩) h_1 rfl rfl rfl rfl (Nat.le_of_ble_eq_true rfl) dL_law_2072 ⟨Nat.le_of_ble_eq_true rfl, Nat.le_of_ble_eq_true rfl⟩ (fun v2 Φ2 sz2 st2 hp2 hs2 => ?_)
  obtain ⟨rfl, ⟨fs1, hy1, hk1⟩, fr2⟩ := hp2
  replace hs2 : st2 = [.int 0, .int 0] := hs2
  subst st2
  refine z_icmp_eq (tgt := 2893) B dL_law_2075 rfl (fun c_1 => ?_) (fun h9 => absurd (by decide) h9)
  refine z_lv [0, 1, 2, 3, 4, 5] rfl ?_
  refine z_widen (k := 178) (n := 20844) (Nat.le_of_ble_eq_true rfl) (Nat.le_of_ble_eq_true rfl) ?_
  exact hT _ _

set_option maxHeartbeats 4000000 in
set_option maxRecDepth 100000 in
theorem lc_47 {p9 : Program} {e9 : Env} {s9 : State} {m9 : MethodId} {a9 : Array Value} {w9 : List Frame} {t9 : Method} {k9 : Code} {Q9 : State → Prop} {nm9 : String} (G : EnvG) (l : Launch) (hl9 : l.stackTraces = false) (B : Bd p9 s9 m9 a9 t9 k9 G code 9 RL wsL_law ret nm9) (Φ : Hm) (sz : Nat) (b : Nat) (xs : Nat → Int32) (hX : va_X b 7 xs s9 s9.heap) (hbn : b < G.2.2.2) (x y o d : Nat)  (go : Nat → Int64) (gd : Nat → UInt64) (hna : G.2.2.2 ≤ x) (hxy : x + 149 ≤ y) (hyo : y + 26 ≤ o) (hyd : y + 26 ≤ d) (hod : o ≠ d) (hx_0 : Φ x = some (o_ 13 [.ref (x + 1), .ref (x + 3), .ref (x + 24), .ref (x + 46), .ref (x + 74), .ref (x + 80), .ref (x + 132), .ref (x + 121)])) (hx_121 : Φ (x + 121) = some (o_ 11 [.ref (x + 122), .ref (x + 123), .ref (x + 126), .ref (x + 129), .int 0])) (hy_0 : Φ y = some (o_ 14 [.int 0, .ref (y + 1), .ref (y + 2), .int 0, .int 1, .int 1, .int 0, .int 0, .ref (y + 3), .ref (y + 4), .int 0, .long 0, .ref (y + 5), .int 0, .int 0, .long 0, .long 0, .long 0, .long 0, .ref (y + 6), .ref (y + 7), .int 0, .ref (y + 8), .int 0, .ref (y + 9), .ref (y + 10), .int 0, .ref (y + 11), .ref (y + 12), .ref (y + 13), .ref (y + 14), .ref (y + 15), .ref (y + 16), .int 0, .long (-1), .ref (y + 17), .ref (y + 18), .ref (y + 19), .ref (y + 20), .ref (y + 21), .ref (y + 22), .int 0, .ref (y + 23), .ref (y + 24), .int 0, .ref (y + 25), .int 0, .int 0, .int 0, .int (-1), .int 0, .int 0, .int 0, .long 0]))  (hT : ∀ (Φ1 : Hm) (sz1 : Nat), Z p9 l e9 room_1 s9 m9 a9 w9 t9 k9 Q9 G 9 2893 [(5, .int 0), (4, .ref d), (3, .ref o), (2, .ref y), (1, .ref x), (0, .ref b)] [] Φ1 sz1 178 20844) : Z p9 l e9 room_1 s9 m9 a9 w9 t9 k9 Q9 G 9 2080 [(5, .int 0), (4, .ref d), (3, .ref o), (2, .ref y), (1, .ref x), (0, .ref b)] [] Φ sz 177 20838 := by
  refine z_aload_n B dL_law_2080 rfl 4 rfl ?_
  refine z_callV (As := []) (rest := []) B (f_X11_keyCount G l Φ sz x hx_0 hx_121) (cwV 0 B.1.2.2.2.2 gL_law_X11_keyCount rfl rfl rfl (by decide +kernel) ⟨Nat.le_of_ble_eq_true rfl, Nat.le_of_ble_eq_true rfl⟩) hx_0 rfl rfl rfl rfl (Nat.le_of_ble_eq_true rfl) dL_law_2081 ⟨Nat.le_of_ble_eq_true rfl, Nat.le_of_ble_eq_true rfl⟩ (fun v1 Φ1 sz1 st1 hp1 hs1 => ?_)
  obtain ⟨rfl, fr1⟩ := hp1
  replace hs1 : st1 = [.int 0] := hs1
  subst st1
  refine z_aload_n B dL_law_2084 rfl 3 rfl ?_
  have h_1 : Φ1 y = some (o_ 14 [.int 0, .ref (y + 1), .ref (y + 2), .int 0, .int 1, .int 1, .int 0, .int 0, .ref (y + 3), .ref (y + 4), .int 0, .long 0, .ref (y + 5), .int 0, .int 0, .long 0, .long 0, .long 0, .long 0, .ref (y + 6), .ref (y + 7), .int 0, .ref (y + 8), .int 0, .ref (y + 9), .ref (y + 10), .int 0, .ref (y + 11), .ref (y + 12), .ref (y + 13), .ref (y + 14), .ref (y + 15), .ref (y + 16), .int 0, .long (-1), .ref (y + 17), .ref (y + 18), .ref (y + 19), .ref (y + 20), .ref (y + 21), .ref (y + 22), .int 0, .ref (y + 23), .ref (y + 24), .int 0, .ref (y + 25), .int 0, .int 0, .int 0, .int (-1), .int 0, .int 0, .int 0, .long 0]) := ((fr1 y hxy).trans hy_0)
  refine z_callV (As := []) (rest := [.int 0]) B (m_X12_keyCount G l Φ1 sz1 y h_1 (Nat.le_trans hna (Nat.le_trans (Nat.le_add_right x 149) hxy))) (cwV 0 B.1.2.2.2.2 gL_law_X12_keyCount rfl rfl rfl (by decide +kernel) ⟨Nat.le_of_ble_eq_true rfl, Nat.le_of_ble_eq_true rfl⟩) h_1 rfl rfl rfl rfl (Nat.le_of_ble_eq_true rfl) dL_law_2085 ⟨Nat.le_of_ble_eq_true rfl, Nat.le_of_ble_eq_true rfl⟩ (fun v2 Φ2 sz2 st2 hp2 hs2 => ?_)
  obtain ⟨rfl, ⟨fs1, hy1, hk1⟩, fr2⟩ := hp2
  replace hs2 : st2 = [.int 0, .int 0] := hs2
  subst st2
  refine z_icmp_eq (tgt := 2893) B dL_law_2088 rfl (fun c_1 => ?_) (fun h9 => absurd (by decide) h9)
  refine z_lv [0, 1, 2, 3, 4, 5] rfl ?_
  refine z_widen (k := 178) (n := 20844) (Nat.le_of_ble_eq_true rfl) (Nat.le_of_ble_eq_true rfl) ?_
  exact hT _ _

set_option maxHeartbeats 4000000 in
set_option maxRecDepth 100000 in
theorem lc_49 {p9 : Program} {e9 : Env} {s9 : State} {m9 : MethodId} {a9 : Array Value} {w9 : List Frame} {t9 : Method} {k9 : Code} {Q9 : State → Prop} {nm9 : String} (G : EnvG) (l : Launch) (hl9 : l.stackTraces = false) (B : Bd p9 s9 m9 a9 t9 k9 G code 9 RL wsL_law ret nm9) (Φ : Hm) (sz : Nat) (b : Nat) (xs : Nat → Int32) (hX : va_X b 7 xs s9 s9.heap) (hbn : b < G.2.2.2) (x y o d : Nat) (a1 : Int32) (a2 : Int32) (a3 : Int32) (a4 : Int32) (go : Nat → Int64) (gd : Nat → UInt64) (hna : G.2.2.2 ≤ x) (hxy : x + 149 ≤ y) (hyo : y + 26 ≤ o) (hyd : y + 26 ≤ d) (hod : o ≠ d) (hx_0 : Φ x = some (o_ 13 [.ref (x + 1), .ref (x + 3), .ref (x + 24), .ref (x + 46), .ref (x + 74), .ref (x + 80), .ref (x + 132), .ref (x + 121)])) (hx_121 : Φ (x + 121) = some (o_ 11 [.ref (x + 122), .ref (x + 123), .ref (x + 126), .ref (x + 129), .int 0])) (hy_0 : Φ y = some (o_ 14 [.int 0, .ref (y + 1), .ref (y + 2), .int 0, .int 1, .int 1, .int 0, .int 0, .ref (y + 3), .ref (y + 4), .int 0, .long 0, .ref (y + 5), .int 0, .int 0, .long 0, .long 0, .long 0, .long 0, .ref (y + 6), .ref (y + 7), .int 0, .ref (y + 8), .int 0, .ref (y + 9), .ref (y + 10), .int 0, .ref (y + 11), .ref (y + 12), .ref (y + 13), .ref (y + 14), .ref (y + 15), .ref (y + 16), .int 0, .long (-1), .ref (y + 17), .ref (y + 18), .ref (y + 19), .ref (y + 20), .ref (y + 21), .ref (y + 22), .int 0, .ref (y + 23), .ref (y + 24), .int 0, .ref (y + 25), .int 0, .int 0, .int 0, .int (-1), .int 0, .int 0, .int 0, .long 0])) (hx1 : xs 1 = a1) (hx2 : xs 2 = a2) (hx3 : xs 3 = a3) (hx4 : xs 4 = a4) (hT : ∀ (Φ1 : Hm) (sz1 : Nat), Z p9 l e9 room_1 s9 m9 a9 w9 t9 k9 Q9 G 9 2893 [(5, .int 0), (4, .ref d), (3, .ref o), (2, .ref y), (1, .ref x), (0, .ref b)] [] Φ1 sz1 178 20844) : Z p9 l e9 room_1 s9 m9 a9 w9 t9 k9 Q9 G 9 2161 [(5, .int 0), (4, .ref d), (3, .ref o), (2, .ref y), (1, .ref x), (0, .ref b)] [] Φ sz 177 20838 := by
  refine z_aload_n B dL_law_2161 rfl 4 rfl ?_
  refine z_aload_n B dL_law_2162 rfl 5 rfl ?_
  refine z_iload B dL_law_2163 0 rfl ?_
  refine z_iconst (v := 1) B dL_law_2165 rfl ?_
  refine z_iadd B dL_law_2166 ?_
  refine z_top (st1 := [.int 1, .ref b, .ref x]) (congrArg (fun w9 : Int32 => ([.int w9, .ref b, .ref x] : List Value)) (show (0 + 1 : Int32) = 1 by decide +kernel)) ?_
  refine z_sald B hX hbn (vin rfl) dL_law_2167 ?_
  refine z_top (st1 := [.int a1, .ref x]) (congrArg (fun w9 : Int32 => ([.int w9, .ref x] : List Value)) (show xs (1 : Int32).toNatClampNeg = a1 from hx1)) ?_
  refine z_aload_n B dL_law_2168 rfl 5 rfl ?_
  refine z_iload B dL_law_2169 0 rfl ?_
  refine z_iconst (v := 2) B dL_law_2171 rfl ?_
  refine z_iadd B dL_law_2172 ?_
  refine z_top (st1 := [.int 2, .ref b, .int a1, .ref x]) (congrArg (fun w9 : Int32 => ([.int w9, .ref b, .int a1, .ref x] : List Value)) (show (0 + 2 : Int32) = 2 by decide +kernel)) ?_
  refine z_sald B hX hbn (vin rfl) dL_law_2173 ?_
  refine z_top (st1 := [.int a2, .int a1, .ref x]) (congrArg (fun w9 : Int32 => ([.int w9, .int a1, .ref x] : List Value)) (show xs (2 : Int32).toNatClampNeg = a2 from hx2)) ?_
  refine z_aload_n B dL_law_2174 rfl 5 rfl ?_
  refine z_iload B dL_law_2175 0 rfl ?_
  refine z_iconst (v := 3) B dL_law_2177 rfl ?_
  refine z_iadd B dL_law_2178 ?_
  refine z_top (st1 := [.int 3, .ref b, .int a2, .int a1, .ref x]) (congrArg (fun w9 : Int32 => ([.int w9, .ref b, .int a2, .int a1, .ref x] : List Value)) (show (0 + 3 : Int32) = 3 by decide +kernel)) ?_
  refine z_sald B hX hbn (vin rfl) dL_law_2179 ?_
  refine z_top (st1 := [.int a3, .int a2, .int a1, .ref x]) (congrArg (fun w9 : Int32 => ([.int w9, .int a2, .int a1, .ref x] : List Value)) (show xs (3 : Int32).toNatClampNeg = a3 from hx3)) ?_
  refine z_aload_n B dL_law_2180 rfl 5 rfl ?_
  refine z_iload B dL_law_2181 0 rfl ?_
  refine z_iconst (v := 4) B dL_law_2183 rfl ?_
  refine z_iadd B dL_law_2184 ?_
  refine z_top (st1 := [.int 4, .ref b, .int a3, .int a2, .int a1, .ref x]) (congrArg (fun w9 : Int32 => ([.int w9, .ref b, .int a3, .int a2, .int a1, .ref x] : List Value)) (show (0 + 4 : Int32) = 4 by decide +kernel)) ?_
  refine z_sald B hX hbn (vin rfl) dL_law_2185 ?_
  refine z_top (st1 := [.int a4, .int a3, .int a2, .int a1, .ref x]) (congrArg (fun w9 : Int32 => ([.int w9, .int a3, .int a2, .int a1, .ref x] : List Value)) (show xs (4 : Int32).toNatClampNeg = a4 from hx4)) ?_
  refine z_callV (As := [.int a1, .int a2, .int a3, .int a4]) (rest := []) B (f_X11_find G l Φ sz x a1 a2 a3 a4 hx_0 hx_121) (cwV 4 B.1.2.2.2.2 gL_law_X11_find rfl rfl rfl (by decide +kernel) ⟨Nat.le_of_ble_eq_true rfl, Nat.le_of_ble_eq_true rfl⟩) hx_0 rfl rfl rfl rfl (Nat.le_of_ble_eq_true rfl) dL_law_2186 ⟨Nat.le_of_ble_eq_true rfl, Nat.le_of_ble_eq_true rfl⟩ (fun v1 Φ1 sz1 st1 hp1 hs1 => ?_)
  obtain ⟨rfl, fr1⟩ := hp1
  replace hs1 : st1 = [.int (-1)] := hs1
  subst st1
  refine z_aload_n B dL_law_2189 rfl 3 rfl ?_
  refine z_aload_n B dL_law_2190 rfl 5 rfl ?_
  refine z_iload B dL_law_2191 0 rfl ?_
  refine z_iconst (v := 1) B dL_law_2193 rfl ?_
  refine z_iadd B dL_law_2194 ?_
  refine z_top (st1 := [.int 1, .ref b, .ref y, .int (-1)]) (congrArg (fun w9 : Int32 => ([.int w9, .ref b, .ref y, .int (-1)] : List Value)) (show (0 + 1 : Int32) = 1 by decide +kernel)) ?_
  refine z_sald B hX hbn (vin rfl) dL_law_2195 ?_
  refine z_top (st1 := [.int a1, .ref y, .int (-1)]) (congrArg (fun w9 : Int32 => ([.int w9, .ref y, .int (-1)] : List Value)) (show xs (1 : Int32).toNatClampNeg = a1 from hx1)) ?_
  refine z_aload_n B dL_law_2196 rfl 5 rfl ?_
  refine z_iload B dL_law_2197 0 rfl ?_
  refine z_iconst (v := 2) B dL_law_2199 rfl ?_
  refine z_iadd B dL_law_2200 ?_
  refine z_top (st1 := [.int 2, .ref b, .int a1, .ref y, .int (-1)]) (congrArg (fun w9 : Int32 => ([.int w9, .ref b, .int a1, .ref y, .int (-1)] : List Value)) (show (0 + 2 : Int32) = 2 by decide +kernel)) ?_
  refine z_sald B hX hbn (vin rfl) dL_law_2201 ?_
  refine z_top (st1 := [.int a2, .int a1, .ref y, .int (-1)]) (congrArg (fun w9 : Int32 => ([.int w9, .int a1, .ref y, .int (-1)] : List Value)) (show xs (2 : Int32).toNatClampNeg = a2 from hx2)) ?_
  refine z_aload_n B dL_law_2202 rfl 5 rfl ?_
  refine z_iload B dL_law_2203 0 rfl ?_
  refine z_iconst (v := 3) B dL_law_2205 rfl ?_
  refine z_iadd B dL_law_2206 ?_
  refine z_top (st1 := [.int 3, .ref b, .int a2, .int a1, .ref y, .int (-1)]) (congrArg (fun w9 : Int32 => ([.int w9, .ref b, .int a2, .int a1, .ref y, .int (-1)] : List Value)) (show (0 + 3 : Int32) = 3 by decide +kernel)) ?_
  refine z_sald B hX hbn (vin rfl) dL_law_2207 ?_
  refine z_top (st1 := [.int a3, .int a2, .int a1, .ref y, .int (-1)]) (congrArg (fun w9 : Int32 => ([.int w9, .int a2, .int a1, .ref y, .int (-1)] : List Value)) (show xs (3 : Int32).toNatClampNeg = a3 from hx3)) ?_
  refine z_aload_n B dL_law_2208 rfl 5 rfl ?_
  refine z_iload B dL_law_2209 0 rfl ?_
  refine z_iconst (v := 4) B dL_law_2211 rfl ?_
  refine z_iadd B dL_law_2212 ?_
  refine z_top (st1 := [.int 4, .ref b, .int a3, .int a2, .int a1, .ref y, .int (-1)]) (congrArg (fun w9 : Int32 => ([.int w9, .ref b, .int a3, .int a2, .int a1, .ref y, .int (-1)] : List Value)) (show (0 + 4 : Int32) = 4 by decide +kernel)) ?_
  refine z_sald B hX hbn (vin rfl) dL_law_2213 ?_
  refine z_top (st1 := [.int a4, .int a3, .int a2, .int a1, .ref y, .int (-1)]) (congrArg (fun w9 : Int32 => ([.int w9, .int a3, .int a2, .int a1, .ref y, .int (-1)] : List Value)) (show xs (4 : Int32).toNatClampNeg = a4 from hx4)) ?_
  have h_1 : Φ1 y = some (o_ 14 [.int 0, .ref (y + 1), .ref (y + 2), .int 0, .int 1, .int 1, .int 0, .int 0, .ref (y + 3), .ref (y + 4), .int 0, .long 0, .ref (y + 5), .int 0, .int 0, .long 0, .long 0, .long 0, .long 0, .ref (y + 6), .ref (y + 7), .int 0, .ref (y + 8), .int 0, .ref (y + 9), .ref (y + 10), .int 0, .ref (y + 11), .ref (y + 12), .ref (y + 13), .ref (y + 14), .ref (y + 15), .ref (y + 16), .int 0, .long (-1), .ref (y + 17), .ref (y + 18), .ref (y + 19), .ref (y + 20), .ref (y + 21), .ref (y + 22), .int 0, .ref (y + 23), .ref (y + 24), .int 0, .ref (y + 25), .int 0, .int 0, .int 0, .int (-1), .int 0, .int 0, .int 0, .long 0]) := ((fr1 y hxy).trans hy_0)
  refine z_callV (As := [.int a1, .int a2, .int a3, .int a4]) (rest := [.int (-1)]) B (m_X12_find G l Φ1 sz1 y a1 a2 a3 a4 h_1 (Nat.le_trans hna (Nat.le_trans (Nat.le_add_right x 149) hxy))) (cwV 4 B.1.2.2.2.2 gL_law_X12_find rfl rfl rfl (by decide +kernel) ⟨Nat.le_of_ble_eq_true rfl, Nat.le_of_ble_eq_true rfl⟩) h_1 rfl rfl rfl rfl (Nat.le_of_ble_eq_true rfl) dL_law_2214 ⟨Nat.le_of_ble_eq_true rfl, Nat.le_of_ble_eq_true rfl⟩ (fun v2 Φ2 sz2 st2 hp2 hs2 => ?_)
  obtain ⟨rfl, ⟨fs1, hy1, hk1⟩, fr2⟩ := hp2
  replace hs2 : st2 = [.int (-1), .int (-1)] := hs2
  subst st2
  refine z_icmp_eq (tgt := 2893) B dL_law_2217 rfl (fun c_1 => ?_) (fun h9 => absurd (by decide) h9)
  refine z_lv [0, 1, 2, 3, 4, 5] rfl ?_
  refine z_widen (k := 178) (n := 20844) (Nat.le_of_ble_eq_true rfl) (Nat.le_of_ble_eq_true rfl) ?_
  exact hT _ _

set_option maxHeartbeats 4000000 in
set_option maxRecDepth 100000 in
theorem lc_14_n {p9 : Program} {e9 : Env} {s9 : State} {m9 : MethodId} {a9 : Array Value} {w9 : List Frame} {t9 : Method} {k9 : Code} {Q9 : State → Prop} {nm9 : String} (G : EnvG) (l : Launch) (hl9 : l.stackTraces = false) (B : Bd p9 s9 m9 a9 t9 k9 G code 9 RL wsL_law ret nm9) (Φ : Hm) (sz : Nat) (b : Nat) (xs : Nat → Int32) (hX : va_X b 7 xs s9 s9.heap) (hbn : b < G.2.2.2) (x y o d : Nat) (a1 : Int32) (go : Nat → Int64) (gd : Nat → UInt64) (hna : G.2.2.2 ≤ x) (hxy : x + 149 ≤ y) (hyo : y + 26 ≤ o) (hyd : y + 26 ≤ d) (hod : o ≠ d) (hx_0 : Φ x = some (o_ 13 [.ref (x + 1), .ref (x + 3), .ref (x + 24), .ref (x + 46), .ref (x + 74), .ref (x + 80), .ref (x + 132), .ref (x + 121)])) (hx_74 : Φ (x + 74) = some (o_ 10 [.ref (x + 3), .ref (x + 46), .ref (x + 75), .ref (x + 77), .int 0, .ref (x + 78), .ref (x + 79), .int 0, .long 0, .int 0])) (hx_80 : Φ (x + 80) = some (o_ 4 [.ref (x + 3), .ref (x + 74), .ref (x + 81), .ref (x + 95), .int 0, .int 1, .int 1, .int 0, .int 0, .int 0, .long 0, .long 0, .long 0])) (hx_81 : Φ (x + 81) = some (o_ 6 [.ref (x + 82), .int 0])) (hy_0 : Φ y = some (o_ 14 [.int 0, .ref (y + 1), .ref (y + 2), .int 0, .int 1, .int 1, .int 0, .int 0, .ref (y + 3), .ref (y + 4), .int 0, .long 0, .ref (y + 5), .int 0, .int 0, .long 0, .long 0, .long 0, .long 0, .ref (y + 6), .ref (y + 7), .int 0, .ref (y + 8), .int 0, .ref (y + 9), .ref (y + 10), .int 0, .ref (y + 11), .ref (y + 12), .ref (y + 13), .ref (y + 14), .ref (y + 15), .ref (y + 16), .int 0, .long (-1), .ref (y + 17), .ref (y + 18), .ref (y + 19), .ref (y + 20), .ref (y + 21), .ref (y + 22), .int 0, .ref (y + 23), .ref (y + 24), .int 0, .ref (y + 25), .int 0, .int 0, .int 0, .int (-1), .int 0, .int 0, .int 0, .long 0])) (hx1 : xs 1 = a1) (Mhp : ¬ inP a1.toInt64 1 1024) (hv : (if a1 < 1 then -1 else if a1 ≤ 1024 then 0 else -1 : Int32) = (-1)) (hT : ∀ (Φ1 : Hm) (sz1 : Nat), Z p9 l e9 room_1 s9 m9 a9 w9 t9 k9 Q9 G 9 2893 [(5, .int 0), (4, .ref d), (3, .ref o), (2, .ref y), (1, .ref x), (0, .ref b)] [] Φ1 sz1 178 20844) : Z p9 l e9 room_1 s9 m9 a9 w9 t9 k9 Q9 G 9 850 [(5, .int 0), (4, .ref d), (3, .ref o), (2, .ref y), (1, .ref x), (0, .ref b)] [] Φ sz 177 20838 := by
  refine z_aload_n B dL_law_850 rfl 4 rfl ?_
  refine z_aload_n B dL_law_851 rfl 5 rfl ?_
  refine z_iload B dL_law_852 0 rfl ?_
  refine z_iconst (v := 1) B dL_law_854 rfl ?_
  refine z_iadd B dL_law_855 ?_
  refine z_top (st1 := [.int 1, .ref b, .ref x]) (congrArg (fun w9 : Int32 => ([.int w9, .ref b, .ref x] : List Value)) (show (0 + 1 : Int32) = 1 by decide +kernel)) ?_
  refine z_sald B hX hbn (vin rfl) dL_law_856 ?_
  refine z_top (st1 := [.int a1, .ref x]) (congrArg (fun w9 : Int32 => ([.int w9, .ref x] : List Value)) (show xs (1 : Int32).toNatClampNeg = a1 from hx1)) ?_
  refine z_callV (As := [.int a1]) (rest := []) B (f_X11_setRate G l Φ sz x a1 hx_0 hx_74 hx_80 hx_81 hna) (cwV 1 B.1.2.2.2.2 gL_law_X11_setRate rfl rfl rfl (by decide +kernel) ⟨Nat.le_of_ble_eq_true rfl, Nat.le_of_ble_eq_true rfl⟩) hx_0 rfl rfl rfl rfl (Nat.le_of_ble_eq_true rfl) dL_law_857 ⟨Nat.le_of_ble_eq_true rfl, Nat.le_of_ble_eq_true rfl⟩ (fun v1 Φ1 sz1 st1 hp1 hs1 => ?_)
  obtain ⟨rfl, fr1⟩ := hp1
  replace hs1 : st1 = [.int (if a1 < 1 then -1 else if a1 ≤ 1024 then 0 else -1)] := hs1
  subst st1
  refine z_top (st1 := [.int (-1)]) (congrArg (fun w9 : Int32 => ([.int w9] : List Value)) hv) ?_
  refine z_aload_n B dL_law_860 rfl 3 rfl ?_
  refine z_aload_n B dL_law_861 rfl 5 rfl ?_
  refine z_iload B dL_law_862 0 rfl ?_
  refine z_iconst (v := 1) B dL_law_864 rfl ?_
  refine z_iadd B dL_law_865 ?_
  refine z_top (st1 := [.int 1, .ref b, .ref y, .int (-1)]) (congrArg (fun w9 : Int32 => ([.int w9, .ref b, .ref y, .int (-1)] : List Value)) (show (0 + 1 : Int32) = 1 by decide +kernel)) ?_
  refine z_sald B hX hbn (vin rfl) dL_law_866 ?_
  refine z_top (st1 := [.int a1, .ref y, .int (-1)]) (congrArg (fun w9 : Int32 => ([.int w9, .ref y, .int (-1)] : List Value)) (show xs (1 : Int32).toNatClampNeg = a1 from hx1)) ?_
  have h_1 : Φ1 y = some (o_ 14 [.int 0, .ref (y + 1), .ref (y + 2), .int 0, .int 1, .int 1, .int 0, .int 0, .ref (y + 3), .ref (y + 4), .int 0, .long 0, .ref (y + 5), .int 0, .int 0, .long 0, .long 0, .long 0, .long 0, .ref (y + 6), .ref (y + 7), .int 0, .ref (y + 8), .int 0, .ref (y + 9), .ref (y + 10), .int 0, .ref (y + 11), .ref (y + 12), .ref (y + 13), .ref (y + 14), .ref (y + 15), .ref (y + 16), .int 0, .long (-1), .ref (y + 17), .ref (y + 18), .ref (y + 19), .ref (y + 20), .ref (y + 21), .ref (y + 22), .int 0, .ref (y + 23), .ref (y + 24), .int 0, .ref (y + 25), .int 0, .int 0, .int 0, .int (-1), .int 0, .int 0, .int 0, .long 0]) := ((fr1 y hxy).trans hy_0)
  refine z_callV (As := [.int a1]) (rest := [.int (-1)]) B (m_X12_setRate_n G l Φ1 sz1 y a1 h_1 (Nat.le_trans hna (Nat.le_trans (Nat.le_add_right x 149) hxy)) Mhp) (cwV 1 B.1.2.2.2.2 gL_law_X12_setRate rfl rfl rfl (by decide +kernel) ⟨Nat.le_of_ble_eq_true rfl, Nat.le_of_ble_eq_true rfl⟩) h_1 rfl rfl rfl rfl (Nat.le_of_ble_eq_true rfl) dL_law_867 ⟨Nat.le_of_ble_eq_true rfl, Nat.le_of_ble_eq_true rfl⟩ (fun v2 Φ2 sz2 st2 hp2 hs2 => ?_)
  obtain ⟨rfl, ⟨fs1, hy1, hk1⟩, fr2⟩ := hp2
  replace hs2 : st2 = [.int (-1), .int (-1)] := hs2
  subst st2
  refine z_icmp_eq (tgt := 2893) B dL_law_870 rfl (fun c_1 => ?_) (fun h9 => absurd (by decide) h9)
  refine z_lv [0, 1, 2, 3, 4, 5] rfl ?_
  refine z_widen (k := 178) (n := 20844) (Nat.le_of_ble_eq_true rfl) (Nat.le_of_ble_eq_true rfl) ?_
  exact hT _ _

set_option maxHeartbeats 4000000 in
set_option maxRecDepth 100000 in
theorem lc_14_1 {p9 : Program} {e9 : Env} {s9 : State} {m9 : MethodId} {a9 : Array Value} {w9 : List Frame} {t9 : Method} {k9 : Code} {Q9 : State → Prop} {nm9 : String} (G : EnvG) (l : Launch) (hl9 : l.stackTraces = false) (B : Bd p9 s9 m9 a9 t9 k9 G code 9 RL wsL_law ret nm9) (Φ : Hm) (sz : Nat) (b : Nat) (xs : Nat → Int32) (hX : va_X b 7 xs s9 s9.heap) (hbn : b < G.2.2.2) (x y o d : Nat)  (go : Nat → Int64) (gd : Nat → UInt64) (hna : G.2.2.2 ≤ x) (hxy : x + 149 ≤ y) (hyo : y + 26 ≤ o) (hyd : y + 26 ≤ d) (hod : o ≠ d) (hx_0 : Φ x = some (o_ 13 [.ref (x + 1), .ref (x + 3), .ref (x + 24), .ref (x + 46), .ref (x + 74), .ref (x + 80), .ref (x + 132), .ref (x + 121)])) (hx_74 : Φ (x + 74) = some (o_ 10 [.ref (x + 3), .ref (x + 46), .ref (x + 75), .ref (x + 77), .int 0, .ref (x + 78), .ref (x + 79), .int 0, .long 0, .int 0])) (hx_80 : Φ (x + 80) = some (o_ 4 [.ref (x + 3), .ref (x + 74), .ref (x + 81), .ref (x + 95), .int 0, .int 1, .int 1, .int 0, .int 0, .int 0, .long 0, .long 0, .long 0])) (hx_81 : Φ (x + 81) = some (o_ 6 [.ref (x + 82), .int 0])) (hy_0 : Φ y = some (o_ 14 [.int 0, .ref (y + 1), .ref (y + 2), .int 0, .int 1, .int 1, .int 0, .int 0, .ref (y + 3), .ref (y + 4), .int 0, .long 0, .ref (y + 5), .int 0, .int 0, .long 0, .long 0, .long 0, .long 0, .ref (y + 6), .ref (y + 7), .int 0, .ref (y + 8), .int 0, .ref (y + 9), .ref (y + 10), .int 0, .ref (y + 11), .ref (y + 12), .ref (y + 13), .ref (y + 14), .ref (y + 15), .ref (y + 16), .int 0, .long (-1), .ref (y + 17), .ref (y + 18), .ref (y + 19), .ref (y + 20), .ref (y + 21), .ref (y + 22), .int 0, .ref (y + 23), .ref (y + 24), .int 0, .ref (y + 25), .int 0, .int 0, .int 0, .int (-1), .int 0, .int 0, .int 0, .long 0])) (hx1 : xs 1 = 1) (hv : (if (1 : Int32) < 1 then -1 else if (1 : Int32) ≤ 1024 then 0 else -1 : Int32) = 0) (hT : ∀ (Φ1 : Hm) (sz1 : Nat), Z p9 l e9 room_1 s9 m9 a9 w9 t9 k9 Q9 G 9 2893 [(5, .int 0), (4, .ref d), (3, .ref o), (2, .ref y), (1, .ref x), (0, .ref b)] [] Φ1 sz1 178 20844) : Z p9 l e9 room_1 s9 m9 a9 w9 t9 k9 Q9 G 9 850 [(5, .int 0), (4, .ref d), (3, .ref o), (2, .ref y), (1, .ref x), (0, .ref b)] [] Φ sz 177 20838 := by
  refine z_aload_n B dL_law_850 rfl 4 rfl ?_
  refine z_aload_n B dL_law_851 rfl 5 rfl ?_
  refine z_iload B dL_law_852 0 rfl ?_
  refine z_iconst (v := 1) B dL_law_854 rfl ?_
  refine z_iadd B dL_law_855 ?_
  refine z_top (st1 := [.int 1, .ref b, .ref x]) (congrArg (fun w9 : Int32 => ([.int w9, .ref b, .ref x] : List Value)) (show (0 + 1 : Int32) = 1 by decide +kernel)) ?_
  refine z_sald B hX hbn (vin rfl) dL_law_856 ?_
  refine z_top (st1 := [.int 1, .ref x]) (congrArg (fun w9 : Int32 => ([.int w9, .ref x] : List Value)) (show xs (1 : Int32).toNatClampNeg = 1 from hx1)) ?_
  refine z_callV (As := [.int 1]) (rest := []) B (f_X11_setRate G l Φ sz x 1 hx_0 hx_74 hx_80 hx_81 hna) (cwV 1 B.1.2.2.2.2 gL_law_X11_setRate rfl rfl rfl (by decide +kernel) ⟨Nat.le_of_ble_eq_true rfl, Nat.le_of_ble_eq_true rfl⟩) hx_0 rfl rfl rfl rfl (Nat.le_of_ble_eq_true rfl) dL_law_857 ⟨Nat.le_of_ble_eq_true rfl, Nat.le_of_ble_eq_true rfl⟩ (fun v1 Φ1 sz1 st1 hp1 hs1 => ?_)
  obtain ⟨rfl, fr1⟩ := hp1
  replace hs1 : st1 = [.int (if (1 : Int32) < 1 then -1 else if (1 : Int32) ≤ 1024 then 0 else -1)] := hs1
  subst st1
  refine z_top (st1 := [.int 0]) (congrArg (fun w9 : Int32 => ([.int w9] : List Value)) hv) ?_
  refine z_aload_n B dL_law_860 rfl 3 rfl ?_
  refine z_aload_n B dL_law_861 rfl 5 rfl ?_
  refine z_iload B dL_law_862 0 rfl ?_
  refine z_iconst (v := 1) B dL_law_864 rfl ?_
  refine z_iadd B dL_law_865 ?_
  refine z_top (st1 := [.int 1, .ref b, .ref y, .int 0]) (congrArg (fun w9 : Int32 => ([.int w9, .ref b, .ref y, .int 0] : List Value)) (show (0 + 1 : Int32) = 1 by decide +kernel)) ?_
  refine z_sald B hX hbn (vin rfl) dL_law_866 ?_
  refine z_top (st1 := [.int 1, .ref y, .int 0]) (congrArg (fun w9 : Int32 => ([.int w9, .ref y, .int 0] : List Value)) (show xs (1 : Int32).toNatClampNeg = 1 from hx1)) ?_
  have h_1 : Φ1 y = some (o_ 14 [.int 0, .ref (y + 1), .ref (y + 2), .int 0, .int 1, .int 1, .int 0, .int 0, .ref (y + 3), .ref (y + 4), .int 0, .long 0, .ref (y + 5), .int 0, .int 0, .long 0, .long 0, .long 0, .long 0, .ref (y + 6), .ref (y + 7), .int 0, .ref (y + 8), .int 0, .ref (y + 9), .ref (y + 10), .int 0, .ref (y + 11), .ref (y + 12), .ref (y + 13), .ref (y + 14), .ref (y + 15), .ref (y + 16), .int 0, .long (-1), .ref (y + 17), .ref (y + 18), .ref (y + 19), .ref (y + 20), .ref (y + 21), .ref (y + 22), .int 0, .ref (y + 23), .ref (y + 24), .int 0, .ref (y + 25), .int 0, .int 0, .int 0, .int (-1), .int 0, .int 0, .int 0, .long 0]) := ((fr1 y hxy).trans hy_0)
  refine z_callV (As := [.int 1]) (rest := [.int 0]) B (m_X12_setRate_1 G l Φ1 sz1 y h_1 (Nat.le_trans hna (Nat.le_trans (Nat.le_add_right x 149) hxy))) (cwV 1 B.1.2.2.2.2 gL_law_X12_setRate rfl rfl rfl (by decide +kernel) ⟨Nat.le_of_ble_eq_true rfl, Nat.le_of_ble_eq_true rfl⟩) h_1 rfl rfl rfl rfl (Nat.le_of_ble_eq_true rfl) dL_law_867 ⟨Nat.le_of_ble_eq_true rfl, Nat.le_of_ble_eq_true rfl⟩ (fun v2 Φ2 sz2 st2 hp2 hs2 => ?_)
  obtain ⟨rfl, ⟨fs1, hy1, hk1⟩, fr2⟩ := hp2
  replace hs2 : st2 = [.int 0, .int 0] := hs2
  subst st2
  refine z_icmp_eq (tgt := 2893) B dL_law_870 rfl (fun c_1 => ?_) (fun h9 => absurd (by decide) h9)
  refine z_lv [0, 1, 2, 3, 4, 5] rfl ?_
  refine z_widen (k := 178) (n := 20844) (Nat.le_of_ble_eq_true rfl) (Nat.le_of_ble_eq_true rfl) ?_
  exact hT _ _

set_option maxHeartbeats 4000000 in
set_option maxRecDepth 100000 in
theorem lc_14_c {p9 : Program} {e9 : Env} {s9 : State} {m9 : MethodId} {a9 : Array Value} {w9 : List Frame} {t9 : Method} {k9 : Code} {Q9 : State → Prop} {nm9 : String} (G : EnvG) (l : Launch) (hl9 : l.stackTraces = false) (B : Bd p9 s9 m9 a9 t9 k9 G code 9 RL wsL_law ret nm9) (Φ : Hm) (sz : Nat) (b : Nat) (xs : Nat → Int32) (hX : va_X b 7 xs s9 s9.heap) (hbn : b < G.2.2.2) (x y o d : Nat) (a1 : Int32) (go : Nat → Int64) (gd : Nat → UInt64) (hna : G.2.2.2 ≤ x) (hxy : x + 149 ≤ y) (hyo : y + 26 ≤ o) (hyd : y + 26 ≤ d) (hod : o ≠ d) (hx_0 : Φ x = some (o_ 13 [.ref (x + 1), .ref (x + 3), .ref (x + 24), .ref (x + 46), .ref (x + 74), .ref (x + 80), .ref (x + 132), .ref (x + 121)])) (hx_74 : Φ (x + 74) = some (o_ 10 [.ref (x + 3), .ref (x + 46), .ref (x + 75), .ref (x + 77), .int 0, .ref (x + 78), .ref (x + 79), .int 0, .long 0, .int 0])) (hx_80 : Φ (x + 80) = some (o_ 4 [.ref (x + 3), .ref (x + 74), .ref (x + 81), .ref (x + 95), .int 0, .int 1, .int 1, .int 0, .int 0, .int 0, .long 0, .long 0, .long 0])) (hx_81 : Φ (x + 81) = some (o_ 6 [.ref (x + 82), .int 0])) (hy_0 : Φ y = some (o_ 14 [.int 0, .ref (y + 1), .ref (y + 2), .int 0, .int 1, .int 1, .int 0, .int 0, .ref (y + 3), .ref (y + 4), .int 0, .long 0, .ref (y + 5), .int 0, .int 0, .long 0, .long 0, .long 0, .long 0, .ref (y + 6), .ref (y + 7), .int 0, .ref (y + 8), .int 0, .ref (y + 9), .ref (y + 10), .int 0, .ref (y + 11), .ref (y + 12), .ref (y + 13), .ref (y + 14), .ref (y + 15), .ref (y + 16), .int 0, .long (-1), .ref (y + 17), .ref (y + 18), .ref (y + 19), .ref (y + 20), .ref (y + 21), .ref (y + 22), .int 0, .ref (y + 23), .ref (y + 24), .int 0, .ref (y + 25), .int 0, .int 0, .int 0, .int (-1), .int 0, .int 0, .int 0, .long 0])) (hx1 : xs 1 = a1) (Mhp : inP a1.toInt64 1 1024) (Mha : a1 ≠ 1) (hv : (if a1 < 1 then -1 else if a1 ≤ 1024 then 0 else -1 : Int32) = 0) (hT : ∀ (Φ1 : Hm) (sz1 : Nat), Z p9 l e9 room_1 s9 m9 a9 w9 t9 k9 Q9 G 9 2893 [(5, .int 0), (4, .ref d), (3, .ref o), (2, .ref y), (1, .ref x), (0, .ref b)] [] Φ1 sz1 178 20844) : Z p9 l e9 room_1 s9 m9 a9 w9 t9 k9 Q9 G 9 850 [(5, .int 0), (4, .ref d), (3, .ref o), (2, .ref y), (1, .ref x), (0, .ref b)] [] Φ sz 177 20838 := by
  refine z_aload_n B dL_law_850 rfl 4 rfl ?_
  refine z_aload_n B dL_law_851 rfl 5 rfl ?_
  refine z_iload B dL_law_852 0 rfl ?_
  refine z_iconst (v := 1) B dL_law_854 rfl ?_
  refine z_iadd B dL_law_855 ?_
  refine z_top (st1 := [.int 1, .ref b, .ref x]) (congrArg (fun w9 : Int32 => ([.int w9, .ref b, .ref x] : List Value)) (show (0 + 1 : Int32) = 1 by decide +kernel)) ?_
  refine z_sald B hX hbn (vin rfl) dL_law_856 ?_
  refine z_top (st1 := [.int a1, .ref x]) (congrArg (fun w9 : Int32 => ([.int w9, .ref x] : List Value)) (show xs (1 : Int32).toNatClampNeg = a1 from hx1)) ?_
  refine z_callV (As := [.int a1]) (rest := []) B (f_X11_setRate G l Φ sz x a1 hx_0 hx_74 hx_80 hx_81 hna) (cwV 1 B.1.2.2.2.2 gL_law_X11_setRate rfl rfl rfl (by decide +kernel) ⟨Nat.le_of_ble_eq_true rfl, Nat.le_of_ble_eq_true rfl⟩) hx_0 rfl rfl rfl rfl (Nat.le_of_ble_eq_true rfl) dL_law_857 ⟨Nat.le_of_ble_eq_true rfl, Nat.le_of_ble_eq_true rfl⟩ (fun v1 Φ1 sz1 st1 hp1 hs1 => ?_)
  obtain ⟨rfl, fr1⟩ := hp1
  replace hs1 : st1 = [.int (if a1 < 1 then -1 else if a1 ≤ 1024 then 0 else -1)] := hs1
  subst st1
  refine z_top (st1 := [.int 0]) (congrArg (fun w9 : Int32 => ([.int w9] : List Value)) hv) ?_
  refine z_aload_n B dL_law_860 rfl 3 rfl ?_
  refine z_aload_n B dL_law_861 rfl 5 rfl ?_
  refine z_iload B dL_law_862 0 rfl ?_
  refine z_iconst (v := 1) B dL_law_864 rfl ?_
  refine z_iadd B dL_law_865 ?_
  refine z_top (st1 := [.int 1, .ref b, .ref y, .int 0]) (congrArg (fun w9 : Int32 => ([.int w9, .ref b, .ref y, .int 0] : List Value)) (show (0 + 1 : Int32) = 1 by decide +kernel)) ?_
  refine z_sald B hX hbn (vin rfl) dL_law_866 ?_
  refine z_top (st1 := [.int a1, .ref y, .int 0]) (congrArg (fun w9 : Int32 => ([.int w9, .ref y, .int 0] : List Value)) (show xs (1 : Int32).toNatClampNeg = a1 from hx1)) ?_
  have h_1 : Φ1 y = some (o_ 14 [.int 0, .ref (y + 1), .ref (y + 2), .int 0, .int 1, .int 1, .int 0, .int 0, .ref (y + 3), .ref (y + 4), .int 0, .long 0, .ref (y + 5), .int 0, .int 0, .long 0, .long 0, .long 0, .long 0, .ref (y + 6), .ref (y + 7), .int 0, .ref (y + 8), .int 0, .ref (y + 9), .ref (y + 10), .int 0, .ref (y + 11), .ref (y + 12), .ref (y + 13), .ref (y + 14), .ref (y + 15), .ref (y + 16), .int 0, .long (-1), .ref (y + 17), .ref (y + 18), .ref (y + 19), .ref (y + 20), .ref (y + 21), .ref (y + 22), .int 0, .ref (y + 23), .ref (y + 24), .int 0, .ref (y + 25), .int 0, .int 0, .int 0, .int (-1), .int 0, .int 0, .int 0, .long 0]) := ((fr1 y hxy).trans hy_0)
  refine z_callV (As := [.int a1]) (rest := [.int 0]) B (m_X12_setRate_c G l Φ1 sz1 y a1 h_1 (Nat.le_trans hna (Nat.le_trans (Nat.le_add_right x 149) hxy)) Mhp Mha) (cwV 1 B.1.2.2.2.2 gL_law_X12_setRate rfl rfl rfl (by decide +kernel) ⟨Nat.le_of_ble_eq_true rfl, Nat.le_of_ble_eq_true rfl⟩) h_1 rfl rfl rfl rfl (Nat.le_of_ble_eq_true rfl) dL_law_867 ⟨Nat.le_of_ble_eq_true rfl, Nat.le_of_ble_eq_true rfl⟩ (fun v2 Φ2 sz2 st2 hp2 hs2 => ?_)
  obtain ⟨rfl, ⟨fs1, hy1, hk1⟩, fr2⟩ := hp2
  replace hs2 : st2 = [.int 0, .int 0] := hs2
  subst st2
  refine z_icmp_eq (tgt := 2893) B dL_law_870 rfl (fun c_1 => ?_) (fun h9 => absurd (by decide) h9)
  refine z_lv [0, 1, 2, 3, 4, 5] rfl ?_
  refine z_widen (k := 178) (n := 20844) (Nat.le_of_ble_eq_true rfl) (Nat.le_of_ble_eq_true rfl) ?_
  exact hT _ _

set_option maxHeartbeats 4000000 in
set_option maxRecDepth 100000 in
theorem lc_15_0 {p9 : Program} {e9 : Env} {s9 : State} {m9 : MethodId} {a9 : Array Value} {w9 : List Frame} {t9 : Method} {k9 : Code} {Q9 : State → Prop} {nm9 : String} (G : EnvG) (l : Launch) (hl9 : l.stackTraces = false) (B : Bd p9 s9 m9 a9 t9 k9 G code 9 RL wsL_law ret nm9) (Φ : Hm) (sz : Nat) (b : Nat) (xs : Nat → Int32) (hX : va_X b 7 xs s9 s9.heap) (hbn : b < G.2.2.2) (x y o d : Nat)  (go : Nat → Int64) (gd : Nat → UInt64) (hna : G.2.2.2 ≤ x) (hxy : x + 149 ≤ y) (hyo : y + 26 ≤ o) (hyd : y + 26 ≤ d) (hod : o ≠ d) (hx_0 : Φ x = some (o_ 13 [.ref (x + 1), .ref (x + 3), .ref (x + 24), .ref (x + 46), .ref (x + 74), .ref (x + 80), .ref (x + 132), .ref (x + 121)])) (hx_80 : Φ (x + 80) = some (o_ 4 [.ref (x + 3), .ref (x + 74), .ref (x + 81), .ref (x + 95), .int 0, .int 1, .int 1, .int 0, .int 0, .int 0, .long 0, .long 0, .long 0])) (hy_0 : Φ y = some (o_ 14 [.int 0, .ref (y + 1), .ref (y + 2), .int 0, .int 1, .int 1, .int 0, .int 0, .ref (y + 3), .ref (y + 4), .int 0, .long 0, .ref (y + 5), .int 0, .int 0, .long 0, .long 0, .long 0, .long 0, .ref (y + 6), .ref (y + 7), .int 0, .ref (y + 8), .int 0, .ref (y + 9), .ref (y + 10), .int 0, .ref (y + 11), .ref (y + 12), .ref (y + 13), .ref (y + 14), .ref (y + 15), .ref (y + 16), .int 0, .long (-1), .ref (y + 17), .ref (y + 18), .ref (y + 19), .ref (y + 20), .ref (y + 21), .ref (y + 22), .int 0, .ref (y + 23), .ref (y + 24), .int 0, .ref (y + 25), .int 0, .int 0, .int 0, .int (-1), .int 0, .int 0, .int 0, .long 0])) (hx1 : xs 1 = 0) (hT : ∀ (Φ1 : Hm) (sz1 : Nat), Z p9 l e9 room_1 s9 m9 a9 w9 t9 k9 Q9 G 9 2893 [(5, .int 0), (4, .ref d), (3, .ref o), (2, .ref y), (1, .ref x), (0, .ref b)] [] Φ1 sz1 178 20844) : Z p9 l e9 room_1 s9 m9 a9 w9 t9 k9 Q9 G 9 875 [(5, .int 0), (4, .ref d), (3, .ref o), (2, .ref y), (1, .ref x), (0, .ref b)] [] Φ sz 177 20838 := by
  refine z_aload_n B dL_law_875 rfl 4 rfl ?_
  refine z_aload_n B dL_law_876 rfl 5 rfl ?_
  refine z_iload B dL_law_877 0 rfl ?_
  refine z_iconst (v := 1) B dL_law_879 rfl ?_
  refine z_iadd B dL_law_880 ?_
  refine z_top (st1 := [.int 1, .ref b, .ref x]) (congrArg (fun w9 : Int32 => ([.int w9, .ref b, .ref x] : List Value)) (show (0 + 1 : Int32) = 1 by decide +kernel)) ?_
  refine z_sald B hX hbn (vin rfl) dL_law_881 ?_
  refine z_top (st1 := [.int 0, .ref x]) (congrArg (fun w9 : Int32 => ([.int w9, .ref x] : List Value)) (show xs (1 : Int32).toNatClampNeg = 0 from hx1)) ?_
  refine z_if_eq (tgt := 889) B dL_law_882 rfl (fun c_1 => ?_) (fun h9 => absurd rfl h9)
  refine z_iconst (v := 0) B dL_law_889 rfl ?_
  refine z_callV (As := [.int 0]) (rest := []) B (f_X11_setAdaptive G l Φ sz x 0 hx_0 hx_80 hna (Or.inl rfl)) (cwV 1 B.1.2.2.2.2 gL_law_X11_setAdaptive rfl rfl rfl (by decide +kernel) ⟨Nat.le_of_ble_eq_true rfl, Nat.le_of_ble_eq_true rfl⟩) hx_0 rfl rfl rfl rfl (Nat.le_of_ble_eq_true rfl) dL_law_890 ⟨Nat.le_of_ble_eq_true rfl, Nat.le_of_ble_eq_true rfl⟩ (fun v1 Φ1 sz1 st1 hp1 hs1 => ?_)
  obtain ⟨rfl, fr1⟩ := hp1
  replace hs1 : st1 = [.int 0] := hs1
  subst st1
  refine z_aload_n B dL_law_893 rfl 3 rfl ?_
  refine z_aload_n B dL_law_894 rfl 5 rfl ?_
  refine z_iload B dL_law_895 0 rfl ?_
  refine z_iconst (v := 1) B dL_law_897 rfl ?_
  refine z_iadd B dL_law_898 ?_
  refine z_top (st1 := [.int 1, .ref b, .ref y, .int 0]) (congrArg (fun w9 : Int32 => ([.int w9, .ref b, .ref y, .int 0] : List Value)) (show (0 + 1 : Int32) = 1 by decide +kernel)) ?_
  refine z_sald B hX hbn (vin rfl) dL_law_899 ?_
  refine z_top (st1 := [.int 0, .ref y, .int 0]) (congrArg (fun w9 : Int32 => ([.int w9, .ref y, .int 0] : List Value)) (show xs (1 : Int32).toNatClampNeg = 0 from hx1)) ?_
  refine z_if_eq (tgt := 907) B dL_law_900 rfl (fun c_2 => ?_) (fun h9 => absurd rfl h9)
  refine z_iconst (v := 0) B dL_law_907 rfl ?_
  have h_1 : Φ1 y = some (o_ 14 [.int 0, .ref (y + 1), .ref (y + 2), .int 0, .int 1, .int 1, .int 0, .int 0, .ref (y + 3), .ref (y + 4), .int 0, .long 0, .ref (y + 5), .int 0, .int 0, .long 0, .long 0, .long 0, .long 0, .ref (y + 6), .ref (y + 7), .int 0, .ref (y + 8), .int 0, .ref (y + 9), .ref (y + 10), .int 0, .ref (y + 11), .ref (y + 12), .ref (y + 13), .ref (y + 14), .ref (y + 15), .ref (y + 16), .int 0, .long (-1), .ref (y + 17), .ref (y + 18), .ref (y + 19), .ref (y + 20), .ref (y + 21), .ref (y + 22), .int 0, .ref (y + 23), .ref (y + 24), .int 0, .ref (y + 25), .int 0, .int 0, .int 0, .int (-1), .int 0, .int 0, .int 0, .long 0]) := ((fr1 y hxy).trans hy_0)
  refine z_callV (As := [.int 0]) (rest := [.int 0]) B (m_X12_setAdaptive G l Φ1 sz1 y 0 h_1 (Nat.le_trans hna (Nat.le_trans (Nat.le_add_right x 149) hxy)) (Or.inl rfl)) (cwV 1 B.1.2.2.2.2 gL_law_X12_setAdaptive rfl rfl rfl (by decide +kernel) ⟨Nat.le_of_ble_eq_true rfl, Nat.le_of_ble_eq_true rfl⟩) h_1 rfl rfl rfl rfl (Nat.le_of_ble_eq_true rfl) dL_law_908 ⟨Nat.le_of_ble_eq_true rfl, Nat.le_of_ble_eq_true rfl⟩ (fun v2 Φ2 sz2 st2 hp2 hs2 => ?_)
  obtain ⟨rfl, ⟨fs1, hy1, hk1⟩, fr2⟩ := hp2
  replace hs2 : st2 = [.int 0, .int 0] := hs2
  subst st2
  refine z_icmp_eq (tgt := 2893) B dL_law_911 rfl (fun c_3 => ?_) (fun h9 => absurd (by decide) h9)
  refine z_lv [0, 1, 2, 3, 4, 5] rfl ?_
  refine z_widen (k := 178) (n := 20844) (Nat.le_of_ble_eq_true rfl) (Nat.le_of_ble_eq_true rfl) ?_
  exact hT _ _

set_option maxHeartbeats 4000000 in
set_option maxRecDepth 100000 in
theorem lc_15_1 {p9 : Program} {e9 : Env} {s9 : State} {m9 : MethodId} {a9 : Array Value} {w9 : List Frame} {t9 : Method} {k9 : Code} {Q9 : State → Prop} {nm9 : String} (G : EnvG) (l : Launch) (hl9 : l.stackTraces = false) (B : Bd p9 s9 m9 a9 t9 k9 G code 9 RL wsL_law ret nm9) (Φ : Hm) (sz : Nat) (b : Nat) (xs : Nat → Int32) (hX : va_X b 7 xs s9 s9.heap) (hbn : b < G.2.2.2) (x y o d : Nat) (a1 : Int32) (go : Nat → Int64) (gd : Nat → UInt64) (hna : G.2.2.2 ≤ x) (hxy : x + 149 ≤ y) (hyo : y + 26 ≤ o) (hyd : y + 26 ≤ d) (hod : o ≠ d) (hx_0 : Φ x = some (o_ 13 [.ref (x + 1), .ref (x + 3), .ref (x + 24), .ref (x + 46), .ref (x + 74), .ref (x + 80), .ref (x + 132), .ref (x + 121)])) (hx_80 : Φ (x + 80) = some (o_ 4 [.ref (x + 3), .ref (x + 74), .ref (x + 81), .ref (x + 95), .int 0, .int 1, .int 1, .int 0, .int 0, .int 0, .long 0, .long 0, .long 0])) (hy_0 : Φ y = some (o_ 14 [.int 0, .ref (y + 1), .ref (y + 2), .int 0, .int 1, .int 1, .int 0, .int 0, .ref (y + 3), .ref (y + 4), .int 0, .long 0, .ref (y + 5), .int 0, .int 0, .long 0, .long 0, .long 0, .long 0, .ref (y + 6), .ref (y + 7), .int 0, .ref (y + 8), .int 0, .ref (y + 9), .ref (y + 10), .int 0, .ref (y + 11), .ref (y + 12), .ref (y + 13), .ref (y + 14), .ref (y + 15), .ref (y + 16), .int 0, .long (-1), .ref (y + 17), .ref (y + 18), .ref (y + 19), .ref (y + 20), .ref (y + 21), .ref (y + 22), .int 0, .ref (y + 23), .ref (y + 24), .int 0, .ref (y + 25), .int 0, .int 0, .int 0, .int (-1), .int 0, .int 0, .int 0, .long 0])) (hx1 : xs 1 = a1) (hbz : a1 ≠ 0) (hT : ∀ (Φ1 : Hm) (sz1 : Nat), Z p9 l e9 room_1 s9 m9 a9 w9 t9 k9 Q9 G 9 2893 [(5, .int 0), (4, .ref d), (3, .ref o), (2, .ref y), (1, .ref x), (0, .ref b)] [] Φ1 sz1 178 20844) : Z p9 l e9 room_1 s9 m9 a9 w9 t9 k9 Q9 G 9 875 [(5, .int 0), (4, .ref d), (3, .ref o), (2, .ref y), (1, .ref x), (0, .ref b)] [] Φ sz 177 20838 := by
  refine z_aload_n B dL_law_875 rfl 4 rfl ?_
  refine z_aload_n B dL_law_876 rfl 5 rfl ?_
  refine z_iload B dL_law_877 0 rfl ?_
  refine z_iconst (v := 1) B dL_law_879 rfl ?_
  refine z_iadd B dL_law_880 ?_
  refine z_top (st1 := [.int 1, .ref b, .ref x]) (congrArg (fun w9 : Int32 => ([.int w9, .ref b, .ref x] : List Value)) (show (0 + 1 : Int32) = 1 by decide +kernel)) ?_
  refine z_sald B hX hbn (vin rfl) dL_law_881 ?_
  refine z_top (st1 := [.int a1, .ref x]) (congrArg (fun w9 : Int32 => ([.int w9, .ref x] : List Value)) (show xs (1 : Int32).toNatClampNeg = a1 from hx1)) ?_
  refine z_if_eq (tgt := 889) B dL_law_882 rfl (fun h9 => absurd h9 hbz) (fun c_1 => ?_)
  refine z_iconst (v := 1) B dL_law_885 rfl ?_
  refine z_goto (tgt := 890) B dL_law_886 rfl ?_
  refine z_callV (As := [.int 1]) (rest := []) B (f_X11_setAdaptive G l Φ sz x 1 hx_0 hx_80 hna (Or.inr rfl)) (cwV 1 B.1.2.2.2.2 gL_law_X11_setAdaptive rfl rfl rfl (by decide +kernel) ⟨Nat.le_of_ble_eq_true rfl, Nat.le_of_ble_eq_true rfl⟩) hx_0 rfl rfl rfl rfl (Nat.le_of_ble_eq_true rfl) dL_law_890 ⟨Nat.le_of_ble_eq_true rfl, Nat.le_of_ble_eq_true rfl⟩ (fun v1 Φ1 sz1 st1 hp1 hs1 => ?_)
  obtain ⟨rfl, fr1⟩ := hp1
  replace hs1 : st1 = [.int 0] := hs1
  subst st1
  refine z_aload_n B dL_law_893 rfl 3 rfl ?_
  refine z_aload_n B dL_law_894 rfl 5 rfl ?_
  refine z_iload B dL_law_895 0 rfl ?_
  refine z_iconst (v := 1) B dL_law_897 rfl ?_
  refine z_iadd B dL_law_898 ?_
  refine z_top (st1 := [.int 1, .ref b, .ref y, .int 0]) (congrArg (fun w9 : Int32 => ([.int w9, .ref b, .ref y, .int 0] : List Value)) (show (0 + 1 : Int32) = 1 by decide +kernel)) ?_
  refine z_sald B hX hbn (vin rfl) dL_law_899 ?_
  refine z_top (st1 := [.int a1, .ref y, .int 0]) (congrArg (fun w9 : Int32 => ([.int w9, .ref y, .int 0] : List Value)) (show xs (1 : Int32).toNatClampNeg = a1 from hx1)) ?_
  refine z_if_eq (tgt := 907) B dL_law_900 rfl (fun h9 => absurd h9 hbz) (fun c_2 => ?_)
  refine z_iconst (v := 1) B dL_law_903 rfl ?_
  refine z_goto (tgt := 908) B dL_law_904 rfl ?_
  have h_1 : Φ1 y = some (o_ 14 [.int 0, .ref (y + 1), .ref (y + 2), .int 0, .int 1, .int 1, .int 0, .int 0, .ref (y + 3), .ref (y + 4), .int 0, .long 0, .ref (y + 5), .int 0, .int 0, .long 0, .long 0, .long 0, .long 0, .ref (y + 6), .ref (y + 7), .int 0, .ref (y + 8), .int 0, .ref (y + 9), .ref (y + 10), .int 0, .ref (y + 11), .ref (y + 12), .ref (y + 13), .ref (y + 14), .ref (y + 15), .ref (y + 16), .int 0, .long (-1), .ref (y + 17), .ref (y + 18), .ref (y + 19), .ref (y + 20), .ref (y + 21), .ref (y + 22), .int 0, .ref (y + 23), .ref (y + 24), .int 0, .ref (y + 25), .int 0, .int 0, .int 0, .int (-1), .int 0, .int 0, .int 0, .long 0]) := ((fr1 y hxy).trans hy_0)
  refine z_callV (As := [.int 1]) (rest := [.int 0]) B (m_X12_setAdaptive G l Φ1 sz1 y 1 h_1 (Nat.le_trans hna (Nat.le_trans (Nat.le_add_right x 149) hxy)) (Or.inr rfl)) (cwV 1 B.1.2.2.2.2 gL_law_X12_setAdaptive rfl rfl rfl (by decide +kernel) ⟨Nat.le_of_ble_eq_true rfl, Nat.le_of_ble_eq_true rfl⟩) h_1 rfl rfl rfl rfl (Nat.le_of_ble_eq_true rfl) dL_law_908 ⟨Nat.le_of_ble_eq_true rfl, Nat.le_of_ble_eq_true rfl⟩ (fun v2 Φ2 sz2 st2 hp2 hs2 => ?_)
  obtain ⟨rfl, ⟨fs1, hy1, hk1⟩, fr2⟩ := hp2
  replace hs2 : st2 = [.int 0, .int 0] := hs2
  subst st2
  refine z_icmp_eq (tgt := 2893) B dL_law_911 rfl (fun c_3 => ?_) (fun h9 => absurd (by decide) h9)
  refine z_lv [0, 1, 2, 3, 4, 5] rfl ?_
  refine z_widen (k := 178) (n := 20844) (Nat.le_of_ble_eq_true rfl) (Nat.le_of_ble_eq_true rfl) ?_
  exact hT _ _

set_option maxHeartbeats 4000000 in
set_option maxRecDepth 100000 in
theorem lc_6 {p9 : Program} {e9 : Env} {s9 : State} {m9 : MethodId} {a9 : Array Value} {w9 : List Frame} {t9 : Method} {k9 : Code} {Q9 : State → Prop} {nm9 : String} (G : EnvG) (l : Launch) (hl9 : l.stackTraces = false) (B : Bd p9 s9 m9 a9 t9 k9 G code 9 RL wsL_law ret nm9) (Φ : Hm) (sz : Nat) (b : Nat) (xs : Nat → Int32) (hX : va_X b 7 xs s9 s9.heap) (hbn : b < G.2.2.2) (x y o d : Nat) (a1 : Int32) (a2 : Int32) (a3 : Int32) (a4 : Int32) (a5 : Int32) (go : Nat → Int64) (gd : Nat → UInt64) (hna : G.2.2.2 ≤ x) (hxy : x + 149 ≤ y) (hyo : y + 26 ≤ o) (hyd : y + 26 ≤ d) (hod : o ≠ d) (hx_0 : Φ x = some (o_ 13 [.ref (x + 1), .ref (x + 3), .ref (x + 24), .ref (x + 46), .ref (x + 74), .ref (x + 80), .ref (x + 132), .ref (x + 121)])) (hx_74 : Φ (x + 74) = some (o_ 10 [.ref (x + 3), .ref (x + 46), .ref (x + 75), .ref (x + 77), .int 0, .ref (x + 78), .ref (x + 79), .int 0, .long 0, .int 0])) (hx_80 : Φ (x + 80) = some (o_ 4 [.ref (x + 3), .ref (x + 74), .ref (x + 81), .ref (x + 95), .int 0, .int 1, .int 1, .int 0, .int 0, .int 0, .long 0, .long 0, .long 0])) (hx_81 : Φ (x + 81) = some (o_ 6 [.ref (x + 82), .int 0])) (hx_82 : Φ (x + 82) = some (aq_ G 5 12 (va_up (va_up (va_up (va_up (va_up (va_up (va_up (va_up (va_up (va_up (va_up (va_up (fun _ => none) (0 : Int32).toNatClampNeg (some (x + 83))) (1 : Int32).toNatClampNeg (some (x + 84))) (2 : Int32).toNatClampNeg (some (x + 85))) (3 : Int32).toNatClampNeg (some (x + 86))) (4 : Int32).toNatClampNeg (some (x + 87))) (5 : Int32).toNatClampNeg (some (x + 88))) (6 : Int32).toNatClampNeg (some (x + 89))) (7 : Int32).toNatClampNeg (some (x + 90))) (8 : Int32).toNatClampNeg (some (x + 91))) (9 : Int32).toNatClampNeg (some (x + 92))) (10 : Int32).toNatClampNeg (some (x + 93))) (11 : Int32).toNatClampNeg (some (x + 94))))) (hx_83 : Φ (x + 83) = some (o_ 5 [.long 0, .long 0, .long 0, .int 0, .int 0])) (hx_95 : Φ (x + 95) = some (o_ 6 [.ref (x + 96), .int 0])) (hx_96 : Φ (x + 96) = some (aq_ G 5 24 (va_up (va_up (va_up (va_up (va_up (va_up (va_up (va_up (va_up (va_up (va_up (va_up (va_up (va_up (va_up (va_up (va_up (va_up (va_up (va_up (va_up (va_up (va_up (va_up (fun _ => none) (0 : Int32).toNatClampNeg (some (x + 97))) (1 : Int32).toNatClampNeg (some (x + 98))) (2 : Int32).toNatClampNeg (some (x + 99))) (3 : Int32).toNatClampNeg (some (x + 100))) (4 : Int32).toNatClampNeg (some (x + 101))) (5 : Int32).toNatClampNeg (some (x + 102))) (6 : Int32).toNatClampNeg (some (x + 103))) (7 : Int32).toNatClampNeg (some (x + 104))) (8 : Int32).toNatClampNeg (some (x + 105))) (9 : Int32).toNatClampNeg (some (x + 106))) (10 : Int32).toNatClampNeg (some (x + 107))) (11 : Int32).toNatClampNeg (some (x + 108))) (12 : Int32).toNatClampNeg (some (x + 109))) (13 : Int32).toNatClampNeg (some (x + 110))) (14 : Int32).toNatClampNeg (some (x + 111))) (15 : Int32).toNatClampNeg (some (x + 112))) (16 : Int32).toNatClampNeg (some (x + 113))) (17 : Int32).toNatClampNeg (some (x + 114))) (18 : Int32).toNatClampNeg (some (x + 115))) (19 : Int32).toNatClampNeg (some (x + 116))) (20 : Int32).toNatClampNeg (some (x + 117))) (21 : Int32).toNatClampNeg (some (x + 118))) (22 : Int32).toNatClampNeg (some (x + 119))) (23 : Int32).toNatClampNeg (some (x + 120))))) (hx_97 : Φ (x + 97) = some (o_ 5 [.long 0, .long 0, .long 0, .int 0, .int 0])) (hy_0 : Φ y = some (o_ 14 [.int 0, .ref (y + 1), .ref (y + 2), .int 0, .int 1, .int 1, .int 0, .int 0, .ref (y + 3), .ref (y + 4), .int 0, .long 0, .ref (y + 5), .int 0, .int 0, .long 0, .long 0, .long 0, .long 0, .ref (y + 6), .ref (y + 7), .int 0, .ref (y + 8), .int 0, .ref (y + 9), .ref (y + 10), .int 0, .ref (y + 11), .ref (y + 12), .ref (y + 13), .ref (y + 14), .ref (y + 15), .ref (y + 16), .int 0, .long (-1), .ref (y + 17), .ref (y + 18), .ref (y + 19), .ref (y + 20), .ref (y + 21), .ref (y + 22), .int 0, .ref (y + 23), .ref (y + 24), .int 0, .ref (y + 25), .int 0, .int 0, .int 0, .int (-1), .int 0, .int 0, .int 0, .long 0])) (hy_5 : Φ (y + 5) = some (al_ G 96 (fun _ => 0))) (hy_23 : Φ (y + 23) = some (ai_ G 96 (fun _ => 0))) (hy_24 : Φ (y + 24) = some (al_ G 48 (fun _ => 0))) (hco : Φ o = some (al_ G 1 go)) (hx1 : xs 1 = a1) (hx2 : xs 2 = a2) (hx3 : xs 3 = a3) (hx4 : xs 4 = a4) (hx5 : xs 5 = a5) (Fhk : ¬ lg_cmp (kOf a1 a2 a3 a4) (-1) = 0 ∧ ¬ a5 < 1 ∧ ¬ 65535 < a5) (Mhp : pkP a1 a2 a3 a4 a5) (hT : ∀ (Φ1 : Hm) (sz1 : Nat), Z p9 l e9 room_1 s9 m9 a9 w9 t9 k9 Q9 G 9 2893 [(5, .int 0), (4, .ref d), (3, .ref o), (2, .ref y), (1, .ref x), (0, .ref b)] [] Φ1 sz1 178 20844) : Z p9 l e9 room_1 s9 m9 a9 w9 t9 k9 Q9 G 9 446 [(5, .int 0), (4, .ref d), (3, .ref o), (2, .ref y), (1, .ref x), (0, .ref b)] [] Φ sz 177 20838 := by
  refine z_aload_n B dL_law_446 rfl 4 rfl ?_
  refine z_aload_n B dL_law_447 rfl 5 rfl ?_
  refine z_iload B dL_law_448 0 rfl ?_
  refine z_iconst (v := 1) B dL_law_450 rfl ?_
  refine z_iadd B dL_law_451 ?_
  refine z_top (st1 := [.int 1, .ref b, .ref x]) (congrArg (fun w9 : Int32 => ([.int w9, .ref b, .ref x] : List Value)) (show (0 + 1 : Int32) = 1 by decide +kernel)) ?_
  refine z_sald B hX hbn (vin rfl) dL_law_452 ?_
  refine z_top (st1 := [.int a1, .ref x]) (congrArg (fun w9 : Int32 => ([.int w9, .ref x] : List Value)) (show xs (1 : Int32).toNatClampNeg = a1 from hx1)) ?_
  refine z_aload_n B dL_law_453 rfl 5 rfl ?_
  refine z_iload B dL_law_454 0 rfl ?_
  refine z_iconst (v := 2) B dL_law_456 rfl ?_
  refine z_iadd B dL_law_457 ?_
  refine z_top (st1 := [.int 2, .ref b, .int a1, .ref x]) (congrArg (fun w9 : Int32 => ([.int w9, .ref b, .int a1, .ref x] : List Value)) (show (0 + 2 : Int32) = 2 by decide +kernel)) ?_
  refine z_sald B hX hbn (vin rfl) dL_law_458 ?_
  refine z_top (st1 := [.int a2, .int a1, .ref x]) (congrArg (fun w9 : Int32 => ([.int w9, .int a1, .ref x] : List Value)) (show xs (2 : Int32).toNatClampNeg = a2 from hx2)) ?_
  refine z_aload_n B dL_law_459 rfl 5 rfl ?_
  refine z_iload B dL_law_460 0 rfl ?_
  refine z_iconst (v := 3) B dL_law_462 rfl ?_
  refine z_iadd B dL_law_463 ?_
  refine z_top (st1 := [.int 3, .ref b, .int a2, .int a1, .ref x]) (congrArg (fun w9 : Int32 => ([.int w9, .ref b, .int a2, .int a1, .ref x] : List Value)) (show (0 + 3 : Int32) = 3 by decide +kernel)) ?_
  refine z_sald B hX hbn (vin rfl) dL_law_464 ?_
  refine z_top (st1 := [.int a3, .int a2, .int a1, .ref x]) (congrArg (fun w9 : Int32 => ([.int w9, .int a2, .int a1, .ref x] : List Value)) (show xs (3 : Int32).toNatClampNeg = a3 from hx3)) ?_
  refine z_aload_n B dL_law_465 rfl 5 rfl ?_
  refine z_iload B dL_law_466 0 rfl ?_
  refine z_iconst (v := 4) B dL_law_468 rfl ?_
  refine z_iadd B dL_law_469 ?_
  refine z_top (st1 := [.int 4, .ref b, .int a3, .int a2, .int a1, .ref x]) (congrArg (fun w9 : Int32 => ([.int w9, .ref b, .int a3, .int a2, .int a1, .ref x] : List Value)) (show (0 + 4 : Int32) = 4 by decide +kernel)) ?_
  refine z_sald B hX hbn (vin rfl) dL_law_470 ?_
  refine z_top (st1 := [.int a4, .int a3, .int a2, .int a1, .ref x]) (congrArg (fun w9 : Int32 => ([.int w9, .int a3, .int a2, .int a1, .ref x] : List Value)) (show xs (4 : Int32).toNatClampNeg = a4 from hx4)) ?_
  refine z_aload_n B dL_law_471 rfl 5 rfl ?_
  refine z_iload B dL_law_472 0 rfl ?_
  refine z_iconst (v := 5) B dL_law_474 rfl ?_
  refine z_iadd B dL_law_475 ?_
  refine z_top (st1 := [.int 5, .ref b, .int a4, .int a3, .int a2, .int a1, .ref x]) (congrArg (fun w9 : Int32 => ([.int w9, .ref b, .int a4, .int a3, .int a2, .int a1, .ref x] : List Value)) (show (0 + 5 : Int32) = 5 by decide +kernel)) ?_
  refine z_sald B hX hbn (vin rfl) dL_law_476 ?_
  refine z_top (st1 := [.int a5, .int a4, .int a3, .int a2, .int a1, .ref x]) (congrArg (fun w9 : Int32 => ([.int w9, .int a4, .int a3, .int a2, .int a1, .ref x] : List Value)) (show xs (5 : Int32).toNatClampNeg = a5 from hx5)) ?_
  refine z_aload_n B dL_law_477 rfl 2 rfl ?_
  refine z_callSW (As := [.ref x, .int a1, .int a2, .int a3, .int a4, .int a5, .ref o]) (rest := []) B (w_observe G l Φ sz x o a1 a2 a3 a4 a5 go hx_0 hx_74 hx_80 hx_81 hx_82 hx_83 hx_95 hx_96 hx_97 hco hna (Nat.le_trans hxy (Nat.le_trans (Nat.le_add_right y 26) hyo)) Fhk) (vx_cwSW 7 B.1.2.2.2.2 gL_law_L_observe rfl rfl rfl (by decide +kernel) ⟨Nat.le_of_ble_eq_true rfl, Nat.le_of_ble_eq_true rfl⟩) rfl rfl (Nat.le_of_ble_eq_true rfl) dL_law_478 ⟨Nat.le_of_ble_eq_true rfl, Nat.le_of_ble_eq_true rfl⟩ (fun v1 Φ1 sz1 st1 hp1 hs1 => ?_)
  obtain ⟨rfl, fr1, g1, ho1, hg1⟩ := hp1
  replace hs1 : st1 = [.int 0] := hs1
  subst st1
  refine z_istore (lv' := [(6, .int 0), (5, .int 0), (4, .ref d), (3, .ref o), (2, .ref y), (1, .ref x), (0, .ref b)]) B dL_law_481 (Nat.le_of_ble_eq_true rfl) rfl ?_
  refine z_aload_n B dL_law_483 rfl 4 rfl ?_
  refine z_aload_n B dL_law_484 rfl 6 rfl ?_
  refine z_iload B dL_law_485 1 rfl ?_
  refine z_iconst (v := 1) B dL_law_487 rfl ?_
  refine z_iadd B dL_law_488 ?_
  refine z_top (st1 := [.int 1, .ref b, .ref y]) (congrArg (fun w9 : Int32 => ([.int w9, .ref b, .ref y] : List Value)) (show (0 + 1 : Int32) = 1 by decide +kernel)) ?_
  refine z_sald B hX hbn (vin rfl) dL_law_489 ?_
  refine z_top (st1 := [.int a1, .ref y]) (congrArg (fun w9 : Int32 => ([.int w9, .ref y] : List Value)) (show xs (1 : Int32).toNatClampNeg = a1 from hx1)) ?_
  refine z_aload_n B dL_law_490 rfl 6 rfl ?_
  refine z_iload B dL_law_491 1 rfl ?_
  refine z_iconst (v := 2) B dL_law_493 rfl ?_
  refine z_iadd B dL_law_494 ?_
  refine z_top (st1 := [.int 2, .ref b, .int a1, .ref y]) (congrArg (fun w9 : Int32 => ([.int w9, .ref b, .int a1, .ref y] : List Value)) (show (0 + 2 : Int32) = 2 by decide +kernel)) ?_
  refine z_sald B hX hbn (vin rfl) dL_law_495 ?_
  refine z_top (st1 := [.int a2, .int a1, .ref y]) (congrArg (fun w9 : Int32 => ([.int w9, .int a1, .ref y] : List Value)) (show xs (2 : Int32).toNatClampNeg = a2 from hx2)) ?_
  refine z_aload_n B dL_law_496 rfl 6 rfl ?_
  refine z_iload B dL_law_497 1 rfl ?_
  refine z_iconst (v := 3) B dL_law_499 rfl ?_
  refine z_iadd B dL_law_500 ?_
  refine z_top (st1 := [.int 3, .ref b, .int a2, .int a1, .ref y]) (congrArg (fun w9 : Int32 => ([.int w9, .ref b, .int a2, .int a1, .ref y] : List Value)) (show (0 + 3 : Int32) = 3 by decide +kernel)) ?_
  refine z_sald B hX hbn (vin rfl) dL_law_501 ?_
  refine z_top (st1 := [.int a3, .int a2, .int a1, .ref y]) (congrArg (fun w9 : Int32 => ([.int w9, .int a2, .int a1, .ref y] : List Value)) (show xs (3 : Int32).toNatClampNeg = a3 from hx3)) ?_
  refine z_aload_n B dL_law_502 rfl 6 rfl ?_
  refine z_iload B dL_law_503 1 rfl ?_
  refine z_iconst (v := 4) B dL_law_505 rfl ?_
  refine z_iadd B dL_law_506 ?_
  refine z_top (st1 := [.int 4, .ref b, .int a3, .int a2, .int a1, .ref y]) (congrArg (fun w9 : Int32 => ([.int w9, .ref b, .int a3, .int a2, .int a1, .ref y] : List Value)) (show (0 + 4 : Int32) = 4 by decide +kernel)) ?_
  refine z_sald B hX hbn (vin rfl) dL_law_507 ?_
  refine z_top (st1 := [.int a4, .int a3, .int a2, .int a1, .ref y]) (congrArg (fun w9 : Int32 => ([.int w9, .int a3, .int a2, .int a1, .ref y] : List Value)) (show xs (4 : Int32).toNatClampNeg = a4 from hx4)) ?_
  refine z_aload_n B dL_law_508 rfl 6 rfl ?_
  refine z_iload B dL_law_509 1 rfl ?_
  refine z_iconst (v := 5) B dL_law_511 rfl ?_
  refine z_iadd B dL_law_512 ?_
  refine z_top (st1 := [.int 5, .ref b, .int a4, .int a3, .int a2, .int a1, .ref y]) (congrArg (fun w9 : Int32 => ([.int w9, .ref b, .int a4, .int a3, .int a2, .int a1, .ref y] : List Value)) (show (0 + 5 : Int32) = 5 by decide +kernel)) ?_
  refine z_sald B hX hbn (vin rfl) dL_law_513 ?_
  refine z_top (st1 := [.int a5, .int a4, .int a3, .int a2, .int a1, .ref y]) (congrArg (fun w9 : Int32 => ([.int w9, .int a4, .int a3, .int a2, .int a1, .ref y] : List Value)) (show xs (5 : Int32).toNatClampNeg = a5 from hx5)) ?_
  have h_1 : Φ1 y = some (o_ 14 [.int 0, .ref (y + 1), .ref (y + 2), .int 0, .int 1, .int 1, .int 0, .int 0, .ref (y + 3), .ref (y + 4), .int 0, .long 0, .ref (y + 5), .int 0, .int 0, .long 0, .long 0, .long 0, .long 0, .ref (y + 6), .ref (y + 7), .int 0, .ref (y + 8), .int 0, .ref (y + 9), .ref (y + 10), .int 0, .ref (y + 11), .ref (y + 12), .ref (y + 13), .ref (y + 14), .ref (y + 15), .ref (y + 16), .int 0, .long (-1), .ref (y + 17), .ref (y + 18), .ref (y + 19), .ref (y + 20), .ref (y + 21), .ref (y + 22), .int 0, .ref (y + 23), .ref (y + 24), .int 0, .ref (y + 25), .int 0, .int 0, .int 0, .int (-1), .int 0, .int 0, .int 0, .long 0]) := ((fr1 y hxy (Nat.ne_of_lt (Nat.lt_of_lt_of_le (lt_off (x := y) (i := 0) (j := 26) rfl) hyo))).trans hy_0)
  have h_2 : Φ1 (y + 5) = some (al_ G 96 (fun _ => 0)) := ((fr1 (y + 5) (Nat.le_trans hxy (Nat.le_add_right y 5)) (Nat.ne_of_lt (Nat.lt_of_lt_of_le (lt_off (x := y) (i := 5) (j := 26) rfl) hyo))).trans hy_5)
  have h_3 : Φ1 (y + 23) = some (ai_ G 96 (fun _ => 0)) := ((fr1 (y + 23) (Nat.le_trans hxy (Nat.le_add_right y 23)) (Nat.ne_of_lt (Nat.lt_of_lt_of_le (lt_off (x := y) (i := 23) (j := 26) rfl) hyo))).trans hy_23)
  have h_4 : Φ1 (y + 24) = some (al_ G 48 (fun _ => 0)) := ((fr1 (y + 24) (Nat.le_trans hxy (Nat.le_add_right y 24)) (Nat.ne_of_lt (Nat.lt_of_lt_of_le (lt_off (x := y) (i := 24) (j := 26) rfl) hyo))).trans hy_24)
  refine z_callV (As := [.int a1, .int a2, .int a3, .int a4, .int a5]) (rest := []) B (m_X12_observe G l Φ1 sz1 y a1 a2 a3 a4 a5 h_1 h_2 h_3 h_4 (Nat.le_trans hna (Nat.le_trans (Nat.le_add_right x 149) hxy)) Mhp) (cwV 5 B.1.2.2.2.2 gL_law_X12_observe rfl rfl rfl (by decide +kernel) ⟨Nat.le_of_ble_eq_true rfl, Nat.le_of_ble_eq_true rfl⟩) h_1 rfl rfl rfl rfl (Nat.le_of_ble_eq_true rfl) dL_law_514 ⟨Nat.le_of_ble_eq_true rfl, Nat.le_of_ble_eq_true rfl⟩ (fun v2 Φ2 sz2 st2 hp2 hs2 => ?_)
  obtain ⟨rfl, ⟨fs1, hy1, hk1⟩, fr2⟩ := hp2
  replace hs2 : st2 = [.int 1] := hs2
  subst st2
  refine z_istore (lv' := [(7, .int 1), (6, .int 0), (5, .int 0), (4, .ref d), (3, .ref o), (2, .ref y), (1, .ref x), (0, .ref b)]) B dL_law_517 (Nat.le_of_ble_eq_true rfl) rfl ?_
  refine z_aload_n B dL_law_519 rfl 5 rfl ?_
  refine z_callV (As := []) (rest := []) B (m_thrown G l Φ2 sz2 y fs1 0 hy1 hk1) (cwV 0 B.1.2.2.2.2 gL_law_X12_thrown rfl rfl rfl (by decide +kernel) ⟨Nat.le_of_ble_eq_true rfl, Nat.le_of_ble_eq_true rfl⟩) hy1 rfl rfl rfl rfl (Nat.le_of_ble_eq_true rfl) dL_law_520 ⟨Nat.le_of_ble_eq_true rfl, Nat.le_of_ble_eq_true rfl⟩ (fun v3 Φ3 sz3 st3 hp3 hs3 => ?_)
  obtain ⟨rfl, he1⟩ := hp3
  replace hs3 : st3 = [.int 0] := hs3
  subst st3
  rw [he1]
  refine z_iload B dL_law_523 1 rfl ?_
  refine z_icmp_eq (tgt := 530) B dL_law_525 rfl (fun c_1 => ?_) (fun h9 => absurd (by decide) h9)
  refine z_iload B dL_law_530 1 rfl ?_
  refine z_if_ne (tgt := 554) B dL_law_532 rfl (fun h9 => absurd (by decide) h9) (fun c_2 => ?_)
  refine z_aload_n B dL_law_535 rfl 4 rfl ?_
  refine z_iconst (v := 0) B dL_law_536 rfl ?_
  have h_5 : Φ2 o = some (al_ G 1 g1) := ((fr2 o hyo).trans ho1)
  refine z_lald B h_5 (vin rfl) dL_law_537 ?_
  refine z_top (st1 := [.long 1]) (congrArg (fun w9 : Int64 => ([.long w9] : List Value)) (show g1 (0 : Int32).toNatClampNeg = 1 from hg1)) ?_
  refine z_iload B dL_law_538 0 rfl ?_
  refine z_if_eq (tgt := 547) B dL_law_540 rfl (fun h9 => absurd h9 (by decide)) (fun c_3 => ?_)
  refine z_lconst (v := 1) B dL_law_543 rfl ?_
  refine z_goto (tgt := 548) B dL_law_544 rfl ?_
  refine z_lcmp B dL_law_548 ?_
  refine z_top (st1 := [.int 0]) (congrArg (fun w9 : Int32 => ([.int w9] : List Value)) (show (lg_cmp 1 1 : Int32) = 0 by decide +kernel)) ?_
  refine z_if_eq (tgt := 554) B dL_law_549 rfl (fun c_4 => ?_) (fun h9 => absurd (by decide) h9)
  refine z_goto (tgt := 2893) B dL_law_554 rfl ?_
  refine z_lv [2, 3, 4, 5, 6, 7] rfl ?_
  refine z_widen (k := 178) (n := 20844) (Nat.le_of_ble_eq_true rfl) (Nat.le_of_ble_eq_true rfl) ?_
  exact hT _ _

set_option maxHeartbeats 4000000 in
set_option maxRecDepth 100000 in
theorem lc_6_x {p9 : Program} {e9 : Env} {s9 : State} {m9 : MethodId} {a9 : Array Value} {w9 : List Frame} {t9 : Method} {k9 : Code} {Q9 : State → Prop} {nm9 : String} (G : EnvG) (l : Launch) (hl9 : l.stackTraces = false) (B : Bd p9 s9 m9 a9 t9 k9 G code 9 RL wsL_law ret nm9) (Φ : Hm) (sz : Nat) (b : Nat) (xs : Nat → Int32) (hX : va_X b 7 xs s9 s9.heap) (hbn : b < G.2.2.2) (x y o d : Nat) (a1 : Int32) (a2 : Int32) (a3 : Int32) (a4 : Int32) (a5 : Int32) (go : Nat → Int64) (gd : Nat → UInt64) (hna : G.2.2.2 ≤ x) (hxy : x + 149 ≤ y) (hyo : y + 26 ≤ o) (hyd : y + 26 ≤ d) (hod : o ≠ d) (hx_0 : Φ x = some (o_ 13 [.ref (x + 1), .ref (x + 3), .ref (x + 24), .ref (x + 46), .ref (x + 74), .ref (x + 80), .ref (x + 132), .ref (x + 121)])) (hy_0 : Φ y = some (o_ 14 [.int 0, .ref (y + 1), .ref (y + 2), .int 0, .int 1, .int 1, .int 0, .int 0, .ref (y + 3), .ref (y + 4), .int 0, .long 0, .ref (y + 5), .int 0, .int 0, .long 0, .long 0, .long 0, .long 0, .ref (y + 6), .ref (y + 7), .int 0, .ref (y + 8), .int 0, .ref (y + 9), .ref (y + 10), .int 0, .ref (y + 11), .ref (y + 12), .ref (y + 13), .ref (y + 14), .ref (y + 15), .ref (y + 16), .int 0, .long (-1), .ref (y + 17), .ref (y + 18), .ref (y + 19), .ref (y + 20), .ref (y + 21), .ref (y + 22), .int 0, .ref (y + 23), .ref (y + 24), .int 0, .ref (y + 25), .int 0, .int 0, .int 0, .int (-1), .int 0, .int 0, .int 0, .long 0])) (hx1 : xs 1 = a1) (hx2 : xs 2 = a2) (hx3 : xs 3 = a3) (hx4 : xs 4 = a4) (hx5 : xs 5 = a5) (Fhk : ¬ (¬ lg_cmp (kOf a1 a2 a3 a4) (-1) = 0 ∧ ¬ a5 < 1 ∧ ¬ 65535 < a5)) (Mhp : ¬ pkP a1 a2 a3 a4 a5) (hT : ∀ (Φ1 : Hm) (sz1 : Nat), Z p9 l e9 room_1 s9 m9 a9 w9 t9 k9 Q9 G 9 2893 [(5, .int 0), (4, .ref d), (3, .ref o), (2, .ref y), (1, .ref x), (0, .ref b)] [] Φ1 sz1 178 20844) : Z p9 l e9 room_1 s9 m9 a9 w9 t9 k9 Q9 G 9 446 [(5, .int 0), (4, .ref d), (3, .ref o), (2, .ref y), (1, .ref x), (0, .ref b)] [] Φ sz 177 20838 := by
  refine z_aload_n B dL_law_446 rfl 4 rfl ?_
  refine z_aload_n B dL_law_447 rfl 5 rfl ?_
  refine z_iload B dL_law_448 0 rfl ?_
  refine z_iconst (v := 1) B dL_law_450 rfl ?_
  refine z_iadd B dL_law_451 ?_
  refine z_top (st1 := [.int 1, .ref b, .ref x]) (congrArg (fun w9 : Int32 => ([.int w9, .ref b, .ref x] : List Value)) (show (0 + 1 : Int32) = 1 by decide +kernel)) ?_
  refine z_sald B hX hbn (vin rfl) dL_law_452 ?_
  refine z_top (st1 := [.int a1, .ref x]) (congrArg (fun w9 : Int32 => ([.int w9, .ref x] : List Value)) (show xs (1 : Int32).toNatClampNeg = a1 from hx1)) ?_
  refine z_aload_n B dL_law_453 rfl 5 rfl ?_
  refine z_iload B dL_law_454 0 rfl ?_
  refine z_iconst (v := 2) B dL_law_456 rfl ?_
  refine z_iadd B dL_law_457 ?_
  refine z_top (st1 := [.int 2, .ref b, .int a1, .ref x]) (congrArg (fun w9 : Int32 => ([.int w9, .ref b, .int a1, .ref x] : List Value)) (show (0 + 2 : Int32) = 2 by decide +kernel)) ?_
  refine z_sald B hX hbn (vin rfl) dL_law_458 ?_
  refine z_top (st1 := [.int a2, .int a1, .ref x]) (congrArg (fun w9 : Int32 => ([.int w9, .int a1, .ref x] : List Value)) (show xs (2 : Int32).toNatClampNeg = a2 from hx2)) ?_
  refine z_aload_n B dL_law_459 rfl 5 rfl ?_
  refine z_iload B dL_law_460 0 rfl ?_
  refine z_iconst (v := 3) B dL_law_462 rfl ?_
  refine z_iadd B dL_law_463 ?_
  refine z_top (st1 := [.int 3, .ref b, .int a2, .int a1, .ref x]) (congrArg (fun w9 : Int32 => ([.int w9, .ref b, .int a2, .int a1, .ref x] : List Value)) (show (0 + 3 : Int32) = 3 by decide +kernel)) ?_
  refine z_sald B hX hbn (vin rfl) dL_law_464 ?_
  refine z_top (st1 := [.int a3, .int a2, .int a1, .ref x]) (congrArg (fun w9 : Int32 => ([.int w9, .int a2, .int a1, .ref x] : List Value)) (show xs (3 : Int32).toNatClampNeg = a3 from hx3)) ?_
  refine z_aload_n B dL_law_465 rfl 5 rfl ?_
  refine z_iload B dL_law_466 0 rfl ?_
  refine z_iconst (v := 4) B dL_law_468 rfl ?_
  refine z_iadd B dL_law_469 ?_
  refine z_top (st1 := [.int 4, .ref b, .int a3, .int a2, .int a1, .ref x]) (congrArg (fun w9 : Int32 => ([.int w9, .ref b, .int a3, .int a2, .int a1, .ref x] : List Value)) (show (0 + 4 : Int32) = 4 by decide +kernel)) ?_
  refine z_sald B hX hbn (vin rfl) dL_law_470 ?_
  refine z_top (st1 := [.int a4, .int a3, .int a2, .int a1, .ref x]) (congrArg (fun w9 : Int32 => ([.int w9, .int a3, .int a2, .int a1, .ref x] : List Value)) (show xs (4 : Int32).toNatClampNeg = a4 from hx4)) ?_
  refine z_aload_n B dL_law_471 rfl 5 rfl ?_
  refine z_iload B dL_law_472 0 rfl ?_
  refine z_iconst (v := 5) B dL_law_474 rfl ?_
  refine z_iadd B dL_law_475 ?_
  refine z_top (st1 := [.int 5, .ref b, .int a4, .int a3, .int a2, .int a1, .ref x]) (congrArg (fun w9 : Int32 => ([.int w9, .ref b, .int a4, .int a3, .int a2, .int a1, .ref x] : List Value)) (show (0 + 5 : Int32) = 5 by decide +kernel)) ?_
  refine z_sald B hX hbn (vin rfl) dL_law_476 ?_
  refine z_top (st1 := [.int a5, .int a4, .int a3, .int a2, .int a1, .ref x]) (congrArg (fun w9 : Int32 => ([.int w9, .int a4, .int a3, .int a2, .int a1, .ref x] : List Value)) (show xs (5 : Int32).toNatClampNeg = a5 from hx5)) ?_
  refine z_aload_n B dL_law_477 rfl 2 rfl ?_
  refine z_callSW (As := [.ref x, .int a1, .int a2, .int a3, .int a4, .int a5, .ref o]) (rest := []) B (w_observe_x G l hl9 Φ sz x o a1 a2 a3 a4 a5 hx_0 Fhk) (vx_cwSW 7 B.1.2.2.2.2 gL_law_L_observe rfl rfl rfl (by decide +kernel) ⟨Nat.le_of_ble_eq_true rfl, Nat.le_of_ble_eq_true rfl⟩) rfl rfl (Nat.le_of_ble_eq_true rfl) dL_law_478 ⟨Nat.le_of_ble_eq_true rfl, Nat.le_of_ble_eq_true rfl⟩ (fun v1 Φ1 sz1 st1 hp1 hs1 => ?_)
  obtain ⟨rfl, he1⟩ := hp1
  replace hs1 : st1 = [.int 1] := hs1
  subst st1
  rw [he1]
  refine z_istore (lv' := [(6, .int 1), (5, .int 0), (4, .ref d), (3, .ref o), (2, .ref y), (1, .ref x), (0, .ref b)]) B dL_law_481 (Nat.le_of_ble_eq_true rfl) rfl ?_
  refine z_aload_n B dL_law_483 rfl 4 rfl ?_
  refine z_aload_n B dL_law_484 rfl 6 rfl ?_
  refine z_iload B dL_law_485 1 rfl ?_
  refine z_iconst (v := 1) B dL_law_487 rfl ?_
  refine z_iadd B dL_law_488 ?_
  refine z_top (st1 := [.int 1, .ref b, .ref y]) (congrArg (fun w9 : Int32 => ([.int w9, .ref b, .ref y] : List Value)) (show (0 + 1 : Int32) = 1 by decide +kernel)) ?_
  refine z_sald B hX hbn (vin rfl) dL_law_489 ?_
  refine z_top (st1 := [.int a1, .ref y]) (congrArg (fun w9 : Int32 => ([.int w9, .ref y] : List Value)) (show xs (1 : Int32).toNatClampNeg = a1 from hx1)) ?_
  refine z_aload_n B dL_law_490 rfl 6 rfl ?_
  refine z_iload B dL_law_491 1 rfl ?_
  refine z_iconst (v := 2) B dL_law_493 rfl ?_
  refine z_iadd B dL_law_494 ?_
  refine z_top (st1 := [.int 2, .ref b, .int a1, .ref y]) (congrArg (fun w9 : Int32 => ([.int w9, .ref b, .int a1, .ref y] : List Value)) (show (0 + 2 : Int32) = 2 by decide +kernel)) ?_
  refine z_sald B hX hbn (vin rfl) dL_law_495 ?_
  refine z_top (st1 := [.int a2, .int a1, .ref y]) (congrArg (fun w9 : Int32 => ([.int w9, .int a1, .ref y] : List Value)) (show xs (2 : Int32).toNatClampNeg = a2 from hx2)) ?_
  refine z_aload_n B dL_law_496 rfl 6 rfl ?_
  refine z_iload B dL_law_497 1 rfl ?_
  refine z_iconst (v := 3) B dL_law_499 rfl ?_
  refine z_iadd B dL_law_500 ?_
  refine z_top (st1 := [.int 3, .ref b, .int a2, .int a1, .ref y]) (congrArg (fun w9 : Int32 => ([.int w9, .ref b, .int a2, .int a1, .ref y] : List Value)) (show (0 + 3 : Int32) = 3 by decide +kernel)) ?_
  refine z_sald B hX hbn (vin rfl) dL_law_501 ?_
  refine z_top (st1 := [.int a3, .int a2, .int a1, .ref y]) (congrArg (fun w9 : Int32 => ([.int w9, .int a2, .int a1, .ref y] : List Value)) (show xs (3 : Int32).toNatClampNeg = a3 from hx3)) ?_
  refine z_aload_n B dL_law_502 rfl 6 rfl ?_
  refine z_iload B dL_law_503 1 rfl ?_
  refine z_iconst (v := 4) B dL_law_505 rfl ?_
  refine z_iadd B dL_law_506 ?_
  refine z_top (st1 := [.int 4, .ref b, .int a3, .int a2, .int a1, .ref y]) (congrArg (fun w9 : Int32 => ([.int w9, .ref b, .int a3, .int a2, .int a1, .ref y] : List Value)) (show (0 + 4 : Int32) = 4 by decide +kernel)) ?_
  refine z_sald B hX hbn (vin rfl) dL_law_507 ?_
  refine z_top (st1 := [.int a4, .int a3, .int a2, .int a1, .ref y]) (congrArg (fun w9 : Int32 => ([.int w9, .int a3, .int a2, .int a1, .ref y] : List Value)) (show xs (4 : Int32).toNatClampNeg = a4 from hx4)) ?_
  refine z_aload_n B dL_law_508 rfl 6 rfl ?_
  refine z_iload B dL_law_509 1 rfl ?_
  refine z_iconst (v := 5) B dL_law_511 rfl ?_
  refine z_iadd B dL_law_512 ?_
  refine z_top (st1 := [.int 5, .ref b, .int a4, .int a3, .int a2, .int a1, .ref y]) (congrArg (fun w9 : Int32 => ([.int w9, .ref b, .int a4, .int a3, .int a2, .int a1, .ref y] : List Value)) (show (0 + 5 : Int32) = 5 by decide +kernel)) ?_
  refine z_sald B hX hbn (vin rfl) dL_law_513 ?_
  refine z_top (st1 := [.int a5, .int a4, .int a3, .int a2, .int a1, .ref y]) (congrArg (fun w9 : Int32 => ([.int w9, .int a4, .int a3, .int a2, .int a1, .ref y] : List Value)) (show xs (5 : Int32).toNatClampNeg = a5 from hx5)) ?_
  refine z_callV (As := [.int a1, .int a2, .int a3, .int a4, .int a5]) (rest := []) B (m_X12_observe_x G l Φ sz1 y a1 a2 a3 a4 a5 hy_0 (Nat.le_trans hna (Nat.le_trans (Nat.le_add_right x 149) hxy)) Mhp) (cwV 5 B.1.2.2.2.2 gL_law_X12_observe rfl rfl rfl (by decide +kernel) ⟨Nat.le_of_ble_eq_true rfl, Nat.le_of_ble_eq_true rfl⟩) hy_0 rfl rfl rfl rfl (Nat.le_of_ble_eq_true rfl) dL_law_514 ⟨Nat.le_of_ble_eq_true rfl, Nat.le_of_ble_eq_true rfl⟩ (fun v2 Φ2 sz2 st2 hp2 hs2 => ?_)
  obtain ⟨rfl, ⟨fs1, hy1, hk1⟩, fr1⟩ := hp2
  replace hs2 : st2 = [.int 0] := hs2
  subst st2
  refine z_istore (lv' := [(7, .int 0), (6, .int 1), (5, .int 0), (4, .ref d), (3, .ref o), (2, .ref y), (1, .ref x), (0, .ref b)]) B dL_law_517 (Nat.le_of_ble_eq_true rfl) rfl ?_
  refine z_aload_n B dL_law_519 rfl 5 rfl ?_
  refine z_callV (As := []) (rest := []) B (m_thrown G l Φ2 sz2 y fs1 1 hy1 hk1) (cwV 0 B.1.2.2.2.2 gL_law_X12_thrown rfl rfl rfl (by decide +kernel) ⟨Nat.le_of_ble_eq_true rfl, Nat.le_of_ble_eq_true rfl⟩) hy1 rfl rfl rfl rfl (Nat.le_of_ble_eq_true rfl) dL_law_520 ⟨Nat.le_of_ble_eq_true rfl, Nat.le_of_ble_eq_true rfl⟩ (fun v3 Φ3 sz3 st3 hp3 hs3 => ?_)
  obtain ⟨rfl, he2⟩ := hp3
  replace hs3 : st3 = [.int 1] := hs3
  subst st3
  rw [he2]
  refine z_iload B dL_law_523 1 rfl ?_
  refine z_icmp_eq (tgt := 530) B dL_law_525 rfl (fun c_1 => ?_) (fun h9 => absurd (by decide) h9)
  refine z_iload B dL_law_530 1 rfl ?_
  refine z_if_ne (tgt := 554) B dL_law_532 rfl (fun c_2 => ?_) (fun h9 => absurd h9 (by decide))
  refine z_goto (tgt := 2893) B dL_law_554 rfl ?_
  refine z_lv [2, 3, 4, 5, 6, 7] rfl ?_
  exact hT _ _

set_option maxHeartbeats 4000000 in
set_option maxRecDepth 100000 in
theorem lc_7 {p9 : Program} {e9 : Env} {s9 : State} {m9 : MethodId} {a9 : Array Value} {w9 : List Frame} {t9 : Method} {k9 : Code} {Q9 : State → Prop} {nm9 : String} (G : EnvG) (l : Launch) (hl9 : l.stackTraces = false) (B : Bd p9 s9 m9 a9 t9 k9 G code 9 RL wsL_law ret nm9) (Φ : Hm) (sz : Nat) (b : Nat) (xs : Nat → Int32) (hX : va_X b 7 xs s9 s9.heap) (hbn : b < G.2.2.2) (x y o d : Nat) (a1 : Int32) (a2 : Int32) (a3 : Int32) (a4 : Int32) (a5 : Int32) (n : Nat) (go : Nat → Int64) (gd : Nat → UInt64) (hna : G.2.2.2 ≤ x) (hxy : x + 149 ≤ y) (hyo : y + 26 ≤ o) (hyd : y + 26 ≤ d) (hod : o ≠ d) (hx_0 : Φ x = some (o_ 13 [.ref (x + 1), .ref (x + 3), .ref (x + 24), .ref (x + 46), .ref (x + 74), .ref (x + 80), .ref (x + 132), .ref (x + 121)])) (hx_74 : Φ (x + 74) = some (o_ 10 [.ref (x + 3), .ref (x + 46), .ref (x + 75), .ref (x + 77), .int 0, .ref (x + 78), .ref (x + 79), .int 0, .long 0, .int 0])) (hx_80 : Φ (x + 80) = some (o_ 4 [.ref (x + 3), .ref (x + 74), .ref (x + 81), .ref (x + 95), .int 0, .int 1, .int 1, .int 0, .int 0, .int 0, .long 0, .long 0, .long 0])) (hx_81 : Φ (x + 81) = some (o_ 6 [.ref (x + 82), .int 0])) (hx_82 : Φ (x + 82) = some (aq_ G 5 12 (va_up (va_up (va_up (va_up (va_up (va_up (va_up (va_up (va_up (va_up (va_up (va_up (fun _ => none) (0 : Int32).toNatClampNeg (some (x + 83))) (1 : Int32).toNatClampNeg (some (x + 84))) (2 : Int32).toNatClampNeg (some (x + 85))) (3 : Int32).toNatClampNeg (some (x + 86))) (4 : Int32).toNatClampNeg (some (x + 87))) (5 : Int32).toNatClampNeg (some (x + 88))) (6 : Int32).toNatClampNeg (some (x + 89))) (7 : Int32).toNatClampNeg (some (x + 90))) (8 : Int32).toNatClampNeg (some (x + 91))) (9 : Int32).toNatClampNeg (some (x + 92))) (10 : Int32).toNatClampNeg (some (x + 93))) (11 : Int32).toNatClampNeg (some (x + 94))))) (hx_83 : Φ (x + 83) = some (o_ 5 [.long 0, .long 0, .long 0, .int 0, .int 0])) (hx_95 : Φ (x + 95) = some (o_ 6 [.ref (x + 96), .int 0])) (hx_96 : Φ (x + 96) = some (aq_ G 5 24 (va_up (va_up (va_up (va_up (va_up (va_up (va_up (va_up (va_up (va_up (va_up (va_up (va_up (va_up (va_up (va_up (va_up (va_up (va_up (va_up (va_up (va_up (va_up (va_up (fun _ => none) (0 : Int32).toNatClampNeg (some (x + 97))) (1 : Int32).toNatClampNeg (some (x + 98))) (2 : Int32).toNatClampNeg (some (x + 99))) (3 : Int32).toNatClampNeg (some (x + 100))) (4 : Int32).toNatClampNeg (some (x + 101))) (5 : Int32).toNatClampNeg (some (x + 102))) (6 : Int32).toNatClampNeg (some (x + 103))) (7 : Int32).toNatClampNeg (some (x + 104))) (8 : Int32).toNatClampNeg (some (x + 105))) (9 : Int32).toNatClampNeg (some (x + 106))) (10 : Int32).toNatClampNeg (some (x + 107))) (11 : Int32).toNatClampNeg (some (x + 108))) (12 : Int32).toNatClampNeg (some (x + 109))) (13 : Int32).toNatClampNeg (some (x + 110))) (14 : Int32).toNatClampNeg (some (x + 111))) (15 : Int32).toNatClampNeg (some (x + 112))) (16 : Int32).toNatClampNeg (some (x + 113))) (17 : Int32).toNatClampNeg (some (x + 114))) (18 : Int32).toNatClampNeg (some (x + 115))) (19 : Int32).toNatClampNeg (some (x + 116))) (20 : Int32).toNatClampNeg (some (x + 117))) (21 : Int32).toNatClampNeg (some (x + 118))) (22 : Int32).toNatClampNeg (some (x + 119))) (23 : Int32).toNatClampNeg (some (x + 120))))) (hx_97 : Φ (x + 97) = some (o_ 5 [.long 0, .long 0, .long 0, .int 0, .int 0])) (hy_0 : Φ y = some (o_ 14 [.int 0, .ref (y + 1), .ref (y + 2), .int 0, .int 1, .int 1, .int 0, .int 0, .ref (y + 3), .ref (y + 4), .int 0, .long 0, .ref (y + 5), .int 0, .int 0, .long 0, .long 0, .long 0, .long 0, .ref (y + 6), .ref (y + 7), .int 0, .ref (y + 8), .int 0, .ref (y + 9), .ref (y + 10), .int 0, .ref (y + 11), .ref (y + 12), .ref (y + 13), .ref (y + 14), .ref (y + 15), .ref (y + 16), .int 0, .long (-1), .ref (y + 17), .ref (y + 18), .ref (y + 19), .ref (y + 20), .ref (y + 21), .ref (y + 22), .int 0, .ref (y + 23), .ref (y + 24), .int 0, .ref (y + 25), .int 0, .int 0, .int 0, .int (-1), .int 0, .int 0, .int 0, .long 0])) (hy_5 : Φ (y + 5) = some (al_ G 96 (fun _ => 0))) (hy_23 : Φ (y + 23) = some (ai_ G 96 (fun _ => 0))) (hy_24 : Φ (y + 24) = some (al_ G 48 (fun _ => 0))) (hco : Φ o = some (al_ G 1 go)) (hx1 : xs 1 = a1) (hx2 : xs 2 = a2) (hx3 : xs 3 = a3) (hx4 : xs 4 = a4) (hx5 : xs 5 = a5) (hx6 : xs 6 = nI n) (Fhk : ¬ lg_cmp (kOf a1 a2 a3 a4) (-1) = 0 ∧ ¬ a5 < 1 ∧ ¬ 65535 < a5 ∧ ¬ nI n < 1 ∧ nI n ≤ 200) (Fhn1 : 1 ≤ n) (Fhn2 : n ≤ 200) (Mhp : pkP a1 a2 a3 a4 a5) (Mhn : inP (nI n).toInt64 1 200) (Mhn1 : 1 ≤ n) (Mhn2 : n ≤ 200) (hT : ∀ (Φ1 : Hm) (sz1 : Nat), Z p9 l e9 room_1 s9 m9 a9 w9 t9 k9 Q9 G 9 2893 [(5, .int 0), (4, .ref d), (3, .ref o), (2, .ref y), (1, .ref x), (0, .ref b)] [] Φ1 sz1 178 20844) : Z p9 l e9 room_1 s9 m9 a9 w9 t9 k9 Q9 G 9 557 [(5, .int 0), (4, .ref d), (3, .ref o), (2, .ref y), (1, .ref x), (0, .ref b)] [] Φ sz 177 20838 := by
  refine z_aload_n B dL_law_557 rfl 4 rfl ?_
  refine z_aload_n B dL_law_558 rfl 5 rfl ?_
  refine z_iload B dL_law_559 0 rfl ?_
  refine z_iconst (v := 1) B dL_law_561 rfl ?_
  refine z_iadd B dL_law_562 ?_
  refine z_top (st1 := [.int 1, .ref b, .ref x]) (congrArg (fun w9 : Int32 => ([.int w9, .ref b, .ref x] : List Value)) (show (0 + 1 : Int32) = 1 by decide +kernel)) ?_
  refine z_sald B hX hbn (vin rfl) dL_law_563 ?_
  refine z_top (st1 := [.int a1, .ref x]) (congrArg (fun w9 : Int32 => ([.int w9, .ref x] : List Value)) (show xs (1 : Int32).toNatClampNeg = a1 from hx1)) ?_
  refine z_aload_n B dL_law_564 rfl 5 rfl ?_
  refine z_iload B dL_law_565 0 rfl ?_
  refine z_iconst (v := 2) B dL_law_567 rfl ?_
  refine z_iadd B dL_law_568 ?_
  refine z_top (st1 := [.int 2, .ref b, .int a1, .ref x]) (congrArg (fun w9 : Int32 => ([.int w9, .ref b, .int a1, .ref x] : List Value)) (show (0 + 2 : Int32) = 2 by decide +kernel)) ?_
  refine z_sald B hX hbn (vin rfl) dL_law_569 ?_
  refine z_top (st1 := [.int a2, .int a1, .ref x]) (congrArg (fun w9 : Int32 => ([.int w9, .int a1, .ref x] : List Value)) (show xs (2 : Int32).toNatClampNeg = a2 from hx2)) ?_
  refine z_aload_n B dL_law_570 rfl 5 rfl ?_
  refine z_iload B dL_law_571 0 rfl ?_
  refine z_iconst (v := 3) B dL_law_573 rfl ?_
  refine z_iadd B dL_law_574 ?_
  refine z_top (st1 := [.int 3, .ref b, .int a2, .int a1, .ref x]) (congrArg (fun w9 : Int32 => ([.int w9, .ref b, .int a2, .int a1, .ref x] : List Value)) (show (0 + 3 : Int32) = 3 by decide +kernel)) ?_
  refine z_sald B hX hbn (vin rfl) dL_law_575 ?_
  refine z_top (st1 := [.int a3, .int a2, .int a1, .ref x]) (congrArg (fun w9 : Int32 => ([.int w9, .int a2, .int a1, .ref x] : List Value)) (show xs (3 : Int32).toNatClampNeg = a3 from hx3)) ?_
  refine z_aload_n B dL_law_576 rfl 5 rfl ?_
  refine z_iload B dL_law_577 0 rfl ?_
  refine z_iconst (v := 4) B dL_law_579 rfl ?_
  refine z_iadd B dL_law_580 ?_
  refine z_top (st1 := [.int 4, .ref b, .int a3, .int a2, .int a1, .ref x]) (congrArg (fun w9 : Int32 => ([.int w9, .ref b, .int a3, .int a2, .int a1, .ref x] : List Value)) (show (0 + 4 : Int32) = 4 by decide +kernel)) ?_
  refine z_sald B hX hbn (vin rfl) dL_law_581 ?_
  refine z_top (st1 := [.int a4, .int a3, .int a2, .int a1, .ref x]) (congrArg (fun w9 : Int32 => ([.int w9, .int a3, .int a2, .int a1, .ref x] : List Value)) (show xs (4 : Int32).toNatClampNeg = a4 from hx4)) ?_
  refine z_aload_n B dL_law_582 rfl 5 rfl ?_
  refine z_iload B dL_law_583 0 rfl ?_
  refine z_iconst (v := 5) B dL_law_585 rfl ?_
  refine z_iadd B dL_law_586 ?_
  refine z_top (st1 := [.int 5, .ref b, .int a4, .int a3, .int a2, .int a1, .ref x]) (congrArg (fun w9 : Int32 => ([.int w9, .ref b, .int a4, .int a3, .int a2, .int a1, .ref x] : List Value)) (show (0 + 5 : Int32) = 5 by decide +kernel)) ?_
  refine z_sald B hX hbn (vin rfl) dL_law_587 ?_
  refine z_top (st1 := [.int a5, .int a4, .int a3, .int a2, .int a1, .ref x]) (congrArg (fun w9 : Int32 => ([.int w9, .int a4, .int a3, .int a2, .int a1, .ref x] : List Value)) (show xs (5 : Int32).toNatClampNeg = a5 from hx5)) ?_
  refine z_aload_n B dL_law_588 rfl 5 rfl ?_
  refine z_iload B dL_law_589 0 rfl ?_
  refine z_bipush (v := 6) B dL_law_591 rfl ?_
  refine z_iadd B dL_law_593 ?_
  refine z_top (st1 := [.int 6, .ref b, .int a5, .int a4, .int a3, .int a2, .int a1, .ref x]) (congrArg (fun w9 : Int32 => ([.int w9, .ref b, .int a5, .int a4, .int a3, .int a2, .int a1, .ref x] : List Value)) (show (0 + 6 : Int32) = 6 by decide +kernel)) ?_
  refine z_sald B hX hbn (vin rfl) dL_law_594 ?_
  refine z_top (st1 := [.int (nI n), .int a5, .int a4, .int a3, .int a2, .int a1, .ref x]) (congrArg (fun w9 : Int32 => ([.int w9, .int a5, .int a4, .int a3, .int a2, .int a1, .ref x] : List Value)) (show xs (6 : Int32).toNatClampNeg = nI n from hx6)) ?_
  refine z_aload_n B dL_law_595 rfl 2 rfl ?_
  refine z_callSW (As := [.ref x, .int a1, .int a2, .int a3, .int a4, .int a5, .int (nI n), .ref o]) (rest := []) B (w_observeMany G l Φ sz x o a1 a2 a3 a4 a5 n go hx_0 hx_74 hx_80 hx_81 hx_82 hx_83 hx_95 hx_96 hx_97 hco hna (Nat.le_trans hxy (Nat.le_trans (Nat.le_add_right y 26) hyo)) Fhk Fhn1 Fhn2) (vx_cwSW 8 B.1.2.2.2.2 gL_law_L_observeMany rfl rfl rfl (by decide +kernel) ⟨Nat.le_of_ble_eq_true rfl, Nat.le_of_ble_eq_true rfl⟩) rfl rfl (Nat.le_of_ble_eq_true rfl) dL_law_596 ⟨Nat.le_of_ble_eq_true rfl, Nat.le_of_ble_eq_true rfl⟩ (fun v1 Φ1 sz1 st1 hp1 hs1 => ?_)
  obtain ⟨rfl, fr1, g1, ho1, hg1⟩ := hp1
  replace hs1 : st1 = [.int 0] := hs1
  subst st1
  refine z_istore (lv' := [(6, .int 0), (5, .int 0), (4, .ref d), (3, .ref o), (2, .ref y), (1, .ref x), (0, .ref b)]) B dL_law_599 (Nat.le_of_ble_eq_true rfl) rfl ?_
  refine z_aload_n B dL_law_601 rfl 4 rfl ?_
  refine z_aload_n B dL_law_602 rfl 6 rfl ?_
  refine z_iload B dL_law_603 1 rfl ?_
  refine z_iconst (v := 1) B dL_law_605 rfl ?_
  refine z_iadd B dL_law_606 ?_
  refine z_top (st1 := [.int 1, .ref b, .ref y]) (congrArg (fun w9 : Int32 => ([.int w9, .ref b, .ref y] : List Value)) (show (0 + 1 : Int32) = 1 by decide +kernel)) ?_
  refine z_sald B hX hbn (vin rfl) dL_law_607 ?_
  refine z_top (st1 := [.int a1, .ref y]) (congrArg (fun w9 : Int32 => ([.int w9, .ref y] : List Value)) (show xs (1 : Int32).toNatClampNeg = a1 from hx1)) ?_
  refine z_aload_n B dL_law_608 rfl 6 rfl ?_
  refine z_iload B dL_law_609 1 rfl ?_
  refine z_iconst (v := 2) B dL_law_611 rfl ?_
  refine z_iadd B dL_law_612 ?_
  refine z_top (st1 := [.int 2, .ref b, .int a1, .ref y]) (congrArg (fun w9 : Int32 => ([.int w9, .ref b, .int a1, .ref y] : List Value)) (show (0 + 2 : Int32) = 2 by decide +kernel)) ?_
  refine z_sald B hX hbn (vin rfl) dL_law_613 ?_
  refine z_top (st1 := [.int a2, .int a1, .ref y]) (congrArg (fun w9 : Int32 => ([.int w9, .int a1, .ref y] : List Value)) (show xs (2 : Int32).toNatClampNeg = a2 from hx2)) ?_
  refine z_aload_n B dL_law_614 rfl 6 rfl ?_
  refine z_iload B dL_law_615 1 rfl ?_
  refine z_iconst (v := 3) B dL_law_617 rfl ?_
  refine z_iadd B dL_law_618 ?_
  refine z_top (st1 := [.int 3, .ref b, .int a2, .int a1, .ref y]) (congrArg (fun w9 : Int32 => ([.int w9, .ref b, .int a2, .int a1, .ref y] : List Value)) (show (0 + 3 : Int32) = 3 by decide +kernel)) ?_
  refine z_sald B hX hbn (vin rfl) dL_law_619 ?_
  refine z_top (st1 := [.int a3, .int a2, .int a1, .ref y]) (congrArg (fun w9 : Int32 => ([.int w9, .int a2, .int a1, .ref y] : List Value)) (show xs (3 : Int32).toNatClampNeg = a3 from hx3)) ?_
  refine z_aload_n B dL_law_620 rfl 6 rfl ?_
  refine z_iload B dL_law_621 1 rfl ?_
  refine z_iconst (v := 4) B dL_law_623 rfl ?_
  refine z_iadd B dL_law_624 ?_
  refine z_top (st1 := [.int 4, .ref b, .int a3, .int a2, .int a1, .ref y]) (congrArg (fun w9 : Int32 => ([.int w9, .ref b, .int a3, .int a2, .int a1, .ref y] : List Value)) (show (0 + 4 : Int32) = 4 by decide +kernel)) ?_
  refine z_sald B hX hbn (vin rfl) dL_law_625 ?_
  refine z_top (st1 := [.int a4, .int a3, .int a2, .int a1, .ref y]) (congrArg (fun w9 : Int32 => ([.int w9, .int a3, .int a2, .int a1, .ref y] : List Value)) (show xs (4 : Int32).toNatClampNeg = a4 from hx4)) ?_
  refine z_aload_n B dL_law_626 rfl 6 rfl ?_
  refine z_iload B dL_law_627 1 rfl ?_
  refine z_iconst (v := 5) B dL_law_629 rfl ?_
  refine z_iadd B dL_law_630 ?_
  refine z_top (st1 := [.int 5, .ref b, .int a4, .int a3, .int a2, .int a1, .ref y]) (congrArg (fun w9 : Int32 => ([.int w9, .ref b, .int a4, .int a3, .int a2, .int a1, .ref y] : List Value)) (show (0 + 5 : Int32) = 5 by decide +kernel)) ?_
  refine z_sald B hX hbn (vin rfl) dL_law_631 ?_
  refine z_top (st1 := [.int a5, .int a4, .int a3, .int a2, .int a1, .ref y]) (congrArg (fun w9 : Int32 => ([.int w9, .int a4, .int a3, .int a2, .int a1, .ref y] : List Value)) (show xs (5 : Int32).toNatClampNeg = a5 from hx5)) ?_
  refine z_aload_n B dL_law_632 rfl 6 rfl ?_
  refine z_iload B dL_law_633 1 rfl ?_
  refine z_bipush (v := 6) B dL_law_635 rfl ?_
  refine z_iadd B dL_law_637 ?_
  refine z_top (st1 := [.int 6, .ref b, .int a5, .int a4, .int a3, .int a2, .int a1, .ref y]) (congrArg (fun w9 : Int32 => ([.int w9, .ref b, .int a5, .int a4, .int a3, .int a2, .int a1, .ref y] : List Value)) (show (0 + 6 : Int32) = 6 by decide +kernel)) ?_
  refine z_sald B hX hbn (vin rfl) dL_law_638 ?_
  refine z_top (st1 := [.int (nI n), .int a5, .int a4, .int a3, .int a2, .int a1, .ref y]) (congrArg (fun w9 : Int32 => ([.int w9, .int a5, .int a4, .int a3, .int a2, .int a1, .ref y] : List Value)) (show xs (6 : Int32).toNatClampNeg = nI n from hx6)) ?_
  have h_1 : Φ1 y = some (o_ 14 [.int 0, .ref (y + 1), .ref (y + 2), .int 0, .int 1, .int 1, .int 0, .int 0, .ref (y + 3), .ref (y + 4), .int 0, .long 0, .ref (y + 5), .int 0, .int 0, .long 0, .long 0, .long 0, .long 0, .ref (y + 6), .ref (y + 7), .int 0, .ref (y + 8), .int 0, .ref (y + 9), .ref (y + 10), .int 0, .ref (y + 11), .ref (y + 12), .ref (y + 13), .ref (y + 14), .ref (y + 15), .ref (y + 16), .int 0, .long (-1), .ref (y + 17), .ref (y + 18), .ref (y + 19), .ref (y + 20), .ref (y + 21), .ref (y + 22), .int 0, .ref (y + 23), .ref (y + 24), .int 0, .ref (y + 25), .int 0, .int 0, .int 0, .int (-1), .int 0, .int 0, .int 0, .long 0]) := ((fr1 y hxy (Nat.ne_of_lt (Nat.lt_of_lt_of_le (lt_off (x := y) (i := 0) (j := 26) rfl) hyo))).trans hy_0)
  have h_2 : Φ1 (y + 5) = some (al_ G 96 (fun _ => 0)) := ((fr1 (y + 5) (Nat.le_trans hxy (Nat.le_add_right y 5)) (Nat.ne_of_lt (Nat.lt_of_lt_of_le (lt_off (x := y) (i := 5) (j := 26) rfl) hyo))).trans hy_5)
  have h_3 : Φ1 (y + 23) = some (ai_ G 96 (fun _ => 0)) := ((fr1 (y + 23) (Nat.le_trans hxy (Nat.le_add_right y 23)) (Nat.ne_of_lt (Nat.lt_of_lt_of_le (lt_off (x := y) (i := 23) (j := 26) rfl) hyo))).trans hy_23)
  have h_4 : Φ1 (y + 24) = some (al_ G 48 (fun _ => 0)) := ((fr1 (y + 24) (Nat.le_trans hxy (Nat.le_add_right y 24)) (Nat.ne_of_lt (Nat.lt_of_lt_of_le (lt_off (x := y) (i := 24) (j := 26) rfl) hyo))).trans hy_24)
  refine z_callV (As := [.int a1, .int a2, .int a3, .int a4, .int a5, .int (nI n)]) (rest := []) B (m_X12_observeMany G l Φ1 sz1 y a1 a2 a3 a4 a5 n h_1 h_2 h_3 h_4 (Nat.le_trans hna (Nat.le_trans (Nat.le_add_right x 149) hxy)) Mhp Mhn Mhn1 Mhn2) (cwV 6 B.1.2.2.2.2 gL_law_X12_observeMany rfl rfl rfl (by decide +kernel) ⟨Nat.le_of_ble_eq_true rfl, Nat.le_of_ble_eq_true rfl⟩) h_1 rfl rfl rfl rfl (Nat.le_of_ble_eq_true rfl) dL_law_639 ⟨Nat.le_of_ble_eq_true rfl, Nat.le_of_ble_eq_true rfl⟩ (fun v2 Φ2 sz2 st2 hp2 hs2 => ?_)
  obtain ⟨rfl, ⟨fs1, hy1, hk1⟩, fr2⟩ := hp2
  replace hs2 : st2 = [.int (nI n)] := hs2
  subst st2
  refine z_istore (lv' := [(7, .int (nI n)), (6, .int 0), (5, .int 0), (4, .ref d), (3, .ref o), (2, .ref y), (1, .ref x), (0, .ref b)]) B dL_law_642 (Nat.le_of_ble_eq_true rfl) rfl ?_
  refine z_aload_n B dL_law_644 rfl 5 rfl ?_
  refine z_callV (As := []) (rest := []) B (m_thrown G l Φ2 sz2 y fs1 0 hy1 hk1) (cwV 0 B.1.2.2.2.2 gL_law_X12_thrown rfl rfl rfl (by decide +kernel) ⟨Nat.le_of_ble_eq_true rfl, Nat.le_of_ble_eq_true rfl⟩) hy1 rfl rfl rfl rfl (Nat.le_of_ble_eq_true rfl) dL_law_645 ⟨Nat.le_of_ble_eq_true rfl, Nat.le_of_ble_eq_true rfl⟩ (fun v3 Φ3 sz3 st3 hp3 hs3 => ?_)
  obtain ⟨rfl, he1⟩ := hp3
  replace hs3 : st3 = [.int 0] := hs3
  subst st3
  rw [he1]
  refine z_iload B dL_law_648 1 rfl ?_
  refine z_icmp_eq (tgt := 655) B dL_law_650 rfl (fun c_1 => ?_) (fun h9 => absurd (by decide) h9)
  refine z_iload B dL_law_655 1 rfl ?_
  refine z_if_ne (tgt := 672) B dL_law_657 rfl (fun h9 => absurd (by decide) h9) (fun c_2 => ?_)
  refine z_aload_n B dL_law_660 rfl 4 rfl ?_
  refine z_iconst (v := 0) B dL_law_661 rfl ?_
  have h_5 : Φ2 o = some (al_ G 1 g1) := ((fr2 o hyo).trans ho1)
  refine z_lald B h_5 (vin rfl) dL_law_662 ?_
  refine z_top (st1 := [.long ((nI n).toInt64)]) (congrArg (fun w9 : Int64 => ([.long w9] : List Value)) (show g1 (0 : Int32).toNatClampNeg = (nI n).toInt64 from hg1)) ?_
  refine z_iload B dL_law_663 0 rfl ?_
  refine z_i2l (v := (nI n).toInt64) B dL_law_665 rfl ?_
  refine z_lcmp B dL_law_666 ?_
  refine z_if_eq (tgt := 672) B dL_law_667 rfl (fun c_3 => ?_) (fun h9 => absurd ((lg_cmp_eq _ _).mpr rfl) h9)
  refine z_goto (tgt := 2893) B dL_law_672 rfl ?_
  refine z_lv [2, 3, 4, 5, 6, 7] rfl ?_
  refine z_widen (k := 178) (n := 20844) (Nat.le_of_ble_eq_true rfl) (Nat.le_of_ble_eq_true rfl) ?_
  exact hT _ _

set_option maxHeartbeats 4000000 in
set_option maxRecDepth 100000 in
theorem lc_7_x1 {p9 : Program} {e9 : Env} {s9 : State} {m9 : MethodId} {a9 : Array Value} {w9 : List Frame} {t9 : Method} {k9 : Code} {Q9 : State → Prop} {nm9 : String} (G : EnvG) (l : Launch) (hl9 : l.stackTraces = false) (B : Bd p9 s9 m9 a9 t9 k9 G code 9 RL wsL_law ret nm9) (Φ : Hm) (sz : Nat) (b : Nat) (xs : Nat → Int32) (hX : va_X b 7 xs s9 s9.heap) (hbn : b < G.2.2.2) (x y o d : Nat) (a1 : Int32) (a2 : Int32) (a3 : Int32) (a4 : Int32) (a5 : Int32) (a6 : Int32) (go : Nat → Int64) (gd : Nat → UInt64) (hna : G.2.2.2 ≤ x) (hxy : x + 149 ≤ y) (hyo : y + 26 ≤ o) (hyd : y + 26 ≤ d) (hod : o ≠ d) (hx_0 : Φ x = some (o_ 13 [.ref (x + 1), .ref (x + 3), .ref (x + 24), .ref (x + 46), .ref (x + 74), .ref (x + 80), .ref (x + 132), .ref (x + 121)])) (hy_0 : Φ y = some (o_ 14 [.int 0, .ref (y + 1), .ref (y + 2), .int 0, .int 1, .int 1, .int 0, .int 0, .ref (y + 3), .ref (y + 4), .int 0, .long 0, .ref (y + 5), .int 0, .int 0, .long 0, .long 0, .long 0, .long 0, .ref (y + 6), .ref (y + 7), .int 0, .ref (y + 8), .int 0, .ref (y + 9), .ref (y + 10), .int 0, .ref (y + 11), .ref (y + 12), .ref (y + 13), .ref (y + 14), .ref (y + 15), .ref (y + 16), .int 0, .long (-1), .ref (y + 17), .ref (y + 18), .ref (y + 19), .ref (y + 20), .ref (y + 21), .ref (y + 22), .int 0, .ref (y + 23), .ref (y + 24), .int 0, .ref (y + 25), .int 0, .int 0, .int 0, .int (-1), .int 0, .int 0, .int 0, .long 0])) (hx1 : xs 1 = a1) (hx2 : xs 2 = a2) (hx3 : xs 3 = a3) (hx4 : xs 4 = a4) (hx5 : xs 5 = a5) (hx6 : xs 6 = a6) (Fhk : ¬ (¬ lg_cmp (kOf a1 a2 a3 a4) (-1) = 0 ∧ ¬ a5 < 1 ∧ ¬ 65535 < a5 ∧ ¬ a6 < 1 ∧ a6 ≤ 200)) (Mhp : ¬ pkP a1 a2 a3 a4 a5) (hT : ∀ (Φ1 : Hm) (sz1 : Nat), Z p9 l e9 room_1 s9 m9 a9 w9 t9 k9 Q9 G 9 2893 [(5, .int 0), (4, .ref d), (3, .ref o), (2, .ref y), (1, .ref x), (0, .ref b)] [] Φ1 sz1 178 20844) : Z p9 l e9 room_1 s9 m9 a9 w9 t9 k9 Q9 G 9 557 [(5, .int 0), (4, .ref d), (3, .ref o), (2, .ref y), (1, .ref x), (0, .ref b)] [] Φ sz 177 20838 := by
  refine z_aload_n B dL_law_557 rfl 4 rfl ?_
  refine z_aload_n B dL_law_558 rfl 5 rfl ?_
  refine z_iload B dL_law_559 0 rfl ?_
  refine z_iconst (v := 1) B dL_law_561 rfl ?_
  refine z_iadd B dL_law_562 ?_
  refine z_top (st1 := [.int 1, .ref b, .ref x]) (congrArg (fun w9 : Int32 => ([.int w9, .ref b, .ref x] : List Value)) (show (0 + 1 : Int32) = 1 by decide +kernel)) ?_
  refine z_sald B hX hbn (vin rfl) dL_law_563 ?_
  refine z_top (st1 := [.int a1, .ref x]) (congrArg (fun w9 : Int32 => ([.int w9, .ref x] : List Value)) (show xs (1 : Int32).toNatClampNeg = a1 from hx1)) ?_
  refine z_aload_n B dL_law_564 rfl 5 rfl ?_
  refine z_iload B dL_law_565 0 rfl ?_
  refine z_iconst (v := 2) B dL_law_567 rfl ?_
  refine z_iadd B dL_law_568 ?_
  refine z_top (st1 := [.int 2, .ref b, .int a1, .ref x]) (congrArg (fun w9 : Int32 => ([.int w9, .ref b, .int a1, .ref x] : List Value)) (show (0 + 2 : Int32) = 2 by decide +kernel)) ?_
  refine z_sald B hX hbn (vin rfl) dL_law_569 ?_
  refine z_top (st1 := [.int a2, .int a1, .ref x]) (congrArg (fun w9 : Int32 => ([.int w9, .int a1, .ref x] : List Value)) (show xs (2 : Int32).toNatClampNeg = a2 from hx2)) ?_
  refine z_aload_n B dL_law_570 rfl 5 rfl ?_
  refine z_iload B dL_law_571 0 rfl ?_
  refine z_iconst (v := 3) B dL_law_573 rfl ?_
  refine z_iadd B dL_law_574 ?_
  refine z_top (st1 := [.int 3, .ref b, .int a2, .int a1, .ref x]) (congrArg (fun w9 : Int32 => ([.int w9, .ref b, .int a2, .int a1, .ref x] : List Value)) (show (0 + 3 : Int32) = 3 by decide +kernel)) ?_
  refine z_sald B hX hbn (vin rfl) dL_law_575 ?_
  refine z_top (st1 := [.int a3, .int a2, .int a1, .ref x]) (congrArg (fun w9 : Int32 => ([.int w9, .int a2, .int a1, .ref x] : List Value)) (show xs (3 : Int32).toNatClampNeg = a3 from hx3)) ?_
  refine z_aload_n B dL_law_576 rfl 5 rfl ?_
  refine z_iload B dL_law_577 0 rfl ?_
  refine z_iconst (v := 4) B dL_law_579 rfl ?_
  refine z_iadd B dL_law_580 ?_
  refine z_top (st1 := [.int 4, .ref b, .int a3, .int a2, .int a1, .ref x]) (congrArg (fun w9 : Int32 => ([.int w9, .ref b, .int a3, .int a2, .int a1, .ref x] : List Value)) (show (0 + 4 : Int32) = 4 by decide +kernel)) ?_
  refine z_sald B hX hbn (vin rfl) dL_law_581 ?_
  refine z_top (st1 := [.int a4, .int a3, .int a2, .int a1, .ref x]) (congrArg (fun w9 : Int32 => ([.int w9, .int a3, .int a2, .int a1, .ref x] : List Value)) (show xs (4 : Int32).toNatClampNeg = a4 from hx4)) ?_
  refine z_aload_n B dL_law_582 rfl 5 rfl ?_
  refine z_iload B dL_law_583 0 rfl ?_
  refine z_iconst (v := 5) B dL_law_585 rfl ?_
  refine z_iadd B dL_law_586 ?_
  refine z_top (st1 := [.int 5, .ref b, .int a4, .int a3, .int a2, .int a1, .ref x]) (congrArg (fun w9 : Int32 => ([.int w9, .ref b, .int a4, .int a3, .int a2, .int a1, .ref x] : List Value)) (show (0 + 5 : Int32) = 5 by decide +kernel)) ?_
  refine z_sald B hX hbn (vin rfl) dL_law_587 ?_
  refine z_top (st1 := [.int a5, .int a4, .int a3, .int a2, .int a1, .ref x]) (congrArg (fun w9 : Int32 => ([.int w9, .int a4, .int a3, .int a2, .int a1, .ref x] : List Value)) (show xs (5 : Int32).toNatClampNeg = a5 from hx5)) ?_
  refine z_aload_n B dL_law_588 rfl 5 rfl ?_
  refine z_iload B dL_law_589 0 rfl ?_
  refine z_bipush (v := 6) B dL_law_591 rfl ?_
  refine z_iadd B dL_law_593 ?_
  refine z_top (st1 := [.int 6, .ref b, .int a5, .int a4, .int a3, .int a2, .int a1, .ref x]) (congrArg (fun w9 : Int32 => ([.int w9, .ref b, .int a5, .int a4, .int a3, .int a2, .int a1, .ref x] : List Value)) (show (0 + 6 : Int32) = 6 by decide +kernel)) ?_
  refine z_sald B hX hbn (vin rfl) dL_law_594 ?_
  refine z_top (st1 := [.int a6, .int a5, .int a4, .int a3, .int a2, .int a1, .ref x]) (congrArg (fun w9 : Int32 => ([.int w9, .int a5, .int a4, .int a3, .int a2, .int a1, .ref x] : List Value)) (show xs (6 : Int32).toNatClampNeg = a6 from hx6)) ?_
  refine z_aload_n B dL_law_595 rfl 2 rfl ?_
  refine z_callSW (As := [.ref x, .int a1, .int a2, .int a3, .int a4, .int a5, .int a6, .ref o]) (rest := []) B (w_observeMany_x G l hl9 Φ sz x o a1 a2 a3 a4 a5 a6 hx_0 Fhk) (vx_cwSW 8 B.1.2.2.2.2 gL_law_L_observeMany rfl rfl rfl (by decide +kernel) ⟨Nat.le_of_ble_eq_true rfl, Nat.le_of_ble_eq_true rfl⟩) rfl rfl (Nat.le_of_ble_eq_true rfl) dL_law_596 ⟨Nat.le_of_ble_eq_true rfl, Nat.le_of_ble_eq_true rfl⟩ (fun v1 Φ1 sz1 st1 hp1 hs1 => ?_)
  obtain ⟨rfl, he1⟩ := hp1
  replace hs1 : st1 = [.int 1] := hs1
  subst st1
  rw [he1]
  refine z_istore (lv' := [(6, .int 1), (5, .int 0), (4, .ref d), (3, .ref o), (2, .ref y), (1, .ref x), (0, .ref b)]) B dL_law_599 (Nat.le_of_ble_eq_true rfl) rfl ?_
  refine z_aload_n B dL_law_601 rfl 4 rfl ?_
  refine z_aload_n B dL_law_602 rfl 6 rfl ?_
  refine z_iload B dL_law_603 1 rfl ?_
  refine z_iconst (v := 1) B dL_law_605 rfl ?_
  refine z_iadd B dL_law_606 ?_
  refine z_top (st1 := [.int 1, .ref b, .ref y]) (congrArg (fun w9 : Int32 => ([.int w9, .ref b, .ref y] : List Value)) (show (0 + 1 : Int32) = 1 by decide +kernel)) ?_
  refine z_sald B hX hbn (vin rfl) dL_law_607 ?_
  refine z_top (st1 := [.int a1, .ref y]) (congrArg (fun w9 : Int32 => ([.int w9, .ref y] : List Value)) (show xs (1 : Int32).toNatClampNeg = a1 from hx1)) ?_
  refine z_aload_n B dL_law_608 rfl 6 rfl ?_
  refine z_iload B dL_law_609 1 rfl ?_
  refine z_iconst (v := 2) B dL_law_611 rfl ?_
  refine z_iadd B dL_law_612 ?_
  refine z_top (st1 := [.int 2, .ref b, .int a1, .ref y]) (congrArg (fun w9 : Int32 => ([.int w9, .ref b, .int a1, .ref y] : List Value)) (show (0 + 2 : Int32) = 2 by decide +kernel)) ?_
  refine z_sald B hX hbn (vin rfl) dL_law_613 ?_
  refine z_top (st1 := [.int a2, .int a1, .ref y]) (congrArg (fun w9 : Int32 => ([.int w9, .int a1, .ref y] : List Value)) (show xs (2 : Int32).toNatClampNeg = a2 from hx2)) ?_
  refine z_aload_n B dL_law_614 rfl 6 rfl ?_
  refine z_iload B dL_law_615 1 rfl ?_
  refine z_iconst (v := 3) B dL_law_617 rfl ?_
  refine z_iadd B dL_law_618 ?_
  refine z_top (st1 := [.int 3, .ref b, .int a2, .int a1, .ref y]) (congrArg (fun w9 : Int32 => ([.int w9, .ref b, .int a2, .int a1, .ref y] : List Value)) (show (0 + 3 : Int32) = 3 by decide +kernel)) ?_
  refine z_sald B hX hbn (vin rfl) dL_law_619 ?_
  refine z_top (st1 := [.int a3, .int a2, .int a1, .ref y]) (congrArg (fun w9 : Int32 => ([.int w9, .int a2, .int a1, .ref y] : List Value)) (show xs (3 : Int32).toNatClampNeg = a3 from hx3)) ?_
  refine z_aload_n B dL_law_620 rfl 6 rfl ?_
  refine z_iload B dL_law_621 1 rfl ?_
  refine z_iconst (v := 4) B dL_law_623 rfl ?_
  refine z_iadd B dL_law_624 ?_
  refine z_top (st1 := [.int 4, .ref b, .int a3, .int a2, .int a1, .ref y]) (congrArg (fun w9 : Int32 => ([.int w9, .ref b, .int a3, .int a2, .int a1, .ref y] : List Value)) (show (0 + 4 : Int32) = 4 by decide +kernel)) ?_
  refine z_sald B hX hbn (vin rfl) dL_law_625 ?_
  refine z_top (st1 := [.int a4, .int a3, .int a2, .int a1, .ref y]) (congrArg (fun w9 : Int32 => ([.int w9, .int a3, .int a2, .int a1, .ref y] : List Value)) (show xs (4 : Int32).toNatClampNeg = a4 from hx4)) ?_
  refine z_aload_n B dL_law_626 rfl 6 rfl ?_
  refine z_iload B dL_law_627 1 rfl ?_
  refine z_iconst (v := 5) B dL_law_629 rfl ?_
  refine z_iadd B dL_law_630 ?_
  refine z_top (st1 := [.int 5, .ref b, .int a4, .int a3, .int a2, .int a1, .ref y]) (congrArg (fun w9 : Int32 => ([.int w9, .ref b, .int a4, .int a3, .int a2, .int a1, .ref y] : List Value)) (show (0 + 5 : Int32) = 5 by decide +kernel)) ?_
  refine z_sald B hX hbn (vin rfl) dL_law_631 ?_
  refine z_top (st1 := [.int a5, .int a4, .int a3, .int a2, .int a1, .ref y]) (congrArg (fun w9 : Int32 => ([.int w9, .int a4, .int a3, .int a2, .int a1, .ref y] : List Value)) (show xs (5 : Int32).toNatClampNeg = a5 from hx5)) ?_
  refine z_aload_n B dL_law_632 rfl 6 rfl ?_
  refine z_iload B dL_law_633 1 rfl ?_
  refine z_bipush (v := 6) B dL_law_635 rfl ?_
  refine z_iadd B dL_law_637 ?_
  refine z_top (st1 := [.int 6, .ref b, .int a5, .int a4, .int a3, .int a2, .int a1, .ref y]) (congrArg (fun w9 : Int32 => ([.int w9, .ref b, .int a5, .int a4, .int a3, .int a2, .int a1, .ref y] : List Value)) (show (0 + 6 : Int32) = 6 by decide +kernel)) ?_
  refine z_sald B hX hbn (vin rfl) dL_law_638 ?_
  refine z_top (st1 := [.int a6, .int a5, .int a4, .int a3, .int a2, .int a1, .ref y]) (congrArg (fun w9 : Int32 => ([.int w9, .int a5, .int a4, .int a3, .int a2, .int a1, .ref y] : List Value)) (show xs (6 : Int32).toNatClampNeg = a6 from hx6)) ?_
  refine z_callV (As := [.int a1, .int a2, .int a3, .int a4, .int a5, .int a6]) (rest := []) B (m_X12_observeMany_x1 G l Φ sz1 y a1 a2 a3 a4 a5 a6 hy_0 (Nat.le_trans hna (Nat.le_trans (Nat.le_add_right x 149) hxy)) Mhp) (cwV 6 B.1.2.2.2.2 gL_law_X12_observeMany rfl rfl rfl (by decide +kernel) ⟨Nat.le_of_ble_eq_true rfl, Nat.le_of_ble_eq_true rfl⟩) hy_0 rfl rfl rfl rfl (Nat.le_of_ble_eq_true rfl) dL_law_639 ⟨Nat.le_of_ble_eq_true rfl, Nat.le_of_ble_eq_true rfl⟩ (fun v2 Φ2 sz2 st2 hp2 hs2 => ?_)
  obtain ⟨rfl, ⟨fs1, hy1, hk1⟩, fr1⟩ := hp2
  replace hs2 : st2 = [.int 0] := hs2
  subst st2
  refine z_istore (lv' := [(7, .int 0), (6, .int 1), (5, .int 0), (4, .ref d), (3, .ref o), (2, .ref y), (1, .ref x), (0, .ref b)]) B dL_law_642 (Nat.le_of_ble_eq_true rfl) rfl ?_
  refine z_aload_n B dL_law_644 rfl 5 rfl ?_
  refine z_callV (As := []) (rest := []) B (m_thrown G l Φ2 sz2 y fs1 1 hy1 hk1) (cwV 0 B.1.2.2.2.2 gL_law_X12_thrown rfl rfl rfl (by decide +kernel) ⟨Nat.le_of_ble_eq_true rfl, Nat.le_of_ble_eq_true rfl⟩) hy1 rfl rfl rfl rfl (Nat.le_of_ble_eq_true rfl) dL_law_645 ⟨Nat.le_of_ble_eq_true rfl, Nat.le_of_ble_eq_true rfl⟩ (fun v3 Φ3 sz3 st3 hp3 hs3 => ?_)
  obtain ⟨rfl, he2⟩ := hp3
  replace hs3 : st3 = [.int 1] := hs3
  subst st3
  rw [he2]
  refine z_iload B dL_law_648 1 rfl ?_
  refine z_icmp_eq (tgt := 655) B dL_law_650 rfl (fun c_1 => ?_) (fun h9 => absurd (by decide) h9)
  refine z_iload B dL_law_655 1 rfl ?_
  refine z_if_ne (tgt := 672) B dL_law_657 rfl (fun c_2 => ?_) (fun h9 => absurd h9 (by decide))
  refine z_goto (tgt := 2893) B dL_law_672 rfl ?_
  refine z_lv [2, 3, 4, 5, 6, 7] rfl ?_
  exact hT _ _

set_option maxHeartbeats 4000000 in
set_option maxRecDepth 100000 in
theorem lc_7_x2 {p9 : Program} {e9 : Env} {s9 : State} {m9 : MethodId} {a9 : Array Value} {w9 : List Frame} {t9 : Method} {k9 : Code} {Q9 : State → Prop} {nm9 : String} (G : EnvG) (l : Launch) (hl9 : l.stackTraces = false) (B : Bd p9 s9 m9 a9 t9 k9 G code 9 RL wsL_law ret nm9) (Φ : Hm) (sz : Nat) (b : Nat) (xs : Nat → Int32) (hX : va_X b 7 xs s9 s9.heap) (hbn : b < G.2.2.2) (x y o d : Nat) (a1 : Int32) (a2 : Int32) (a3 : Int32) (a4 : Int32) (a5 : Int32) (a6 : Int32) (go : Nat → Int64) (gd : Nat → UInt64) (hna : G.2.2.2 ≤ x) (hxy : x + 149 ≤ y) (hyo : y + 26 ≤ o) (hyd : y + 26 ≤ d) (hod : o ≠ d) (hx_0 : Φ x = some (o_ 13 [.ref (x + 1), .ref (x + 3), .ref (x + 24), .ref (x + 46), .ref (x + 74), .ref (x + 80), .ref (x + 132), .ref (x + 121)])) (hy_0 : Φ y = some (o_ 14 [.int 0, .ref (y + 1), .ref (y + 2), .int 0, .int 1, .int 1, .int 0, .int 0, .ref (y + 3), .ref (y + 4), .int 0, .long 0, .ref (y + 5), .int 0, .int 0, .long 0, .long 0, .long 0, .long 0, .ref (y + 6), .ref (y + 7), .int 0, .ref (y + 8), .int 0, .ref (y + 9), .ref (y + 10), .int 0, .ref (y + 11), .ref (y + 12), .ref (y + 13), .ref (y + 14), .ref (y + 15), .ref (y + 16), .int 0, .long (-1), .ref (y + 17), .ref (y + 18), .ref (y + 19), .ref (y + 20), .ref (y + 21), .ref (y + 22), .int 0, .ref (y + 23), .ref (y + 24), .int 0, .ref (y + 25), .int 0, .int 0, .int 0, .int (-1), .int 0, .int 0, .int 0, .long 0])) (hx1 : xs 1 = a1) (hx2 : xs 2 = a2) (hx3 : xs 3 = a3) (hx4 : xs 4 = a4) (hx5 : xs 5 = a5) (hx6 : xs 6 = a6) (Fhk : ¬ (¬ lg_cmp (kOf a1 a2 a3 a4) (-1) = 0 ∧ ¬ a5 < 1 ∧ ¬ 65535 < a5 ∧ ¬ a6 < 1 ∧ a6 ≤ 200)) (Mhp : pkP a1 a2 a3 a4 a5) (Mhn : ¬ inP a6.toInt64 1 200) (hT : ∀ (Φ1 : Hm) (sz1 : Nat), Z p9 l e9 room_1 s9 m9 a9 w9 t9 k9 Q9 G 9 2893 [(5, .int 0), (4, .ref d), (3, .ref o), (2, .ref y), (1, .ref x), (0, .ref b)] [] Φ1 sz1 178 20844) : Z p9 l e9 room_1 s9 m9 a9 w9 t9 k9 Q9 G 9 557 [(5, .int 0), (4, .ref d), (3, .ref o), (2, .ref y), (1, .ref x), (0, .ref b)] [] Φ sz 177 20838 := by
  refine z_aload_n B dL_law_557 rfl 4 rfl ?_
  refine z_aload_n B dL_law_558 rfl 5 rfl ?_
  refine z_iload B dL_law_559 0 rfl ?_
  refine z_iconst (v := 1) B dL_law_561 rfl ?_
  refine z_iadd B dL_law_562 ?_
  refine z_top (st1 := [.int 1, .ref b, .ref x]) (congrArg (fun w9 : Int32 => ([.int w9, .ref b, .ref x] : List Value)) (show (0 + 1 : Int32) = 1 by decide +kernel)) ?_
  refine z_sald B hX hbn (vin rfl) dL_law_563 ?_
  refine z_top (st1 := [.int a1, .ref x]) (congrArg (fun w9 : Int32 => ([.int w9, .ref x] : List Value)) (show xs (1 : Int32).toNatClampNeg = a1 from hx1)) ?_
  refine z_aload_n B dL_law_564 rfl 5 rfl ?_
  refine z_iload B dL_law_565 0 rfl ?_
  refine z_iconst (v := 2) B dL_law_567 rfl ?_
  refine z_iadd B dL_law_568 ?_
  refine z_top (st1 := [.int 2, .ref b, .int a1, .ref x]) (congrArg (fun w9 : Int32 => ([.int w9, .ref b, .int a1, .ref x] : List Value)) (show (0 + 2 : Int32) = 2 by decide +kernel)) ?_
  refine z_sald B hX hbn (vin rfl) dL_law_569 ?_
  refine z_top (st1 := [.int a2, .int a1, .ref x]) (congrArg (fun w9 : Int32 => ([.int w9, .int a1, .ref x] : List Value)) (show xs (2 : Int32).toNatClampNeg = a2 from hx2)) ?_
  refine z_aload_n B dL_law_570 rfl 5 rfl ?_
  refine z_iload B dL_law_571 0 rfl ?_
  refine z_iconst (v := 3) B dL_law_573 rfl ?_
  refine z_iadd B dL_law_574 ?_
  refine z_top (st1 := [.int 3, .ref b, .int a2, .int a1, .ref x]) (congrArg (fun w9 : Int32 => ([.int w9, .ref b, .int a2, .int a1, .ref x] : List Value)) (show (0 + 3 : Int32) = 3 by decide +kernel)) ?_
  refine z_sald B hX hbn (vin rfl) dL_law_575 ?_
  refine z_top (st1 := [.int a3, .int a2, .int a1, .ref x]) (congrArg (fun w9 : Int32 => ([.int w9, .int a2, .int a1, .ref x] : List Value)) (show xs (3 : Int32).toNatClampNeg = a3 from hx3)) ?_
  refine z_aload_n B dL_law_576 rfl 5 rfl ?_
  refine z_iload B dL_law_577 0 rfl ?_
  refine z_iconst (v := 4) B dL_law_579 rfl ?_
  refine z_iadd B dL_law_580 ?_
  refine z_top (st1 := [.int 4, .ref b, .int a3, .int a2, .int a1, .ref x]) (congrArg (fun w9 : Int32 => ([.int w9, .ref b, .int a3, .int a2, .int a1, .ref x] : List Value)) (show (0 + 4 : Int32) = 4 by decide +kernel)) ?_
  refine z_sald B hX hbn (vin rfl) dL_law_581 ?_
  refine z_top (st1 := [.int a4, .int a3, .int a2, .int a1, .ref x]) (congrArg (fun w9 : Int32 => ([.int w9, .int a3, .int a2, .int a1, .ref x] : List Value)) (show xs (4 : Int32).toNatClampNeg = a4 from hx4)) ?_
  refine z_aload_n B dL_law_582 rfl 5 rfl ?_
  refine z_iload B dL_law_583 0 rfl ?_
  refine z_iconst (v := 5) B dL_law_585 rfl ?_
  refine z_iadd B dL_law_586 ?_
  refine z_top (st1 := [.int 5, .ref b, .int a4, .int a3, .int a2, .int a1, .ref x]) (congrArg (fun w9 : Int32 => ([.int w9, .ref b, .int a4, .int a3, .int a2, .int a1, .ref x] : List Value)) (show (0 + 5 : Int32) = 5 by decide +kernel)) ?_
  refine z_sald B hX hbn (vin rfl) dL_law_587 ?_
  refine z_top (st1 := [.int a5, .int a4, .int a3, .int a2, .int a1, .ref x]) (congrArg (fun w9 : Int32 => ([.int w9, .int a4, .int a3, .int a2, .int a1, .ref x] : List Value)) (show xs (5 : Int32).toNatClampNeg = a5 from hx5)) ?_
  refine z_aload_n B dL_law_588 rfl 5 rfl ?_
  refine z_iload B dL_law_589 0 rfl ?_
  refine z_bipush (v := 6) B dL_law_591 rfl ?_
  refine z_iadd B dL_law_593 ?_
  refine z_top (st1 := [.int 6, .ref b, .int a5, .int a4, .int a3, .int a2, .int a1, .ref x]) (congrArg (fun w9 : Int32 => ([.int w9, .ref b, .int a5, .int a4, .int a3, .int a2, .int a1, .ref x] : List Value)) (show (0 + 6 : Int32) = 6 by decide +kernel)) ?_
  refine z_sald B hX hbn (vin rfl) dL_law_594 ?_
  refine z_top (st1 := [.int a6, .int a5, .int a4, .int a3, .int a2, .int a1, .ref x]) (congrArg (fun w9 : Int32 => ([.int w9, .int a5, .int a4, .int a3, .int a2, .int a1, .ref x] : List Value)) (show xs (6 : Int32).toNatClampNeg = a6 from hx6)) ?_
  refine z_aload_n B dL_law_595 rfl 2 rfl ?_
  refine z_callSW (As := [.ref x, .int a1, .int a2, .int a3, .int a4, .int a5, .int a6, .ref o]) (rest := []) B (w_observeMany_x G l hl9 Φ sz x o a1 a2 a3 a4 a5 a6 hx_0 Fhk) (vx_cwSW 8 B.1.2.2.2.2 gL_law_L_observeMany rfl rfl rfl (by decide +kernel) ⟨Nat.le_of_ble_eq_true rfl, Nat.le_of_ble_eq_true rfl⟩) rfl rfl (Nat.le_of_ble_eq_true rfl) dL_law_596 ⟨Nat.le_of_ble_eq_true rfl, Nat.le_of_ble_eq_true rfl⟩ (fun v1 Φ1 sz1 st1 hp1 hs1 => ?_)
  obtain ⟨rfl, he1⟩ := hp1
  replace hs1 : st1 = [.int 1] := hs1
  subst st1
  rw [he1]
  refine z_istore (lv' := [(6, .int 1), (5, .int 0), (4, .ref d), (3, .ref o), (2, .ref y), (1, .ref x), (0, .ref b)]) B dL_law_599 (Nat.le_of_ble_eq_true rfl) rfl ?_
  refine z_aload_n B dL_law_601 rfl 4 rfl ?_
  refine z_aload_n B dL_law_602 rfl 6 rfl ?_
  refine z_iload B dL_law_603 1 rfl ?_
  refine z_iconst (v := 1) B dL_law_605 rfl ?_
  refine z_iadd B dL_law_606 ?_
  refine z_top (st1 := [.int 1, .ref b, .ref y]) (congrArg (fun w9 : Int32 => ([.int w9, .ref b, .ref y] : List Value)) (show (0 + 1 : Int32) = 1 by decide +kernel)) ?_
  refine z_sald B hX hbn (vin rfl) dL_law_607 ?_
  refine z_top (st1 := [.int a1, .ref y]) (congrArg (fun w9 : Int32 => ([.int w9, .ref y] : List Value)) (show xs (1 : Int32).toNatClampNeg = a1 from hx1)) ?_
  refine z_aload_n B dL_law_608 rfl 6 rfl ?_
  refine z_iload B dL_law_609 1 rfl ?_
  refine z_iconst (v := 2) B dL_law_611 rfl ?_
  refine z_iadd B dL_law_612 ?_
  refine z_top (st1 := [.int 2, .ref b, .int a1, .ref y]) (congrArg (fun w9 : Int32 => ([.int w9, .ref b, .int a1, .ref y] : List Value)) (show (0 + 2 : Int32) = 2 by decide +kernel)) ?_
  refine z_sald B hX hbn (vin rfl) dL_law_613 ?_
  refine z_top (st1 := [.int a2, .int a1, .ref y]) (congrArg (fun w9 : Int32 => ([.int w9, .int a1, .ref y] : List Value)) (show xs (2 : Int32).toNatClampNeg = a2 from hx2)) ?_
  refine z_aload_n B dL_law_614 rfl 6 rfl ?_
  refine z_iload B dL_law_615 1 rfl ?_
  refine z_iconst (v := 3) B dL_law_617 rfl ?_
  refine z_iadd B dL_law_618 ?_
  refine z_top (st1 := [.int 3, .ref b, .int a2, .int a1, .ref y]) (congrArg (fun w9 : Int32 => ([.int w9, .ref b, .int a2, .int a1, .ref y] : List Value)) (show (0 + 3 : Int32) = 3 by decide +kernel)) ?_
  refine z_sald B hX hbn (vin rfl) dL_law_619 ?_
  refine z_top (st1 := [.int a3, .int a2, .int a1, .ref y]) (congrArg (fun w9 : Int32 => ([.int w9, .int a2, .int a1, .ref y] : List Value)) (show xs (3 : Int32).toNatClampNeg = a3 from hx3)) ?_
  refine z_aload_n B dL_law_620 rfl 6 rfl ?_
  refine z_iload B dL_law_621 1 rfl ?_
  refine z_iconst (v := 4) B dL_law_623 rfl ?_
  refine z_iadd B dL_law_624 ?_
  refine z_top (st1 := [.int 4, .ref b, .int a3, .int a2, .int a1, .ref y]) (congrArg (fun w9 : Int32 => ([.int w9, .ref b, .int a3, .int a2, .int a1, .ref y] : List Value)) (show (0 + 4 : Int32) = 4 by decide +kernel)) ?_
  refine z_sald B hX hbn (vin rfl) dL_law_625 ?_
  refine z_top (st1 := [.int a4, .int a3, .int a2, .int a1, .ref y]) (congrArg (fun w9 : Int32 => ([.int w9, .int a3, .int a2, .int a1, .ref y] : List Value)) (show xs (4 : Int32).toNatClampNeg = a4 from hx4)) ?_
  refine z_aload_n B dL_law_626 rfl 6 rfl ?_
  refine z_iload B dL_law_627 1 rfl ?_
  refine z_iconst (v := 5) B dL_law_629 rfl ?_
  refine z_iadd B dL_law_630 ?_
  refine z_top (st1 := [.int 5, .ref b, .int a4, .int a3, .int a2, .int a1, .ref y]) (congrArg (fun w9 : Int32 => ([.int w9, .ref b, .int a4, .int a3, .int a2, .int a1, .ref y] : List Value)) (show (0 + 5 : Int32) = 5 by decide +kernel)) ?_
  refine z_sald B hX hbn (vin rfl) dL_law_631 ?_
  refine z_top (st1 := [.int a5, .int a4, .int a3, .int a2, .int a1, .ref y]) (congrArg (fun w9 : Int32 => ([.int w9, .int a4, .int a3, .int a2, .int a1, .ref y] : List Value)) (show xs (5 : Int32).toNatClampNeg = a5 from hx5)) ?_
  refine z_aload_n B dL_law_632 rfl 6 rfl ?_
  refine z_iload B dL_law_633 1 rfl ?_
  refine z_bipush (v := 6) B dL_law_635 rfl ?_
  refine z_iadd B dL_law_637 ?_
  refine z_top (st1 := [.int 6, .ref b, .int a5, .int a4, .int a3, .int a2, .int a1, .ref y]) (congrArg (fun w9 : Int32 => ([.int w9, .ref b, .int a5, .int a4, .int a3, .int a2, .int a1, .ref y] : List Value)) (show (0 + 6 : Int32) = 6 by decide +kernel)) ?_
  refine z_sald B hX hbn (vin rfl) dL_law_638 ?_
  refine z_top (st1 := [.int a6, .int a5, .int a4, .int a3, .int a2, .int a1, .ref y]) (congrArg (fun w9 : Int32 => ([.int w9, .int a5, .int a4, .int a3, .int a2, .int a1, .ref y] : List Value)) (show xs (6 : Int32).toNatClampNeg = a6 from hx6)) ?_
  refine z_callV (As := [.int a1, .int a2, .int a3, .int a4, .int a5, .int a6]) (rest := []) B (m_X12_observeMany_x2 G l Φ sz1 y a1 a2 a3 a4 a5 a6 hy_0 (Nat.le_trans hna (Nat.le_trans (Nat.le_add_right x 149) hxy)) Mhp Mhn) (cwV 6 B.1.2.2.2.2 gL_law_X12_observeMany rfl rfl rfl (by decide +kernel) ⟨Nat.le_of_ble_eq_true rfl, Nat.le_of_ble_eq_true rfl⟩) hy_0 rfl rfl rfl rfl (Nat.le_of_ble_eq_true rfl) dL_law_639 ⟨Nat.le_of_ble_eq_true rfl, Nat.le_of_ble_eq_true rfl⟩ (fun v2 Φ2 sz2 st2 hp2 hs2 => ?_)
  obtain ⟨rfl, ⟨fs1, hy1, hk1⟩, fr1⟩ := hp2
  replace hs2 : st2 = [.int 0] := hs2
  subst st2
  refine z_istore (lv' := [(7, .int 0), (6, .int 1), (5, .int 0), (4, .ref d), (3, .ref o), (2, .ref y), (1, .ref x), (0, .ref b)]) B dL_law_642 (Nat.le_of_ble_eq_true rfl) rfl ?_
  refine z_aload_n B dL_law_644 rfl 5 rfl ?_
  refine z_callV (As := []) (rest := []) B (m_thrown G l Φ2 sz2 y fs1 1 hy1 hk1) (cwV 0 B.1.2.2.2.2 gL_law_X12_thrown rfl rfl rfl (by decide +kernel) ⟨Nat.le_of_ble_eq_true rfl, Nat.le_of_ble_eq_true rfl⟩) hy1 rfl rfl rfl rfl (Nat.le_of_ble_eq_true rfl) dL_law_645 ⟨Nat.le_of_ble_eq_true rfl, Nat.le_of_ble_eq_true rfl⟩ (fun v3 Φ3 sz3 st3 hp3 hs3 => ?_)
  obtain ⟨rfl, he2⟩ := hp3
  replace hs3 : st3 = [.int 1] := hs3
  subst st3
  rw [he2]
  refine z_iload B dL_law_648 1 rfl ?_
  refine z_icmp_eq (tgt := 655) B dL_law_650 rfl (fun c_1 => ?_) (fun h9 => absurd (by decide) h9)
  refine z_iload B dL_law_655 1 rfl ?_
  refine z_if_ne (tgt := 672) B dL_law_657 rfl (fun c_2 => ?_) (fun h9 => absurd h9 (by decide))
  refine z_goto (tgt := 2893) B dL_law_672 rfl ?_
  refine z_lv [2, 3, 4, 5, 6, 7] rfl ?_
  exact hT _ _

set_option maxHeartbeats 4000000 in
set_option maxRecDepth 100000 in
theorem lc_8 {p9 : Program} {e9 : Env} {s9 : State} {m9 : MethodId} {a9 : Array Value} {w9 : List Frame} {t9 : Method} {k9 : Code} {Q9 : State → Prop} {nm9 : String} (G : EnvG) (l : Launch) (hl9 : l.stackTraces = false) (B : Bd p9 s9 m9 a9 t9 k9 G code 9 RL wsL_law ret nm9) (Φ : Hm) (sz : Nat) (b : Nat) (xs : Nat → Int32) (hX : va_X b 7 xs s9 s9.heap) (hbn : b < G.2.2.2) (x y o d : Nat) (n : Nat) (go : Nat → Int64) (gd : Nat → UInt64) (hna : G.2.2.2 ≤ x) (hxy : x + 149 ≤ y) (hyo : y + 26 ≤ o) (hyd : y + 26 ≤ d) (hod : o ≠ d) (hx_0 : Φ x = some (o_ 13 [.ref (x + 1), .ref (x + 3), .ref (x + 24), .ref (x + 46), .ref (x + 74), .ref (x + 80), .ref (x + 132), .ref (x + 121)])) (hx_3 : Φ (x + 3) = some (o_ 3 [.ref (x + 4), .ref (x + 5), .ref (x + 6), .ref (x + 7), .int 1, .int 511])) (hx_4 : Φ (x + 4) = some (ai_ G 9 usT)) (hx_74 : Φ (x + 74) = some (o_ 10 [.ref (x + 3), .ref (x + 46), .ref (x + 75), .ref (x + 77), .int 0, .ref (x + 78), .ref (x + 79), .int 0, .long 0, .int 0])) (hx_80 : Φ (x + 80) = some (o_ 4 [.ref (x + 3), .ref (x + 74), .ref (x + 81), .ref (x + 95), .int 0, .int 1, .int 1, .int 0, .int 0, .int 0, .long 0, .long 0, .long 0])) (hx_81 : Φ (x + 81) = some (o_ 6 [.ref (x + 82), .int 0])) (hy_0 : Φ y = some (o_ 14 [.int 0, .ref (y + 1), .ref (y + 2), .int 0, .int 1, .int 1, .int 0, .int 0, .ref (y + 3), .ref (y + 4), .int 0, .long 0, .ref (y + 5), .int 0, .int 0, .long 0, .long 0, .long 0, .long 0, .ref (y + 6), .ref (y + 7), .int 0, .ref (y + 8), .int 0, .ref (y + 9), .ref (y + 10), .int 0, .ref (y + 11), .ref (y + 12), .ref (y + 13), .ref (y + 14), .ref (y + 15), .ref (y + 16), .int 0, .long (-1), .ref (y + 17), .ref (y + 18), .ref (y + 19), .ref (y + 20), .ref (y + 21), .ref (y + 22), .int 0, .ref (y + 23), .ref (y + 24), .int 0, .ref (y + 25), .int 0, .int 0, .int 0, .int (-1), .int 0, .int 0, .int 0, .long 0])) (hco : Φ o = some (al_ G 1 go)) (hx1 : xs 1 = nI n) (Fhn1 : ¬ nI n < 1) (Fhn3 : nI n ≤ 1000) (Fhn2 : n ≤ 1000) (Mhn : inP (nI n).toInt64 1 1000) (Mhn2 : n ≤ 1000) (hT : ∀ (Φ1 : Hm) (sz1 : Nat), Z p9 l e9 room_1 s9 m9 a9 w9 t9 k9 Q9 G 9 2893 [(5, .int 0), (4, .ref d), (3, .ref o), (2, .ref y), (1, .ref x), (0, .ref b)] [] Φ1 sz1 178 20844) : Z p9 l e9 room_1 s9 m9 a9 w9 t9 k9 Q9 G 9 675 [(5, .int 0), (4, .ref d), (3, .ref o), (2, .ref y), (1, .ref x), (0, .ref b)] [] Φ sz 177 20838 := by
  refine z_aload_n B dL_law_675 rfl 4 rfl ?_
  refine z_aload_n B dL_law_676 rfl 5 rfl ?_
  refine z_iload B dL_law_677 0 rfl ?_
  refine z_iconst (v := 1) B dL_law_679 rfl ?_
  refine z_iadd B dL_law_680 ?_
  refine z_top (st1 := [.int 1, .ref b, .ref x]) (congrArg (fun w9 : Int32 => ([.int w9, .ref b, .ref x] : List Value)) (show (0 + 1 : Int32) = 1 by decide +kernel)) ?_
  refine z_sald B hX hbn (vin rfl) dL_law_681 ?_
  refine z_top (st1 := [.int (nI n), .ref x]) (congrArg (fun w9 : Int32 => ([.int w9, .ref x] : List Value)) (show xs (1 : Int32).toNatClampNeg = nI n from hx1)) ?_
  refine z_aload_n B dL_law_682 rfl 2 rfl ?_
  refine z_callSW (As := [.ref x, .int (nI n), .ref o]) (rest := []) B (w_advance G l Φ sz x o n go hx_0 hx_3 hx_4 hx_74 hx_80 hx_81 hco hna (Nat.le_trans hxy (Nat.le_trans (Nat.le_add_right y 26) hyo)) Fhn1 Fhn3 Fhn2) (vx_cwSW 3 B.1.2.2.2.2 gL_law_L_advance rfl rfl rfl (by decide +kernel) ⟨Nat.le_of_ble_eq_true rfl, Nat.le_of_ble_eq_true rfl⟩) rfl rfl (Nat.le_of_ble_eq_true rfl) dL_law_683 ⟨Nat.le_of_ble_eq_true rfl, Nat.le_of_ble_eq_true rfl⟩ (fun v1 Φ1 sz1 st1 hp1 hs1 => ?_)
  obtain ⟨rfl, fr1, g1, ho1, hg1⟩ := hp1
  replace hs1 : st1 = [.int 0] := hs1
  subst st1
  refine z_istore (lv' := [(6, .int 0), (5, .int 0), (4, .ref d), (3, .ref o), (2, .ref y), (1, .ref x), (0, .ref b)]) B dL_law_686 (Nat.le_of_ble_eq_true rfl) rfl ?_
  refine z_aload_n B dL_law_688 rfl 4 rfl ?_
  refine z_aload_n B dL_law_689 rfl 6 rfl ?_
  refine z_iload B dL_law_690 1 rfl ?_
  refine z_iconst (v := 1) B dL_law_692 rfl ?_
  refine z_iadd B dL_law_693 ?_
  refine z_top (st1 := [.int 1, .ref b, .ref y]) (congrArg (fun w9 : Int32 => ([.int w9, .ref b, .ref y] : List Value)) (show (0 + 1 : Int32) = 1 by decide +kernel)) ?_
  refine z_sald B hX hbn (vin rfl) dL_law_694 ?_
  refine z_top (st1 := [.int (nI n), .ref y]) (congrArg (fun w9 : Int32 => ([.int w9, .ref y] : List Value)) (show xs (1 : Int32).toNatClampNeg = nI n from hx1)) ?_
  have h_1 : Φ1 y = some (o_ 14 [.int 0, .ref (y + 1), .ref (y + 2), .int 0, .int 1, .int 1, .int 0, .int 0, .ref (y + 3), .ref (y + 4), .int 0, .long 0, .ref (y + 5), .int 0, .int 0, .long 0, .long 0, .long 0, .long 0, .ref (y + 6), .ref (y + 7), .int 0, .ref (y + 8), .int 0, .ref (y + 9), .ref (y + 10), .int 0, .ref (y + 11), .ref (y + 12), .ref (y + 13), .ref (y + 14), .ref (y + 15), .ref (y + 16), .int 0, .long (-1), .ref (y + 17), .ref (y + 18), .ref (y + 19), .ref (y + 20), .ref (y + 21), .ref (y + 22), .int 0, .ref (y + 23), .ref (y + 24), .int 0, .ref (y + 25), .int 0, .int 0, .int 0, .int (-1), .int 0, .int 0, .int 0, .long 0]) := ((fr1 y hxy (Nat.ne_of_lt (Nat.lt_of_lt_of_le (lt_off (x := y) (i := 0) (j := 26) rfl) hyo))).trans hy_0)
  refine z_callV (As := [.int (nI n)]) (rest := []) B (m_X12_advance G l Φ1 sz1 y n h_1 (Nat.le_trans hna (Nat.le_trans (Nat.le_add_right x 149) hxy)) Mhn Mhn2) (cwV 1 B.1.2.2.2.2 gL_law_X12_advance rfl rfl rfl (by decide +kernel) ⟨Nat.le_of_ble_eq_true rfl, Nat.le_of_ble_eq_true rfl⟩) h_1 rfl rfl rfl rfl (Nat.le_of_ble_eq_true rfl) dL_law_695 ⟨Nat.le_of_ble_eq_true rfl, Nat.le_of_ble_eq_true rfl⟩ (fun v2 Φ2 sz2 st2 hp2 hs2 => ?_)
  obtain ⟨rfl, ⟨fs1, hy1, hk1⟩, fr2⟩ := hp2
  replace hs2 : st2 = [.int 0] := hs2
  subst st2
  refine z_istore (lv' := [(7, .int 0), (6, .int 0), (5, .int 0), (4, .ref d), (3, .ref o), (2, .ref y), (1, .ref x), (0, .ref b)]) B dL_law_698 (Nat.le_of_ble_eq_true rfl) rfl ?_
  refine z_aload_n B dL_law_700 rfl 5 rfl ?_
  refine z_callV (As := []) (rest := []) B (m_thrown G l Φ2 sz2 y fs1 0 hy1 hk1) (cwV 0 B.1.2.2.2.2 gL_law_X12_thrown rfl rfl rfl (by decide +kernel) ⟨Nat.le_of_ble_eq_true rfl, Nat.le_of_ble_eq_true rfl⟩) hy1 rfl rfl rfl rfl (Nat.le_of_ble_eq_true rfl) dL_law_701 ⟨Nat.le_of_ble_eq_true rfl, Nat.le_of_ble_eq_true rfl⟩ (fun v3 Φ3 sz3 st3 hp3 hs3 => ?_)
  obtain ⟨rfl, he1⟩ := hp3
  replace hs3 : st3 = [.int 0] := hs3
  subst st3
  rw [he1]
  refine z_iload B dL_law_704 1 rfl ?_
  refine z_icmp_eq (tgt := 711) B dL_law_706 rfl (fun c_1 => ?_) (fun h9 => absurd (by decide) h9)
  refine z_iload B dL_law_711 1 rfl ?_
  refine z_if_ne (tgt := 728) B dL_law_713 rfl (fun h9 => absurd (by decide) h9) (fun c_2 => ?_)
  refine z_aload_n B dL_law_716 rfl 4 rfl ?_
  refine z_iconst (v := 0) B dL_law_717 rfl ?_
  have h_2 : Φ2 o = some (al_ G 1 g1) := ((fr2 o hyo).trans ho1)
  refine z_lald B h_2 (vin rfl) dL_law_718 ?_
  refine z_top (st1 := [.long 0]) (congrArg (fun w9 : Int64 => ([.long w9] : List Value)) (show g1 (0 : Int32).toNatClampNeg = 0 from hg1)) ?_
  refine z_iload B dL_law_719 0 rfl ?_
  refine z_i2l (v := 0) B dL_law_721 (by decide +kernel) ?_
  refine z_lcmp B dL_law_722 ?_
  refine z_top (st1 := [.int 0]) (congrArg (fun w9 : Int32 => ([.int w9] : List Value)) (show (lg_cmp 0 0 : Int32) = 0 by decide +kernel)) ?_
  refine z_if_eq (tgt := 728) B dL_law_723 rfl (fun c_3 => ?_) (fun h9 => absurd (by decide) h9)
  refine z_goto (tgt := 2893) B dL_law_728 rfl ?_
  refine z_lv [2, 3, 4, 5, 6, 7] rfl ?_
  refine z_widen (k := 178) (n := 20844) (Nat.le_of_ble_eq_true rfl) (Nat.le_of_ble_eq_true rfl) ?_
  exact hT _ _

set_option maxHeartbeats 4000000 in
set_option maxRecDepth 100000 in
theorem lc_8_x {p9 : Program} {e9 : Env} {s9 : State} {m9 : MethodId} {a9 : Array Value} {w9 : List Frame} {t9 : Method} {k9 : Code} {Q9 : State → Prop} {nm9 : String} (G : EnvG) (l : Launch) (hl9 : l.stackTraces = false) (B : Bd p9 s9 m9 a9 t9 k9 G code 9 RL wsL_law ret nm9) (Φ : Hm) (sz : Nat) (b : Nat) (xs : Nat → Int32) (hX : va_X b 7 xs s9 s9.heap) (hbn : b < G.2.2.2) (x y o d : Nat) (a1 : Int32) (go : Nat → Int64) (gd : Nat → UInt64) (hna : G.2.2.2 ≤ x) (hxy : x + 149 ≤ y) (hyo : y + 26 ≤ o) (hyd : y + 26 ≤ d) (hod : o ≠ d) (hx_0 : Φ x = some (o_ 13 [.ref (x + 1), .ref (x + 3), .ref (x + 24), .ref (x + 46), .ref (x + 74), .ref (x + 80), .ref (x + 132), .ref (x + 121)])) (hy_0 : Φ y = some (o_ 14 [.int 0, .ref (y + 1), .ref (y + 2), .int 0, .int 1, .int 1, .int 0, .int 0, .ref (y + 3), .ref (y + 4), .int 0, .long 0, .ref (y + 5), .int 0, .int 0, .long 0, .long 0, .long 0, .long 0, .ref (y + 6), .ref (y + 7), .int 0, .ref (y + 8), .int 0, .ref (y + 9), .ref (y + 10), .int 0, .ref (y + 11), .ref (y + 12), .ref (y + 13), .ref (y + 14), .ref (y + 15), .ref (y + 16), .int 0, .long (-1), .ref (y + 17), .ref (y + 18), .ref (y + 19), .ref (y + 20), .ref (y + 21), .ref (y + 22), .int 0, .ref (y + 23), .ref (y + 24), .int 0, .ref (y + 25), .int 0, .int 0, .int 0, .int (-1), .int 0, .int 0, .int 0, .long 0])) (hx1 : xs 1 = a1) (Fha : ¬ (¬ a1 < 1 ∧ a1 ≤ 1000)) (Mhp : ¬ inP a1.toInt64 1 1000) (hT : ∀ (Φ1 : Hm) (sz1 : Nat), Z p9 l e9 room_1 s9 m9 a9 w9 t9 k9 Q9 G 9 2893 [(5, .int 0), (4, .ref d), (3, .ref o), (2, .ref y), (1, .ref x), (0, .ref b)] [] Φ1 sz1 178 20844) : Z p9 l e9 room_1 s9 m9 a9 w9 t9 k9 Q9 G 9 675 [(5, .int 0), (4, .ref d), (3, .ref o), (2, .ref y), (1, .ref x), (0, .ref b)] [] Φ sz 177 20838 := by
  refine z_aload_n B dL_law_675 rfl 4 rfl ?_
  refine z_aload_n B dL_law_676 rfl 5 rfl ?_
  refine z_iload B dL_law_677 0 rfl ?_
  refine z_iconst (v := 1) B dL_law_679 rfl ?_
  refine z_iadd B dL_law_680 ?_
  refine z_top (st1 := [.int 1, .ref b, .ref x]) (congrArg (fun w9 : Int32 => ([.int w9, .ref b, .ref x] : List Value)) (show (0 + 1 : Int32) = 1 by decide +kernel)) ?_
  refine z_sald B hX hbn (vin rfl) dL_law_681 ?_
  refine z_top (st1 := [.int a1, .ref x]) (congrArg (fun w9 : Int32 => ([.int w9, .ref x] : List Value)) (show xs (1 : Int32).toNatClampNeg = a1 from hx1)) ?_
  refine z_aload_n B dL_law_682 rfl 2 rfl ?_
  refine z_callSW (As := [.ref x, .int a1, .ref o]) (rest := []) B (w_advance_x G l hl9 Φ sz x o a1 hx_0 Fha) (vx_cwSW 3 B.1.2.2.2.2 gL_law_L_advance rfl rfl rfl (by decide +kernel) ⟨Nat.le_of_ble_eq_true rfl, Nat.le_of_ble_eq_true rfl⟩) rfl rfl (Nat.le_of_ble_eq_true rfl) dL_law_683 ⟨Nat.le_of_ble_eq_true rfl, Nat.le_of_ble_eq_true rfl⟩ (fun v1 Φ1 sz1 st1 hp1 hs1 => ?_)
  obtain ⟨rfl, he1⟩ := hp1
  replace hs1 : st1 = [.int 1] := hs1
  subst st1
  rw [he1]
  refine z_istore (lv' := [(6, .int 1), (5, .int 0), (4, .ref d), (3, .ref o), (2, .ref y), (1, .ref x), (0, .ref b)]) B dL_law_686 (Nat.le_of_ble_eq_true rfl) rfl ?_
  refine z_aload_n B dL_law_688 rfl 4 rfl ?_
  refine z_aload_n B dL_law_689 rfl 6 rfl ?_
  refine z_iload B dL_law_690 1 rfl ?_
  refine z_iconst (v := 1) B dL_law_692 rfl ?_
  refine z_iadd B dL_law_693 ?_
  refine z_top (st1 := [.int 1, .ref b, .ref y]) (congrArg (fun w9 : Int32 => ([.int w9, .ref b, .ref y] : List Value)) (show (0 + 1 : Int32) = 1 by decide +kernel)) ?_
  refine z_sald B hX hbn (vin rfl) dL_law_694 ?_
  refine z_top (st1 := [.int a1, .ref y]) (congrArg (fun w9 : Int32 => ([.int w9, .ref y] : List Value)) (show xs (1 : Int32).toNatClampNeg = a1 from hx1)) ?_
  refine z_callV (As := [.int a1]) (rest := []) B (m_X12_advance_x G l Φ sz1 y a1 hy_0 (Nat.le_trans hna (Nat.le_trans (Nat.le_add_right x 149) hxy)) Mhp) (cwV 1 B.1.2.2.2.2 gL_law_X12_advance rfl rfl rfl (by decide +kernel) ⟨Nat.le_of_ble_eq_true rfl, Nat.le_of_ble_eq_true rfl⟩) hy_0 rfl rfl rfl rfl (Nat.le_of_ble_eq_true rfl) dL_law_695 ⟨Nat.le_of_ble_eq_true rfl, Nat.le_of_ble_eq_true rfl⟩ (fun v2 Φ2 sz2 st2 hp2 hs2 => ?_)
  obtain ⟨rfl, ⟨fs1, hy1, hk1⟩, fr1⟩ := hp2
  replace hs2 : st2 = [.int 0] := hs2
  subst st2
  refine z_istore (lv' := [(7, .int 0), (6, .int 1), (5, .int 0), (4, .ref d), (3, .ref o), (2, .ref y), (1, .ref x), (0, .ref b)]) B dL_law_698 (Nat.le_of_ble_eq_true rfl) rfl ?_
  refine z_aload_n B dL_law_700 rfl 5 rfl ?_
  refine z_callV (As := []) (rest := []) B (m_thrown G l Φ2 sz2 y fs1 1 hy1 hk1) (cwV 0 B.1.2.2.2.2 gL_law_X12_thrown rfl rfl rfl (by decide +kernel) ⟨Nat.le_of_ble_eq_true rfl, Nat.le_of_ble_eq_true rfl⟩) hy1 rfl rfl rfl rfl (Nat.le_of_ble_eq_true rfl) dL_law_701 ⟨Nat.le_of_ble_eq_true rfl, Nat.le_of_ble_eq_true rfl⟩ (fun v3 Φ3 sz3 st3 hp3 hs3 => ?_)
  obtain ⟨rfl, he2⟩ := hp3
  replace hs3 : st3 = [.int 1] := hs3
  subst st3
  rw [he2]
  refine z_iload B dL_law_704 1 rfl ?_
  refine z_icmp_eq (tgt := 711) B dL_law_706 rfl (fun c_1 => ?_) (fun h9 => absurd (by decide) h9)
  refine z_iload B dL_law_711 1 rfl ?_
  refine z_if_ne (tgt := 728) B dL_law_713 rfl (fun c_2 => ?_) (fun h9 => absurd h9 (by decide))
  refine z_goto (tgt := 2893) B dL_law_728 rfl ?_
  refine z_lv [2, 3, 4, 5, 6, 7] rfl ?_
  exact hT _ _

set_option maxHeartbeats 4000000 in
set_option maxRecDepth 100000 in
theorem lc_11 {p9 : Program} {e9 : Env} {s9 : State} {m9 : MethodId} {a9 : Array Value} {w9 : List Frame} {t9 : Method} {k9 : Code} {Q9 : State → Prop} {nm9 : String} (G : EnvG) (l : Launch) (hl9 : l.stackTraces = false) (B : Bd p9 s9 m9 a9 t9 k9 G code 9 RL wsL_law ret nm9) (Φ : Hm) (sz : Nat) (b : Nat) (xs : Nat → Int32) (hX : va_X b 7 xs s9 s9.heap) (hbn : b < G.2.2.2) (x y o d : Nat) (a1 : Int32) (a2 : Int32) (go : Nat → Int64) (gd : Nat → UInt64) (hna : G.2.2.2 ≤ x) (hxy : x + 149 ≤ y) (hyo : y + 26 ≤ o) (hyd : y + 26 ≤ d) (hod : o ≠ d) (hx_0 : Φ x = some (o_ 13 [.ref (x + 1), .ref (x + 3), .ref (x + 24), .ref (x + 46), .ref (x + 74), .ref (x + 80), .ref (x + 132), .ref (x + 121)])) (hx_80 : Φ (x + 80) = some (o_ 4 [.ref (x + 3), .ref (x + 74), .ref (x + 81), .ref (x + 95), .int 0, .int 1, .int 1, .int 0, .int 0, .int 0, .long 0, .long 0, .long 0])) (hx_81 : Φ (x + 81) = some (o_ 6 [.ref (x + 82), .int 0])) (hy_0 : Φ y = some (o_ 14 [.int 0, .ref (y + 1), .ref (y + 2), .int 0, .int 1, .int 1, .int 0, .int 0, .ref (y + 3), .ref (y + 4), .int 0, .long 0, .ref (y + 5), .int 0, .int 0, .long 0, .long 0, .long 0, .long 0, .ref (y + 6), .ref (y + 7), .int 0, .ref (y + 8), .int 0, .ref (y + 9), .ref (y + 10), .int 0, .ref (y + 11), .ref (y + 12), .ref (y + 13), .ref (y + 14), .ref (y + 15), .ref (y + 16), .int 0, .long (-1), .ref (y + 17), .ref (y + 18), .ref (y + 19), .ref (y + 20), .ref (y + 21), .ref (y + 22), .int 0, .ref (y + 23), .ref (y + 24), .int 0, .ref (y + 25), .int 0, .int 0, .int 0, .int (-1), .int 0, .int 0, .int 0, .long 0])) (hx1 : xs 1 = a1) (hx2 : xs 2 = a2) (Mhp : ¬ inP a1.toInt64 0 (-1)) (hT : ∀ (Φ1 : Hm) (sz1 : Nat), Z p9 l e9 room_1 s9 m9 a9 w9 t9 k9 Q9 G 9 2893 [(5, .int 0), (4, .ref d), (3, .ref o), (2, .ref y), (1, .ref x), (0, .ref b)] [] Φ1 sz1 178 20844) : Z p9 l e9 room_1 s9 m9 a9 w9 t9 k9 Q9 G 9 757 [(5, .int 0), (4, .ref d), (3, .ref o), (2, .ref y), (1, .ref x), (0, .ref b)] [] Φ sz 177 20838 := by
  refine z_aload_n B dL_law_757 rfl 4 rfl ?_
  refine z_aload_n B dL_law_758 rfl 5 rfl ?_
  refine z_iload B dL_law_759 0 rfl ?_
  refine z_iconst (v := 1) B dL_law_761 rfl ?_
  refine z_iadd B dL_law_762 ?_
  refine z_top (st1 := [.int 1, .ref b, .ref x]) (congrArg (fun w9 : Int32 => ([.int w9, .ref b, .ref x] : List Value)) (show (0 + 1 : Int32) = 1 by decide +kernel)) ?_
  refine z_sald B hX hbn (vin rfl) dL_law_763 ?_
  refine z_top (st1 := [.int a1, .ref x]) (congrArg (fun w9 : Int32 => ([.int w9, .ref x] : List Value)) (show xs (1 : Int32).toNatClampNeg = a1 from hx1)) ?_
  refine z_aload_n B dL_law_764 rfl 5 rfl ?_
  refine z_iload B dL_law_765 0 rfl ?_
  refine z_iconst (v := 2) B dL_law_767 rfl ?_
  refine z_iadd B dL_law_768 ?_
  refine z_top (st1 := [.int 2, .ref b, .int a1, .ref x]) (congrArg (fun w9 : Int32 => ([.int w9, .ref b, .int a1, .ref x] : List Value)) (show (0 + 2 : Int32) = 2 by decide +kernel)) ?_
  refine z_sald B hX hbn (vin rfl) dL_law_769 ?_
  refine z_top (st1 := [.int a2, .int a1, .ref x]) (congrArg (fun w9 : Int32 => ([.int w9, .int a1, .ref x] : List Value)) (show xs (2 : Int32).toNatClampNeg = a2 from hx2)) ?_
  refine z_aload_n B dL_law_770 rfl 2 rfl ?_
  refine z_callSW (As := [.ref x, .int a1, .int a2, .ref o]) (rest := []) B (w_cached G l hl9 Φ sz x o a1 a2 hx_0 hx_80 hx_81) (vx_cwSW 4 B.1.2.2.2.2 gL_law_L_cached rfl rfl rfl (by decide +kernel) ⟨Nat.le_of_ble_eq_true rfl, Nat.le_of_ble_eq_true rfl⟩) rfl rfl (Nat.le_of_ble_eq_true rfl) dL_law_771 ⟨Nat.le_of_ble_eq_true rfl, Nat.le_of_ble_eq_true rfl⟩ (fun v1 Φ1 sz1 st1 hp1 hs1 => ?_)
  obtain ⟨rfl, he1⟩ := hp1
  replace hs1 : st1 = [.int 1] := hs1
  subst st1
  rw [he1]
  refine z_istore (lv' := [(6, .int 1), (5, .int 0), (4, .ref d), (3, .ref o), (2, .ref y), (1, .ref x), (0, .ref b)]) B dL_law_774 (Nat.le_of_ble_eq_true rfl) rfl ?_
  refine z_aload_n B dL_law_776 rfl 4 rfl ?_
  refine z_aload_n B dL_law_777 rfl 6 rfl ?_
  refine z_iload B dL_law_778 1 rfl ?_
  refine z_iconst (v := 1) B dL_law_780 rfl ?_
  refine z_iadd B dL_law_781 ?_
  refine z_top (st1 := [.int 1, .ref b, .ref y]) (congrArg (fun w9 : Int32 => ([.int w9, .ref b, .ref y] : List Value)) (show (0 + 1 : Int32) = 1 by decide +kernel)) ?_
  refine z_sald B hX hbn (vin rfl) dL_law_782 ?_
  refine z_top (st1 := [.int a1, .ref y]) (congrArg (fun w9 : Int32 => ([.int w9, .ref y] : List Value)) (show xs (1 : Int32).toNatClampNeg = a1 from hx1)) ?_
  refine z_aload_n B dL_law_783 rfl 6 rfl ?_
  refine z_iload B dL_law_784 1 rfl ?_
  refine z_iconst (v := 2) B dL_law_786 rfl ?_
  refine z_iadd B dL_law_787 ?_
  refine z_top (st1 := [.int 2, .ref b, .int a1, .ref y]) (congrArg (fun w9 : Int32 => ([.int w9, .ref b, .int a1, .ref y] : List Value)) (show (0 + 2 : Int32) = 2 by decide +kernel)) ?_
  refine z_sald B hX hbn (vin rfl) dL_law_788 ?_
  refine z_top (st1 := [.int a2, .int a1, .ref y]) (congrArg (fun w9 : Int32 => ([.int w9, .int a1, .ref y] : List Value)) (show xs (2 : Int32).toNatClampNeg = a2 from hx2)) ?_
  refine z_callV (As := [.int a1, .int a2]) (rest := []) B (m_X12_cached_x G l Φ sz1 y a1 a2 hy_0 (Nat.le_trans hna (Nat.le_trans (Nat.le_add_right x 149) hxy)) Mhp) (cwV 2 B.1.2.2.2.2 gL_law_X12_cached rfl rfl rfl (by decide +kernel) ⟨Nat.le_of_ble_eq_true rfl, Nat.le_of_ble_eq_true rfl⟩) hy_0 rfl rfl rfl rfl (Nat.le_of_ble_eq_true rfl) dL_law_789 ⟨Nat.le_of_ble_eq_true rfl, Nat.le_of_ble_eq_true rfl⟩ (fun v2 Φ2 sz2 st2 hp2 hs2 => ?_)
  obtain ⟨rfl, ⟨fs1, hy1, hk1⟩, fr1⟩ := hp2
  replace hs2 : st2 = [.long 0] := hs2
  subst st2
  refine z_lstore (lv' := [(7, .long 0), (6, .int 1), (5, .int 0), (4, .ref d), (3, .ref o), (2, .ref y), (1, .ref x), (0, .ref b)]) B dL_law_792 (Nat.le_of_ble_eq_true rfl) rfl ?_
  refine z_aload_n B dL_law_794 rfl 5 rfl ?_
  refine z_callV (As := []) (rest := []) B (m_thrown G l Φ2 sz2 y fs1 1 hy1 hk1) (cwV 0 B.1.2.2.2.2 gL_law_X12_thrown rfl rfl rfl (by decide +kernel) ⟨Nat.le_of_ble_eq_true rfl, Nat.le_of_ble_eq_true rfl⟩) hy1 rfl rfl rfl rfl (Nat.le_of_ble_eq_true rfl) dL_law_795 ⟨Nat.le_of_ble_eq_true rfl, Nat.le_of_ble_eq_true rfl⟩ (fun v3 Φ3 sz3 st3 hp3 hs3 => ?_)
  obtain ⟨rfl, he2⟩ := hp3
  replace hs3 : st3 = [.int 1] := hs3
  subst st3
  rw [he2]
  refine z_iload B dL_law_798 1 rfl ?_
  refine z_icmp_eq (tgt := 805) B dL_law_800 rfl (fun c_1 => ?_) (fun h9 => absurd (by decide) h9)
  refine z_iload B dL_law_805 1 rfl ?_
  refine z_if_ne (tgt := 821) B dL_law_807 rfl (fun c_2 => ?_) (fun h9 => absurd h9 (by decide))
  refine z_goto (tgt := 2893) B dL_law_821 rfl ?_
  refine z_lv [2, 3, 4, 5, 6, 7] rfl ?_
  exact hT _ _

set_option maxHeartbeats 4000000 in
set_option maxRecDepth 100000 in
theorem lc_18_0 {p9 : Program} {e9 : Env} {s9 : State} {m9 : MethodId} {a9 : Array Value} {w9 : List Frame} {t9 : Method} {k9 : Code} {Q9 : State → Prop} {nm9 : String} (G : EnvG) (l : Launch) (hl9 : l.stackTraces = false) (B : Bd p9 s9 m9 a9 t9 k9 G code 9 RL wsL_law ret nm9) (Φ : Hm) (sz : Nat) (b : Nat) (xs : Nat → Int32) (hX : va_X b 7 xs s9 s9.heap) (hbn : b < G.2.2.2) (x y o d : Nat)  (go : Nat → Int64) (gd : Nat → UInt64) (hna : G.2.2.2 ≤ x) (hxy : x + 149 ≤ y) (hyo : y + 26 ≤ o) (hyd : y + 26 ≤ d) (hod : o ≠ d) (hx_0 : Φ x = some (o_ 13 [.ref (x + 1), .ref (x + 3), .ref (x + 24), .ref (x + 46), .ref (x + 74), .ref (x + 80), .ref (x + 132), .ref (x + 121)])) (hx_3 : Φ (x + 3) = some (o_ 3 [.ref (x + 4), .ref (x + 5), .ref (x + 6), .ref (x + 7), .int 1, .int 511])) (hx_6 : Φ (x + 6) = some (aq_ G 4 4 (va_up (va_up (va_up (va_up (fun _ => none) (0 : Int32).toNatClampNeg (some (x + 8))) (1 : Int32).toNatClampNeg (some (x + 12))) (2 : Int32).toNatClampNeg (some (x + 16))) (3 : Int32).toNatClampNeg (some (x + 20))))) (hx_8 : Φ (x + 8) = some (o_ 12 [.ref (x + 9), .int 9, .int 511, .int 29])) (hy_0 : Φ y = some (o_ 14 [.int 0, .ref (y + 1), .ref (y + 2), .int 0, .int 1, .int 1, .int 0, .int 0, .ref (y + 3), .ref (y + 4), .int 0, .long 0, .ref (y + 5), .int 0, .int 0, .long 0, .long 0, .long 0, .long 0, .ref (y + 6), .ref (y + 7), .int 0, .ref (y + 8), .int 0, .ref (y + 9), .ref (y + 10), .int 0, .ref (y + 11), .ref (y + 12), .ref (y + 13), .ref (y + 14), .ref (y + 15), .ref (y + 16), .int 0, .long (-1), .ref (y + 17), .ref (y + 18), .ref (y + 19), .ref (y + 20), .ref (y + 21), .ref (y + 22), .int 0, .ref (y + 23), .ref (y + 24), .int 0, .ref (y + 25), .int 0, .int 0, .int 0, .int (-1), .int 0, .int 0, .int 0, .long 0])) (hy_2 : Φ (y + 2) = some (ai_ G 307 (upd (upd (upd (upd (upd (upd (upd (upd (upd (upd (upd (upd (upd (upd (upd (upd (upd (upd (upd (upd (upd (fun _ => 0) (0 : Int32).toNatClampNeg 1) (1 : Int32).toNatClampNeg 100) (2 : Int32).toNatClampNeg 1000) (3 : Int32).toNatClampNeg 100) (4 : Int32).toNatClampNeg 20) (5 : Int32).toNatClampNeg 1000) (6 : Int32).toNatClampNeg 5000) (7 : Int32).toNatClampNeg 512) (8 : Int32).toNatClampNeg 1) (9 : Int32).toNatClampNeg 511) (10 : Int32).toNatClampNeg 1) (11 : Int32).toNatClampNeg 9) (15 : Int32).toNatClampNeg 0) (16 : Int32).toNatClampNeg 1) (17 : Int32).toNatClampNeg 2) (18 : Int32).toNatClampNeg 3) (19 : Int32).toNatClampNeg 4) (20 : Int32).toNatClampNeg 5) (21 : Int32).toNatClampNeg 6) (22 : Int32).toNatClampNeg 7) (23 : Int32).toNatClampNeg 8))) (hco : Φ o = some (al_ G 1 go)) (hx1 : xs 1 = 0) (hT : ∀ (Φ1 : Hm) (sz1 : Nat), Z p9 l e9 room_1 s9 m9 a9 w9 t9 k9 Q9 G 9 2893 [(5, .int 0), (4, .ref d), (3, .ref o), (2, .ref y), (1, .ref x), (0, .ref b)] [] Φ1 sz1 178 20844) : Z p9 l e9 room_1 s9 m9 a9 w9 t9 k9 Q9 G 9 954 [(5, .int 0), (4, .ref d), (3, .ref o), (2, .ref y), (1, .ref x), (0, .ref b)] [] Φ sz 177 20838 := by
  refine z_aload_n B dL_law_954 rfl 4 rfl ?_
  refine z_aload_n B dL_law_955 rfl 5 rfl ?_
  refine z_iload B dL_law_956 0 rfl ?_
  refine z_iconst (v := 1) B dL_law_958 rfl ?_
  refine z_iadd B dL_law_959 ?_
  refine z_top (st1 := [.int 1, .ref b, .ref x]) (congrArg (fun w9 : Int32 => ([.int w9, .ref b, .ref x] : List Value)) (show (0 + 1 : Int32) = 1 by decide +kernel)) ?_
  refine z_sald B hX hbn (vin rfl) dL_law_960 ?_
  refine z_top (st1 := [.int 0, .ref x]) (congrArg (fun w9 : Int32 => ([.int w9, .ref x] : List Value)) (show xs (1 : Int32).toNatClampNeg = 0 from hx1)) ?_
  refine z_aload_n B dL_law_961 rfl 2 rfl ?_
  refine z_callSW (As := [.ref x, .int 0, .ref o]) (rest := []) B (w_templateFields G l Φ sz x o go hx_0 hx_3 hx_6 hx_8 hco hna (Nat.le_trans hxy (Nat.le_trans (Nat.le_add_right y 26) hyo))) (vx_cwSW 3 B.1.2.2.2.2 gL_law_L_templateFields rfl rfl rfl (by decide +kernel) ⟨Nat.le_of_ble_eq_true rfl, Nat.le_of_ble_eq_true rfl⟩) rfl rfl (Nat.le_of_ble_eq_true rfl) dL_law_962 ⟨Nat.le_of_ble_eq_true rfl, Nat.le_of_ble_eq_true rfl⟩ (fun v1 Φ1 sz1 st1 hp1 hs1 => ?_)
  obtain ⟨rfl, fr1, g1, ho1, hg1⟩ := hp1
  replace hs1 : st1 = [.int 0] := hs1
  subst st1
  refine z_istore (lv' := [(6, .int 0), (5, .int 0), (4, .ref d), (3, .ref o), (2, .ref y), (1, .ref x), (0, .ref b)]) B dL_law_965 (Nat.le_of_ble_eq_true rfl) rfl ?_
  refine z_aload_n B dL_law_967 rfl 4 rfl ?_
  refine z_aload_n B dL_law_968 rfl 6 rfl ?_
  refine z_iload B dL_law_969 1 rfl ?_
  refine z_iconst (v := 1) B dL_law_971 rfl ?_
  refine z_iadd B dL_law_972 ?_
  refine z_top (st1 := [.int 1, .ref b, .ref y]) (congrArg (fun w9 : Int32 => ([.int w9, .ref b, .ref y] : List Value)) (show (0 + 1 : Int32) = 1 by decide +kernel)) ?_
  refine z_sald B hX hbn (vin rfl) dL_law_973 ?_
  refine z_top (st1 := [.int 0, .ref y]) (congrArg (fun w9 : Int32 => ([.int w9, .ref y] : List Value)) (show xs (1 : Int32).toNatClampNeg = 0 from hx1)) ?_
  have h_1 : Φ1 y = some (o_ 14 [.int 0, .ref (y + 1), .ref (y + 2), .int 0, .int 1, .int 1, .int 0, .int 0, .ref (y + 3), .ref (y + 4), .int 0, .long 0, .ref (y + 5), .int 0, .int 0, .long 0, .long 0, .long 0, .long 0, .ref (y + 6), .ref (y + 7), .int 0, .ref (y + 8), .int 0, .ref (y + 9), .ref (y + 10), .int 0, .ref (y + 11), .ref (y + 12), .ref (y + 13), .ref (y + 14), .ref (y + 15), .ref (y + 16), .int 0, .long (-1), .ref (y + 17), .ref (y + 18), .ref (y + 19), .ref (y + 20), .ref (y + 21), .ref (y + 22), .int 0, .ref (y + 23), .ref (y + 24), .int 0, .ref (y + 25), .int 0, .int 0, .int 0, .int (-1), .int 0, .int 0, .int 0, .long 0]) := ((fr1 y hxy (Nat.ne_of_lt (Nat.lt_of_lt_of_le (lt_off (x := y) (i := 0) (j := 26) rfl) hyo))).trans hy_0)
  have h_2 : Φ1 (y + 2) = some (ai_ G 307 (upd (upd (upd (upd (upd (upd (upd (upd (upd (upd (upd (upd (upd (upd (upd (upd (upd (upd (upd (upd (upd (fun _ => 0) (0 : Int32).toNatClampNeg 1) (1 : Int32).toNatClampNeg 100) (2 : Int32).toNatClampNeg 1000) (3 : Int32).toNatClampNeg 100) (4 : Int32).toNatClampNeg 20) (5 : Int32).toNatClampNeg 1000) (6 : Int32).toNatClampNeg 5000) (7 : Int32).toNatClampNeg 512) (8 : Int32).toNatClampNeg 1) (9 : Int32).toNatClampNeg 511) (10 : Int32).toNatClampNeg 1) (11 : Int32).toNatClampNeg 9) (15 : Int32).toNatClampNeg 0) (16 : Int32).toNatClampNeg 1) (17 : Int32).toNatClampNeg 2) (18 : Int32).toNatClampNeg 3) (19 : Int32).toNatClampNeg 4) (20 : Int32).toNatClampNeg 5) (21 : Int32).toNatClampNeg 6) (22 : Int32).toNatClampNeg 7) (23 : Int32).toNatClampNeg 8)) := ((fr1 (y + 2) (Nat.le_trans hxy (Nat.le_add_right y 2)) (Nat.ne_of_lt (Nat.lt_of_lt_of_le (lt_off (x := y) (i := 2) (j := 26) rfl) hyo))).trans hy_2)
  refine z_callV (As := [.int 0]) (rest := []) B (m_X12_templateFields G l Φ1 sz1 y h_1 h_2 (Nat.le_trans hna (Nat.le_trans (Nat.le_add_right x 149) hxy))) (cwV 1 B.1.2.2.2.2 gL_law_X12_templateFields rfl rfl rfl (by decide +kernel) ⟨Nat.le_of_ble_eq_true rfl, Nat.le_of_ble_eq_true rfl⟩) h_1 rfl rfl rfl rfl (Nat.le_of_ble_eq_true rfl) dL_law_974 ⟨Nat.le_of_ble_eq_true rfl, Nat.le_of_ble_eq_true rfl⟩ (fun v2 Φ2 sz2 st2 hp2 hs2 => ?_)
  obtain ⟨rfl, ⟨fs1, hy1, hk1⟩, fr2⟩ := hp2
  replace hs2 : st2 = [.int 511] := hs2
  subst st2
  refine z_istore (lv' := [(7, .int 511), (6, .int 0), (5, .int 0), (4, .ref d), (3, .ref o), (2, .ref y), (1, .ref x), (0, .ref b)]) B dL_law_977 (Nat.le_of_ble_eq_true rfl) rfl ?_
  refine z_aload_n B dL_law_979 rfl 5 rfl ?_
  refine z_callV (As := []) (rest := []) B (m_thrown G l Φ2 sz2 y fs1 0 hy1 hk1) (cwV 0 B.1.2.2.2.2 gL_law_X12_thrown rfl rfl rfl (by decide +kernel) ⟨Nat.le_of_ble_eq_true rfl, Nat.le_of_ble_eq_true rfl⟩) hy1 rfl rfl rfl rfl (Nat.le_of_ble_eq_true rfl) dL_law_980 ⟨Nat.le_of_ble_eq_true rfl, Nat.le_of_ble_eq_true rfl⟩ (fun v3 Φ3 sz3 st3 hp3 hs3 => ?_)
  obtain ⟨rfl, he1⟩ := hp3
  replace hs3 : st3 = [.int 0] := hs3
  subst st3
  rw [he1]
  refine z_iload B dL_law_983 1 rfl ?_
  refine z_icmp_eq (tgt := 990) B dL_law_985 rfl (fun c_1 => ?_) (fun h9 => absurd (by decide) h9)
  refine z_iload B dL_law_990 1 rfl ?_
  refine z_if_ne (tgt := 1007) B dL_law_992 rfl (fun h9 => absurd (by decide) h9) (fun c_2 => ?_)
  refine z_aload_n B dL_law_995 rfl 4 rfl ?_
  refine z_iconst (v := 0) B dL_law_996 rfl ?_
  have h_3 : Φ2 o = some (al_ G 1 g1) := ((fr2 o hyo).trans ho1)
  refine z_lald B h_3 (vin rfl) dL_law_997 ?_
  refine z_top (st1 := [.long 511]) (congrArg (fun w9 : Int64 => ([.long w9] : List Value)) (show g1 (0 : Int32).toNatClampNeg = 511 from hg1)) ?_
  refine z_iload B dL_law_998 0 rfl ?_
  refine z_i2l (v := 511) B dL_law_1000 (by decide +kernel) ?_
  refine z_lcmp B dL_law_1001 ?_
  refine z_top (st1 := [.int 0]) (congrArg (fun w9 : Int32 => ([.int w9] : List Value)) (show (lg_cmp 511 511 : Int32) = 0 by decide +kernel)) ?_
  refine z_if_eq (tgt := 1007) B dL_law_1002 rfl (fun c_3 => ?_) (fun h9 => absurd (by decide) h9)
  refine z_goto (tgt := 2893) B dL_law_1007 rfl ?_
  refine z_lv [2, 3, 4, 5, 6, 7] rfl ?_
  refine z_widen (k := 178) (n := 20844) (Nat.le_of_ble_eq_true rfl) (Nat.le_of_ble_eq_true rfl) ?_
  exact hT _ _

set_option maxHeartbeats 4000000 in
set_option maxRecDepth 100000 in
theorem lc_18_x {p9 : Program} {e9 : Env} {s9 : State} {m9 : MethodId} {a9 : Array Value} {w9 : List Frame} {t9 : Method} {k9 : Code} {Q9 : State → Prop} {nm9 : String} (G : EnvG) (l : Launch) (hl9 : l.stackTraces = false) (B : Bd p9 s9 m9 a9 t9 k9 G code 9 RL wsL_law ret nm9) (Φ : Hm) (sz : Nat) (b : Nat) (xs : Nat → Int32) (hX : va_X b 7 xs s9 s9.heap) (hbn : b < G.2.2.2) (x y o d : Nat) (a1 : Int32) (go : Nat → Int64) (gd : Nat → UInt64) (hna : G.2.2.2 ≤ x) (hxy : x + 149 ≤ y) (hyo : y + 26 ≤ o) (hyd : y + 26 ≤ d) (hod : o ≠ d) (hx_0 : Φ x = some (o_ 13 [.ref (x + 1), .ref (x + 3), .ref (x + 24), .ref (x + 46), .ref (x + 74), .ref (x + 80), .ref (x + 132), .ref (x + 121)])) (hx_3 : Φ (x + 3) = some (o_ 3 [.ref (x + 4), .ref (x + 5), .ref (x + 6), .ref (x + 7), .int 1, .int 511])) (hy_0 : Φ y = some (o_ 14 [.int 0, .ref (y + 1), .ref (y + 2), .int 0, .int 1, .int 1, .int 0, .int 0, .ref (y + 3), .ref (y + 4), .int 0, .long 0, .ref (y + 5), .int 0, .int 0, .long 0, .long 0, .long 0, .long 0, .ref (y + 6), .ref (y + 7), .int 0, .ref (y + 8), .int 0, .ref (y + 9), .ref (y + 10), .int 0, .ref (y + 11), .ref (y + 12), .ref (y + 13), .ref (y + 14), .ref (y + 15), .ref (y + 16), .int 0, .long (-1), .ref (y + 17), .ref (y + 18), .ref (y + 19), .ref (y + 20), .ref (y + 21), .ref (y + 22), .int 0, .ref (y + 23), .ref (y + 24), .int 0, .ref (y + 25), .int 0, .int 0, .int 0, .int (-1), .int 0, .int 0, .int 0, .long 0])) (hy_2 : Φ (y + 2) = some (ai_ G 307 (upd (upd (upd (upd (upd (upd (upd (upd (upd (upd (upd (upd (upd (upd (upd (upd (upd (upd (upd (upd (upd (fun _ => 0) (0 : Int32).toNatClampNeg 1) (1 : Int32).toNatClampNeg 100) (2 : Int32).toNatClampNeg 1000) (3 : Int32).toNatClampNeg 100) (4 : Int32).toNatClampNeg 20) (5 : Int32).toNatClampNeg 1000) (6 : Int32).toNatClampNeg 5000) (7 : Int32).toNatClampNeg 512) (8 : Int32).toNatClampNeg 1) (9 : Int32).toNatClampNeg 511) (10 : Int32).toNatClampNeg 1) (11 : Int32).toNatClampNeg 9) (15 : Int32).toNatClampNeg 0) (16 : Int32).toNatClampNeg 1) (17 : Int32).toNatClampNeg 2) (18 : Int32).toNatClampNeg 3) (19 : Int32).toNatClampNeg 4) (20 : Int32).toNatClampNeg 5) (21 : Int32).toNatClampNeg 6) (22 : Int32).toNatClampNeg 7) (23 : Int32).toNatClampNeg 8))) (hx1 : xs 1 = a1) (Fha : a1 ≠ 0) (Mhp : ¬ inP a1.toInt64 0 0) (hT : ∀ (Φ1 : Hm) (sz1 : Nat), Z p9 l e9 room_1 s9 m9 a9 w9 t9 k9 Q9 G 9 2893 [(5, .int 0), (4, .ref d), (3, .ref o), (2, .ref y), (1, .ref x), (0, .ref b)] [] Φ1 sz1 178 20844) : Z p9 l e9 room_1 s9 m9 a9 w9 t9 k9 Q9 G 9 954 [(5, .int 0), (4, .ref d), (3, .ref o), (2, .ref y), (1, .ref x), (0, .ref b)] [] Φ sz 177 20838 := by
  refine z_aload_n B dL_law_954 rfl 4 rfl ?_
  refine z_aload_n B dL_law_955 rfl 5 rfl ?_
  refine z_iload B dL_law_956 0 rfl ?_
  refine z_iconst (v := 1) B dL_law_958 rfl ?_
  refine z_iadd B dL_law_959 ?_
  refine z_top (st1 := [.int 1, .ref b, .ref x]) (congrArg (fun w9 : Int32 => ([.int w9, .ref b, .ref x] : List Value)) (show (0 + 1 : Int32) = 1 by decide +kernel)) ?_
  refine z_sald B hX hbn (vin rfl) dL_law_960 ?_
  refine z_top (st1 := [.int a1, .ref x]) (congrArg (fun w9 : Int32 => ([.int w9, .ref x] : List Value)) (show xs (1 : Int32).toNatClampNeg = a1 from hx1)) ?_
  refine z_aload_n B dL_law_961 rfl 2 rfl ?_
  refine z_callSW (As := [.ref x, .int a1, .ref o]) (rest := []) B (w_templateFields_x G l hl9 Φ sz x o a1 hx_0 hx_3 Fha) (vx_cwSW 3 B.1.2.2.2.2 gL_law_L_templateFields rfl rfl rfl (by decide +kernel) ⟨Nat.le_of_ble_eq_true rfl, Nat.le_of_ble_eq_true rfl⟩) rfl rfl (Nat.le_of_ble_eq_true rfl) dL_law_962 ⟨Nat.le_of_ble_eq_true rfl, Nat.le_of_ble_eq_true rfl⟩ (fun v1 Φ1 sz1 st1 hp1 hs1 => ?_)
  obtain ⟨rfl, he1⟩ := hp1
  replace hs1 : st1 = [.int 1] := hs1
  subst st1
  rw [he1]
  refine z_istore (lv' := [(6, .int 1), (5, .int 0), (4, .ref d), (3, .ref o), (2, .ref y), (1, .ref x), (0, .ref b)]) B dL_law_965 (Nat.le_of_ble_eq_true rfl) rfl ?_
  refine z_aload_n B dL_law_967 rfl 4 rfl ?_
  refine z_aload_n B dL_law_968 rfl 6 rfl ?_
  refine z_iload B dL_law_969 1 rfl ?_
  refine z_iconst (v := 1) B dL_law_971 rfl ?_
  refine z_iadd B dL_law_972 ?_
  refine z_top (st1 := [.int 1, .ref b, .ref y]) (congrArg (fun w9 : Int32 => ([.int w9, .ref b, .ref y] : List Value)) (show (0 + 1 : Int32) = 1 by decide +kernel)) ?_
  refine z_sald B hX hbn (vin rfl) dL_law_973 ?_
  refine z_top (st1 := [.int a1, .ref y]) (congrArg (fun w9 : Int32 => ([.int w9, .ref y] : List Value)) (show xs (1 : Int32).toNatClampNeg = a1 from hx1)) ?_
  refine z_callV (As := [.int a1]) (rest := []) B (m_X12_templateFields_x G l Φ sz1 y a1 hy_0 hy_2 (Nat.le_trans hna (Nat.le_trans (Nat.le_add_right x 149) hxy)) Mhp) (cwV 1 B.1.2.2.2.2 gL_law_X12_templateFields rfl rfl rfl (by decide +kernel) ⟨Nat.le_of_ble_eq_true rfl, Nat.le_of_ble_eq_true rfl⟩) hy_0 rfl rfl rfl rfl (Nat.le_of_ble_eq_true rfl) dL_law_974 ⟨Nat.le_of_ble_eq_true rfl, Nat.le_of_ble_eq_true rfl⟩ (fun v2 Φ2 sz2 st2 hp2 hs2 => ?_)
  obtain ⟨rfl, ⟨fs1, hy1, hk1⟩, fr1⟩ := hp2
  replace hs2 : st2 = [.int 0] := hs2
  subst st2
  refine z_istore (lv' := [(7, .int 0), (6, .int 1), (5, .int 0), (4, .ref d), (3, .ref o), (2, .ref y), (1, .ref x), (0, .ref b)]) B dL_law_977 (Nat.le_of_ble_eq_true rfl) rfl ?_
  refine z_aload_n B dL_law_979 rfl 5 rfl ?_
  refine z_callV (As := []) (rest := []) B (m_thrown G l Φ2 sz2 y fs1 1 hy1 hk1) (cwV 0 B.1.2.2.2.2 gL_law_X12_thrown rfl rfl rfl (by decide +kernel) ⟨Nat.le_of_ble_eq_true rfl, Nat.le_of_ble_eq_true rfl⟩) hy1 rfl rfl rfl rfl (Nat.le_of_ble_eq_true rfl) dL_law_980 ⟨Nat.le_of_ble_eq_true rfl, Nat.le_of_ble_eq_true rfl⟩ (fun v3 Φ3 sz3 st3 hp3 hs3 => ?_)
  obtain ⟨rfl, he2⟩ := hp3
  replace hs3 : st3 = [.int 1] := hs3
  subst st3
  rw [he2]
  refine z_iload B dL_law_983 1 rfl ?_
  refine z_icmp_eq (tgt := 990) B dL_law_985 rfl (fun c_1 => ?_) (fun h9 => absurd (by decide) h9)
  refine z_iload B dL_law_990 1 rfl ?_
  refine z_if_ne (tgt := 1007) B dL_law_992 rfl (fun c_2 => ?_) (fun h9 => absurd h9 (by decide))
  refine z_goto (tgt := 2893) B dL_law_1007 rfl ?_
  refine z_lv [2, 3, 4, 5, 6, 7] rfl ?_
  exact hT _ _

set_option maxHeartbeats 4000000 in
set_option maxRecDepth 100000 in
theorem lc_19_0 {p9 : Program} {e9 : Env} {s9 : State} {m9 : MethodId} {a9 : Array Value} {w9 : List Frame} {t9 : Method} {k9 : Code} {Q9 : State → Prop} {nm9 : String} (G : EnvG) (l : Launch) (hl9 : l.stackTraces = false) (B : Bd p9 s9 m9 a9 t9 k9 G code 9 RL wsL_law ret nm9) (Φ : Hm) (sz : Nat) (b : Nat) (xs : Nat → Int32) (hX : va_X b 7 xs s9 s9.heap) (hbn : b < G.2.2.2) (x y o d : Nat)  (go : Nat → Int64) (gd : Nat → UInt64) (hna : G.2.2.2 ≤ x) (hxy : x + 149 ≤ y) (hyo : y + 26 ≤ o) (hyd : y + 26 ≤ d) (hod : o ≠ d) (hx_0 : Φ x = some (o_ 13 [.ref (x + 1), .ref (x + 3), .ref (x + 24), .ref (x + 46), .ref (x + 74), .ref (x + 80), .ref (x + 132), .ref (x + 121)])) (hx_3 : Φ (x + 3) = some (o_ 3 [.ref (x + 4), .ref (x + 5), .ref (x + 6), .ref (x + 7), .int 1, .int 511])) (hx_7 : Φ (x + 7) = some (aq_ G 4 4 (va_up (va_up (va_up (va_up (fun _ => none) (0 : Int32).toNatClampNeg (some (x + 10))) (1 : Int32).toNatClampNeg (some (x + 14))) (2 : Int32).toNatClampNeg (some (x + 18))) (3 : Int32).toNatClampNeg (some (x + 22))))) (hx_10 : Φ (x + 10) = some (o_ 12 [.ref (x + 11), .int 9, .int 511, .int 29])) (hy_0 : Φ y = some (o_ 14 [.int 0, .ref (y + 1), .ref (y + 2), .int 0, .int 1, .int 1, .int 0, .int 0, .ref (y + 3), .ref (y + 4), .int 0, .long 0, .ref (y + 5), .int 0, .int 0, .long 0, .long 0, .long 0, .long 0, .ref (y + 6), .ref (y + 7), .int 0, .ref (y + 8), .int 0, .ref (y + 9), .ref (y + 10), .int 0, .ref (y + 11), .ref (y + 12), .ref (y + 13), .ref (y + 14), .ref (y + 15), .ref (y + 16), .int 0, .long (-1), .ref (y + 17), .ref (y + 18), .ref (y + 19), .ref (y + 20), .ref (y + 21), .ref (y + 22), .int 0, .ref (y + 23), .ref (y + 24), .int 0, .ref (y + 25), .int 0, .int 0, .int 0, .int (-1), .int 0, .int 0, .int 0, .long 0])) (hy_2 : Φ (y + 2) = some (ai_ G 307 (upd (upd (upd (upd (upd (upd (upd (upd (upd (upd (upd (upd (upd (upd (upd (upd (upd (upd (upd (upd (upd (fun _ => 0) (0 : Int32).toNatClampNeg 1) (1 : Int32).toNatClampNeg 100) (2 : Int32).toNatClampNeg 1000) (3 : Int32).toNatClampNeg 100) (4 : Int32).toNatClampNeg 20) (5 : Int32).toNatClampNeg 1000) (6 : Int32).toNatClampNeg 5000) (7 : Int32).toNatClampNeg 512) (8 : Int32).toNatClampNeg 1) (9 : Int32).toNatClampNeg 511) (10 : Int32).toNatClampNeg 1) (11 : Int32).toNatClampNeg 9) (15 : Int32).toNatClampNeg 0) (16 : Int32).toNatClampNeg 1) (17 : Int32).toNatClampNeg 2) (18 : Int32).toNatClampNeg 3) (19 : Int32).toNatClampNeg 4) (20 : Int32).toNatClampNeg 5) (21 : Int32).toNatClampNeg 6) (22 : Int32).toNatClampNeg 7) (23 : Int32).toNatClampNeg 8))) (hco : Φ o = some (al_ G 1 go)) (hx1 : xs 1 = 0) (hT : ∀ (Φ1 : Hm) (sz1 : Nat), Z p9 l e9 room_1 s9 m9 a9 w9 t9 k9 Q9 G 9 2893 [(5, .int 0), (4, .ref d), (3, .ref o), (2, .ref y), (1, .ref x), (0, .ref b)] [] Φ1 sz1 178 20844) : Z p9 l e9 room_1 s9 m9 a9 w9 t9 k9 Q9 G 9 1010 [(5, .int 0), (4, .ref d), (3, .ref o), (2, .ref y), (1, .ref x), (0, .ref b)] [] Φ sz 177 20838 := by
  refine z_aload_n B dL_law_1010 rfl 4 rfl ?_
  refine z_aload_n B dL_law_1011 rfl 5 rfl ?_
  refine z_iload B dL_law_1012 0 rfl ?_
  refine z_iconst (v := 1) B dL_law_1014 rfl ?_
  refine z_iadd B dL_law_1015 ?_
  refine z_top (st1 := [.int 1, .ref b, .ref x]) (congrArg (fun w9 : Int32 => ([.int w9, .ref b, .ref x] : List Value)) (show (0 + 1 : Int32) = 1 by decide +kernel)) ?_
  refine z_sald B hX hbn (vin rfl) dL_law_1016 ?_
  refine z_top (st1 := [.int 0, .ref x]) (congrArg (fun w9 : Int32 => ([.int w9, .ref x] : List Value)) (show xs (1 : Int32).toNatClampNeg = 0 from hx1)) ?_
  refine z_aload_n B dL_law_1017 rfl 2 rfl ?_
  refine z_callSW (As := [.ref x, .int 0, .ref o]) (rest := []) B (w_effectiveFields G l Φ sz x o go hx_0 hx_3 hx_7 hx_10 hco hna (Nat.le_trans hxy (Nat.le_trans (Nat.le_add_right y 26) hyo))) (vx_cwSW 3 B.1.2.2.2.2 gL_law_L_effectiveFields rfl rfl rfl (by decide +kernel) ⟨Nat.le_of_ble_eq_true rfl, Nat.le_of_ble_eq_true rfl⟩) rfl rfl (Nat.le_of_ble_eq_true rfl) dL_law_1018 ⟨Nat.le_of_ble_eq_true rfl, Nat.le_of_ble_eq_true rfl⟩ (fun v1 Φ1 sz1 st1 hp1 hs1 => ?_)
  obtain ⟨rfl, fr1, g1, ho1, hg1⟩ := hp1
  replace hs1 : st1 = [.int 0] := hs1
  subst st1
  refine z_istore (lv' := [(6, .int 0), (5, .int 0), (4, .ref d), (3, .ref o), (2, .ref y), (1, .ref x), (0, .ref b)]) B dL_law_1021 (Nat.le_of_ble_eq_true rfl) rfl ?_
  refine z_aload_n B dL_law_1023 rfl 4 rfl ?_
  refine z_aload_n B dL_law_1024 rfl 6 rfl ?_
  refine z_iload B dL_law_1025 1 rfl ?_
  refine z_iconst (v := 1) B dL_law_1027 rfl ?_
  refine z_iadd B dL_law_1028 ?_
  refine z_top (st1 := [.int 1, .ref b, .ref y]) (congrArg (fun w9 : Int32 => ([.int w9, .ref b, .ref y] : List Value)) (show (0 + 1 : Int32) = 1 by decide +kernel)) ?_
  refine z_sald B hX hbn (vin rfl) dL_law_1029 ?_
  refine z_top (st1 := [.int 0, .ref y]) (congrArg (fun w9 : Int32 => ([.int w9, .ref y] : List Value)) (show xs (1 : Int32).toNatClampNeg = 0 from hx1)) ?_
  have h_1 : Φ1 y = some (o_ 14 [.int 0, .ref (y + 1), .ref (y + 2), .int 0, .int 1, .int 1, .int 0, .int 0, .ref (y + 3), .ref (y + 4), .int 0, .long 0, .ref (y + 5), .int 0, .int 0, .long 0, .long 0, .long 0, .long 0, .ref (y + 6), .ref (y + 7), .int 0, .ref (y + 8), .int 0, .ref (y + 9), .ref (y + 10), .int 0, .ref (y + 11), .ref (y + 12), .ref (y + 13), .ref (y + 14), .ref (y + 15), .ref (y + 16), .int 0, .long (-1), .ref (y + 17), .ref (y + 18), .ref (y + 19), .ref (y + 20), .ref (y + 21), .ref (y + 22), .int 0, .ref (y + 23), .ref (y + 24), .int 0, .ref (y + 25), .int 0, .int 0, .int 0, .int (-1), .int 0, .int 0, .int 0, .long 0]) := ((fr1 y hxy (Nat.ne_of_lt (Nat.lt_of_lt_of_le (lt_off (x := y) (i := 0) (j := 26) rfl) hyo))).trans hy_0)
  have h_2 : Φ1 (y + 2) = some (ai_ G 307 (upd (upd (upd (upd (upd (upd (upd (upd (upd (upd (upd (upd (upd (upd (upd (upd (upd (upd (upd (upd (upd (fun _ => 0) (0 : Int32).toNatClampNeg 1) (1 : Int32).toNatClampNeg 100) (2 : Int32).toNatClampNeg 1000) (3 : Int32).toNatClampNeg 100) (4 : Int32).toNatClampNeg 20) (5 : Int32).toNatClampNeg 1000) (6 : Int32).toNatClampNeg 5000) (7 : Int32).toNatClampNeg 512) (8 : Int32).toNatClampNeg 1) (9 : Int32).toNatClampNeg 511) (10 : Int32).toNatClampNeg 1) (11 : Int32).toNatClampNeg 9) (15 : Int32).toNatClampNeg 0) (16 : Int32).toNatClampNeg 1) (17 : Int32).toNatClampNeg 2) (18 : Int32).toNatClampNeg 3) (19 : Int32).toNatClampNeg 4) (20 : Int32).toNatClampNeg 5) (21 : Int32).toNatClampNeg 6) (22 : Int32).toNatClampNeg 7) (23 : Int32).toNatClampNeg 8)) := ((fr1 (y + 2) (Nat.le_trans hxy (Nat.le_add_right y 2)) (Nat.ne_of_lt (Nat.lt_of_lt_of_le (lt_off (x := y) (i := 2) (j := 26) rfl) hyo))).trans hy_2)
  refine z_callV (As := [.int 0]) (rest := []) B (m_X12_effectiveFields G l Φ1 sz1 y h_1 h_2 (Nat.le_trans hna (Nat.le_trans (Nat.le_add_right x 149) hxy))) (cwV 1 B.1.2.2.2.2 gL_law_X12_effectiveFields rfl rfl rfl (by decide +kernel) ⟨Nat.le_of_ble_eq_true rfl, Nat.le_of_ble_eq_true rfl⟩) h_1 rfl rfl rfl rfl (Nat.le_of_ble_eq_true rfl) dL_law_1030 ⟨Nat.le_of_ble_eq_true rfl, Nat.le_of_ble_eq_true rfl⟩ (fun v2 Φ2 sz2 st2 hp2 hs2 => ?_)
  obtain ⟨rfl, ⟨fs1, hy1, hk1⟩, fr2⟩ := hp2
  replace hs2 : st2 = [.int 511] := hs2
  subst st2
  refine z_istore (lv' := [(7, .int 511), (6, .int 0), (5, .int 0), (4, .ref d), (3, .ref o), (2, .ref y), (1, .ref x), (0, .ref b)]) B dL_law_1033 (Nat.le_of_ble_eq_true rfl) rfl ?_
  refine z_aload_n B dL_law_1035 rfl 5 rfl ?_
  refine z_callV (As := []) (rest := []) B (m_thrown G l Φ2 sz2 y fs1 0 hy1 hk1) (cwV 0 B.1.2.2.2.2 gL_law_X12_thrown rfl rfl rfl (by decide +kernel) ⟨Nat.le_of_ble_eq_true rfl, Nat.le_of_ble_eq_true rfl⟩) hy1 rfl rfl rfl rfl (Nat.le_of_ble_eq_true rfl) dL_law_1036 ⟨Nat.le_of_ble_eq_true rfl, Nat.le_of_ble_eq_true rfl⟩ (fun v3 Φ3 sz3 st3 hp3 hs3 => ?_)
  obtain ⟨rfl, he1⟩ := hp3
  replace hs3 : st3 = [.int 0] := hs3
  subst st3
  rw [he1]
  refine z_iload B dL_law_1039 1 rfl ?_
  refine z_icmp_eq (tgt := 1046) B dL_law_1041 rfl (fun c_1 => ?_) (fun h9 => absurd (by decide) h9)
  refine z_iload B dL_law_1046 1 rfl ?_
  refine z_if_ne (tgt := 1063) B dL_law_1048 rfl (fun h9 => absurd (by decide) h9) (fun c_2 => ?_)
  refine z_aload_n B dL_law_1051 rfl 4 rfl ?_
  refine z_iconst (v := 0) B dL_law_1052 rfl ?_
  have h_3 : Φ2 o = some (al_ G 1 g1) := ((fr2 o hyo).trans ho1)
  refine z_lald B h_3 (vin rfl) dL_law_1053 ?_
  refine z_top (st1 := [.long 511]) (congrArg (fun w9 : Int64 => ([.long w9] : List Value)) (show g1 (0 : Int32).toNatClampNeg = 511 from hg1)) ?_
  refine z_iload B dL_law_1054 0 rfl ?_
  refine z_i2l (v := 511) B dL_law_1056 (by decide +kernel) ?_
  refine z_lcmp B dL_law_1057 ?_
  refine z_top (st1 := [.int 0]) (congrArg (fun w9 : Int32 => ([.int w9] : List Value)) (show (lg_cmp 511 511 : Int32) = 0 by decide +kernel)) ?_
  refine z_if_eq (tgt := 1063) B dL_law_1058 rfl (fun c_3 => ?_) (fun h9 => absurd (by decide) h9)
  refine z_goto (tgt := 2893) B dL_law_1063 rfl ?_
  refine z_lv [2, 3, 4, 5, 6, 7] rfl ?_
  refine z_widen (k := 178) (n := 20844) (Nat.le_of_ble_eq_true rfl) (Nat.le_of_ble_eq_true rfl) ?_
  exact hT _ _

set_option maxHeartbeats 4000000 in
set_option maxRecDepth 100000 in
theorem lc_19_x {p9 : Program} {e9 : Env} {s9 : State} {m9 : MethodId} {a9 : Array Value} {w9 : List Frame} {t9 : Method} {k9 : Code} {Q9 : State → Prop} {nm9 : String} (G : EnvG) (l : Launch) (hl9 : l.stackTraces = false) (B : Bd p9 s9 m9 a9 t9 k9 G code 9 RL wsL_law ret nm9) (Φ : Hm) (sz : Nat) (b : Nat) (xs : Nat → Int32) (hX : va_X b 7 xs s9 s9.heap) (hbn : b < G.2.2.2) (x y o d : Nat) (a1 : Int32) (go : Nat → Int64) (gd : Nat → UInt64) (hna : G.2.2.2 ≤ x) (hxy : x + 149 ≤ y) (hyo : y + 26 ≤ o) (hyd : y + 26 ≤ d) (hod : o ≠ d) (hx_0 : Φ x = some (o_ 13 [.ref (x + 1), .ref (x + 3), .ref (x + 24), .ref (x + 46), .ref (x + 74), .ref (x + 80), .ref (x + 132), .ref (x + 121)])) (hx_3 : Φ (x + 3) = some (o_ 3 [.ref (x + 4), .ref (x + 5), .ref (x + 6), .ref (x + 7), .int 1, .int 511])) (hy_0 : Φ y = some (o_ 14 [.int 0, .ref (y + 1), .ref (y + 2), .int 0, .int 1, .int 1, .int 0, .int 0, .ref (y + 3), .ref (y + 4), .int 0, .long 0, .ref (y + 5), .int 0, .int 0, .long 0, .long 0, .long 0, .long 0, .ref (y + 6), .ref (y + 7), .int 0, .ref (y + 8), .int 0, .ref (y + 9), .ref (y + 10), .int 0, .ref (y + 11), .ref (y + 12), .ref (y + 13), .ref (y + 14), .ref (y + 15), .ref (y + 16), .int 0, .long (-1), .ref (y + 17), .ref (y + 18), .ref (y + 19), .ref (y + 20), .ref (y + 21), .ref (y + 22), .int 0, .ref (y + 23), .ref (y + 24), .int 0, .ref (y + 25), .int 0, .int 0, .int 0, .int (-1), .int 0, .int 0, .int 0, .long 0])) (hy_2 : Φ (y + 2) = some (ai_ G 307 (upd (upd (upd (upd (upd (upd (upd (upd (upd (upd (upd (upd (upd (upd (upd (upd (upd (upd (upd (upd (upd (fun _ => 0) (0 : Int32).toNatClampNeg 1) (1 : Int32).toNatClampNeg 100) (2 : Int32).toNatClampNeg 1000) (3 : Int32).toNatClampNeg 100) (4 : Int32).toNatClampNeg 20) (5 : Int32).toNatClampNeg 1000) (6 : Int32).toNatClampNeg 5000) (7 : Int32).toNatClampNeg 512) (8 : Int32).toNatClampNeg 1) (9 : Int32).toNatClampNeg 511) (10 : Int32).toNatClampNeg 1) (11 : Int32).toNatClampNeg 9) (15 : Int32).toNatClampNeg 0) (16 : Int32).toNatClampNeg 1) (17 : Int32).toNatClampNeg 2) (18 : Int32).toNatClampNeg 3) (19 : Int32).toNatClampNeg 4) (20 : Int32).toNatClampNeg 5) (21 : Int32).toNatClampNeg 6) (22 : Int32).toNatClampNeg 7) (23 : Int32).toNatClampNeg 8))) (hx1 : xs 1 = a1) (Fha : a1 ≠ 0) (Mhp : ¬ inP a1.toInt64 0 0) (hT : ∀ (Φ1 : Hm) (sz1 : Nat), Z p9 l e9 room_1 s9 m9 a9 w9 t9 k9 Q9 G 9 2893 [(5, .int 0), (4, .ref d), (3, .ref o), (2, .ref y), (1, .ref x), (0, .ref b)] [] Φ1 sz1 178 20844) : Z p9 l e9 room_1 s9 m9 a9 w9 t9 k9 Q9 G 9 1010 [(5, .int 0), (4, .ref d), (3, .ref o), (2, .ref y), (1, .ref x), (0, .ref b)] [] Φ sz 177 20838 := by
  refine z_aload_n B dL_law_1010 rfl 4 rfl ?_
  refine z_aload_n B dL_law_1011 rfl 5 rfl ?_
  refine z_iload B dL_law_1012 0 rfl ?_
  refine z_iconst (v := 1) B dL_law_1014 rfl ?_
  refine z_iadd B dL_law_1015 ?_
  refine z_top (st1 := [.int 1, .ref b, .ref x]) (congrArg (fun w9 : Int32 => ([.int w9, .ref b, .ref x] : List Value)) (show (0 + 1 : Int32) = 1 by decide +kernel)) ?_
  refine z_sald B hX hbn (vin rfl) dL_law_1016 ?_
  refine z_top (st1 := [.int a1, .ref x]) (congrArg (fun w9 : Int32 => ([.int w9, .ref x] : List Value)) (show xs (1 : Int32).toNatClampNeg = a1 from hx1)) ?_
  refine z_aload_n B dL_law_1017 rfl 2 rfl ?_
  refine z_callSW (As := [.ref x, .int a1, .ref o]) (rest := []) B (w_effectiveFields_x G l hl9 Φ sz x o a1 hx_0 hx_3 Fha) (vx_cwSW 3 B.1.2.2.2.2 gL_law_L_effectiveFields rfl rfl rfl (by decide +kernel) ⟨Nat.le_of_ble_eq_true rfl, Nat.le_of_ble_eq_true rfl⟩) rfl rfl (Nat.le_of_ble_eq_true rfl) dL_law_1018 ⟨Nat.le_of_ble_eq_true rfl, Nat.le_of_ble_eq_true rfl⟩ (fun v1 Φ1 sz1 st1 hp1 hs1 => ?_)
  obtain ⟨rfl, he1⟩ := hp1
  replace hs1 : st1 = [.int 1] := hs1
  subst st1
  rw [he1]
  refine z_istore (lv' := [(6, .int 1), (5, .int 0), (4, .ref d), (3, .ref o), (2, .ref y), (1, .ref x), (0, .ref b)]) B dL_law_1021 (Nat.le_of_ble_eq_true rfl) rfl ?_
  refine z_aload_n B dL_law_1023 rfl 4 rfl ?_
  refine z_aload_n B dL_law_1024 rfl 6 rfl ?_
  refine z_iload B dL_law_1025 1 rfl ?_
  refine z_iconst (v := 1) B dL_law_1027 rfl ?_
  refine z_iadd B dL_law_1028 ?_
  refine z_top (st1 := [.int 1, .ref b, .ref y]) (congrArg (fun w9 : Int32 => ([.int w9, .ref b, .ref y] : List Value)) (show (0 + 1 : Int32) = 1 by decide +kernel)) ?_
  refine z_sald B hX hbn (vin rfl) dL_law_1029 ?_
  refine z_top (st1 := [.int a1, .ref y]) (congrArg (fun w9 : Int32 => ([.int w9, .ref y] : List Value)) (show xs (1 : Int32).toNatClampNeg = a1 from hx1)) ?_
  refine z_callV (As := [.int a1]) (rest := []) B (m_X12_effectiveFields_x G l Φ sz1 y a1 hy_0 hy_2 (Nat.le_trans hna (Nat.le_trans (Nat.le_add_right x 149) hxy)) Mhp) (cwV 1 B.1.2.2.2.2 gL_law_X12_effectiveFields rfl rfl rfl (by decide +kernel) ⟨Nat.le_of_ble_eq_true rfl, Nat.le_of_ble_eq_true rfl⟩) hy_0 rfl rfl rfl rfl (Nat.le_of_ble_eq_true rfl) dL_law_1030 ⟨Nat.le_of_ble_eq_true rfl, Nat.le_of_ble_eq_true rfl⟩ (fun v2 Φ2 sz2 st2 hp2 hs2 => ?_)
  obtain ⟨rfl, ⟨fs1, hy1, hk1⟩, fr1⟩ := hp2
  replace hs2 : st2 = [.int 0] := hs2
  subst st2
  refine z_istore (lv' := [(7, .int 0), (6, .int 1), (5, .int 0), (4, .ref d), (3, .ref o), (2, .ref y), (1, .ref x), (0, .ref b)]) B dL_law_1033 (Nat.le_of_ble_eq_true rfl) rfl ?_
  refine z_aload_n B dL_law_1035 rfl 5 rfl ?_
  refine z_callV (As := []) (rest := []) B (m_thrown G l Φ2 sz2 y fs1 1 hy1 hk1) (cwV 0 B.1.2.2.2.2 gL_law_X12_thrown rfl rfl rfl (by decide +kernel) ⟨Nat.le_of_ble_eq_true rfl, Nat.le_of_ble_eq_true rfl⟩) hy1 rfl rfl rfl rfl (Nat.le_of_ble_eq_true rfl) dL_law_1036 ⟨Nat.le_of_ble_eq_true rfl, Nat.le_of_ble_eq_true rfl⟩ (fun v3 Φ3 sz3 st3 hp3 hs3 => ?_)
  obtain ⟨rfl, he2⟩ := hp3
  replace hs3 : st3 = [.int 1] := hs3
  subst st3
  rw [he2]
  refine z_iload B dL_law_1039 1 rfl ?_
  refine z_icmp_eq (tgt := 1046) B dL_law_1041 rfl (fun c_1 => ?_) (fun h9 => absurd (by decide) h9)
  refine z_iload B dL_law_1046 1 rfl ?_
  refine z_if_ne (tgt := 1063) B dL_law_1048 rfl (fun c_2 => ?_) (fun h9 => absurd h9 (by decide))
  refine z_goto (tgt := 2893) B dL_law_1063 rfl ?_
  refine z_lv [2, 3, 4, 5, 6, 7] rfl ?_
  exact hT _ _

set_option maxHeartbeats 4000000 in
set_option maxRecDepth 100000 in
theorem lc_21_0 {p9 : Program} {e9 : Env} {s9 : State} {m9 : MethodId} {a9 : Array Value} {w9 : List Frame} {t9 : Method} {k9 : Code} {Q9 : State → Prop} {nm9 : String} (G : EnvG) (l : Launch) (hl9 : l.stackTraces = false) (B : Bd p9 s9 m9 a9 t9 k9 G code 9 RL wsL_law ret nm9) (Φ : Hm) (sz : Nat) (b : Nat) (xs : Nat → Int32) (hX : va_X b 7 xs s9 s9.heap) (hbn : b < G.2.2.2) (x y o d : Nat)  (go : Nat → Int64) (gd : Nat → UInt64) (hna : G.2.2.2 ≤ x) (hxy : x + 149 ≤ y) (hyo : y + 26 ≤ o) (hyd : y + 26 ≤ d) (hod : o ≠ d) (hx_0 : Φ x = some (o_ 13 [.ref (x + 1), .ref (x + 3), .ref (x + 24), .ref (x + 46), .ref (x + 74), .ref (x + 80), .ref (x + 132), .ref (x + 121)])) (hx_3 : Φ (x + 3) = some (o_ 3 [.ref (x + 4), .ref (x + 5), .ref (x + 6), .ref (x + 7), .int 1, .int 511])) (hx_7 : Φ (x + 7) = some (aq_ G 4 4 (va_up (va_up (va_up (va_up (fun _ => none) (0 : Int32).toNatClampNeg (some (x + 10))) (1 : Int32).toNatClampNeg (some (x + 14))) (2 : Int32).toNatClampNeg (some (x + 18))) (3 : Int32).toNatClampNeg (some (x + 22))))) (hx_10 : Φ (x + 10) = some (o_ 12 [.ref (x + 11), .int 9, .int 511, .int 29])) (hy_0 : Φ y = some (o_ 14 [.int 0, .ref (y + 1), .ref (y + 2), .int 0, .int 1, .int 1, .int 0, .int 0, .ref (y + 3), .ref (y + 4), .int 0, .long 0, .ref (y + 5), .int 0, .int 0, .long 0, .long 0, .long 0, .long 0, .ref (y + 6), .ref (y + 7), .int 0, .ref (y + 8), .int 0, .ref (y + 9), .ref (y + 10), .int 0, .ref (y + 11), .ref (y + 12), .ref (y + 13), .ref (y + 14), .ref (y + 15), .ref (y + 16), .int 0, .long (-1), .ref (y + 17), .ref (y + 18), .ref (y + 19), .ref (y + 20), .ref (y + 21), .ref (y + 22), .int 0, .ref (y + 23), .ref (y + 24), .int 0, .ref (y + 25), .int 0, .int 0, .int 0, .int (-1), .int 0, .int 0, .int 0, .long 0])) (hy_2 : Φ (y + 2) = some (ai_ G 307 (upd (upd (upd (upd (upd (upd (upd (upd (upd (upd (upd (upd (upd (upd (upd (upd (upd (upd (upd (upd (upd (fun _ => 0) (0 : Int32).toNatClampNeg 1) (1 : Int32).toNatClampNeg 100) (2 : Int32).toNatClampNeg 1000) (3 : Int32).toNatClampNeg 100) (4 : Int32).toNatClampNeg 20) (5 : Int32).toNatClampNeg 1000) (6 : Int32).toNatClampNeg 5000) (7 : Int32).toNatClampNeg 512) (8 : Int32).toNatClampNeg 1) (9 : Int32).toNatClampNeg 511) (10 : Int32).toNatClampNeg 1) (11 : Int32).toNatClampNeg 9) (15 : Int32).toNatClampNeg 0) (16 : Int32).toNatClampNeg 1) (17 : Int32).toNatClampNeg 2) (18 : Int32).toNatClampNeg 3) (19 : Int32).toNatClampNeg 4) (20 : Int32).toNatClampNeg 5) (21 : Int32).toNatClampNeg 6) (22 : Int32).toNatClampNeg 7) (23 : Int32).toNatClampNeg 8))) (hco : Φ o = some (al_ G 1 go)) (hx1 : xs 1 = 0) (hT : ∀ (Φ1 : Hm) (sz1 : Nat), Z p9 l e9 room_1 s9 m9 a9 w9 t9 k9 Q9 G 9 2893 [(5, .int 0), (4, .ref d), (3, .ref o), (2, .ref y), (1, .ref x), (0, .ref b)] [] Φ1 sz1 178 20844) : Z p9 l e9 room_1 s9 m9 a9 w9 t9 k9 Q9 G 9 1134 [(5, .int 0), (4, .ref d), (3, .ref o), (2, .ref y), (1, .ref x), (0, .ref b)] [] Φ sz 177 20838 := by
  refine z_aload_n B dL_law_1134 rfl 4 rfl ?_
  refine z_aload_n B dL_law_1135 rfl 5 rfl ?_
  refine z_iload B dL_law_1136 0 rfl ?_
  refine z_iconst (v := 1) B dL_law_1138 rfl ?_
  refine z_iadd B dL_law_1139 ?_
  refine z_top (st1 := [.int 1, .ref b, .ref x]) (congrArg (fun w9 : Int32 => ([.int w9, .ref b, .ref x] : List Value)) (show (0 + 1 : Int32) = 1 by decide +kernel)) ?_
  refine z_sald B hX hbn (vin rfl) dL_law_1140 ?_
  refine z_top (st1 := [.int 0, .ref x]) (congrArg (fun w9 : Int32 => ([.int w9, .ref x] : List Value)) (show xs (1 : Int32).toNatClampNeg = 0 from hx1)) ?_
  refine z_aload_n B dL_law_1141 rfl 2 rfl ?_
  refine z_callSW (As := [.ref x, .int 0, .ref o]) (rest := []) B (w_recordLength G l Φ sz x o go hx_0 hx_3 hx_7 hx_10 hco hna (Nat.le_trans hxy (Nat.le_trans (Nat.le_add_right y 26) hyo))) (vx_cwSW 3 B.1.2.2.2.2 gL_law_L_recordLength rfl rfl rfl (by decide +kernel) ⟨Nat.le_of_ble_eq_true rfl, Nat.le_of_ble_eq_true rfl⟩) rfl rfl (Nat.le_of_ble_eq_true rfl) dL_law_1142 ⟨Nat.le_of_ble_eq_true rfl, Nat.le_of_ble_eq_true rfl⟩ (fun v1 Φ1 sz1 st1 hp1 hs1 => ?_)
  obtain ⟨rfl, fr1, g1, ho1, hg1⟩ := hp1
  replace hs1 : st1 = [.int 0] := hs1
  subst st1
  refine z_istore (lv' := [(6, .int 0), (5, .int 0), (4, .ref d), (3, .ref o), (2, .ref y), (1, .ref x), (0, .ref b)]) B dL_law_1145 (Nat.le_of_ble_eq_true rfl) rfl ?_
  refine z_aload_n B dL_law_1147 rfl 4 rfl ?_
  refine z_aload_n B dL_law_1148 rfl 6 rfl ?_
  refine z_iload B dL_law_1149 1 rfl ?_
  refine z_iconst (v := 1) B dL_law_1151 rfl ?_
  refine z_iadd B dL_law_1152 ?_
  refine z_top (st1 := [.int 1, .ref b, .ref y]) (congrArg (fun w9 : Int32 => ([.int w9, .ref b, .ref y] : List Value)) (show (0 + 1 : Int32) = 1 by decide +kernel)) ?_
  refine z_sald B hX hbn (vin rfl) dL_law_1153 ?_
  refine z_top (st1 := [.int 0, .ref y]) (congrArg (fun w9 : Int32 => ([.int w9, .ref y] : List Value)) (show xs (1 : Int32).toNatClampNeg = 0 from hx1)) ?_
  have h_1 : Φ1 y = some (o_ 14 [.int 0, .ref (y + 1), .ref (y + 2), .int 0, .int 1, .int 1, .int 0, .int 0, .ref (y + 3), .ref (y + 4), .int 0, .long 0, .ref (y + 5), .int 0, .int 0, .long 0, .long 0, .long 0, .long 0, .ref (y + 6), .ref (y + 7), .int 0, .ref (y + 8), .int 0, .ref (y + 9), .ref (y + 10), .int 0, .ref (y + 11), .ref (y + 12), .ref (y + 13), .ref (y + 14), .ref (y + 15), .ref (y + 16), .int 0, .long (-1), .ref (y + 17), .ref (y + 18), .ref (y + 19), .ref (y + 20), .ref (y + 21), .ref (y + 22), .int 0, .ref (y + 23), .ref (y + 24), .int 0, .ref (y + 25), .int 0, .int 0, .int 0, .int (-1), .int 0, .int 0, .int 0, .long 0]) := ((fr1 y hxy (Nat.ne_of_lt (Nat.lt_of_lt_of_le (lt_off (x := y) (i := 0) (j := 26) rfl) hyo))).trans hy_0)
  have h_2 : Φ1 (y + 2) = some (ai_ G 307 (upd (upd (upd (upd (upd (upd (upd (upd (upd (upd (upd (upd (upd (upd (upd (upd (upd (upd (upd (upd (upd (fun _ => 0) (0 : Int32).toNatClampNeg 1) (1 : Int32).toNatClampNeg 100) (2 : Int32).toNatClampNeg 1000) (3 : Int32).toNatClampNeg 100) (4 : Int32).toNatClampNeg 20) (5 : Int32).toNatClampNeg 1000) (6 : Int32).toNatClampNeg 5000) (7 : Int32).toNatClampNeg 512) (8 : Int32).toNatClampNeg 1) (9 : Int32).toNatClampNeg 511) (10 : Int32).toNatClampNeg 1) (11 : Int32).toNatClampNeg 9) (15 : Int32).toNatClampNeg 0) (16 : Int32).toNatClampNeg 1) (17 : Int32).toNatClampNeg 2) (18 : Int32).toNatClampNeg 3) (19 : Int32).toNatClampNeg 4) (20 : Int32).toNatClampNeg 5) (21 : Int32).toNatClampNeg 6) (22 : Int32).toNatClampNeg 7) (23 : Int32).toNatClampNeg 8)) := ((fr1 (y + 2) (Nat.le_trans hxy (Nat.le_add_right y 2)) (Nat.ne_of_lt (Nat.lt_of_lt_of_le (lt_off (x := y) (i := 2) (j := 26) rfl) hyo))).trans hy_2)
  refine z_callV (As := [.int 0]) (rest := []) B (m_X12_recordLength G l Φ1 sz1 y h_1 h_2 (Nat.le_trans hna (Nat.le_trans (Nat.le_add_right x 149) hxy))) (cwV 1 B.1.2.2.2.2 gL_law_X12_recordLength rfl rfl rfl (by decide +kernel) ⟨Nat.le_of_ble_eq_true rfl, Nat.le_of_ble_eq_true rfl⟩) h_1 rfl rfl rfl rfl (Nat.le_of_ble_eq_true rfl) dL_law_1154 ⟨Nat.le_of_ble_eq_true rfl, Nat.le_of_ble_eq_true rfl⟩ (fun v2 Φ2 sz2 st2 hp2 hs2 => ?_)
  obtain ⟨rfl, ⟨fs1, hy1, hk1⟩, fr2⟩ := hp2
  replace hs2 : st2 = [.int 29] := hs2
  subst st2
  refine z_istore (lv' := [(7, .int 29), (6, .int 0), (5, .int 0), (4, .ref d), (3, .ref o), (2, .ref y), (1, .ref x), (0, .ref b)]) B dL_law_1157 (Nat.le_of_ble_eq_true rfl) rfl ?_
  refine z_aload_n B dL_law_1159 rfl 5 rfl ?_
  refine z_callV (As := []) (rest := []) B (m_thrown G l Φ2 sz2 y fs1 0 hy1 hk1) (cwV 0 B.1.2.2.2.2 gL_law_X12_thrown rfl rfl rfl (by decide +kernel) ⟨Nat.le_of_ble_eq_true rfl, Nat.le_of_ble_eq_true rfl⟩) hy1 rfl rfl rfl rfl (Nat.le_of_ble_eq_true rfl) dL_law_1160 ⟨Nat.le_of_ble_eq_true rfl, Nat.le_of_ble_eq_true rfl⟩ (fun v3 Φ3 sz3 st3 hp3 hs3 => ?_)
  obtain ⟨rfl, he1⟩ := hp3
  replace hs3 : st3 = [.int 0] := hs3
  subst st3
  rw [he1]
  refine z_iload B dL_law_1163 1 rfl ?_
  refine z_icmp_eq (tgt := 1170) B dL_law_1165 rfl (fun c_1 => ?_) (fun h9 => absurd (by decide) h9)
  refine z_iload B dL_law_1170 1 rfl ?_
  refine z_if_ne (tgt := 1187) B dL_law_1172 rfl (fun h9 => absurd (by decide) h9) (fun c_2 => ?_)
  refine z_aload_n B dL_law_1175 rfl 4 rfl ?_
  refine z_iconst (v := 0) B dL_law_1176 rfl ?_
  have h_3 : Φ2 o = some (al_ G 1 g1) := ((fr2 o hyo).trans ho1)
  refine z_lald B h_3 (vin rfl) dL_law_1177 ?_
  refine z_top (st1 := [.long 29]) (congrArg (fun w9 : Int64 => ([.long w9] : List Value)) (show g1 (0 : Int32).toNatClampNeg = 29 from hg1)) ?_
  refine z_iload B dL_law_1178 0 rfl ?_
  refine z_i2l (v := 29) B dL_law_1180 (by decide +kernel) ?_
  refine z_lcmp B dL_law_1181 ?_
  refine z_top (st1 := [.int 0]) (congrArg (fun w9 : Int32 => ([.int w9] : List Value)) (show (lg_cmp 29 29 : Int32) = 0 by decide +kernel)) ?_
  refine z_if_eq (tgt := 1187) B dL_law_1182 rfl (fun c_3 => ?_) (fun h9 => absurd (by decide) h9)
  refine z_goto (tgt := 2893) B dL_law_1187 rfl ?_
  refine z_lv [2, 3, 4, 5, 6, 7] rfl ?_
  refine z_widen (k := 178) (n := 20844) (Nat.le_of_ble_eq_true rfl) (Nat.le_of_ble_eq_true rfl) ?_
  exact hT _ _

set_option maxHeartbeats 4000000 in
set_option maxRecDepth 100000 in
theorem lc_21_x {p9 : Program} {e9 : Env} {s9 : State} {m9 : MethodId} {a9 : Array Value} {w9 : List Frame} {t9 : Method} {k9 : Code} {Q9 : State → Prop} {nm9 : String} (G : EnvG) (l : Launch) (hl9 : l.stackTraces = false) (B : Bd p9 s9 m9 a9 t9 k9 G code 9 RL wsL_law ret nm9) (Φ : Hm) (sz : Nat) (b : Nat) (xs : Nat → Int32) (hX : va_X b 7 xs s9 s9.heap) (hbn : b < G.2.2.2) (x y o d : Nat) (a1 : Int32) (go : Nat → Int64) (gd : Nat → UInt64) (hna : G.2.2.2 ≤ x) (hxy : x + 149 ≤ y) (hyo : y + 26 ≤ o) (hyd : y + 26 ≤ d) (hod : o ≠ d) (hx_0 : Φ x = some (o_ 13 [.ref (x + 1), .ref (x + 3), .ref (x + 24), .ref (x + 46), .ref (x + 74), .ref (x + 80), .ref (x + 132), .ref (x + 121)])) (hx_3 : Φ (x + 3) = some (o_ 3 [.ref (x + 4), .ref (x + 5), .ref (x + 6), .ref (x + 7), .int 1, .int 511])) (hy_0 : Φ y = some (o_ 14 [.int 0, .ref (y + 1), .ref (y + 2), .int 0, .int 1, .int 1, .int 0, .int 0, .ref (y + 3), .ref (y + 4), .int 0, .long 0, .ref (y + 5), .int 0, .int 0, .long 0, .long 0, .long 0, .long 0, .ref (y + 6), .ref (y + 7), .int 0, .ref (y + 8), .int 0, .ref (y + 9), .ref (y + 10), .int 0, .ref (y + 11), .ref (y + 12), .ref (y + 13), .ref (y + 14), .ref (y + 15), .ref (y + 16), .int 0, .long (-1), .ref (y + 17), .ref (y + 18), .ref (y + 19), .ref (y + 20), .ref (y + 21), .ref (y + 22), .int 0, .ref (y + 23), .ref (y + 24), .int 0, .ref (y + 25), .int 0, .int 0, .int 0, .int (-1), .int 0, .int 0, .int 0, .long 0])) (hy_2 : Φ (y + 2) = some (ai_ G 307 (upd (upd (upd (upd (upd (upd (upd (upd (upd (upd (upd (upd (upd (upd (upd (upd (upd (upd (upd (upd (upd (fun _ => 0) (0 : Int32).toNatClampNeg 1) (1 : Int32).toNatClampNeg 100) (2 : Int32).toNatClampNeg 1000) (3 : Int32).toNatClampNeg 100) (4 : Int32).toNatClampNeg 20) (5 : Int32).toNatClampNeg 1000) (6 : Int32).toNatClampNeg 5000) (7 : Int32).toNatClampNeg 512) (8 : Int32).toNatClampNeg 1) (9 : Int32).toNatClampNeg 511) (10 : Int32).toNatClampNeg 1) (11 : Int32).toNatClampNeg 9) (15 : Int32).toNatClampNeg 0) (16 : Int32).toNatClampNeg 1) (17 : Int32).toNatClampNeg 2) (18 : Int32).toNatClampNeg 3) (19 : Int32).toNatClampNeg 4) (20 : Int32).toNatClampNeg 5) (21 : Int32).toNatClampNeg 6) (22 : Int32).toNatClampNeg 7) (23 : Int32).toNatClampNeg 8))) (hx1 : xs 1 = a1) (Fha : a1 ≠ 0) (Mhp : ¬ inP a1.toInt64 0 0) (hT : ∀ (Φ1 : Hm) (sz1 : Nat), Z p9 l e9 room_1 s9 m9 a9 w9 t9 k9 Q9 G 9 2893 [(5, .int 0), (4, .ref d), (3, .ref o), (2, .ref y), (1, .ref x), (0, .ref b)] [] Φ1 sz1 178 20844) : Z p9 l e9 room_1 s9 m9 a9 w9 t9 k9 Q9 G 9 1134 [(5, .int 0), (4, .ref d), (3, .ref o), (2, .ref y), (1, .ref x), (0, .ref b)] [] Φ sz 177 20838 := by
  refine z_aload_n B dL_law_1134 rfl 4 rfl ?_
  refine z_aload_n B dL_law_1135 rfl 5 rfl ?_
  refine z_iload B dL_law_1136 0 rfl ?_
  refine z_iconst (v := 1) B dL_law_1138 rfl ?_
  refine z_iadd B dL_law_1139 ?_
  refine z_top (st1 := [.int 1, .ref b, .ref x]) (congrArg (fun w9 : Int32 => ([.int w9, .ref b, .ref x] : List Value)) (show (0 + 1 : Int32) = 1 by decide +kernel)) ?_
  refine z_sald B hX hbn (vin rfl) dL_law_1140 ?_
  refine z_top (st1 := [.int a1, .ref x]) (congrArg (fun w9 : Int32 => ([.int w9, .ref x] : List Value)) (show xs (1 : Int32).toNatClampNeg = a1 from hx1)) ?_
  refine z_aload_n B dL_law_1141 rfl 2 rfl ?_
  refine z_callSW (As := [.ref x, .int a1, .ref o]) (rest := []) B (w_recordLength_x G l hl9 Φ sz x o a1 hx_0 hx_3 Fha) (vx_cwSW 3 B.1.2.2.2.2 gL_law_L_recordLength rfl rfl rfl (by decide +kernel) ⟨Nat.le_of_ble_eq_true rfl, Nat.le_of_ble_eq_true rfl⟩) rfl rfl (Nat.le_of_ble_eq_true rfl) dL_law_1142 ⟨Nat.le_of_ble_eq_true rfl, Nat.le_of_ble_eq_true rfl⟩ (fun v1 Φ1 sz1 st1 hp1 hs1 => ?_)
  obtain ⟨rfl, he1⟩ := hp1
  replace hs1 : st1 = [.int 1] := hs1
  subst st1
  rw [he1]
  refine z_istore (lv' := [(6, .int 1), (5, .int 0), (4, .ref d), (3, .ref o), (2, .ref y), (1, .ref x), (0, .ref b)]) B dL_law_1145 (Nat.le_of_ble_eq_true rfl) rfl ?_
  refine z_aload_n B dL_law_1147 rfl 4 rfl ?_
  refine z_aload_n B dL_law_1148 rfl 6 rfl ?_
  refine z_iload B dL_law_1149 1 rfl ?_
  refine z_iconst (v := 1) B dL_law_1151 rfl ?_
  refine z_iadd B dL_law_1152 ?_
  refine z_top (st1 := [.int 1, .ref b, .ref y]) (congrArg (fun w9 : Int32 => ([.int w9, .ref b, .ref y] : List Value)) (show (0 + 1 : Int32) = 1 by decide +kernel)) ?_
  refine z_sald B hX hbn (vin rfl) dL_law_1153 ?_
  refine z_top (st1 := [.int a1, .ref y]) (congrArg (fun w9 : Int32 => ([.int w9, .ref y] : List Value)) (show xs (1 : Int32).toNatClampNeg = a1 from hx1)) ?_
  refine z_callV (As := [.int a1]) (rest := []) B (m_X12_recordLength_x G l Φ sz1 y a1 hy_0 hy_2 (Nat.le_trans hna (Nat.le_trans (Nat.le_add_right x 149) hxy)) Mhp) (cwV 1 B.1.2.2.2.2 gL_law_X12_recordLength rfl rfl rfl (by decide +kernel) ⟨Nat.le_of_ble_eq_true rfl, Nat.le_of_ble_eq_true rfl⟩) hy_0 rfl rfl rfl rfl (Nat.le_of_ble_eq_true rfl) dL_law_1154 ⟨Nat.le_of_ble_eq_true rfl, Nat.le_of_ble_eq_true rfl⟩ (fun v2 Φ2 sz2 st2 hp2 hs2 => ?_)
  obtain ⟨rfl, ⟨fs1, hy1, hk1⟩, fr1⟩ := hp2
  replace hs2 : st2 = [.int 0] := hs2
  subst st2
  refine z_istore (lv' := [(7, .int 0), (6, .int 1), (5, .int 0), (4, .ref d), (3, .ref o), (2, .ref y), (1, .ref x), (0, .ref b)]) B dL_law_1157 (Nat.le_of_ble_eq_true rfl) rfl ?_
  refine z_aload_n B dL_law_1159 rfl 5 rfl ?_
  refine z_callV (As := []) (rest := []) B (m_thrown G l Φ2 sz2 y fs1 1 hy1 hk1) (cwV 0 B.1.2.2.2.2 gL_law_X12_thrown rfl rfl rfl (by decide +kernel) ⟨Nat.le_of_ble_eq_true rfl, Nat.le_of_ble_eq_true rfl⟩) hy1 rfl rfl rfl rfl (Nat.le_of_ble_eq_true rfl) dL_law_1160 ⟨Nat.le_of_ble_eq_true rfl, Nat.le_of_ble_eq_true rfl⟩ (fun v3 Φ3 sz3 st3 hp3 hs3 => ?_)
  obtain ⟨rfl, he2⟩ := hp3
  replace hs3 : st3 = [.int 1] := hs3
  subst st3
  rw [he2]
  refine z_iload B dL_law_1163 1 rfl ?_
  refine z_icmp_eq (tgt := 1170) B dL_law_1165 rfl (fun c_1 => ?_) (fun h9 => absurd (by decide) h9)
  refine z_iload B dL_law_1170 1 rfl ?_
  refine z_if_ne (tgt := 1187) B dL_law_1172 rfl (fun c_2 => ?_) (fun h9 => absurd h9 (by decide))
  refine z_goto (tgt := 2893) B dL_law_1187 rfl ?_
  refine z_lv [2, 3, 4, 5, 6, 7] rfl ?_
  exact hT _ _

set_option maxHeartbeats 4000000 in
set_option maxRecDepth 100000 in
theorem lc_24_0 {p9 : Program} {e9 : Env} {s9 : State} {m9 : MethodId} {a9 : Array Value} {w9 : List Frame} {t9 : Method} {k9 : Code} {Q9 : State → Prop} {nm9 : String} (G : EnvG) (l : Launch) (hl9 : l.stackTraces = false) (B : Bd p9 s9 m9 a9 t9 k9 G code 9 RL wsL_law ret nm9) (Φ : Hm) (sz : Nat) (b : Nat) (xs : Nat → Int32) (hX : va_X b 7 xs s9 s9.heap) (hbn : b < G.2.2.2) (x y o d : Nat)  (go : Nat → Int64) (gd : Nat → UInt64) (hna : G.2.2.2 ≤ x) (hxy : x + 149 ≤ y) (hyo : y + 26 ≤ o) (hyd : y + 26 ≤ d) (hod : o ≠ d) (hx_0 : Φ x = some (o_ 13 [.ref (x + 1), .ref (x + 3), .ref (x + 24), .ref (x + 46), .ref (x + 74), .ref (x + 80), .ref (x + 132), .ref (x + 121)])) (hx_3 : Φ (x + 3) = some (o_ 3 [.ref (x + 4), .ref (x + 5), .ref (x + 6), .ref (x + 7), .int 1, .int 511])) (hx_7 : Φ (x + 7) = some (aq_ G 4 4 (va_up (va_up (va_up (va_up (fun _ => none) (0 : Int32).toNatClampNeg (some (x + 10))) (1 : Int32).toNatClampNeg (some (x + 14))) (2 : Int32).toNatClampNeg (some (x + 18))) (3 : Int32).toNatClampNeg (some (x + 22))))) (hx_10 : Φ (x + 10) = some (o_ 12 [.ref (x + 11), .int 9, .int 511, .int 29])) (hx_74 : Φ (x + 74) = some (o_ 10 [.ref (x + 3), .ref (x + 46), .ref (x + 75), .ref (x + 77), .int 0, .ref (x + 78), .ref (x + 79), .int 0, .long 0, .int 0])) (hx_78 : Φ (x + 78) = some (ai_ G 4 (fun _ => 0))) (hx_80 : Φ (x + 80) = some (o_ 4 [.ref (x + 3), .ref (x + 74), .ref (x + 81), .ref (x + 95), .int 0, .int 1, .int 1, .int 0, .int 0, .int 0, .long 0, .long 0, .long 0])) (hy_0 : Φ y = some (o_ 14 [.int 0, .ref (y + 1), .ref (y + 2), .int 0, .int 1, .int 1, .int 0, .int 0, .ref (y + 3), .ref (y + 4), .int 0, .long 0, .ref (y + 5), .int 0, .int 0, .long 0, .long 0, .long 0, .long 0, .ref (y + 6), .ref (y + 7), .int 0, .ref (y + 8), .int 0, .ref (y + 9), .ref (y + 10), .int 0, .ref (y + 11), .ref (y + 12), .ref (y + 13), .ref (y + 14), .ref (y + 15), .ref (y + 16), .int 0, .long (-1), .ref (y + 17), .ref (y + 18), .ref (y + 19), .ref (y + 20), .ref (y + 21), .ref (y + 22), .int 0, .ref (y + 23), .ref (y + 24), .int 0, .ref (y + 25), .int 0, .int 0, .int 0, .int (-1), .int 0, .int 0, .int 0, .long 0])) (hy_2 : Φ (y + 2) = some (ai_ G 307 (upd (upd (upd (upd (upd (upd (upd (upd (upd (upd (upd (upd (upd (upd (upd (upd (upd (upd (upd (upd (upd (fun _ => 0) (0 : Int32).toNatClampNeg 1) (1 : Int32).toNatClampNeg 100) (2 : Int32).toNatClampNeg 1000) (3 : Int32).toNatClampNeg 100) (4 : Int32).toNatClampNeg 20) (5 : Int32).toNatClampNeg 1000) (6 : Int32).toNatClampNeg 5000) (7 : Int32).toNatClampNeg 512) (8 : Int32).toNatClampNeg 1) (9 : Int32).toNatClampNeg 511) (10 : Int32).toNatClampNeg 1) (11 : Int32).toNatClampNeg 9) (15 : Int32).toNatClampNeg 0) (16 : Int32).toNatClampNeg 1) (17 : Int32).toNatClampNeg 2) (18 : Int32).toNatClampNeg 3) (19 : Int32).toNatClampNeg 4) (20 : Int32).toNatClampNeg 5) (21 : Int32).toNatClampNeg 6) (22 : Int32).toNatClampNeg 7) (23 : Int32).toNatClampNeg 8))) (hy_3 : Φ (y + 3) = some (ai_ G 4 (upd (upd (upd (upd (fun _ => 0) (0 : Int32).toNatClampNeg (-1)) (1 : Int32).toNatClampNeg (-1)) (2 : Int32).toNatClampNeg (-1)) (3 : Int32).toNatClampNeg (-1)))) (hco : Φ o = some (al_ G 1 go)) (hx1 : xs 1 = 0) (hT : ∀ (Φ1 : Hm) (sz1 : Nat), Z p9 l e9 room_1 s9 m9 a9 w9 t9 k9 Q9 G 9 2893 [(5, .int 0), (4, .ref d), (3, .ref o), (2, .ref y), (1, .ref x), (0, .ref b)] [] Φ1 sz1 178 20844) : Z p9 l e9 room_1 s9 m9 a9 w9 t9 k9 Q9 G 9 1292 [(5, .int 0), (4, .ref d), (3, .ref o), (2, .ref y), (1, .ref x), (0, .ref b)] [] Φ sz 177 20838 := by
  refine z_aload_n B dL_law_1292 rfl 4 rfl ?_
  refine z_aload_n B dL_law_1293 rfl 5 rfl ?_
  refine z_iload B dL_law_1294 0 rfl ?_
  refine z_iconst (v := 1) B dL_law_1296 rfl ?_
  refine z_iadd B dL_law_1297 ?_
  refine z_top (st1 := [.int 1, .ref b, .ref x]) (congrArg (fun w9 : Int32 => ([.int w9, .ref b, .ref x] : List Value)) (show (0 + 1 : Int32) = 1 by decide +kernel)) ?_
  refine z_sald B hX hbn (vin rfl) dL_law_1298 ?_
  refine z_top (st1 := [.int 0, .ref x]) (congrArg (fun w9 : Int32 => ([.int w9, .ref x] : List Value)) (show xs (1 : Int32).toNatClampNeg = 0 from hx1)) ?_
  refine z_aload_n B dL_law_1299 rfl 2 rfl ?_
  refine z_callSW (As := [.ref x, .int 0, .ref o]) (rest := []) B (w_isDue G l Φ sz x o go hx_0 hx_3 hx_7 hx_10 hx_74 hx_78 hx_80 hco hna (Nat.le_trans hxy (Nat.le_trans (Nat.le_add_right y 26) hyo))) (vx_cwSW 3 B.1.2.2.2.2 gL_law_L_isDue rfl rfl rfl (by decide +kernel) ⟨Nat.le_of_ble_eq_true rfl, Nat.le_of_ble_eq_true rfl⟩) rfl rfl (Nat.le_of_ble_eq_true rfl) dL_law_1300 ⟨Nat.le_of_ble_eq_true rfl, Nat.le_of_ble_eq_true rfl⟩ (fun v1 Φ1 sz1 st1 hp1 hs1 => ?_)
  obtain ⟨rfl, fr1, g1, ho1, hg1⟩ := hp1
  replace hs1 : st1 = [.int 0] := hs1
  subst st1
  refine z_istore (lv' := [(6, .int 0), (5, .int 0), (4, .ref d), (3, .ref o), (2, .ref y), (1, .ref x), (0, .ref b)]) B dL_law_1303 (Nat.le_of_ble_eq_true rfl) rfl ?_
  refine z_aload_n B dL_law_1305 rfl 4 rfl ?_
  refine z_aload_n B dL_law_1306 rfl 6 rfl ?_
  refine z_iload B dL_law_1307 1 rfl ?_
  refine z_iconst (v := 1) B dL_law_1309 rfl ?_
  refine z_iadd B dL_law_1310 ?_
  refine z_top (st1 := [.int 1, .ref b, .ref y]) (congrArg (fun w9 : Int32 => ([.int w9, .ref b, .ref y] : List Value)) (show (0 + 1 : Int32) = 1 by decide +kernel)) ?_
  refine z_sald B hX hbn (vin rfl) dL_law_1311 ?_
  refine z_top (st1 := [.int 0, .ref y]) (congrArg (fun w9 : Int32 => ([.int w9, .ref y] : List Value)) (show xs (1 : Int32).toNatClampNeg = 0 from hx1)) ?_
  have h_1 : Φ1 y = some (o_ 14 [.int 0, .ref (y + 1), .ref (y + 2), .int 0, .int 1, .int 1, .int 0, .int 0, .ref (y + 3), .ref (y + 4), .int 0, .long 0, .ref (y + 5), .int 0, .int 0, .long 0, .long 0, .long 0, .long 0, .ref (y + 6), .ref (y + 7), .int 0, .ref (y + 8), .int 0, .ref (y + 9), .ref (y + 10), .int 0, .ref (y + 11), .ref (y + 12), .ref (y + 13), .ref (y + 14), .ref (y + 15), .ref (y + 16), .int 0, .long (-1), .ref (y + 17), .ref (y + 18), .ref (y + 19), .ref (y + 20), .ref (y + 21), .ref (y + 22), .int 0, .ref (y + 23), .ref (y + 24), .int 0, .ref (y + 25), .int 0, .int 0, .int 0, .int (-1), .int 0, .int 0, .int 0, .long 0]) := ((fr1 y hxy (Nat.ne_of_lt (Nat.lt_of_lt_of_le (lt_off (x := y) (i := 0) (j := 26) rfl) hyo))).trans hy_0)
  have h_2 : Φ1 (y + 2) = some (ai_ G 307 (upd (upd (upd (upd (upd (upd (upd (upd (upd (upd (upd (upd (upd (upd (upd (upd (upd (upd (upd (upd (upd (fun _ => 0) (0 : Int32).toNatClampNeg 1) (1 : Int32).toNatClampNeg 100) (2 : Int32).toNatClampNeg 1000) (3 : Int32).toNatClampNeg 100) (4 : Int32).toNatClampNeg 20) (5 : Int32).toNatClampNeg 1000) (6 : Int32).toNatClampNeg 5000) (7 : Int32).toNatClampNeg 512) (8 : Int32).toNatClampNeg 1) (9 : Int32).toNatClampNeg 511) (10 : Int32).toNatClampNeg 1) (11 : Int32).toNatClampNeg 9) (15 : Int32).toNatClampNeg 0) (16 : Int32).toNatClampNeg 1) (17 : Int32).toNatClampNeg 2) (18 : Int32).toNatClampNeg 3) (19 : Int32).toNatClampNeg 4) (20 : Int32).toNatClampNeg 5) (21 : Int32).toNatClampNeg 6) (22 : Int32).toNatClampNeg 7) (23 : Int32).toNatClampNeg 8)) := ((fr1 (y + 2) (Nat.le_trans hxy (Nat.le_add_right y 2)) (Nat.ne_of_lt (Nat.lt_of_lt_of_le (lt_off (x := y) (i := 2) (j := 26) rfl) hyo))).trans hy_2)
  have h_3 : Φ1 (y + 3) = some (ai_ G 4 (upd (upd (upd (upd (fun _ => 0) (0 : Int32).toNatClampNeg (-1)) (1 : Int32).toNatClampNeg (-1)) (2 : Int32).toNatClampNeg (-1)) (3 : Int32).toNatClampNeg (-1))) := ((fr1 (y + 3) (Nat.le_trans hxy (Nat.le_add_right y 3)) (Nat.ne_of_lt (Nat.lt_of_lt_of_le (lt_off (x := y) (i := 3) (j := 26) rfl) hyo))).trans hy_3)
  refine z_callV (As := [.int 0]) (rest := []) B (m_X12_isDue G l Φ1 sz1 y h_1 h_2 h_3 (Nat.le_trans hna (Nat.le_trans (Nat.le_add_right x 149) hxy))) (cwV 1 B.1.2.2.2.2 gL_law_X12_isDue rfl rfl rfl (by decide +kernel) ⟨Nat.le_of_ble_eq_true rfl, Nat.le_of_ble_eq_true rfl⟩) h_1 rfl rfl rfl rfl (Nat.le_of_ble_eq_true rfl) dL_law_1312 ⟨Nat.le_of_ble_eq_true rfl, Nat.le_of_ble_eq_true rfl⟩ (fun v2 Φ2 sz2 st2 hp2 hs2 => ?_)
  obtain ⟨rfl, ⟨fs1, hy1, hk1⟩, fr2⟩ := hp2
  replace hs2 : st2 = [.int 1] := hs2
  subst st2
  refine z_istore (lv' := [(7, .int 1), (6, .int 0), (5, .int 0), (4, .ref d), (3, .ref o), (2, .ref y), (1, .ref x), (0, .ref b)]) B dL_law_1315 (Nat.le_of_ble_eq_true rfl) rfl ?_
  refine z_aload_n B dL_law_1317 rfl 5 rfl ?_
  refine z_callV (As := []) (rest := []) B (m_thrown G l Φ2 sz2 y fs1 0 hy1 hk1) (cwV 0 B.1.2.2.2.2 gL_law_X12_thrown rfl rfl rfl (by decide +kernel) ⟨Nat.le_of_ble_eq_true rfl, Nat.le_of_ble_eq_true rfl⟩) hy1 rfl rfl rfl rfl (Nat.le_of_ble_eq_true rfl) dL_law_1318 ⟨Nat.le_of_ble_eq_true rfl, Nat.le_of_ble_eq_true rfl⟩ (fun v3 Φ3 sz3 st3 hp3 hs3 => ?_)
  obtain ⟨rfl, he1⟩ := hp3
  replace hs3 : st3 = [.int 0] := hs3
  subst st3
  rw [he1]
  refine z_iload B dL_law_1321 1 rfl ?_
  refine z_icmp_eq (tgt := 1328) B dL_law_1323 rfl (fun c_1 => ?_) (fun h9 => absurd (by decide) h9)
  refine z_iload B dL_law_1328 1 rfl ?_
  refine z_if_ne (tgt := 1352) B dL_law_1330 rfl (fun h9 => absurd (by decide) h9) (fun c_2 => ?_)
  refine z_aload_n B dL_law_1333 rfl 4 rfl ?_
  refine z_iconst (v := 0) B dL_law_1334 rfl ?_
  have h_4 : Φ2 o = some (al_ G 1 g1) := ((fr2 o hyo).trans ho1)
  refine z_lald B h_4 (vin rfl) dL_law_1335 ?_
  refine z_top (st1 := [.long 1]) (congrArg (fun w9 : Int64 => ([.long w9] : List Value)) (show g1 (0 : Int32).toNatClampNeg = 1 from hg1)) ?_
  refine z_iload B dL_law_1336 0 rfl ?_
  refine z_if_eq (tgt := 1345) B dL_law_1338 rfl (fun h9 => absurd h9 (by decide)) (fun c_3 => ?_)
  refine z_lconst (v := 1) B dL_law_1341 rfl ?_
  refine z_goto (tgt := 1346) B dL_law_1342 rfl ?_
  refine z_lcmp B dL_law_1346 ?_
  refine z_top (st1 := [.int 0]) (congrArg (fun w9 : Int32 => ([.int w9] : List Value)) (show (lg_cmp 1 1 : Int32) = 0 by decide +kernel)) ?_
  refine z_if_eq (tgt := 1352) B dL_law_1347 rfl (fun c_4 => ?_) (fun h9 => absurd (by decide) h9)
  refine z_goto (tgt := 2893) B dL_law_1352 rfl ?_
  refine z_lv [2, 3, 4, 5, 6, 7] rfl ?_
  refine z_widen (k := 178) (n := 20844) (Nat.le_of_ble_eq_true rfl) (Nat.le_of_ble_eq_true rfl) ?_
  exact hT _ _

set_option maxHeartbeats 4000000 in
set_option maxRecDepth 100000 in
theorem lc_24_x {p9 : Program} {e9 : Env} {s9 : State} {m9 : MethodId} {a9 : Array Value} {w9 : List Frame} {t9 : Method} {k9 : Code} {Q9 : State → Prop} {nm9 : String} (G : EnvG) (l : Launch) (hl9 : l.stackTraces = false) (B : Bd p9 s9 m9 a9 t9 k9 G code 9 RL wsL_law ret nm9) (Φ : Hm) (sz : Nat) (b : Nat) (xs : Nat → Int32) (hX : va_X b 7 xs s9 s9.heap) (hbn : b < G.2.2.2) (x y o d : Nat) (a1 : Int32) (go : Nat → Int64) (gd : Nat → UInt64) (hna : G.2.2.2 ≤ x) (hxy : x + 149 ≤ y) (hyo : y + 26 ≤ o) (hyd : y + 26 ≤ d) (hod : o ≠ d) (hx_0 : Φ x = some (o_ 13 [.ref (x + 1), .ref (x + 3), .ref (x + 24), .ref (x + 46), .ref (x + 74), .ref (x + 80), .ref (x + 132), .ref (x + 121)])) (hx_3 : Φ (x + 3) = some (o_ 3 [.ref (x + 4), .ref (x + 5), .ref (x + 6), .ref (x + 7), .int 1, .int 511])) (hy_0 : Φ y = some (o_ 14 [.int 0, .ref (y + 1), .ref (y + 2), .int 0, .int 1, .int 1, .int 0, .int 0, .ref (y + 3), .ref (y + 4), .int 0, .long 0, .ref (y + 5), .int 0, .int 0, .long 0, .long 0, .long 0, .long 0, .ref (y + 6), .ref (y + 7), .int 0, .ref (y + 8), .int 0, .ref (y + 9), .ref (y + 10), .int 0, .ref (y + 11), .ref (y + 12), .ref (y + 13), .ref (y + 14), .ref (y + 15), .ref (y + 16), .int 0, .long (-1), .ref (y + 17), .ref (y + 18), .ref (y + 19), .ref (y + 20), .ref (y + 21), .ref (y + 22), .int 0, .ref (y + 23), .ref (y + 24), .int 0, .ref (y + 25), .int 0, .int 0, .int 0, .int (-1), .int 0, .int 0, .int 0, .long 0])) (hy_2 : Φ (y + 2) = some (ai_ G 307 (upd (upd (upd (upd (upd (upd (upd (upd (upd (upd (upd (upd (upd (upd (upd (upd (upd (upd (upd (upd (upd (fun _ => 0) (0 : Int32).toNatClampNeg 1) (1 : Int32).toNatClampNeg 100) (2 : Int32).toNatClampNeg 1000) (3 : Int32).toNatClampNeg 100) (4 : Int32).toNatClampNeg 20) (5 : Int32).toNatClampNeg 1000) (6 : Int32).toNatClampNeg 5000) (7 : Int32).toNatClampNeg 512) (8 : Int32).toNatClampNeg 1) (9 : Int32).toNatClampNeg 511) (10 : Int32).toNatClampNeg 1) (11 : Int32).toNatClampNeg 9) (15 : Int32).toNatClampNeg 0) (16 : Int32).toNatClampNeg 1) (17 : Int32).toNatClampNeg 2) (18 : Int32).toNatClampNeg 3) (19 : Int32).toNatClampNeg 4) (20 : Int32).toNatClampNeg 5) (21 : Int32).toNatClampNeg 6) (22 : Int32).toNatClampNeg 7) (23 : Int32).toNatClampNeg 8))) (hx1 : xs 1 = a1) (Fha : a1 ≠ 0) (Mhp : ¬ inP a1.toInt64 0 0) (hT : ∀ (Φ1 : Hm) (sz1 : Nat), Z p9 l e9 room_1 s9 m9 a9 w9 t9 k9 Q9 G 9 2893 [(5, .int 0), (4, .ref d), (3, .ref o), (2, .ref y), (1, .ref x), (0, .ref b)] [] Φ1 sz1 178 20844) : Z p9 l e9 room_1 s9 m9 a9 w9 t9 k9 Q9 G 9 1292 [(5, .int 0), (4, .ref d), (3, .ref o), (2, .ref y), (1, .ref x), (0, .ref b)] [] Φ sz 177 20838 := by
  refine z_aload_n B dL_law_1292 rfl 4 rfl ?_
  refine z_aload_n B dL_law_1293 rfl 5 rfl ?_
  refine z_iload B dL_law_1294 0 rfl ?_
  refine z_iconst (v := 1) B dL_law_1296 rfl ?_
  refine z_iadd B dL_law_1297 ?_
  refine z_top (st1 := [.int 1, .ref b, .ref x]) (congrArg (fun w9 : Int32 => ([.int w9, .ref b, .ref x] : List Value)) (show (0 + 1 : Int32) = 1 by decide +kernel)) ?_
  refine z_sald B hX hbn (vin rfl) dL_law_1298 ?_
  refine z_top (st1 := [.int a1, .ref x]) (congrArg (fun w9 : Int32 => ([.int w9, .ref x] : List Value)) (show xs (1 : Int32).toNatClampNeg = a1 from hx1)) ?_
  refine z_aload_n B dL_law_1299 rfl 2 rfl ?_
  refine z_callSW (As := [.ref x, .int a1, .ref o]) (rest := []) B (w_isDue_x G l hl9 Φ sz x o a1 hx_0 hx_3 Fha) (vx_cwSW 3 B.1.2.2.2.2 gL_law_L_isDue rfl rfl rfl (by decide +kernel) ⟨Nat.le_of_ble_eq_true rfl, Nat.le_of_ble_eq_true rfl⟩) rfl rfl (Nat.le_of_ble_eq_true rfl) dL_law_1300 ⟨Nat.le_of_ble_eq_true rfl, Nat.le_of_ble_eq_true rfl⟩ (fun v1 Φ1 sz1 st1 hp1 hs1 => ?_)
  obtain ⟨rfl, he1⟩ := hp1
  replace hs1 : st1 = [.int 1] := hs1
  subst st1
  rw [he1]
  refine z_istore (lv' := [(6, .int 1), (5, .int 0), (4, .ref d), (3, .ref o), (2, .ref y), (1, .ref x), (0, .ref b)]) B dL_law_1303 (Nat.le_of_ble_eq_true rfl) rfl ?_
  refine z_aload_n B dL_law_1305 rfl 4 rfl ?_
  refine z_aload_n B dL_law_1306 rfl 6 rfl ?_
  refine z_iload B dL_law_1307 1 rfl ?_
  refine z_iconst (v := 1) B dL_law_1309 rfl ?_
  refine z_iadd B dL_law_1310 ?_
  refine z_top (st1 := [.int 1, .ref b, .ref y]) (congrArg (fun w9 : Int32 => ([.int w9, .ref b, .ref y] : List Value)) (show (0 + 1 : Int32) = 1 by decide +kernel)) ?_
  refine z_sald B hX hbn (vin rfl) dL_law_1311 ?_
  refine z_top (st1 := [.int a1, .ref y]) (congrArg (fun w9 : Int32 => ([.int w9, .ref y] : List Value)) (show xs (1 : Int32).toNatClampNeg = a1 from hx1)) ?_
  refine z_callV (As := [.int a1]) (rest := []) B (m_X12_isDue_x G l Φ sz1 y a1 hy_0 hy_2 (Nat.le_trans hna (Nat.le_trans (Nat.le_add_right x 149) hxy)) Mhp) (cwV 1 B.1.2.2.2.2 gL_law_X12_isDue rfl rfl rfl (by decide +kernel) ⟨Nat.le_of_ble_eq_true rfl, Nat.le_of_ble_eq_true rfl⟩) hy_0 rfl rfl rfl rfl (Nat.le_of_ble_eq_true rfl) dL_law_1312 ⟨Nat.le_of_ble_eq_true rfl, Nat.le_of_ble_eq_true rfl⟩ (fun v2 Φ2 sz2 st2 hp2 hs2 => ?_)
  obtain ⟨rfl, ⟨fs1, hy1, hk1⟩, fr1⟩ := hp2
  replace hs2 : st2 = [.int 0] := hs2
  subst st2
  refine z_istore (lv' := [(7, .int 0), (6, .int 1), (5, .int 0), (4, .ref d), (3, .ref o), (2, .ref y), (1, .ref x), (0, .ref b)]) B dL_law_1315 (Nat.le_of_ble_eq_true rfl) rfl ?_
  refine z_aload_n B dL_law_1317 rfl 5 rfl ?_
  refine z_callV (As := []) (rest := []) B (m_thrown G l Φ2 sz2 y fs1 1 hy1 hk1) (cwV 0 B.1.2.2.2.2 gL_law_X12_thrown rfl rfl rfl (by decide +kernel) ⟨Nat.le_of_ble_eq_true rfl, Nat.le_of_ble_eq_true rfl⟩) hy1 rfl rfl rfl rfl (Nat.le_of_ble_eq_true rfl) dL_law_1318 ⟨Nat.le_of_ble_eq_true rfl, Nat.le_of_ble_eq_true rfl⟩ (fun v3 Φ3 sz3 st3 hp3 hs3 => ?_)
  obtain ⟨rfl, he2⟩ := hp3
  replace hs3 : st3 = [.int 1] := hs3
  subst st3
  rw [he2]
  refine z_iload B dL_law_1321 1 rfl ?_
  refine z_icmp_eq (tgt := 1328) B dL_law_1323 rfl (fun c_1 => ?_) (fun h9 => absurd (by decide) h9)
  refine z_iload B dL_law_1328 1 rfl ?_
  refine z_if_ne (tgt := 1352) B dL_law_1330 rfl (fun c_2 => ?_) (fun h9 => absurd h9 (by decide))
  refine z_goto (tgt := 2893) B dL_law_1352 rfl ?_
  refine z_lv [2, 3, 4, 5, 6, 7] rfl ?_
  exact hT _ _

set_option maxHeartbeats 4000000 in
set_option maxRecDepth 100000 in
theorem lc_20_x {p9 : Program} {e9 : Env} {s9 : State} {m9 : MethodId} {a9 : Array Value} {w9 : List Frame} {t9 : Method} {k9 : Code} {Q9 : State → Prop} {nm9 : String} (G : EnvG) (l : Launch) (hl9 : l.stackTraces = false) (B : Bd p9 s9 m9 a9 t9 k9 G code 9 RL wsL_law ret nm9) (Φ : Hm) (sz : Nat) (b : Nat) (xs : Nat → Int32) (hX : va_X b 7 xs s9 s9.heap) (hbn : b < G.2.2.2) (x y o d : Nat) (a1 : Int32) (a2 : Int32) (go : Nat → Int64) (gd : Nat → UInt64) (hna : G.2.2.2 ≤ x) (hxy : x + 149 ≤ y) (hyo : y + 26 ≤ o) (hyd : y + 26 ≤ d) (hod : o ≠ d) (hx_0 : Φ x = some (o_ 13 [.ref (x + 1), .ref (x + 3), .ref (x + 24), .ref (x + 46), .ref (x + 74), .ref (x + 80), .ref (x + 132), .ref (x + 121)])) (hx_3 : Φ (x + 3) = some (o_ 3 [.ref (x + 4), .ref (x + 5), .ref (x + 6), .ref (x + 7), .int 1, .int 511])) (hy_0 : Φ y = some (o_ 14 [.int 0, .ref (y + 1), .ref (y + 2), .int 0, .int 1, .int 1, .int 0, .int 0, .ref (y + 3), .ref (y + 4), .int 0, .long 0, .ref (y + 5), .int 0, .int 0, .long 0, .long 0, .long 0, .long 0, .ref (y + 6), .ref (y + 7), .int 0, .ref (y + 8), .int 0, .ref (y + 9), .ref (y + 10), .int 0, .ref (y + 11), .ref (y + 12), .ref (y + 13), .ref (y + 14), .ref (y + 15), .ref (y + 16), .int 0, .long (-1), .ref (y + 17), .ref (y + 18), .ref (y + 19), .ref (y + 20), .ref (y + 21), .ref (y + 22), .int 0, .ref (y + 23), .ref (y + 24), .int 0, .ref (y + 25), .int 0, .int 0, .int 0, .int (-1), .int 0, .int 0, .int 0, .long 0])) (hy_2 : Φ (y + 2) = some (ai_ G 307 (upd (upd (upd (upd (upd (upd (upd (upd (upd (upd (upd (upd (upd (upd (upd (upd (upd (upd (upd (upd (upd (fun _ => 0) (0 : Int32).toNatClampNeg 1) (1 : Int32).toNatClampNeg 100) (2 : Int32).toNatClampNeg 1000) (3 : Int32).toNatClampNeg 100) (4 : Int32).toNatClampNeg 20) (5 : Int32).toNatClampNeg 1000) (6 : Int32).toNatClampNeg 5000) (7 : Int32).toNatClampNeg 512) (8 : Int32).toNatClampNeg 1) (9 : Int32).toNatClampNeg 511) (10 : Int32).toNatClampNeg 1) (11 : Int32).toNatClampNeg 9) (15 : Int32).toNatClampNeg 0) (16 : Int32).toNatClampNeg 1) (17 : Int32).toNatClampNeg 2) (18 : Int32).toNatClampNeg 3) (19 : Int32).toNatClampNeg 4) (20 : Int32).toNatClampNeg 5) (21 : Int32).toNatClampNeg 6) (22 : Int32).toNatClampNeg 7) (23 : Int32).toNatClampNeg 8))) (hx1 : xs 1 = a1) (hx2 : xs 2 = a2) (Fha : a1 ≠ 0) (Mhp : ¬ inP a1.toInt64 0 0) (hT : ∀ (Φ1 : Hm) (sz1 : Nat), Z p9 l e9 room_1 s9 m9 a9 w9 t9 k9 Q9 G 9 2893 [(5, .int 0), (4, .ref d), (3, .ref o), (2, .ref y), (1, .ref x), (0, .ref b)] [] Φ1 sz1 178 20844) : Z p9 l e9 room_1 s9 m9 a9 w9 t9 k9 Q9 G 9 1066 [(5, .int 0), (4, .ref d), (3, .ref o), (2, .ref y), (1, .ref x), (0, .ref b)] [] Φ sz 177 20838 := by
  refine z_aload_n B dL_law_1066 rfl 4 rfl ?_
  refine z_aload_n B dL_law_1067 rfl 5 rfl ?_
  refine z_iload B dL_law_1068 0 rfl ?_
  refine z_iconst (v := 1) B dL_law_1070 rfl ?_
  refine z_iadd B dL_law_1071 ?_
  refine z_top (st1 := [.int 1, .ref b, .ref x]) (congrArg (fun w9 : Int32 => ([.int w9, .ref b, .ref x] : List Value)) (show (0 + 1 : Int32) = 1 by decide +kernel)) ?_
  refine z_sald B hX hbn (vin rfl) dL_law_1072 ?_
  refine z_top (st1 := [.int a1, .ref x]) (congrArg (fun w9 : Int32 => ([.int w9, .ref x] : List Value)) (show xs (1 : Int32).toNatClampNeg = a1 from hx1)) ?_
  refine z_aload_n B dL_law_1073 rfl 5 rfl ?_
  refine z_iload B dL_law_1074 0 rfl ?_
  refine z_iconst (v := 2) B dL_law_1076 rfl ?_
  refine z_iadd B dL_law_1077 ?_
  refine z_top (st1 := [.int 2, .ref b, .int a1, .ref x]) (congrArg (fun w9 : Int32 => ([.int w9, .ref b, .int a1, .ref x] : List Value)) (show (0 + 2 : Int32) = 2 by decide +kernel)) ?_
  refine z_sald B hX hbn (vin rfl) dL_law_1078 ?_
  refine z_top (st1 := [.int a2, .int a1, .ref x]) (congrArg (fun w9 : Int32 => ([.int w9, .int a1, .ref x] : List Value)) (show xs (2 : Int32).toNatClampNeg = a2 from hx2)) ?_
  refine z_aload_n B dL_law_1079 rfl 2 rfl ?_
  refine z_callSW (As := [.ref x, .int a1, .int a2, .ref o]) (rest := []) B (w_fieldAt_x G l hl9 Φ sz x o a1 a2 hx_0 hx_3 Fha) (vx_cwSW 4 B.1.2.2.2.2 gL_law_L_fieldAt rfl rfl rfl (by decide +kernel) ⟨Nat.le_of_ble_eq_true rfl, Nat.le_of_ble_eq_true rfl⟩) rfl rfl (Nat.le_of_ble_eq_true rfl) dL_law_1080 ⟨Nat.le_of_ble_eq_true rfl, Nat.le_of_ble_eq_true rfl⟩ (fun v1 Φ1 sz1 st1 hp1 hs1 => ?_)
  obtain ⟨rfl, he1⟩ := hp1
  replace hs1 : st1 = [.int 1] := hs1
  subst st1
  rw [he1]
  refine z_istore (lv' := [(6, .int 1), (5, .int 0), (4, .ref d), (3, .ref o), (2, .ref y), (1, .ref x), (0, .ref b)]) B dL_law_1083 (Nat.le_of_ble_eq_true rfl) rfl ?_
  refine z_aload_n B dL_law_1085 rfl 4 rfl ?_
  refine z_aload_n B dL_law_1086 rfl 6 rfl ?_
  refine z_iload B dL_law_1087 1 rfl ?_
  refine z_iconst (v := 1) B dL_law_1089 rfl ?_
  refine z_iadd B dL_law_1090 ?_
  refine z_top (st1 := [.int 1, .ref b, .ref y]) (congrArg (fun w9 : Int32 => ([.int w9, .ref b, .ref y] : List Value)) (show (0 + 1 : Int32) = 1 by decide +kernel)) ?_
  refine z_sald B hX hbn (vin rfl) dL_law_1091 ?_
  refine z_top (st1 := [.int a1, .ref y]) (congrArg (fun w9 : Int32 => ([.int w9, .ref y] : List Value)) (show xs (1 : Int32).toNatClampNeg = a1 from hx1)) ?_
  refine z_aload_n B dL_law_1092 rfl 6 rfl ?_
  refine z_iload B dL_law_1093 1 rfl ?_
  refine z_iconst (v := 2) B dL_law_1095 rfl ?_
  refine z_iadd B dL_law_1096 ?_
  refine z_top (st1 := [.int 2, .ref b, .int a1, .ref y]) (congrArg (fun w9 : Int32 => ([.int w9, .ref b, .int a1, .ref y] : List Value)) (show (0 + 2 : Int32) = 2 by decide +kernel)) ?_
  refine z_sald B hX hbn (vin rfl) dL_law_1097 ?_
  refine z_top (st1 := [.int a2, .int a1, .ref y]) (congrArg (fun w9 : Int32 => ([.int w9, .int a1, .ref y] : List Value)) (show xs (2 : Int32).toNatClampNeg = a2 from hx2)) ?_
  refine z_callV (As := [.int a1, .int a2]) (rest := []) B (m_X12_fieldAt_x G l Φ sz1 y a1 a2 hy_0 hy_2 (Nat.le_trans hna (Nat.le_trans (Nat.le_add_right x 149) hxy)) Mhp) (cwV 2 B.1.2.2.2.2 gL_law_X12_fieldAt rfl rfl rfl (by decide +kernel) ⟨Nat.le_of_ble_eq_true rfl, Nat.le_of_ble_eq_true rfl⟩) hy_0 rfl rfl rfl rfl (Nat.le_of_ble_eq_true rfl) dL_law_1098 ⟨Nat.le_of_ble_eq_true rfl, Nat.le_of_ble_eq_true rfl⟩ (fun v2 Φ2 sz2 st2 hp2 hs2 => ?_)
  obtain ⟨rfl, ⟨fs1, hy1, hk1⟩, fr1⟩ := hp2
  replace hs2 : st2 = [.int 0] := hs2
  subst st2
  refine z_istore (lv' := [(7, .int 0), (6, .int 1), (5, .int 0), (4, .ref d), (3, .ref o), (2, .ref y), (1, .ref x), (0, .ref b)]) B dL_law_1101 (Nat.le_of_ble_eq_true rfl) rfl ?_
  refine z_aload_n B dL_law_1103 rfl 5 rfl ?_
  refine z_callV (As := []) (rest := []) B (m_thrown G l Φ2 sz2 y fs1 1 hy1 hk1) (cwV 0 B.1.2.2.2.2 gL_law_X12_thrown rfl rfl rfl (by decide +kernel) ⟨Nat.le_of_ble_eq_true rfl, Nat.le_of_ble_eq_true rfl⟩) hy1 rfl rfl rfl rfl (Nat.le_of_ble_eq_true rfl) dL_law_1104 ⟨Nat.le_of_ble_eq_true rfl, Nat.le_of_ble_eq_true rfl⟩ (fun v3 Φ3 sz3 st3 hp3 hs3 => ?_)
  obtain ⟨rfl, he2⟩ := hp3
  replace hs3 : st3 = [.int 1] := hs3
  subst st3
  rw [he2]
  refine z_iload B dL_law_1107 1 rfl ?_
  refine z_icmp_eq (tgt := 1114) B dL_law_1109 rfl (fun c_1 => ?_) (fun h9 => absurd (by decide) h9)
  refine z_iload B dL_law_1114 1 rfl ?_
  refine z_if_ne (tgt := 1131) B dL_law_1116 rfl (fun c_2 => ?_) (fun h9 => absurd h9 (by decide))
  refine z_goto (tgt := 2893) B dL_law_1131 rfl ?_
  refine z_lv [2, 3, 4, 5, 6, 7] rfl ?_
  exact hT _ _

set_option maxHeartbeats 4000000 in
set_option maxRecDepth 100000 in
theorem lc_20_0 {p9 : Program} {e9 : Env} {s9 : State} {m9 : MethodId} {a9 : Array Value} {w9 : List Frame} {t9 : Method} {k9 : Code} {Q9 : State → Prop} {nm9 : String} (G : EnvG) (l : Launch) (hl9 : l.stackTraces = false) (B : Bd p9 s9 m9 a9 t9 k9 G code 9 RL wsL_law ret nm9) (Φ : Hm) (sz : Nat) (b : Nat) (xs : Nat → Int32) (hX : va_X b 7 xs s9 s9.heap) (hbn : b < G.2.2.2) (x y o d : Nat)  (go : Nat → Int64) (gd : Nat → UInt64) (hna : G.2.2.2 ≤ x) (hxy : x + 149 ≤ y) (hyo : y + 26 ≤ o) (hyd : y + 26 ≤ d) (hod : o ≠ d) (hx_0 : Φ x = some (o_ 13 [.ref (x + 1), .ref (x + 3), .ref (x + 24), .ref (x + 46), .ref (x + 74), .ref (x + 80), .ref (x + 132), .ref (x + 121)])) (hx_3 : Φ (x + 3) = some (o_ 3 [.ref (x + 4), .ref (x + 5), .ref (x + 6), .ref (x + 7), .int 1, .int 511])) (hx_6 : Φ (x + 6) = some (aq_ G 4 4 (va_up (va_up (va_up (va_up (fun _ => none) (0 : Int32).toNatClampNeg (some (x + 8))) (1 : Int32).toNatClampNeg (some (x + 12))) (2 : Int32).toNatClampNeg (some (x + 16))) (3 : Int32).toNatClampNeg (some (x + 20))))) (hx_8 : Φ (x + 8) = some (o_ 12 [.ref (x + 9), .int 9, .int 511, .int 29])) (hx_9 : Φ (x + 9) = some (ai_ G 9 (upd (upd (upd (upd (upd (upd (upd (upd (upd (fun _ => 0) (0 : Int32).toNatClampNeg 0) (1 : Int32).toNatClampNeg 1) (2 : Int32).toNatClampNeg 2) (3 : Int32).toNatClampNeg 3) (4 : Int32).toNatClampNeg 4) (5 : Int32).toNatClampNeg 5) (6 : Int32).toNatClampNeg 6) (7 : Int32).toNatClampNeg 7) (8 : Int32).toNatClampNeg 8))) (hy_0 : Φ y = some (o_ 14 [.int 0, .ref (y + 1), .ref (y + 2), .int 0, .int 1, .int 1, .int 0, .int 0, .ref (y + 3), .ref (y + 4), .int 0, .long 0, .ref (y + 5), .int 0, .int 0, .long 0, .long 0, .long 0, .long 0, .ref (y + 6), .ref (y + 7), .int 0, .ref (y + 8), .int 0, .ref (y + 9), .ref (y + 10), .int 0, .ref (y + 11), .ref (y + 12), .ref (y + 13), .ref (y + 14), .ref (y + 15), .ref (y + 16), .int 0, .long (-1), .ref (y + 17), .ref (y + 18), .ref (y + 19), .ref (y + 20), .ref (y + 21), .ref (y + 22), .int 0, .ref (y + 23), .ref (y + 24), .int 0, .ref (y + 25), .int 0, .int 0, .int 0, .int (-1), .int 0, .int 0, .int 0, .long 0])) (hy_2 : Φ (y + 2) = some (ai_ G 307 (upd (upd (upd (upd (upd (upd (upd (upd (upd (upd (upd (upd (upd (upd (upd (upd (upd (upd (upd (upd (upd (fun _ => 0) (0 : Int32).toNatClampNeg 1) (1 : Int32).toNatClampNeg 100) (2 : Int32).toNatClampNeg 1000) (3 : Int32).toNatClampNeg 100) (4 : Int32).toNatClampNeg 20) (5 : Int32).toNatClampNeg 1000) (6 : Int32).toNatClampNeg 5000) (7 : Int32).toNatClampNeg 512) (8 : Int32).toNatClampNeg 1) (9 : Int32).toNatClampNeg 511) (10 : Int32).toNatClampNeg 1) (11 : Int32).toNatClampNeg 9) (15 : Int32).toNatClampNeg 0) (16 : Int32).toNatClampNeg 1) (17 : Int32).toNatClampNeg 2) (18 : Int32).toNatClampNeg 3) (19 : Int32).toNatClampNeg 4) (20 : Int32).toNatClampNeg 5) (21 : Int32).toNatClampNeg 6) (22 : Int32).toNatClampNeg 7) (23 : Int32).toNatClampNeg 8))) (hco : Φ o = some (al_ G 1 go)) (hx1 : xs 1 = 0) (hx2 : xs 2 = 0) (hT : ∀ (Φ1 : Hm) (sz1 : Nat), Z p9 l e9 room_1 s9 m9 a9 w9 t9 k9 Q9 G 9 2893 [(5, .int 0), (4, .ref d), (3, .ref o), (2, .ref y), (1, .ref x), (0, .ref b)] [] Φ1 sz1 178 20844) : Z p9 l e9 room_1 s9 m9 a9 w9 t9 k9 Q9 G 9 1066 [(5, .int 0), (4, .ref d), (3, .ref o), (2, .ref y), (1, .ref x), (0, .ref b)] [] Φ sz 177 20838 := by
  refine z_aload_n B dL_law_1066 rfl 4 rfl ?_
  refine z_aload_n B dL_law_1067 rfl 5 rfl ?_
  refine z_iload B dL_law_1068 0 rfl ?_
  refine z_iconst (v := 1) B dL_law_1070 rfl ?_
  refine z_iadd B dL_law_1071 ?_
  refine z_top (st1 := [.int 1, .ref b, .ref x]) (congrArg (fun w9 : Int32 => ([.int w9, .ref b, .ref x] : List Value)) (show (0 + 1 : Int32) = 1 by decide +kernel)) ?_
  refine z_sald B hX hbn (vin rfl) dL_law_1072 ?_
  refine z_top (st1 := [.int 0, .ref x]) (congrArg (fun w9 : Int32 => ([.int w9, .ref x] : List Value)) (show xs (1 : Int32).toNatClampNeg = 0 from hx1)) ?_
  refine z_aload_n B dL_law_1073 rfl 5 rfl ?_
  refine z_iload B dL_law_1074 0 rfl ?_
  refine z_iconst (v := 2) B dL_law_1076 rfl ?_
  refine z_iadd B dL_law_1077 ?_
  refine z_top (st1 := [.int 2, .ref b, .int 0, .ref x]) (congrArg (fun w9 : Int32 => ([.int w9, .ref b, .int 0, .ref x] : List Value)) (show (0 + 2 : Int32) = 2 by decide +kernel)) ?_
  refine z_sald B hX hbn (vin rfl) dL_law_1078 ?_
  refine z_top (st1 := [.int 0, .int 0, .ref x]) (congrArg (fun w9 : Int32 => ([.int w9, .int 0, .ref x] : List Value)) (show xs (2 : Int32).toNatClampNeg = 0 from hx2)) ?_
  refine z_aload_n B dL_law_1079 rfl 2 rfl ?_
  refine z_callSW (As := [.ref x, .int 0, .int 0, .ref o]) (rest := []) B (w_fieldAt_0 G l Φ sz x o go hx_0 hx_3 hx_6 hx_8 hx_9 hco hna (Nat.le_trans hxy (Nat.le_trans (Nat.le_add_right y 26) hyo))) (vx_cwSW 4 B.1.2.2.2.2 gL_law_L_fieldAt rfl rfl rfl (by decide +kernel) ⟨Nat.le_of_ble_eq_true rfl, Nat.le_of_ble_eq_true rfl⟩) rfl rfl (Nat.le_of_ble_eq_true rfl) dL_law_1080 ⟨Nat.le_of_ble_eq_true rfl, Nat.le_of_ble_eq_true rfl⟩ (fun v1 Φ1 sz1 st1 hp1 hs1 => ?_)
  obtain ⟨rfl, fr1, g1, ho1, hg1⟩ := hp1
  replace hs1 : st1 = [.int 0] := hs1
  subst st1
  refine z_istore (lv' := [(6, .int 0), (5, .int 0), (4, .ref d), (3, .ref o), (2, .ref y), (1, .ref x), (0, .ref b)]) B dL_law_1083 (Nat.le_of_ble_eq_true rfl) rfl ?_
  refine z_aload_n B dL_law_1085 rfl 4 rfl ?_
  refine z_aload_n B dL_law_1086 rfl 6 rfl ?_
  refine z_iload B dL_law_1087 1 rfl ?_
  refine z_iconst (v := 1) B dL_law_1089 rfl ?_
  refine z_iadd B dL_law_1090 ?_
  refine z_top (st1 := [.int 1, .ref b, .ref y]) (congrArg (fun w9 : Int32 => ([.int w9, .ref b, .ref y] : List Value)) (show (0 + 1 : Int32) = 1 by decide +kernel)) ?_
  refine z_sald B hX hbn (vin rfl) dL_law_1091 ?_
  refine z_top (st1 := [.int 0, .ref y]) (congrArg (fun w9 : Int32 => ([.int w9, .ref y] : List Value)) (show xs (1 : Int32).toNatClampNeg = 0 from hx1)) ?_
  refine z_aload_n B dL_law_1092 rfl 6 rfl ?_
  refine z_iload B dL_law_1093 1 rfl ?_
  refine z_iconst (v := 2) B dL_law_1095 rfl ?_
  refine z_iadd B dL_law_1096 ?_
  refine z_top (st1 := [.int 2, .ref b, .int 0, .ref y]) (congrArg (fun w9 : Int32 => ([.int w9, .ref b, .int 0, .ref y] : List Value)) (show (0 + 2 : Int32) = 2 by decide +kernel)) ?_
  refine z_sald B hX hbn (vin rfl) dL_law_1097 ?_
  refine z_top (st1 := [.int 0, .int 0, .ref y]) (congrArg (fun w9 : Int32 => ([.int w9, .int 0, .ref y] : List Value)) (show xs (2 : Int32).toNatClampNeg = 0 from hx2)) ?_
  have h_1 : Φ1 y = some (o_ 14 [.int 0, .ref (y + 1), .ref (y + 2), .int 0, .int 1, .int 1, .int 0, .int 0, .ref (y + 3), .ref (y + 4), .int 0, .long 0, .ref (y + 5), .int 0, .int 0, .long 0, .long 0, .long 0, .long 0, .ref (y + 6), .ref (y + 7), .int 0, .ref (y + 8), .int 0, .ref (y + 9), .ref (y + 10), .int 0, .ref (y + 11), .ref (y + 12), .ref (y + 13), .ref (y + 14), .ref (y + 15), .ref (y + 16), .int 0, .long (-1), .ref (y + 17), .ref (y + 18), .ref (y + 19), .ref (y + 20), .ref (y + 21), .ref (y + 22), .int 0, .ref (y + 23), .ref (y + 24), .int 0, .ref (y + 25), .int 0, .int 0, .int 0, .int (-1), .int 0, .int 0, .int 0, .long 0]) := ((fr1 y hxy (Nat.ne_of_lt (Nat.lt_of_lt_of_le (lt_off (x := y) (i := 0) (j := 26) rfl) hyo))).trans hy_0)
  have h_2 : Φ1 (y + 2) = some (ai_ G 307 (upd (upd (upd (upd (upd (upd (upd (upd (upd (upd (upd (upd (upd (upd (upd (upd (upd (upd (upd (upd (upd (fun _ => 0) (0 : Int32).toNatClampNeg 1) (1 : Int32).toNatClampNeg 100) (2 : Int32).toNatClampNeg 1000) (3 : Int32).toNatClampNeg 100) (4 : Int32).toNatClampNeg 20) (5 : Int32).toNatClampNeg 1000) (6 : Int32).toNatClampNeg 5000) (7 : Int32).toNatClampNeg 512) (8 : Int32).toNatClampNeg 1) (9 : Int32).toNatClampNeg 511) (10 : Int32).toNatClampNeg 1) (11 : Int32).toNatClampNeg 9) (15 : Int32).toNatClampNeg 0) (16 : Int32).toNatClampNeg 1) (17 : Int32).toNatClampNeg 2) (18 : Int32).toNatClampNeg 3) (19 : Int32).toNatClampNeg 4) (20 : Int32).toNatClampNeg 5) (21 : Int32).toNatClampNeg 6) (22 : Int32).toNatClampNeg 7) (23 : Int32).toNatClampNeg 8)) := ((fr1 (y + 2) (Nat.le_trans hxy (Nat.le_add_right y 2)) (Nat.ne_of_lt (Nat.lt_of_lt_of_le (lt_off (x := y) (i := 2) (j := 26) rfl) hyo))).trans hy_2)
  refine z_callV (As := [.int 0, .int 0]) (rest := []) B (m_X12_fieldAt_0 G l Φ1 sz1 y h_1 h_2 (Nat.le_trans hna (Nat.le_trans (Nat.le_add_right x 149) hxy))) (cwV 2 B.1.2.2.2.2 gL_law_X12_fieldAt rfl rfl rfl (by decide +kernel) ⟨Nat.le_of_ble_eq_true rfl, Nat.le_of_ble_eq_true rfl⟩) h_1 rfl rfl rfl rfl (Nat.le_of_ble_eq_true rfl) dL_law_1098 ⟨Nat.le_of_ble_eq_true rfl, Nat.le_of_ble_eq_true rfl⟩ (fun v2 Φ2 sz2 st2 hp2 hs2 => ?_)
  obtain ⟨rfl, ⟨fs1, hy1, hk1⟩, fr2⟩ := hp2
  replace hs2 : st2 = [.int 0] := hs2
  subst st2
  refine z_istore (lv' := [(7, .int 0), (6, .int 0), (5, .int 0), (4, .ref d), (3, .ref o), (2, .ref y), (1, .ref x), (0, .ref b)]) B dL_law_1101 (Nat.le_of_ble_eq_true rfl) rfl ?_
  refine z_aload_n B dL_law_1103 rfl 5 rfl ?_
  refine z_callV (As := []) (rest := []) B (m_thrown G l Φ2 sz2 y fs1 0 hy1 hk1) (cwV 0 B.1.2.2.2.2 gL_law_X12_thrown rfl rfl rfl (by decide +kernel) ⟨Nat.le_of_ble_eq_true rfl, Nat.le_of_ble_eq_true rfl⟩) hy1 rfl rfl rfl rfl (Nat.le_of_ble_eq_true rfl) dL_law_1104 ⟨Nat.le_of_ble_eq_true rfl, Nat.le_of_ble_eq_true rfl⟩ (fun v3 Φ3 sz3 st3 hp3 hs3 => ?_)
  obtain ⟨rfl, he1⟩ := hp3
  replace hs3 : st3 = [.int 0] := hs3
  subst st3
  rw [he1]
  refine z_iload B dL_law_1107 1 rfl ?_
  refine z_icmp_eq (tgt := 1114) B dL_law_1109 rfl (fun c_1 => ?_) (fun h9 => absurd (by decide) h9)
  refine z_iload B dL_law_1114 1 rfl ?_
  refine z_if_ne (tgt := 1131) B dL_law_1116 rfl (fun h9 => absurd (by decide) h9) (fun c_2 => ?_)
  refine z_aload_n B dL_law_1119 rfl 4 rfl ?_
  refine z_iconst (v := 0) B dL_law_1120 rfl ?_
  have h_3 : Φ2 o = some (al_ G 1 g1) := ((fr2 o hyo).trans ho1)
  refine z_lald B h_3 (vin rfl) dL_law_1121 ?_
  refine z_top (st1 := [.long 0]) (congrArg (fun w9 : Int64 => ([.long w9] : List Value)) (show g1 (0 : Int32).toNatClampNeg = 0 from hg1)) ?_
  refine z_iload B dL_law_1122 0 rfl ?_
  refine z_i2l (v := 0) B dL_law_1124 (by decide +kernel) ?_
  refine z_lcmp B dL_law_1125 ?_
  refine z_top (st1 := [.int 0]) (congrArg (fun w9 : Int32 => ([.int w9] : List Value)) (show (lg_cmp 0 0 : Int32) = 0 by decide +kernel)) ?_
  refine z_if_eq (tgt := 1131) B dL_law_1126 rfl (fun c_3 => ?_) (fun h9 => absurd (by decide) h9)
  refine z_goto (tgt := 2893) B dL_law_1131 rfl ?_
  refine z_lv [2, 3, 4, 5, 6, 7] rfl ?_
  refine z_widen (k := 178) (n := 20844) (Nat.le_of_ble_eq_true rfl) (Nat.le_of_ble_eq_true rfl) ?_
  exact hT _ _

set_option maxHeartbeats 4000000 in
set_option maxRecDepth 100000 in
theorem lc_20_1 {p9 : Program} {e9 : Env} {s9 : State} {m9 : MethodId} {a9 : Array Value} {w9 : List Frame} {t9 : Method} {k9 : Code} {Q9 : State → Prop} {nm9 : String} (G : EnvG) (l : Launch) (hl9 : l.stackTraces = false) (B : Bd p9 s9 m9 a9 t9 k9 G code 9 RL wsL_law ret nm9) (Φ : Hm) (sz : Nat) (b : Nat) (xs : Nat → Int32) (hX : va_X b 7 xs s9 s9.heap) (hbn : b < G.2.2.2) (x y o d : Nat)  (go : Nat → Int64) (gd : Nat → UInt64) (hna : G.2.2.2 ≤ x) (hxy : x + 149 ≤ y) (hyo : y + 26 ≤ o) (hyd : y + 26 ≤ d) (hod : o ≠ d) (hx_0 : Φ x = some (o_ 13 [.ref (x + 1), .ref (x + 3), .ref (x + 24), .ref (x + 46), .ref (x + 74), .ref (x + 80), .ref (x + 132), .ref (x + 121)])) (hx_3 : Φ (x + 3) = some (o_ 3 [.ref (x + 4), .ref (x + 5), .ref (x + 6), .ref (x + 7), .int 1, .int 511])) (hx_6 : Φ (x + 6) = some (aq_ G 4 4 (va_up (va_up (va_up (va_up (fun _ => none) (0 : Int32).toNatClampNeg (some (x + 8))) (1 : Int32).toNatClampNeg (some (x + 12))) (2 : Int32).toNatClampNeg (some (x + 16))) (3 : Int32).toNatClampNeg (some (x + 20))))) (hx_8 : Φ (x + 8) = some (o_ 12 [.ref (x + 9), .int 9, .int 511, .int 29])) (hx_9 : Φ (x + 9) = some (ai_ G 9 (upd (upd (upd (upd (upd (upd (upd (upd (upd (fun _ => 0) (0 : Int32).toNatClampNeg 0) (1 : Int32).toNatClampNeg 1) (2 : Int32).toNatClampNeg 2) (3 : Int32).toNatClampNeg 3) (4 : Int32).toNatClampNeg 4) (5 : Int32).toNatClampNeg 5) (6 : Int32).toNatClampNeg 6) (7 : Int32).toNatClampNeg 7) (8 : Int32).toNatClampNeg 8))) (hy_0 : Φ y = some (o_ 14 [.int 0, .ref (y + 1), .ref (y + 2), .int 0, .int 1, .int 1, .int 0, .int 0, .ref (y + 3), .ref (y + 4), .int 0, .long 0, .ref (y + 5), .int 0, .int 0, .long 0, .long 0, .long 0, .long 0, .ref (y + 6), .ref (y + 7), .int 0, .ref (y + 8), .int 0, .ref (y + 9), .ref (y + 10), .int 0, .ref (y + 11), .ref (y + 12), .ref (y + 13), .ref (y + 14), .ref (y + 15), .ref (y + 16), .int 0, .long (-1), .ref (y + 17), .ref (y + 18), .ref (y + 19), .ref (y + 20), .ref (y + 21), .ref (y + 22), .int 0, .ref (y + 23), .ref (y + 24), .int 0, .ref (y + 25), .int 0, .int 0, .int 0, .int (-1), .int 0, .int 0, .int 0, .long 0])) (hy_2 : Φ (y + 2) = some (ai_ G 307 (upd (upd (upd (upd (upd (upd (upd (upd (upd (upd (upd (upd (upd (upd (upd (upd (upd (upd (upd (upd (upd (fun _ => 0) (0 : Int32).toNatClampNeg 1) (1 : Int32).toNatClampNeg 100) (2 : Int32).toNatClampNeg 1000) (3 : Int32).toNatClampNeg 100) (4 : Int32).toNatClampNeg 20) (5 : Int32).toNatClampNeg 1000) (6 : Int32).toNatClampNeg 5000) (7 : Int32).toNatClampNeg 512) (8 : Int32).toNatClampNeg 1) (9 : Int32).toNatClampNeg 511) (10 : Int32).toNatClampNeg 1) (11 : Int32).toNatClampNeg 9) (15 : Int32).toNatClampNeg 0) (16 : Int32).toNatClampNeg 1) (17 : Int32).toNatClampNeg 2) (18 : Int32).toNatClampNeg 3) (19 : Int32).toNatClampNeg 4) (20 : Int32).toNatClampNeg 5) (21 : Int32).toNatClampNeg 6) (22 : Int32).toNatClampNeg 7) (23 : Int32).toNatClampNeg 8))) (hco : Φ o = some (al_ G 1 go)) (hx1 : xs 1 = 0) (hx2 : xs 2 = 1) (hT : ∀ (Φ1 : Hm) (sz1 : Nat), Z p9 l e9 room_1 s9 m9 a9 w9 t9 k9 Q9 G 9 2893 [(5, .int 0), (4, .ref d), (3, .ref o), (2, .ref y), (1, .ref x), (0, .ref b)] [] Φ1 sz1 178 20844) : Z p9 l e9 room_1 s9 m9 a9 w9 t9 k9 Q9 G 9 1066 [(5, .int 0), (4, .ref d), (3, .ref o), (2, .ref y), (1, .ref x), (0, .ref b)] [] Φ sz 177 20838 := by
  refine z_aload_n B dL_law_1066 rfl 4 rfl ?_
  refine z_aload_n B dL_law_1067 rfl 5 rfl ?_
  refine z_iload B dL_law_1068 0 rfl ?_
  refine z_iconst (v := 1) B dL_law_1070 rfl ?_
  refine z_iadd B dL_law_1071 ?_
  refine z_top (st1 := [.int 1, .ref b, .ref x]) (congrArg (fun w9 : Int32 => ([.int w9, .ref b, .ref x] : List Value)) (show (0 + 1 : Int32) = 1 by decide +kernel)) ?_
  refine z_sald B hX hbn (vin rfl) dL_law_1072 ?_
  refine z_top (st1 := [.int 0, .ref x]) (congrArg (fun w9 : Int32 => ([.int w9, .ref x] : List Value)) (show xs (1 : Int32).toNatClampNeg = 0 from hx1)) ?_
  refine z_aload_n B dL_law_1073 rfl 5 rfl ?_
  refine z_iload B dL_law_1074 0 rfl ?_
  refine z_iconst (v := 2) B dL_law_1076 rfl ?_
  refine z_iadd B dL_law_1077 ?_
  refine z_top (st1 := [.int 2, .ref b, .int 0, .ref x]) (congrArg (fun w9 : Int32 => ([.int w9, .ref b, .int 0, .ref x] : List Value)) (show (0 + 2 : Int32) = 2 by decide +kernel)) ?_
  refine z_sald B hX hbn (vin rfl) dL_law_1078 ?_
  refine z_top (st1 := [.int 1, .int 0, .ref x]) (congrArg (fun w9 : Int32 => ([.int w9, .int 0, .ref x] : List Value)) (show xs (2 : Int32).toNatClampNeg = 1 from hx2)) ?_
  refine z_aload_n B dL_law_1079 rfl 2 rfl ?_
  refine z_callSW (As := [.ref x, .int 0, .int 1, .ref o]) (rest := []) B (w_fieldAt_1 G l Φ sz x o go hx_0 hx_3 hx_6 hx_8 hx_9 hco hna (Nat.le_trans hxy (Nat.le_trans (Nat.le_add_right y 26) hyo))) (vx_cwSW 4 B.1.2.2.2.2 gL_law_L_fieldAt rfl rfl rfl (by decide +kernel) ⟨Nat.le_of_ble_eq_true rfl, Nat.le_of_ble_eq_true rfl⟩) rfl rfl (Nat.le_of_ble_eq_true rfl) dL_law_1080 ⟨Nat.le_of_ble_eq_true rfl, Nat.le_of_ble_eq_true rfl⟩ (fun v1 Φ1 sz1 st1 hp1 hs1 => ?_)
  obtain ⟨rfl, fr1, g1, ho1, hg1⟩ := hp1
  replace hs1 : st1 = [.int 0] := hs1
  subst st1
  refine z_istore (lv' := [(6, .int 0), (5, .int 0), (4, .ref d), (3, .ref o), (2, .ref y), (1, .ref x), (0, .ref b)]) B dL_law_1083 (Nat.le_of_ble_eq_true rfl) rfl ?_
  refine z_aload_n B dL_law_1085 rfl 4 rfl ?_
  refine z_aload_n B dL_law_1086 rfl 6 rfl ?_
  refine z_iload B dL_law_1087 1 rfl ?_
  refine z_iconst (v := 1) B dL_law_1089 rfl ?_
  refine z_iadd B dL_law_1090 ?_
  refine z_top (st1 := [.int 1, .ref b, .ref y]) (congrArg (fun w9 : Int32 => ([.int w9, .ref b, .ref y] : List Value)) (show (0 + 1 : Int32) = 1 by decide +kernel)) ?_
  refine z_sald B hX hbn (vin rfl) dL_law_1091 ?_
  refine z_top (st1 := [.int 0, .ref y]) (congrArg (fun w9 : Int32 => ([.int w9, .ref y] : List Value)) (show xs (1 : Int32).toNatClampNeg = 0 from hx1)) ?_
  refine z_aload_n B dL_law_1092 rfl 6 rfl ?_
  refine z_iload B dL_law_1093 1 rfl ?_
  refine z_iconst (v := 2) B dL_law_1095 rfl ?_
  refine z_iadd B dL_law_1096 ?_
  refine z_top (st1 := [.int 2, .ref b, .int 0, .ref y]) (congrArg (fun w9 : Int32 => ([.int w9, .ref b, .int 0, .ref y] : List Value)) (show (0 + 2 : Int32) = 2 by decide +kernel)) ?_
  refine z_sald B hX hbn (vin rfl) dL_law_1097 ?_
  refine z_top (st1 := [.int 1, .int 0, .ref y]) (congrArg (fun w9 : Int32 => ([.int w9, .int 0, .ref y] : List Value)) (show xs (2 : Int32).toNatClampNeg = 1 from hx2)) ?_
  have h_1 : Φ1 y = some (o_ 14 [.int 0, .ref (y + 1), .ref (y + 2), .int 0, .int 1, .int 1, .int 0, .int 0, .ref (y + 3), .ref (y + 4), .int 0, .long 0, .ref (y + 5), .int 0, .int 0, .long 0, .long 0, .long 0, .long 0, .ref (y + 6), .ref (y + 7), .int 0, .ref (y + 8), .int 0, .ref (y + 9), .ref (y + 10), .int 0, .ref (y + 11), .ref (y + 12), .ref (y + 13), .ref (y + 14), .ref (y + 15), .ref (y + 16), .int 0, .long (-1), .ref (y + 17), .ref (y + 18), .ref (y + 19), .ref (y + 20), .ref (y + 21), .ref (y + 22), .int 0, .ref (y + 23), .ref (y + 24), .int 0, .ref (y + 25), .int 0, .int 0, .int 0, .int (-1), .int 0, .int 0, .int 0, .long 0]) := ((fr1 y hxy (Nat.ne_of_lt (Nat.lt_of_lt_of_le (lt_off (x := y) (i := 0) (j := 26) rfl) hyo))).trans hy_0)
  have h_2 : Φ1 (y + 2) = some (ai_ G 307 (upd (upd (upd (upd (upd (upd (upd (upd (upd (upd (upd (upd (upd (upd (upd (upd (upd (upd (upd (upd (upd (fun _ => 0) (0 : Int32).toNatClampNeg 1) (1 : Int32).toNatClampNeg 100) (2 : Int32).toNatClampNeg 1000) (3 : Int32).toNatClampNeg 100) (4 : Int32).toNatClampNeg 20) (5 : Int32).toNatClampNeg 1000) (6 : Int32).toNatClampNeg 5000) (7 : Int32).toNatClampNeg 512) (8 : Int32).toNatClampNeg 1) (9 : Int32).toNatClampNeg 511) (10 : Int32).toNatClampNeg 1) (11 : Int32).toNatClampNeg 9) (15 : Int32).toNatClampNeg 0) (16 : Int32).toNatClampNeg 1) (17 : Int32).toNatClampNeg 2) (18 : Int32).toNatClampNeg 3) (19 : Int32).toNatClampNeg 4) (20 : Int32).toNatClampNeg 5) (21 : Int32).toNatClampNeg 6) (22 : Int32).toNatClampNeg 7) (23 : Int32).toNatClampNeg 8)) := ((fr1 (y + 2) (Nat.le_trans hxy (Nat.le_add_right y 2)) (Nat.ne_of_lt (Nat.lt_of_lt_of_le (lt_off (x := y) (i := 2) (j := 26) rfl) hyo))).trans hy_2)
  refine z_callV (As := [.int 0, .int 1]) (rest := []) B (m_X12_fieldAt_1 G l Φ1 sz1 y h_1 h_2 (Nat.le_trans hna (Nat.le_trans (Nat.le_add_right x 149) hxy))) (cwV 2 B.1.2.2.2.2 gL_law_X12_fieldAt rfl rfl rfl (by decide +kernel) ⟨Nat.le_of_ble_eq_true rfl, Nat.le_of_ble_eq_true rfl⟩) h_1 rfl rfl rfl rfl (Nat.le_of_ble_eq_true rfl) dL_law_1098 ⟨Nat.le_of_ble_eq_true rfl, Nat.le_of_ble_eq_true rfl⟩ (fun v2 Φ2 sz2 st2 hp2 hs2 => ?_)
  obtain ⟨rfl, ⟨fs1, hy1, hk1⟩, fr2⟩ := hp2
  replace hs2 : st2 = [.int 1] := hs2
  subst st2
  refine z_istore (lv' := [(7, .int 1), (6, .int 0), (5, .int 0), (4, .ref d), (3, .ref o), (2, .ref y), (1, .ref x), (0, .ref b)]) B dL_law_1101 (Nat.le_of_ble_eq_true rfl) rfl ?_
  refine z_aload_n B dL_law_1103 rfl 5 rfl ?_
  refine z_callV (As := []) (rest := []) B (m_thrown G l Φ2 sz2 y fs1 0 hy1 hk1) (cwV 0 B.1.2.2.2.2 gL_law_X12_thrown rfl rfl rfl (by decide +kernel) ⟨Nat.le_of_ble_eq_true rfl, Nat.le_of_ble_eq_true rfl⟩) hy1 rfl rfl rfl rfl (Nat.le_of_ble_eq_true rfl) dL_law_1104 ⟨Nat.le_of_ble_eq_true rfl, Nat.le_of_ble_eq_true rfl⟩ (fun v3 Φ3 sz3 st3 hp3 hs3 => ?_)
  obtain ⟨rfl, he1⟩ := hp3
  replace hs3 : st3 = [.int 0] := hs3
  subst st3
  rw [he1]
  refine z_iload B dL_law_1107 1 rfl ?_
  refine z_icmp_eq (tgt := 1114) B dL_law_1109 rfl (fun c_1 => ?_) (fun h9 => absurd (by decide) h9)
  refine z_iload B dL_law_1114 1 rfl ?_
  refine z_if_ne (tgt := 1131) B dL_law_1116 rfl (fun h9 => absurd (by decide) h9) (fun c_2 => ?_)
  refine z_aload_n B dL_law_1119 rfl 4 rfl ?_
  refine z_iconst (v := 0) B dL_law_1120 rfl ?_
  have h_3 : Φ2 o = some (al_ G 1 g1) := ((fr2 o hyo).trans ho1)
  refine z_lald B h_3 (vin rfl) dL_law_1121 ?_
  refine z_top (st1 := [.long 1]) (congrArg (fun w9 : Int64 => ([.long w9] : List Value)) (show g1 (0 : Int32).toNatClampNeg = 1 from hg1)) ?_
  refine z_iload B dL_law_1122 0 rfl ?_
  refine z_i2l (v := 1) B dL_law_1124 (by decide +kernel) ?_
  refine z_lcmp B dL_law_1125 ?_
  refine z_top (st1 := [.int 0]) (congrArg (fun w9 : Int32 => ([.int w9] : List Value)) (show (lg_cmp 1 1 : Int32) = 0 by decide +kernel)) ?_
  refine z_if_eq (tgt := 1131) B dL_law_1126 rfl (fun c_3 => ?_) (fun h9 => absurd (by decide) h9)
  refine z_goto (tgt := 2893) B dL_law_1131 rfl ?_
  refine z_lv [2, 3, 4, 5, 6, 7] rfl ?_
  refine z_widen (k := 178) (n := 20844) (Nat.le_of_ble_eq_true rfl) (Nat.le_of_ble_eq_true rfl) ?_
  exact hT _ _

set_option maxHeartbeats 4000000 in
set_option maxRecDepth 100000 in
theorem lc_20_2 {p9 : Program} {e9 : Env} {s9 : State} {m9 : MethodId} {a9 : Array Value} {w9 : List Frame} {t9 : Method} {k9 : Code} {Q9 : State → Prop} {nm9 : String} (G : EnvG) (l : Launch) (hl9 : l.stackTraces = false) (B : Bd p9 s9 m9 a9 t9 k9 G code 9 RL wsL_law ret nm9) (Φ : Hm) (sz : Nat) (b : Nat) (xs : Nat → Int32) (hX : va_X b 7 xs s9 s9.heap) (hbn : b < G.2.2.2) (x y o d : Nat)  (go : Nat → Int64) (gd : Nat → UInt64) (hna : G.2.2.2 ≤ x) (hxy : x + 149 ≤ y) (hyo : y + 26 ≤ o) (hyd : y + 26 ≤ d) (hod : o ≠ d) (hx_0 : Φ x = some (o_ 13 [.ref (x + 1), .ref (x + 3), .ref (x + 24), .ref (x + 46), .ref (x + 74), .ref (x + 80), .ref (x + 132), .ref (x + 121)])) (hx_3 : Φ (x + 3) = some (o_ 3 [.ref (x + 4), .ref (x + 5), .ref (x + 6), .ref (x + 7), .int 1, .int 511])) (hx_6 : Φ (x + 6) = some (aq_ G 4 4 (va_up (va_up (va_up (va_up (fun _ => none) (0 : Int32).toNatClampNeg (some (x + 8))) (1 : Int32).toNatClampNeg (some (x + 12))) (2 : Int32).toNatClampNeg (some (x + 16))) (3 : Int32).toNatClampNeg (some (x + 20))))) (hx_8 : Φ (x + 8) = some (o_ 12 [.ref (x + 9), .int 9, .int 511, .int 29])) (hx_9 : Φ (x + 9) = some (ai_ G 9 (upd (upd (upd (upd (upd (upd (upd (upd (upd (fun _ => 0) (0 : Int32).toNatClampNeg 0) (1 : Int32).toNatClampNeg 1) (2 : Int32).toNatClampNeg 2) (3 : Int32).toNatClampNeg 3) (4 : Int32).toNatClampNeg 4) (5 : Int32).toNatClampNeg 5) (6 : Int32).toNatClampNeg 6) (7 : Int32).toNatClampNeg 7) (8 : Int32).toNatClampNeg 8))) (hy_0 : Φ y = some (o_ 14 [.int 0, .ref (y + 1), .ref (y + 2), .int 0, .int 1, .int 1, .int 0, .int 0, .ref (y + 3), .ref (y + 4), .int 0, .long 0, .ref (y + 5), .int 0, .int 0, .long 0, .long 0, .long 0, .long 0, .ref (y + 6), .ref (y + 7), .int 0, .ref (y + 8), .int 0, .ref (y + 9), .ref (y + 10), .int 0, .ref (y + 11), .ref (y + 12), .ref (y + 13), .ref (y + 14), .ref (y + 15), .ref (y + 16), .int 0, .long (-1), .ref (y + 17), .ref (y + 18), .ref (y + 19), .ref (y + 20), .ref (y + 21), .ref (y + 22), .int 0, .ref (y + 23), .ref (y + 24), .int 0, .ref (y + 25), .int 0, .int 0, .int 0, .int (-1), .int 0, .int 0, .int 0, .long 0])) (hy_2 : Φ (y + 2) = some (ai_ G 307 (upd (upd (upd (upd (upd (upd (upd (upd (upd (upd (upd (upd (upd (upd (upd (upd (upd (upd (upd (upd (upd (fun _ => 0) (0 : Int32).toNatClampNeg 1) (1 : Int32).toNatClampNeg 100) (2 : Int32).toNatClampNeg 1000) (3 : Int32).toNatClampNeg 100) (4 : Int32).toNatClampNeg 20) (5 : Int32).toNatClampNeg 1000) (6 : Int32).toNatClampNeg 5000) (7 : Int32).toNatClampNeg 512) (8 : Int32).toNatClampNeg 1) (9 : Int32).toNatClampNeg 511) (10 : Int32).toNatClampNeg 1) (11 : Int32).toNatClampNeg 9) (15 : Int32).toNatClampNeg 0) (16 : Int32).toNatClampNeg 1) (17 : Int32).toNatClampNeg 2) (18 : Int32).toNatClampNeg 3) (19 : Int32).toNatClampNeg 4) (20 : Int32).toNatClampNeg 5) (21 : Int32).toNatClampNeg 6) (22 : Int32).toNatClampNeg 7) (23 : Int32).toNatClampNeg 8))) (hco : Φ o = some (al_ G 1 go)) (hx1 : xs 1 = 0) (hx2 : xs 2 = 2) (hT : ∀ (Φ1 : Hm) (sz1 : Nat), Z p9 l e9 room_1 s9 m9 a9 w9 t9 k9 Q9 G 9 2893 [(5, .int 0), (4, .ref d), (3, .ref o), (2, .ref y), (1, .ref x), (0, .ref b)] [] Φ1 sz1 178 20844) : Z p9 l e9 room_1 s9 m9 a9 w9 t9 k9 Q9 G 9 1066 [(5, .int 0), (4, .ref d), (3, .ref o), (2, .ref y), (1, .ref x), (0, .ref b)] [] Φ sz 177 20838 := by
  refine z_aload_n B dL_law_1066 rfl 4 rfl ?_
  refine z_aload_n B dL_law_1067 rfl 5 rfl ?_
  refine z_iload B dL_law_1068 0 rfl ?_
  refine z_iconst (v := 1) B dL_law_1070 rfl ?_
  refine z_iadd B dL_law_1071 ?_
  refine z_top (st1 := [.int 1, .ref b, .ref x]) (congrArg (fun w9 : Int32 => ([.int w9, .ref b, .ref x] : List Value)) (show (0 + 1 : Int32) = 1 by decide +kernel)) ?_
  refine z_sald B hX hbn (vin rfl) dL_law_1072 ?_
  refine z_top (st1 := [.int 0, .ref x]) (congrArg (fun w9 : Int32 => ([.int w9, .ref x] : List Value)) (show xs (1 : Int32).toNatClampNeg = 0 from hx1)) ?_
  refine z_aload_n B dL_law_1073 rfl 5 rfl ?_
  refine z_iload B dL_law_1074 0 rfl ?_
  refine z_iconst (v := 2) B dL_law_1076 rfl ?_
  refine z_iadd B dL_law_1077 ?_
  refine z_top (st1 := [.int 2, .ref b, .int 0, .ref x]) (congrArg (fun w9 : Int32 => ([.int w9, .ref b, .int 0, .ref x] : List Value)) (show (0 + 2 : Int32) = 2 by decide +kernel)) ?_
  refine z_sald B hX hbn (vin rfl) dL_law_1078 ?_
  refine z_top (st1 := [.int 2, .int 0, .ref x]) (congrArg (fun w9 : Int32 => ([.int w9, .int 0, .ref x] : List Value)) (show xs (2 : Int32).toNatClampNeg = 2 from hx2)) ?_
  refine z_aload_n B dL_law_1079 rfl 2 rfl ?_
  refine z_callSW (As := [.ref x, .int 0, .int 2, .ref o]) (rest := []) B (w_fieldAt_2 G l Φ sz x o go hx_0 hx_3 hx_6 hx_8 hx_9 hco hna (Nat.le_trans hxy (Nat.le_trans (Nat.le_add_right y 26) hyo))) (vx_cwSW 4 B.1.2.2.2.2 gL_law_L_fieldAt rfl rfl rfl (by decide +kernel) ⟨Nat.le_of_ble_eq_true rfl, Nat.le_of_ble_eq_true rfl⟩) rfl rfl (Nat.le_of_ble_eq_true rfl) dL_law_1080 ⟨Nat.le_of_ble_eq_true rfl, Nat.le_of_ble_eq_true rfl⟩ (fun v1 Φ1 sz1 st1 hp1 hs1 => ?_)
  obtain ⟨rfl, fr1, g1, ho1, hg1⟩ := hp1
  replace hs1 : st1 = [.int 0] := hs1
  subst st1
  refine z_istore (lv' := [(6, .int 0), (5, .int 0), (4, .ref d), (3, .ref o), (2, .ref y), (1, .ref x), (0, .ref b)]) B dL_law_1083 (Nat.le_of_ble_eq_true rfl) rfl ?_
  refine z_aload_n B dL_law_1085 rfl 4 rfl ?_
  refine z_aload_n B dL_law_1086 rfl 6 rfl ?_
  refine z_iload B dL_law_1087 1 rfl ?_
  refine z_iconst (v := 1) B dL_law_1089 rfl ?_
  refine z_iadd B dL_law_1090 ?_
  refine z_top (st1 := [.int 1, .ref b, .ref y]) (congrArg (fun w9 : Int32 => ([.int w9, .ref b, .ref y] : List Value)) (show (0 + 1 : Int32) = 1 by decide +kernel)) ?_
  refine z_sald B hX hbn (vin rfl) dL_law_1091 ?_
  refine z_top (st1 := [.int 0, .ref y]) (congrArg (fun w9 : Int32 => ([.int w9, .ref y] : List Value)) (show xs (1 : Int32).toNatClampNeg = 0 from hx1)) ?_
  refine z_aload_n B dL_law_1092 rfl 6 rfl ?_
  refine z_iload B dL_law_1093 1 rfl ?_
  refine z_iconst (v := 2) B dL_law_1095 rfl ?_
  refine z_iadd B dL_law_1096 ?_
  refine z_top (st1 := [.int 2, .ref b, .int 0, .ref y]) (congrArg (fun w9 : Int32 => ([.int w9, .ref b, .int 0, .ref y] : List Value)) (show (0 + 2 : Int32) = 2 by decide +kernel)) ?_
  refine z_sald B hX hbn (vin rfl) dL_law_1097 ?_
  refine z_top (st1 := [.int 2, .int 0, .ref y]) (congrArg (fun w9 : Int32 => ([.int w9, .int 0, .ref y] : List Value)) (show xs (2 : Int32).toNatClampNeg = 2 from hx2)) ?_
  have h_1 : Φ1 y = some (o_ 14 [.int 0, .ref (y + 1), .ref (y + 2), .int 0, .int 1, .int 1, .int 0, .int 0, .ref (y + 3), .ref (y + 4), .int 0, .long 0, .ref (y + 5), .int 0, .int 0, .long 0, .long 0, .long 0, .long 0, .ref (y + 6), .ref (y + 7), .int 0, .ref (y + 8), .int 0, .ref (y + 9), .ref (y + 10), .int 0, .ref (y + 11), .ref (y + 12), .ref (y + 13), .ref (y + 14), .ref (y + 15), .ref (y + 16), .int 0, .long (-1), .ref (y + 17), .ref (y + 18), .ref (y + 19), .ref (y + 20), .ref (y + 21), .ref (y + 22), .int 0, .ref (y + 23), .ref (y + 24), .int 0, .ref (y + 25), .int 0, .int 0, .int 0, .int (-1), .int 0, .int 0, .int 0, .long 0]) := ((fr1 y hxy (Nat.ne_of_lt (Nat.lt_of_lt_of_le (lt_off (x := y) (i := 0) (j := 26) rfl) hyo))).trans hy_0)
  have h_2 : Φ1 (y + 2) = some (ai_ G 307 (upd (upd (upd (upd (upd (upd (upd (upd (upd (upd (upd (upd (upd (upd (upd (upd (upd (upd (upd (upd (upd (fun _ => 0) (0 : Int32).toNatClampNeg 1) (1 : Int32).toNatClampNeg 100) (2 : Int32).toNatClampNeg 1000) (3 : Int32).toNatClampNeg 100) (4 : Int32).toNatClampNeg 20) (5 : Int32).toNatClampNeg 1000) (6 : Int32).toNatClampNeg 5000) (7 : Int32).toNatClampNeg 512) (8 : Int32).toNatClampNeg 1) (9 : Int32).toNatClampNeg 511) (10 : Int32).toNatClampNeg 1) (11 : Int32).toNatClampNeg 9) (15 : Int32).toNatClampNeg 0) (16 : Int32).toNatClampNeg 1) (17 : Int32).toNatClampNeg 2) (18 : Int32).toNatClampNeg 3) (19 : Int32).toNatClampNeg 4) (20 : Int32).toNatClampNeg 5) (21 : Int32).toNatClampNeg 6) (22 : Int32).toNatClampNeg 7) (23 : Int32).toNatClampNeg 8)) := ((fr1 (y + 2) (Nat.le_trans hxy (Nat.le_add_right y 2)) (Nat.ne_of_lt (Nat.lt_of_lt_of_le (lt_off (x := y) (i := 2) (j := 26) rfl) hyo))).trans hy_2)
  refine z_callV (As := [.int 0, .int 2]) (rest := []) B (m_X12_fieldAt_2 G l Φ1 sz1 y h_1 h_2 (Nat.le_trans hna (Nat.le_trans (Nat.le_add_right x 149) hxy))) (cwV 2 B.1.2.2.2.2 gL_law_X12_fieldAt rfl rfl rfl (by decide +kernel) ⟨Nat.le_of_ble_eq_true rfl, Nat.le_of_ble_eq_true rfl⟩) h_1 rfl rfl rfl rfl (Nat.le_of_ble_eq_true rfl) dL_law_1098 ⟨Nat.le_of_ble_eq_true rfl, Nat.le_of_ble_eq_true rfl⟩ (fun v2 Φ2 sz2 st2 hp2 hs2 => ?_)
  obtain ⟨rfl, ⟨fs1, hy1, hk1⟩, fr2⟩ := hp2
  replace hs2 : st2 = [.int 2] := hs2
  subst st2
  refine z_istore (lv' := [(7, .int 2), (6, .int 0), (5, .int 0), (4, .ref d), (3, .ref o), (2, .ref y), (1, .ref x), (0, .ref b)]) B dL_law_1101 (Nat.le_of_ble_eq_true rfl) rfl ?_
  refine z_aload_n B dL_law_1103 rfl 5 rfl ?_
  refine z_callV (As := []) (rest := []) B (m_thrown G l Φ2 sz2 y fs1 0 hy1 hk1) (cwV 0 B.1.2.2.2.2 gL_law_X12_thrown rfl rfl rfl (by decide +kernel) ⟨Nat.le_of_ble_eq_true rfl, Nat.le_of_ble_eq_true rfl⟩) hy1 rfl rfl rfl rfl (Nat.le_of_ble_eq_true rfl) dL_law_1104 ⟨Nat.le_of_ble_eq_true rfl, Nat.le_of_ble_eq_true rfl⟩ (fun v3 Φ3 sz3 st3 hp3 hs3 => ?_)
  obtain ⟨rfl, he1⟩ := hp3
  replace hs3 : st3 = [.int 0] := hs3
  subst st3
  rw [he1]
  refine z_iload B dL_law_1107 1 rfl ?_
  refine z_icmp_eq (tgt := 1114) B dL_law_1109 rfl (fun c_1 => ?_) (fun h9 => absurd (by decide) h9)
  refine z_iload B dL_law_1114 1 rfl ?_
  refine z_if_ne (tgt := 1131) B dL_law_1116 rfl (fun h9 => absurd (by decide) h9) (fun c_2 => ?_)
  refine z_aload_n B dL_law_1119 rfl 4 rfl ?_
  refine z_iconst (v := 0) B dL_law_1120 rfl ?_
  have h_3 : Φ2 o = some (al_ G 1 g1) := ((fr2 o hyo).trans ho1)
  refine z_lald B h_3 (vin rfl) dL_law_1121 ?_
  refine z_top (st1 := [.long 2]) (congrArg (fun w9 : Int64 => ([.long w9] : List Value)) (show g1 (0 : Int32).toNatClampNeg = 2 from hg1)) ?_
  refine z_iload B dL_law_1122 0 rfl ?_
  refine z_i2l (v := 2) B dL_law_1124 (by decide +kernel) ?_
  refine z_lcmp B dL_law_1125 ?_
  refine z_top (st1 := [.int 0]) (congrArg (fun w9 : Int32 => ([.int w9] : List Value)) (show (lg_cmp 2 2 : Int32) = 0 by decide +kernel)) ?_
  refine z_if_eq (tgt := 1131) B dL_law_1126 rfl (fun c_3 => ?_) (fun h9 => absurd (by decide) h9)
  refine z_goto (tgt := 2893) B dL_law_1131 rfl ?_
  refine z_lv [2, 3, 4, 5, 6, 7] rfl ?_
  refine z_widen (k := 178) (n := 20844) (Nat.le_of_ble_eq_true rfl) (Nat.le_of_ble_eq_true rfl) ?_
  exact hT _ _

set_option maxHeartbeats 4000000 in
set_option maxRecDepth 100000 in
theorem lc_20_3 {p9 : Program} {e9 : Env} {s9 : State} {m9 : MethodId} {a9 : Array Value} {w9 : List Frame} {t9 : Method} {k9 : Code} {Q9 : State → Prop} {nm9 : String} (G : EnvG) (l : Launch) (hl9 : l.stackTraces = false) (B : Bd p9 s9 m9 a9 t9 k9 G code 9 RL wsL_law ret nm9) (Φ : Hm) (sz : Nat) (b : Nat) (xs : Nat → Int32) (hX : va_X b 7 xs s9 s9.heap) (hbn : b < G.2.2.2) (x y o d : Nat)  (go : Nat → Int64) (gd : Nat → UInt64) (hna : G.2.2.2 ≤ x) (hxy : x + 149 ≤ y) (hyo : y + 26 ≤ o) (hyd : y + 26 ≤ d) (hod : o ≠ d) (hx_0 : Φ x = some (o_ 13 [.ref (x + 1), .ref (x + 3), .ref (x + 24), .ref (x + 46), .ref (x + 74), .ref (x + 80), .ref (x + 132), .ref (x + 121)])) (hx_3 : Φ (x + 3) = some (o_ 3 [.ref (x + 4), .ref (x + 5), .ref (x + 6), .ref (x + 7), .int 1, .int 511])) (hx_6 : Φ (x + 6) = some (aq_ G 4 4 (va_up (va_up (va_up (va_up (fun _ => none) (0 : Int32).toNatClampNeg (some (x + 8))) (1 : Int32).toNatClampNeg (some (x + 12))) (2 : Int32).toNatClampNeg (some (x + 16))) (3 : Int32).toNatClampNeg (some (x + 20))))) (hx_8 : Φ (x + 8) = some (o_ 12 [.ref (x + 9), .int 9, .int 511, .int 29])) (hx_9 : Φ (x + 9) = some (ai_ G 9 (upd (upd (upd (upd (upd (upd (upd (upd (upd (fun _ => 0) (0 : Int32).toNatClampNeg 0) (1 : Int32).toNatClampNeg 1) (2 : Int32).toNatClampNeg 2) (3 : Int32).toNatClampNeg 3) (4 : Int32).toNatClampNeg 4) (5 : Int32).toNatClampNeg 5) (6 : Int32).toNatClampNeg 6) (7 : Int32).toNatClampNeg 7) (8 : Int32).toNatClampNeg 8))) (hy_0 : Φ y = some (o_ 14 [.int 0, .ref (y + 1), .ref (y + 2), .int 0, .int 1, .int 1, .int 0, .int 0, .ref (y + 3), .ref (y + 4), .int 0, .long 0, .ref (y + 5), .int 0, .int 0, .long 0, .long 0, .long 0, .long 0, .ref (y + 6), .ref (y + 7), .int 0, .ref (y + 8), .int 0, .ref (y + 9), .ref (y + 10), .int 0, .ref (y + 11), .ref (y + 12), .ref (y + 13), .ref (y + 14), .ref (y + 15), .ref (y + 16), .int 0, .long (-1), .ref (y + 17), .ref (y + 18), .ref (y + 19), .ref (y + 20), .ref (y + 21), .ref (y + 22), .int 0, .ref (y + 23), .ref (y + 24), .int 0, .ref (y + 25), .int 0, .int 0, .int 0, .int (-1), .int 0, .int 0, .int 0, .long 0])) (hy_2 : Φ (y + 2) = some (ai_ G 307 (upd (upd (upd (upd (upd (upd (upd (upd (upd (upd (upd (upd (upd (upd (upd (upd (upd (upd (upd (upd (upd (fun _ => 0) (0 : Int32).toNatClampNeg 1) (1 : Int32).toNatClampNeg 100) (2 : Int32).toNatClampNeg 1000) (3 : Int32).toNatClampNeg 100) (4 : Int32).toNatClampNeg 20) (5 : Int32).toNatClampNeg 1000) (6 : Int32).toNatClampNeg 5000) (7 : Int32).toNatClampNeg 512) (8 : Int32).toNatClampNeg 1) (9 : Int32).toNatClampNeg 511) (10 : Int32).toNatClampNeg 1) (11 : Int32).toNatClampNeg 9) (15 : Int32).toNatClampNeg 0) (16 : Int32).toNatClampNeg 1) (17 : Int32).toNatClampNeg 2) (18 : Int32).toNatClampNeg 3) (19 : Int32).toNatClampNeg 4) (20 : Int32).toNatClampNeg 5) (21 : Int32).toNatClampNeg 6) (22 : Int32).toNatClampNeg 7) (23 : Int32).toNatClampNeg 8))) (hco : Φ o = some (al_ G 1 go)) (hx1 : xs 1 = 0) (hx2 : xs 2 = 3) (hT : ∀ (Φ1 : Hm) (sz1 : Nat), Z p9 l e9 room_1 s9 m9 a9 w9 t9 k9 Q9 G 9 2893 [(5, .int 0), (4, .ref d), (3, .ref o), (2, .ref y), (1, .ref x), (0, .ref b)] [] Φ1 sz1 178 20844) : Z p9 l e9 room_1 s9 m9 a9 w9 t9 k9 Q9 G 9 1066 [(5, .int 0), (4, .ref d), (3, .ref o), (2, .ref y), (1, .ref x), (0, .ref b)] [] Φ sz 177 20838 := by
  refine z_aload_n B dL_law_1066 rfl 4 rfl ?_
  refine z_aload_n B dL_law_1067 rfl 5 rfl ?_
  refine z_iload B dL_law_1068 0 rfl ?_
  refine z_iconst (v := 1) B dL_law_1070 rfl ?_
  refine z_iadd B dL_law_1071 ?_
  refine z_top (st1 := [.int 1, .ref b, .ref x]) (congrArg (fun w9 : Int32 => ([.int w9, .ref b, .ref x] : List Value)) (show (0 + 1 : Int32) = 1 by decide +kernel)) ?_
  refine z_sald B hX hbn (vin rfl) dL_law_1072 ?_
  refine z_top (st1 := [.int 0, .ref x]) (congrArg (fun w9 : Int32 => ([.int w9, .ref x] : List Value)) (show xs (1 : Int32).toNatClampNeg = 0 from hx1)) ?_
  refine z_aload_n B dL_law_1073 rfl 5 rfl ?_
  refine z_iload B dL_law_1074 0 rfl ?_
  refine z_iconst (v := 2) B dL_law_1076 rfl ?_
  refine z_iadd B dL_law_1077 ?_
  refine z_top (st1 := [.int 2, .ref b, .int 0, .ref x]) (congrArg (fun w9 : Int32 => ([.int w9, .ref b, .int 0, .ref x] : List Value)) (show (0 + 2 : Int32) = 2 by decide +kernel)) ?_
  refine z_sald B hX hbn (vin rfl) dL_law_1078 ?_
  refine z_top (st1 := [.int 3, .int 0, .ref x]) (congrArg (fun w9 : Int32 => ([.int w9, .int 0, .ref x] : List Value)) (show xs (2 : Int32).toNatClampNeg = 3 from hx2)) ?_
  refine z_aload_n B dL_law_1079 rfl 2 rfl ?_
  refine z_callSW (As := [.ref x, .int 0, .int 3, .ref o]) (rest := []) B (w_fieldAt_3 G l Φ sz x o go hx_0 hx_3 hx_6 hx_8 hx_9 hco hna (Nat.le_trans hxy (Nat.le_trans (Nat.le_add_right y 26) hyo))) (vx_cwSW 4 B.1.2.2.2.2 gL_law_L_fieldAt rfl rfl rfl (by decide +kernel) ⟨Nat.le_of_ble_eq_true rfl, Nat.le_of_ble_eq_true rfl⟩) rfl rfl (Nat.le_of_ble_eq_true rfl) dL_law_1080 ⟨Nat.le_of_ble_eq_true rfl, Nat.le_of_ble_eq_true rfl⟩ (fun v1 Φ1 sz1 st1 hp1 hs1 => ?_)
  obtain ⟨rfl, fr1, g1, ho1, hg1⟩ := hp1
  replace hs1 : st1 = [.int 0] := hs1
  subst st1
  refine z_istore (lv' := [(6, .int 0), (5, .int 0), (4, .ref d), (3, .ref o), (2, .ref y), (1, .ref x), (0, .ref b)]) B dL_law_1083 (Nat.le_of_ble_eq_true rfl) rfl ?_
  refine z_aload_n B dL_law_1085 rfl 4 rfl ?_
  refine z_aload_n B dL_law_1086 rfl 6 rfl ?_
  refine z_iload B dL_law_1087 1 rfl ?_
  refine z_iconst (v := 1) B dL_law_1089 rfl ?_
  refine z_iadd B dL_law_1090 ?_
  refine z_top (st1 := [.int 1, .ref b, .ref y]) (congrArg (fun w9 : Int32 => ([.int w9, .ref b, .ref y] : List Value)) (show (0 + 1 : Int32) = 1 by decide +kernel)) ?_
  refine z_sald B hX hbn (vin rfl) dL_law_1091 ?_
  refine z_top (st1 := [.int 0, .ref y]) (congrArg (fun w9 : Int32 => ([.int w9, .ref y] : List Value)) (show xs (1 : Int32).toNatClampNeg = 0 from hx1)) ?_
  refine z_aload_n B dL_law_1092 rfl 6 rfl ?_
  refine z_iload B dL_law_1093 1 rfl ?_
  refine z_iconst (v := 2) B dL_law_1095 rfl ?_
  refine z_iadd B dL_law_1096 ?_
  refine z_top (st1 := [.int 2, .ref b, .int 0, .ref y]) (congrArg (fun w9 : Int32 => ([.int w9, .ref b, .int 0, .ref y] : List Value)) (show (0 + 2 : Int32) = 2 by decide +kernel)) ?_
  refine z_sald B hX hbn (vin rfl) dL_law_1097 ?_
  refine z_top (st1 := [.int 3, .int 0, .ref y]) (congrArg (fun w9 : Int32 => ([.int w9, .int 0, .ref y] : List Value)) (show xs (2 : Int32).toNatClampNeg = 3 from hx2)) ?_
  have h_1 : Φ1 y = some (o_ 14 [.int 0, .ref (y + 1), .ref (y + 2), .int 0, .int 1, .int 1, .int 0, .int 0, .ref (y + 3), .ref (y + 4), .int 0, .long 0, .ref (y + 5), .int 0, .int 0, .long 0, .long 0, .long 0, .long 0, .ref (y + 6), .ref (y + 7), .int 0, .ref (y + 8), .int 0, .ref (y + 9), .ref (y + 10), .int 0, .ref (y + 11), .ref (y + 12), .ref (y + 13), .ref (y + 14), .ref (y + 15), .ref (y + 16), .int 0, .long (-1), .ref (y + 17), .ref (y + 18), .ref (y + 19), .ref (y + 20), .ref (y + 21), .ref (y + 22), .int 0, .ref (y + 23), .ref (y + 24), .int 0, .ref (y + 25), .int 0, .int 0, .int 0, .int (-1), .int 0, .int 0, .int 0, .long 0]) := ((fr1 y hxy (Nat.ne_of_lt (Nat.lt_of_lt_of_le (lt_off (x := y) (i := 0) (j := 26) rfl) hyo))).trans hy_0)
  have h_2 : Φ1 (y + 2) = some (ai_ G 307 (upd (upd (upd (upd (upd (upd (upd (upd (upd (upd (upd (upd (upd (upd (upd (upd (upd (upd (upd (upd (upd (fun _ => 0) (0 : Int32).toNatClampNeg 1) (1 : Int32).toNatClampNeg 100) (2 : Int32).toNatClampNeg 1000) (3 : Int32).toNatClampNeg 100) (4 : Int32).toNatClampNeg 20) (5 : Int32).toNatClampNeg 1000) (6 : Int32).toNatClampNeg 5000) (7 : Int32).toNatClampNeg 512) (8 : Int32).toNatClampNeg 1) (9 : Int32).toNatClampNeg 511) (10 : Int32).toNatClampNeg 1) (11 : Int32).toNatClampNeg 9) (15 : Int32).toNatClampNeg 0) (16 : Int32).toNatClampNeg 1) (17 : Int32).toNatClampNeg 2) (18 : Int32).toNatClampNeg 3) (19 : Int32).toNatClampNeg 4) (20 : Int32).toNatClampNeg 5) (21 : Int32).toNatClampNeg 6) (22 : Int32).toNatClampNeg 7) (23 : Int32).toNatClampNeg 8)) := ((fr1 (y + 2) (Nat.le_trans hxy (Nat.le_add_right y 2)) (Nat.ne_of_lt (Nat.lt_of_lt_of_le (lt_off (x := y) (i := 2) (j := 26) rfl) hyo))).trans hy_2)
  refine z_callV (As := [.int 0, .int 3]) (rest := []) B (m_X12_fieldAt_3 G l Φ1 sz1 y h_1 h_2 (Nat.le_trans hna (Nat.le_trans (Nat.le_add_right x 149) hxy))) (cwV 2 B.1.2.2.2.2 gL_law_X12_fieldAt rfl rfl rfl (by decide +kernel) ⟨Nat.le_of_ble_eq_true rfl, Nat.le_of_ble_eq_true rfl⟩) h_1 rfl rfl rfl rfl (Nat.le_of_ble_eq_true rfl) dL_law_1098 ⟨Nat.le_of_ble_eq_true rfl, Nat.le_of_ble_eq_true rfl⟩ (fun v2 Φ2 sz2 st2 hp2 hs2 => ?_)
  obtain ⟨rfl, ⟨fs1, hy1, hk1⟩, fr2⟩ := hp2
  replace hs2 : st2 = [.int 3] := hs2
  subst st2
  refine z_istore (lv' := [(7, .int 3), (6, .int 0), (5, .int 0), (4, .ref d), (3, .ref o), (2, .ref y), (1, .ref x), (0, .ref b)]) B dL_law_1101 (Nat.le_of_ble_eq_true rfl) rfl ?_
  refine z_aload_n B dL_law_1103 rfl 5 rfl ?_
  refine z_callV (As := []) (rest := []) B (m_thrown G l Φ2 sz2 y fs1 0 hy1 hk1) (cwV 0 B.1.2.2.2.2 gL_law_X12_thrown rfl rfl rfl (by decide +kernel) ⟨Nat.le_of_ble_eq_true rfl, Nat.le_of_ble_eq_true rfl⟩) hy1 rfl rfl rfl rfl (Nat.le_of_ble_eq_true rfl) dL_law_1104 ⟨Nat.le_of_ble_eq_true rfl, Nat.le_of_ble_eq_true rfl⟩ (fun v3 Φ3 sz3 st3 hp3 hs3 => ?_)
  obtain ⟨rfl, he1⟩ := hp3
  replace hs3 : st3 = [.int 0] := hs3
  subst st3
  rw [he1]
  refine z_iload B dL_law_1107 1 rfl ?_
  refine z_icmp_eq (tgt := 1114) B dL_law_1109 rfl (fun c_1 => ?_) (fun h9 => absurd (by decide) h9)
  refine z_iload B dL_law_1114 1 rfl ?_
  refine z_if_ne (tgt := 1131) B dL_law_1116 rfl (fun h9 => absurd (by decide) h9) (fun c_2 => ?_)
  refine z_aload_n B dL_law_1119 rfl 4 rfl ?_
  refine z_iconst (v := 0) B dL_law_1120 rfl ?_
  have h_3 : Φ2 o = some (al_ G 1 g1) := ((fr2 o hyo).trans ho1)
  refine z_lald B h_3 (vin rfl) dL_law_1121 ?_
  refine z_top (st1 := [.long 3]) (congrArg (fun w9 : Int64 => ([.long w9] : List Value)) (show g1 (0 : Int32).toNatClampNeg = 3 from hg1)) ?_
  refine z_iload B dL_law_1122 0 rfl ?_
  refine z_i2l (v := 3) B dL_law_1124 (by decide +kernel) ?_
  refine z_lcmp B dL_law_1125 ?_
  refine z_top (st1 := [.int 0]) (congrArg (fun w9 : Int32 => ([.int w9] : List Value)) (show (lg_cmp 3 3 : Int32) = 0 by decide +kernel)) ?_
  refine z_if_eq (tgt := 1131) B dL_law_1126 rfl (fun c_3 => ?_) (fun h9 => absurd (by decide) h9)
  refine z_goto (tgt := 2893) B dL_law_1131 rfl ?_
  refine z_lv [2, 3, 4, 5, 6, 7] rfl ?_
  refine z_widen (k := 178) (n := 20844) (Nat.le_of_ble_eq_true rfl) (Nat.le_of_ble_eq_true rfl) ?_
  exact hT _ _

set_option maxHeartbeats 4000000 in
set_option maxRecDepth 100000 in
theorem lc_20_4 {p9 : Program} {e9 : Env} {s9 : State} {m9 : MethodId} {a9 : Array Value} {w9 : List Frame} {t9 : Method} {k9 : Code} {Q9 : State → Prop} {nm9 : String} (G : EnvG) (l : Launch) (hl9 : l.stackTraces = false) (B : Bd p9 s9 m9 a9 t9 k9 G code 9 RL wsL_law ret nm9) (Φ : Hm) (sz : Nat) (b : Nat) (xs : Nat → Int32) (hX : va_X b 7 xs s9 s9.heap) (hbn : b < G.2.2.2) (x y o d : Nat)  (go : Nat → Int64) (gd : Nat → UInt64) (hna : G.2.2.2 ≤ x) (hxy : x + 149 ≤ y) (hyo : y + 26 ≤ o) (hyd : y + 26 ≤ d) (hod : o ≠ d) (hx_0 : Φ x = some (o_ 13 [.ref (x + 1), .ref (x + 3), .ref (x + 24), .ref (x + 46), .ref (x + 74), .ref (x + 80), .ref (x + 132), .ref (x + 121)])) (hx_3 : Φ (x + 3) = some (o_ 3 [.ref (x + 4), .ref (x + 5), .ref (x + 6), .ref (x + 7), .int 1, .int 511])) (hx_6 : Φ (x + 6) = some (aq_ G 4 4 (va_up (va_up (va_up (va_up (fun _ => none) (0 : Int32).toNatClampNeg (some (x + 8))) (1 : Int32).toNatClampNeg (some (x + 12))) (2 : Int32).toNatClampNeg (some (x + 16))) (3 : Int32).toNatClampNeg (some (x + 20))))) (hx_8 : Φ (x + 8) = some (o_ 12 [.ref (x + 9), .int 9, .int 511, .int 29])) (hx_9 : Φ (x + 9) = some (ai_ G 9 (upd (upd (upd (upd (upd (upd (upd (upd (upd (fun _ => 0) (0 : Int32).toNatClampNeg 0) (1 : Int32).toNatClampNeg 1) (2 : Int32).toNatClampNeg 2) (3 : Int32).toNatClampNeg 3) (4 : Int32).toNatClampNeg 4) (5 : Int32).toNatClampNeg 5) (6 : Int32).toNatClampNeg 6) (7 : Int32).toNatClampNeg 7) (8 : Int32).toNatClampNeg 8))) (hy_0 : Φ y = some (o_ 14 [.int 0, .ref (y + 1), .ref (y + 2), .int 0, .int 1, .int 1, .int 0, .int 0, .ref (y + 3), .ref (y + 4), .int 0, .long 0, .ref (y + 5), .int 0, .int 0, .long 0, .long 0, .long 0, .long 0, .ref (y + 6), .ref (y + 7), .int 0, .ref (y + 8), .int 0, .ref (y + 9), .ref (y + 10), .int 0, .ref (y + 11), .ref (y + 12), .ref (y + 13), .ref (y + 14), .ref (y + 15), .ref (y + 16), .int 0, .long (-1), .ref (y + 17), .ref (y + 18), .ref (y + 19), .ref (y + 20), .ref (y + 21), .ref (y + 22), .int 0, .ref (y + 23), .ref (y + 24), .int 0, .ref (y + 25), .int 0, .int 0, .int 0, .int (-1), .int 0, .int 0, .int 0, .long 0])) (hy_2 : Φ (y + 2) = some (ai_ G 307 (upd (upd (upd (upd (upd (upd (upd (upd (upd (upd (upd (upd (upd (upd (upd (upd (upd (upd (upd (upd (upd (fun _ => 0) (0 : Int32).toNatClampNeg 1) (1 : Int32).toNatClampNeg 100) (2 : Int32).toNatClampNeg 1000) (3 : Int32).toNatClampNeg 100) (4 : Int32).toNatClampNeg 20) (5 : Int32).toNatClampNeg 1000) (6 : Int32).toNatClampNeg 5000) (7 : Int32).toNatClampNeg 512) (8 : Int32).toNatClampNeg 1) (9 : Int32).toNatClampNeg 511) (10 : Int32).toNatClampNeg 1) (11 : Int32).toNatClampNeg 9) (15 : Int32).toNatClampNeg 0) (16 : Int32).toNatClampNeg 1) (17 : Int32).toNatClampNeg 2) (18 : Int32).toNatClampNeg 3) (19 : Int32).toNatClampNeg 4) (20 : Int32).toNatClampNeg 5) (21 : Int32).toNatClampNeg 6) (22 : Int32).toNatClampNeg 7) (23 : Int32).toNatClampNeg 8))) (hco : Φ o = some (al_ G 1 go)) (hx1 : xs 1 = 0) (hx2 : xs 2 = 4) (hT : ∀ (Φ1 : Hm) (sz1 : Nat), Z p9 l e9 room_1 s9 m9 a9 w9 t9 k9 Q9 G 9 2893 [(5, .int 0), (4, .ref d), (3, .ref o), (2, .ref y), (1, .ref x), (0, .ref b)] [] Φ1 sz1 178 20844) : Z p9 l e9 room_1 s9 m9 a9 w9 t9 k9 Q9 G 9 1066 [(5, .int 0), (4, .ref d), (3, .ref o), (2, .ref y), (1, .ref x), (0, .ref b)] [] Φ sz 177 20838 := by
  refine z_aload_n B dL_law_1066 rfl 4 rfl ?_
  refine z_aload_n B dL_law_1067 rfl 5 rfl ?_
  refine z_iload B dL_law_1068 0 rfl ?_
  refine z_iconst (v := 1) B dL_law_1070 rfl ?_
  refine z_iadd B dL_law_1071 ?_
  refine z_top (st1 := [.int 1, .ref b, .ref x]) (congrArg (fun w9 : Int32 => ([.int w9, .ref b, .ref x] : List Value)) (show (0 + 1 : Int32) = 1 by decide +kernel)) ?_
  refine z_sald B hX hbn (vin rfl) dL_law_1072 ?_
  refine z_top (st1 := [.int 0, .ref x]) (congrArg (fun w9 : Int32 => ([.int w9, .ref x] : List Value)) (show xs (1 : Int32).toNatClampNeg = 0 from hx1)) ?_
  refine z_aload_n B dL_law_1073 rfl 5 rfl ?_
  refine z_iload B dL_law_1074 0 rfl ?_
  refine z_iconst (v := 2) B dL_law_1076 rfl ?_
  refine z_iadd B dL_law_1077 ?_
  refine z_top (st1 := [.int 2, .ref b, .int 0, .ref x]) (congrArg (fun w9 : Int32 => ([.int w9, .ref b, .int 0, .ref x] : List Value)) (show (0 + 2 : Int32) = 2 by decide +kernel)) ?_
  refine z_sald B hX hbn (vin rfl) dL_law_1078 ?_
  refine z_top (st1 := [.int 4, .int 0, .ref x]) (congrArg (fun w9 : Int32 => ([.int w9, .int 0, .ref x] : List Value)) (show xs (2 : Int32).toNatClampNeg = 4 from hx2)) ?_
  refine z_aload_n B dL_law_1079 rfl 2 rfl ?_
  refine z_callSW (As := [.ref x, .int 0, .int 4, .ref o]) (rest := []) B (w_fieldAt_4 G l Φ sz x o go hx_0 hx_3 hx_6 hx_8 hx_9 hco hna (Nat.le_trans hxy (Nat.le_trans (Nat.le_add_right y 26) hyo))) (vx_cwSW 4 B.1.2.2.2.2 gL_law_L_fieldAt rfl rfl rfl (by decide +kernel) ⟨Nat.le_of_ble_eq_true rfl, Nat.le_of_ble_eq_true rfl⟩) rfl rfl (Nat.le_of_ble_eq_true rfl) dL_law_1080 ⟨Nat.le_of_ble_eq_true rfl, Nat.le_of_ble_eq_true rfl⟩ (fun v1 Φ1 sz1 st1 hp1 hs1 => ?_)
  obtain ⟨rfl, fr1, g1, ho1, hg1⟩ := hp1
  replace hs1 : st1 = [.int 0] := hs1
  subst st1
  refine z_istore (lv' := [(6, .int 0), (5, .int 0), (4, .ref d), (3, .ref o), (2, .ref y), (1, .ref x), (0, .ref b)]) B dL_law_1083 (Nat.le_of_ble_eq_true rfl) rfl ?_
  refine z_aload_n B dL_law_1085 rfl 4 rfl ?_
  refine z_aload_n B dL_law_1086 rfl 6 rfl ?_
  refine z_iload B dL_law_1087 1 rfl ?_
  refine z_iconst (v := 1) B dL_law_1089 rfl ?_
  refine z_iadd B dL_law_1090 ?_
  refine z_top (st1 := [.int 1, .ref b, .ref y]) (congrArg (fun w9 : Int32 => ([.int w9, .ref b, .ref y] : List Value)) (show (0 + 1 : Int32) = 1 by decide +kernel)) ?_
  refine z_sald B hX hbn (vin rfl) dL_law_1091 ?_
  refine z_top (st1 := [.int 0, .ref y]) (congrArg (fun w9 : Int32 => ([.int w9, .ref y] : List Value)) (show xs (1 : Int32).toNatClampNeg = 0 from hx1)) ?_
  refine z_aload_n B dL_law_1092 rfl 6 rfl ?_
  refine z_iload B dL_law_1093 1 rfl ?_
  refine z_iconst (v := 2) B dL_law_1095 rfl ?_
  refine z_iadd B dL_law_1096 ?_
  refine z_top (st1 := [.int 2, .ref b, .int 0, .ref y]) (congrArg (fun w9 : Int32 => ([.int w9, .ref b, .int 0, .ref y] : List Value)) (show (0 + 2 : Int32) = 2 by decide +kernel)) ?_
  refine z_sald B hX hbn (vin rfl) dL_law_1097 ?_
  refine z_top (st1 := [.int 4, .int 0, .ref y]) (congrArg (fun w9 : Int32 => ([.int w9, .int 0, .ref y] : List Value)) (show xs (2 : Int32).toNatClampNeg = 4 from hx2)) ?_
  have h_1 : Φ1 y = some (o_ 14 [.int 0, .ref (y + 1), .ref (y + 2), .int 0, .int 1, .int 1, .int 0, .int 0, .ref (y + 3), .ref (y + 4), .int 0, .long 0, .ref (y + 5), .int 0, .int 0, .long 0, .long 0, .long 0, .long 0, .ref (y + 6), .ref (y + 7), .int 0, .ref (y + 8), .int 0, .ref (y + 9), .ref (y + 10), .int 0, .ref (y + 11), .ref (y + 12), .ref (y + 13), .ref (y + 14), .ref (y + 15), .ref (y + 16), .int 0, .long (-1), .ref (y + 17), .ref (y + 18), .ref (y + 19), .ref (y + 20), .ref (y + 21), .ref (y + 22), .int 0, .ref (y + 23), .ref (y + 24), .int 0, .ref (y + 25), .int 0, .int 0, .int 0, .int (-1), .int 0, .int 0, .int 0, .long 0]) := ((fr1 y hxy (Nat.ne_of_lt (Nat.lt_of_lt_of_le (lt_off (x := y) (i := 0) (j := 26) rfl) hyo))).trans hy_0)
  have h_2 : Φ1 (y + 2) = some (ai_ G 307 (upd (upd (upd (upd (upd (upd (upd (upd (upd (upd (upd (upd (upd (upd (upd (upd (upd (upd (upd (upd (upd (fun _ => 0) (0 : Int32).toNatClampNeg 1) (1 : Int32).toNatClampNeg 100) (2 : Int32).toNatClampNeg 1000) (3 : Int32).toNatClampNeg 100) (4 : Int32).toNatClampNeg 20) (5 : Int32).toNatClampNeg 1000) (6 : Int32).toNatClampNeg 5000) (7 : Int32).toNatClampNeg 512) (8 : Int32).toNatClampNeg 1) (9 : Int32).toNatClampNeg 511) (10 : Int32).toNatClampNeg 1) (11 : Int32).toNatClampNeg 9) (15 : Int32).toNatClampNeg 0) (16 : Int32).toNatClampNeg 1) (17 : Int32).toNatClampNeg 2) (18 : Int32).toNatClampNeg 3) (19 : Int32).toNatClampNeg 4) (20 : Int32).toNatClampNeg 5) (21 : Int32).toNatClampNeg 6) (22 : Int32).toNatClampNeg 7) (23 : Int32).toNatClampNeg 8)) := ((fr1 (y + 2) (Nat.le_trans hxy (Nat.le_add_right y 2)) (Nat.ne_of_lt (Nat.lt_of_lt_of_le (lt_off (x := y) (i := 2) (j := 26) rfl) hyo))).trans hy_2)
  refine z_callV (As := [.int 0, .int 4]) (rest := []) B (m_X12_fieldAt_4 G l Φ1 sz1 y h_1 h_2 (Nat.le_trans hna (Nat.le_trans (Nat.le_add_right x 149) hxy))) (cwV 2 B.1.2.2.2.2 gL_law_X12_fieldAt rfl rfl rfl (by decide +kernel) ⟨Nat.le_of_ble_eq_true rfl, Nat.le_of_ble_eq_true rfl⟩) h_1 rfl rfl rfl rfl (Nat.le_of_ble_eq_true rfl) dL_law_1098 ⟨Nat.le_of_ble_eq_true rfl, Nat.le_of_ble_eq_true rfl⟩ (fun v2 Φ2 sz2 st2 hp2 hs2 => ?_)
  obtain ⟨rfl, ⟨fs1, hy1, hk1⟩, fr2⟩ := hp2
  replace hs2 : st2 = [.int 4] := hs2
  subst st2
  refine z_istore (lv' := [(7, .int 4), (6, .int 0), (5, .int 0), (4, .ref d), (3, .ref o), (2, .ref y), (1, .ref x), (0, .ref b)]) B dL_law_1101 (Nat.le_of_ble_eq_true rfl) rfl ?_
  refine z_aload_n B dL_law_1103 rfl 5 rfl ?_
  refine z_callV (As := []) (rest := []) B (m_thrown G l Φ2 sz2 y fs1 0 hy1 hk1) (cwV 0 B.1.2.2.2.2 gL_law_X12_thrown rfl rfl rfl (by decide +kernel) ⟨Nat.le_of_ble_eq_true rfl, Nat.le_of_ble_eq_true rfl⟩) hy1 rfl rfl rfl rfl (Nat.le_of_ble_eq_true rfl) dL_law_1104 ⟨Nat.le_of_ble_eq_true rfl, Nat.le_of_ble_eq_true rfl⟩ (fun v3 Φ3 sz3 st3 hp3 hs3 => ?_)
  obtain ⟨rfl, he1⟩ := hp3
  replace hs3 : st3 = [.int 0] := hs3
  subst st3
  rw [he1]
  refine z_iload B dL_law_1107 1 rfl ?_
  refine z_icmp_eq (tgt := 1114) B dL_law_1109 rfl (fun c_1 => ?_) (fun h9 => absurd (by decide) h9)
  refine z_iload B dL_law_1114 1 rfl ?_
  refine z_if_ne (tgt := 1131) B dL_law_1116 rfl (fun h9 => absurd (by decide) h9) (fun c_2 => ?_)
  refine z_aload_n B dL_law_1119 rfl 4 rfl ?_
  refine z_iconst (v := 0) B dL_law_1120 rfl ?_
  have h_3 : Φ2 o = some (al_ G 1 g1) := ((fr2 o hyo).trans ho1)
  refine z_lald B h_3 (vin rfl) dL_law_1121 ?_
  refine z_top (st1 := [.long 4]) (congrArg (fun w9 : Int64 => ([.long w9] : List Value)) (show g1 (0 : Int32).toNatClampNeg = 4 from hg1)) ?_
  refine z_iload B dL_law_1122 0 rfl ?_
  refine z_i2l (v := 4) B dL_law_1124 (by decide +kernel) ?_
  refine z_lcmp B dL_law_1125 ?_
  refine z_top (st1 := [.int 0]) (congrArg (fun w9 : Int32 => ([.int w9] : List Value)) (show (lg_cmp 4 4 : Int32) = 0 by decide +kernel)) ?_
  refine z_if_eq (tgt := 1131) B dL_law_1126 rfl (fun c_3 => ?_) (fun h9 => absurd (by decide) h9)
  refine z_goto (tgt := 2893) B dL_law_1131 rfl ?_
  refine z_lv [2, 3, 4, 5, 6, 7] rfl ?_
  refine z_widen (k := 178) (n := 20844) (Nat.le_of_ble_eq_true rfl) (Nat.le_of_ble_eq_true rfl) ?_
  exact hT _ _

set_option maxHeartbeats 4000000 in
set_option maxRecDepth 100000 in
theorem lc_20_5 {p9 : Program} {e9 : Env} {s9 : State} {m9 : MethodId} {a9 : Array Value} {w9 : List Frame} {t9 : Method} {k9 : Code} {Q9 : State → Prop} {nm9 : String} (G : EnvG) (l : Launch) (hl9 : l.stackTraces = false) (B : Bd p9 s9 m9 a9 t9 k9 G code 9 RL wsL_law ret nm9) (Φ : Hm) (sz : Nat) (b : Nat) (xs : Nat → Int32) (hX : va_X b 7 xs s9 s9.heap) (hbn : b < G.2.2.2) (x y o d : Nat)  (go : Nat → Int64) (gd : Nat → UInt64) (hna : G.2.2.2 ≤ x) (hxy : x + 149 ≤ y) (hyo : y + 26 ≤ o) (hyd : y + 26 ≤ d) (hod : o ≠ d) (hx_0 : Φ x = some (o_ 13 [.ref (x + 1), .ref (x + 3), .ref (x + 24), .ref (x + 46), .ref (x + 74), .ref (x + 80), .ref (x + 132), .ref (x + 121)])) (hx_3 : Φ (x + 3) = some (o_ 3 [.ref (x + 4), .ref (x + 5), .ref (x + 6), .ref (x + 7), .int 1, .int 511])) (hx_6 : Φ (x + 6) = some (aq_ G 4 4 (va_up (va_up (va_up (va_up (fun _ => none) (0 : Int32).toNatClampNeg (some (x + 8))) (1 : Int32).toNatClampNeg (some (x + 12))) (2 : Int32).toNatClampNeg (some (x + 16))) (3 : Int32).toNatClampNeg (some (x + 20))))) (hx_8 : Φ (x + 8) = some (o_ 12 [.ref (x + 9), .int 9, .int 511, .int 29])) (hx_9 : Φ (x + 9) = some (ai_ G 9 (upd (upd (upd (upd (upd (upd (upd (upd (upd (fun _ => 0) (0 : Int32).toNatClampNeg 0) (1 : Int32).toNatClampNeg 1) (2 : Int32).toNatClampNeg 2) (3 : Int32).toNatClampNeg 3) (4 : Int32).toNatClampNeg 4) (5 : Int32).toNatClampNeg 5) (6 : Int32).toNatClampNeg 6) (7 : Int32).toNatClampNeg 7) (8 : Int32).toNatClampNeg 8))) (hy_0 : Φ y = some (o_ 14 [.int 0, .ref (y + 1), .ref (y + 2), .int 0, .int 1, .int 1, .int 0, .int 0, .ref (y + 3), .ref (y + 4), .int 0, .long 0, .ref (y + 5), .int 0, .int 0, .long 0, .long 0, .long 0, .long 0, .ref (y + 6), .ref (y + 7), .int 0, .ref (y + 8), .int 0, .ref (y + 9), .ref (y + 10), .int 0, .ref (y + 11), .ref (y + 12), .ref (y + 13), .ref (y + 14), .ref (y + 15), .ref (y + 16), .int 0, .long (-1), .ref (y + 17), .ref (y + 18), .ref (y + 19), .ref (y + 20), .ref (y + 21), .ref (y + 22), .int 0, .ref (y + 23), .ref (y + 24), .int 0, .ref (y + 25), .int 0, .int 0, .int 0, .int (-1), .int 0, .int 0, .int 0, .long 0])) (hy_2 : Φ (y + 2) = some (ai_ G 307 (upd (upd (upd (upd (upd (upd (upd (upd (upd (upd (upd (upd (upd (upd (upd (upd (upd (upd (upd (upd (upd (fun _ => 0) (0 : Int32).toNatClampNeg 1) (1 : Int32).toNatClampNeg 100) (2 : Int32).toNatClampNeg 1000) (3 : Int32).toNatClampNeg 100) (4 : Int32).toNatClampNeg 20) (5 : Int32).toNatClampNeg 1000) (6 : Int32).toNatClampNeg 5000) (7 : Int32).toNatClampNeg 512) (8 : Int32).toNatClampNeg 1) (9 : Int32).toNatClampNeg 511) (10 : Int32).toNatClampNeg 1) (11 : Int32).toNatClampNeg 9) (15 : Int32).toNatClampNeg 0) (16 : Int32).toNatClampNeg 1) (17 : Int32).toNatClampNeg 2) (18 : Int32).toNatClampNeg 3) (19 : Int32).toNatClampNeg 4) (20 : Int32).toNatClampNeg 5) (21 : Int32).toNatClampNeg 6) (22 : Int32).toNatClampNeg 7) (23 : Int32).toNatClampNeg 8))) (hco : Φ o = some (al_ G 1 go)) (hx1 : xs 1 = 0) (hx2 : xs 2 = 5) (hT : ∀ (Φ1 : Hm) (sz1 : Nat), Z p9 l e9 room_1 s9 m9 a9 w9 t9 k9 Q9 G 9 2893 [(5, .int 0), (4, .ref d), (3, .ref o), (2, .ref y), (1, .ref x), (0, .ref b)] [] Φ1 sz1 178 20844) : Z p9 l e9 room_1 s9 m9 a9 w9 t9 k9 Q9 G 9 1066 [(5, .int 0), (4, .ref d), (3, .ref o), (2, .ref y), (1, .ref x), (0, .ref b)] [] Φ sz 177 20838 := by
  refine z_aload_n B dL_law_1066 rfl 4 rfl ?_
  refine z_aload_n B dL_law_1067 rfl 5 rfl ?_
  refine z_iload B dL_law_1068 0 rfl ?_
  refine z_iconst (v := 1) B dL_law_1070 rfl ?_
  refine z_iadd B dL_law_1071 ?_
  refine z_top (st1 := [.int 1, .ref b, .ref x]) (congrArg (fun w9 : Int32 => ([.int w9, .ref b, .ref x] : List Value)) (show (0 + 1 : Int32) = 1 by decide +kernel)) ?_
  refine z_sald B hX hbn (vin rfl) dL_law_1072 ?_
  refine z_top (st1 := [.int 0, .ref x]) (congrArg (fun w9 : Int32 => ([.int w9, .ref x] : List Value)) (show xs (1 : Int32).toNatClampNeg = 0 from hx1)) ?_
  refine z_aload_n B dL_law_1073 rfl 5 rfl ?_
  refine z_iload B dL_law_1074 0 rfl ?_
  refine z_iconst (v := 2) B dL_law_1076 rfl ?_
  refine z_iadd B dL_law_1077 ?_
  refine z_top (st1 := [.int 2, .ref b, .int 0, .ref x]) (congrArg (fun w9 : Int32 => ([.int w9, .ref b, .int 0, .ref x] : List Value)) (show (0 + 2 : Int32) = 2 by decide +kernel)) ?_
  refine z_sald B hX hbn (vin rfl) dL_law_1078 ?_
  refine z_top (st1 := [.int 5, .int 0, .ref x]) (congrArg (fun w9 : Int32 => ([.int w9, .int 0, .ref x] : List Value)) (show xs (2 : Int32).toNatClampNeg = 5 from hx2)) ?_
  refine z_aload_n B dL_law_1079 rfl 2 rfl ?_
  refine z_callSW (As := [.ref x, .int 0, .int 5, .ref o]) (rest := []) B (w_fieldAt_5 G l Φ sz x o go hx_0 hx_3 hx_6 hx_8 hx_9 hco hna (Nat.le_trans hxy (Nat.le_trans (Nat.le_add_right y 26) hyo))) (vx_cwSW 4 B.1.2.2.2.2 gL_law_L_fieldAt rfl rfl rfl (by decide +kernel) ⟨Nat.le_of_ble_eq_true rfl, Nat.le_of_ble_eq_true rfl⟩) rfl rfl (Nat.le_of_ble_eq_true rfl) dL_law_1080 ⟨Nat.le_of_ble_eq_true rfl, Nat.le_of_ble_eq_true rfl⟩ (fun v1 Φ1 sz1 st1 hp1 hs1 => ?_)
  obtain ⟨rfl, fr1, g1, ho1, hg1⟩ := hp1
  replace hs1 : st1 = [.int 0] := hs1
  subst st1
  refine z_istore (lv' := [(6, .int 0), (5, .int 0), (4, .ref d), (3, .ref o), (2, .ref y), (1, .ref x), (0, .ref b)]) B dL_law_1083 (Nat.le_of_ble_eq_true rfl) rfl ?_
  refine z_aload_n B dL_law_1085 rfl 4 rfl ?_
  refine z_aload_n B dL_law_1086 rfl 6 rfl ?_
  refine z_iload B dL_law_1087 1 rfl ?_
  refine z_iconst (v := 1) B dL_law_1089 rfl ?_
  refine z_iadd B dL_law_1090 ?_
  refine z_top (st1 := [.int 1, .ref b, .ref y]) (congrArg (fun w9 : Int32 => ([.int w9, .ref b, .ref y] : List Value)) (show (0 + 1 : Int32) = 1 by decide +kernel)) ?_
  refine z_sald B hX hbn (vin rfl) dL_law_1091 ?_
  refine z_top (st1 := [.int 0, .ref y]) (congrArg (fun w9 : Int32 => ([.int w9, .ref y] : List Value)) (show xs (1 : Int32).toNatClampNeg = 0 from hx1)) ?_
  refine z_aload_n B dL_law_1092 rfl 6 rfl ?_
  refine z_iload B dL_law_1093 1 rfl ?_
  refine z_iconst (v := 2) B dL_law_1095 rfl ?_
  refine z_iadd B dL_law_1096 ?_
  refine z_top (st1 := [.int 2, .ref b, .int 0, .ref y]) (congrArg (fun w9 : Int32 => ([.int w9, .ref b, .int 0, .ref y] : List Value)) (show (0 + 2 : Int32) = 2 by decide +kernel)) ?_
  refine z_sald B hX hbn (vin rfl) dL_law_1097 ?_
  refine z_top (st1 := [.int 5, .int 0, .ref y]) (congrArg (fun w9 : Int32 => ([.int w9, .int 0, .ref y] : List Value)) (show xs (2 : Int32).toNatClampNeg = 5 from hx2)) ?_
  have h_1 : Φ1 y = some (o_ 14 [.int 0, .ref (y + 1), .ref (y + 2), .int 0, .int 1, .int 1, .int 0, .int 0, .ref (y + 3), .ref (y + 4), .int 0, .long 0, .ref (y + 5), .int 0, .int 0, .long 0, .long 0, .long 0, .long 0, .ref (y + 6), .ref (y + 7), .int 0, .ref (y + 8), .int 0, .ref (y + 9), .ref (y + 10), .int 0, .ref (y + 11), .ref (y + 12), .ref (y + 13), .ref (y + 14), .ref (y + 15), .ref (y + 16), .int 0, .long (-1), .ref (y + 17), .ref (y + 18), .ref (y + 19), .ref (y + 20), .ref (y + 21), .ref (y + 22), .int 0, .ref (y + 23), .ref (y + 24), .int 0, .ref (y + 25), .int 0, .int 0, .int 0, .int (-1), .int 0, .int 0, .int 0, .long 0]) := ((fr1 y hxy (Nat.ne_of_lt (Nat.lt_of_lt_of_le (lt_off (x := y) (i := 0) (j := 26) rfl) hyo))).trans hy_0)
  have h_2 : Φ1 (y + 2) = some (ai_ G 307 (upd (upd (upd (upd (upd (upd (upd (upd (upd (upd (upd (upd (upd (upd (upd (upd (upd (upd (upd (upd (upd (fun _ => 0) (0 : Int32).toNatClampNeg 1) (1 : Int32).toNatClampNeg 100) (2 : Int32).toNatClampNeg 1000) (3 : Int32).toNatClampNeg 100) (4 : Int32).toNatClampNeg 20) (5 : Int32).toNatClampNeg 1000) (6 : Int32).toNatClampNeg 5000) (7 : Int32).toNatClampNeg 512) (8 : Int32).toNatClampNeg 1) (9 : Int32).toNatClampNeg 511) (10 : Int32).toNatClampNeg 1) (11 : Int32).toNatClampNeg 9) (15 : Int32).toNatClampNeg 0) (16 : Int32).toNatClampNeg 1) (17 : Int32).toNatClampNeg 2) (18 : Int32).toNatClampNeg 3) (19 : Int32).toNatClampNeg 4) (20 : Int32).toNatClampNeg 5) (21 : Int32).toNatClampNeg 6) (22 : Int32).toNatClampNeg 7) (23 : Int32).toNatClampNeg 8)) := ((fr1 (y + 2) (Nat.le_trans hxy (Nat.le_add_right y 2)) (Nat.ne_of_lt (Nat.lt_of_lt_of_le (lt_off (x := y) (i := 2) (j := 26) rfl) hyo))).trans hy_2)
  refine z_callV (As := [.int 0, .int 5]) (rest := []) B (m_X12_fieldAt_5 G l Φ1 sz1 y h_1 h_2 (Nat.le_trans hna (Nat.le_trans (Nat.le_add_right x 149) hxy))) (cwV 2 B.1.2.2.2.2 gL_law_X12_fieldAt rfl rfl rfl (by decide +kernel) ⟨Nat.le_of_ble_eq_true rfl, Nat.le_of_ble_eq_true rfl⟩) h_1 rfl rfl rfl rfl (Nat.le_of_ble_eq_true rfl) dL_law_1098 ⟨Nat.le_of_ble_eq_true rfl, Nat.le_of_ble_eq_true rfl⟩ (fun v2 Φ2 sz2 st2 hp2 hs2 => ?_)
  obtain ⟨rfl, ⟨fs1, hy1, hk1⟩, fr2⟩ := hp2
  replace hs2 : st2 = [.int 5] := hs2
  subst st2
  refine z_istore (lv' := [(7, .int 5), (6, .int 0), (5, .int 0), (4, .ref d), (3, .ref o), (2, .ref y), (1, .ref x), (0, .ref b)]) B dL_law_1101 (Nat.le_of_ble_eq_true rfl) rfl ?_
  refine z_aload_n B dL_law_1103 rfl 5 rfl ?_
  refine z_callV (As := []) (rest := []) B (m_thrown G l Φ2 sz2 y fs1 0 hy1 hk1) (cwV 0 B.1.2.2.2.2 gL_law_X12_thrown rfl rfl rfl (by decide +kernel) ⟨Nat.le_of_ble_eq_true rfl, Nat.le_of_ble_eq_true rfl⟩) hy1 rfl rfl rfl rfl (Nat.le_of_ble_eq_true rfl) dL_law_1104 ⟨Nat.le_of_ble_eq_true rfl, Nat.le_of_ble_eq_true rfl⟩ (fun v3 Φ3 sz3 st3 hp3 hs3 => ?_)
  obtain ⟨rfl, he1⟩ := hp3
  replace hs3 : st3 = [.int 0] := hs3
  subst st3
  rw [he1]
  refine z_iload B dL_law_1107 1 rfl ?_
  refine z_icmp_eq (tgt := 1114) B dL_law_1109 rfl (fun c_1 => ?_) (fun h9 => absurd (by decide) h9)
  refine z_iload B dL_law_1114 1 rfl ?_
  refine z_if_ne (tgt := 1131) B dL_law_1116 rfl (fun h9 => absurd (by decide) h9) (fun c_2 => ?_)
  refine z_aload_n B dL_law_1119 rfl 4 rfl ?_
  refine z_iconst (v := 0) B dL_law_1120 rfl ?_
  have h_3 : Φ2 o = some (al_ G 1 g1) := ((fr2 o hyo).trans ho1)
  refine z_lald B h_3 (vin rfl) dL_law_1121 ?_
  refine z_top (st1 := [.long 5]) (congrArg (fun w9 : Int64 => ([.long w9] : List Value)) (show g1 (0 : Int32).toNatClampNeg = 5 from hg1)) ?_
  refine z_iload B dL_law_1122 0 rfl ?_
  refine z_i2l (v := 5) B dL_law_1124 (by decide +kernel) ?_
  refine z_lcmp B dL_law_1125 ?_
  refine z_top (st1 := [.int 0]) (congrArg (fun w9 : Int32 => ([.int w9] : List Value)) (show (lg_cmp 5 5 : Int32) = 0 by decide +kernel)) ?_
  refine z_if_eq (tgt := 1131) B dL_law_1126 rfl (fun c_3 => ?_) (fun h9 => absurd (by decide) h9)
  refine z_goto (tgt := 2893) B dL_law_1131 rfl ?_
  refine z_lv [2, 3, 4, 5, 6, 7] rfl ?_
  refine z_widen (k := 178) (n := 20844) (Nat.le_of_ble_eq_true rfl) (Nat.le_of_ble_eq_true rfl) ?_
  exact hT _ _

set_option maxHeartbeats 4000000 in
set_option maxRecDepth 100000 in
theorem lc_20_6 {p9 : Program} {e9 : Env} {s9 : State} {m9 : MethodId} {a9 : Array Value} {w9 : List Frame} {t9 : Method} {k9 : Code} {Q9 : State → Prop} {nm9 : String} (G : EnvG) (l : Launch) (hl9 : l.stackTraces = false) (B : Bd p9 s9 m9 a9 t9 k9 G code 9 RL wsL_law ret nm9) (Φ : Hm) (sz : Nat) (b : Nat) (xs : Nat → Int32) (hX : va_X b 7 xs s9 s9.heap) (hbn : b < G.2.2.2) (x y o d : Nat)  (go : Nat → Int64) (gd : Nat → UInt64) (hna : G.2.2.2 ≤ x) (hxy : x + 149 ≤ y) (hyo : y + 26 ≤ o) (hyd : y + 26 ≤ d) (hod : o ≠ d) (hx_0 : Φ x = some (o_ 13 [.ref (x + 1), .ref (x + 3), .ref (x + 24), .ref (x + 46), .ref (x + 74), .ref (x + 80), .ref (x + 132), .ref (x + 121)])) (hx_3 : Φ (x + 3) = some (o_ 3 [.ref (x + 4), .ref (x + 5), .ref (x + 6), .ref (x + 7), .int 1, .int 511])) (hx_6 : Φ (x + 6) = some (aq_ G 4 4 (va_up (va_up (va_up (va_up (fun _ => none) (0 : Int32).toNatClampNeg (some (x + 8))) (1 : Int32).toNatClampNeg (some (x + 12))) (2 : Int32).toNatClampNeg (some (x + 16))) (3 : Int32).toNatClampNeg (some (x + 20))))) (hx_8 : Φ (x + 8) = some (o_ 12 [.ref (x + 9), .int 9, .int 511, .int 29])) (hx_9 : Φ (x + 9) = some (ai_ G 9 (upd (upd (upd (upd (upd (upd (upd (upd (upd (fun _ => 0) (0 : Int32).toNatClampNeg 0) (1 : Int32).toNatClampNeg 1) (2 : Int32).toNatClampNeg 2) (3 : Int32).toNatClampNeg 3) (4 : Int32).toNatClampNeg 4) (5 : Int32).toNatClampNeg 5) (6 : Int32).toNatClampNeg 6) (7 : Int32).toNatClampNeg 7) (8 : Int32).toNatClampNeg 8))) (hy_0 : Φ y = some (o_ 14 [.int 0, .ref (y + 1), .ref (y + 2), .int 0, .int 1, .int 1, .int 0, .int 0, .ref (y + 3), .ref (y + 4), .int 0, .long 0, .ref (y + 5), .int 0, .int 0, .long 0, .long 0, .long 0, .long 0, .ref (y + 6), .ref (y + 7), .int 0, .ref (y + 8), .int 0, .ref (y + 9), .ref (y + 10), .int 0, .ref (y + 11), .ref (y + 12), .ref (y + 13), .ref (y + 14), .ref (y + 15), .ref (y + 16), .int 0, .long (-1), .ref (y + 17), .ref (y + 18), .ref (y + 19), .ref (y + 20), .ref (y + 21), .ref (y + 22), .int 0, .ref (y + 23), .ref (y + 24), .int 0, .ref (y + 25), .int 0, .int 0, .int 0, .int (-1), .int 0, .int 0, .int 0, .long 0])) (hy_2 : Φ (y + 2) = some (ai_ G 307 (upd (upd (upd (upd (upd (upd (upd (upd (upd (upd (upd (upd (upd (upd (upd (upd (upd (upd (upd (upd (upd (fun _ => 0) (0 : Int32).toNatClampNeg 1) (1 : Int32).toNatClampNeg 100) (2 : Int32).toNatClampNeg 1000) (3 : Int32).toNatClampNeg 100) (4 : Int32).toNatClampNeg 20) (5 : Int32).toNatClampNeg 1000) (6 : Int32).toNatClampNeg 5000) (7 : Int32).toNatClampNeg 512) (8 : Int32).toNatClampNeg 1) (9 : Int32).toNatClampNeg 511) (10 : Int32).toNatClampNeg 1) (11 : Int32).toNatClampNeg 9) (15 : Int32).toNatClampNeg 0) (16 : Int32).toNatClampNeg 1) (17 : Int32).toNatClampNeg 2) (18 : Int32).toNatClampNeg 3) (19 : Int32).toNatClampNeg 4) (20 : Int32).toNatClampNeg 5) (21 : Int32).toNatClampNeg 6) (22 : Int32).toNatClampNeg 7) (23 : Int32).toNatClampNeg 8))) (hco : Φ o = some (al_ G 1 go)) (hx1 : xs 1 = 0) (hx2 : xs 2 = 6) (hT : ∀ (Φ1 : Hm) (sz1 : Nat), Z p9 l e9 room_1 s9 m9 a9 w9 t9 k9 Q9 G 9 2893 [(5, .int 0), (4, .ref d), (3, .ref o), (2, .ref y), (1, .ref x), (0, .ref b)] [] Φ1 sz1 178 20844) : Z p9 l e9 room_1 s9 m9 a9 w9 t9 k9 Q9 G 9 1066 [(5, .int 0), (4, .ref d), (3, .ref o), (2, .ref y), (1, .ref x), (0, .ref b)] [] Φ sz 177 20838 := by
  refine z_aload_n B dL_law_1066 rfl 4 rfl ?_
  refine z_aload_n B dL_law_1067 rfl 5 rfl ?_
  refine z_iload B dL_law_1068 0 rfl ?_
  refine z_iconst (v := 1) B dL_law_1070 rfl ?_
  refine z_iadd B dL_law_1071 ?_
  refine z_top (st1 := [.int 1, .ref b, .ref x]) (congrArg (fun w9 : Int32 => ([.int w9, .ref b, .ref x] : List Value)) (show (0 + 1 : Int32) = 1 by decide +kernel)) ?_
  refine z_sald B hX hbn (vin rfl) dL_law_1072 ?_
  refine z_top (st1 := [.int 0, .ref x]) (congrArg (fun w9 : Int32 => ([.int w9, .ref x] : List Value)) (show xs (1 : Int32).toNatClampNeg = 0 from hx1)) ?_
  refine z_aload_n B dL_law_1073 rfl 5 rfl ?_
  refine z_iload B dL_law_1074 0 rfl ?_
  refine z_iconst (v := 2) B dL_law_1076 rfl ?_
  refine z_iadd B dL_law_1077 ?_
  refine z_top (st1 := [.int 2, .ref b, .int 0, .ref x]) (congrArg (fun w9 : Int32 => ([.int w9, .ref b, .int 0, .ref x] : List Value)) (show (0 + 2 : Int32) = 2 by decide +kernel)) ?_
  refine z_sald B hX hbn (vin rfl) dL_law_1078 ?_
  refine z_top (st1 := [.int 6, .int 0, .ref x]) (congrArg (fun w9 : Int32 => ([.int w9, .int 0, .ref x] : List Value)) (show xs (2 : Int32).toNatClampNeg = 6 from hx2)) ?_
  refine z_aload_n B dL_law_1079 rfl 2 rfl ?_
  refine z_callSW (As := [.ref x, .int 0, .int 6, .ref o]) (rest := []) B (w_fieldAt_6 G l Φ sz x o go hx_0 hx_3 hx_6 hx_8 hx_9 hco hna (Nat.le_trans hxy (Nat.le_trans (Nat.le_add_right y 26) hyo))) (vx_cwSW 4 B.1.2.2.2.2 gL_law_L_fieldAt rfl rfl rfl (by decide +kernel) ⟨Nat.le_of_ble_eq_true rfl, Nat.le_of_ble_eq_true rfl⟩) rfl rfl (Nat.le_of_ble_eq_true rfl) dL_law_1080 ⟨Nat.le_of_ble_eq_true rfl, Nat.le_of_ble_eq_true rfl⟩ (fun v1 Φ1 sz1 st1 hp1 hs1 => ?_)
  obtain ⟨rfl, fr1, g1, ho1, hg1⟩ := hp1
  replace hs1 : st1 = [.int 0] := hs1
  subst st1
  refine z_istore (lv' := [(6, .int 0), (5, .int 0), (4, .ref d), (3, .ref o), (2, .ref y), (1, .ref x), (0, .ref b)]) B dL_law_1083 (Nat.le_of_ble_eq_true rfl) rfl ?_
  refine z_aload_n B dL_law_1085 rfl 4 rfl ?_
  refine z_aload_n B dL_law_1086 rfl 6 rfl ?_
  refine z_iload B dL_law_1087 1 rfl ?_
  refine z_iconst (v := 1) B dL_law_1089 rfl ?_
  refine z_iadd B dL_law_1090 ?_
  refine z_top (st1 := [.int 1, .ref b, .ref y]) (congrArg (fun w9 : Int32 => ([.int w9, .ref b, .ref y] : List Value)) (show (0 + 1 : Int32) = 1 by decide +kernel)) ?_
  refine z_sald B hX hbn (vin rfl) dL_law_1091 ?_
  refine z_top (st1 := [.int 0, .ref y]) (congrArg (fun w9 : Int32 => ([.int w9, .ref y] : List Value)) (show xs (1 : Int32).toNatClampNeg = 0 from hx1)) ?_
  refine z_aload_n B dL_law_1092 rfl 6 rfl ?_
  refine z_iload B dL_law_1093 1 rfl ?_
  refine z_iconst (v := 2) B dL_law_1095 rfl ?_
  refine z_iadd B dL_law_1096 ?_
  refine z_top (st1 := [.int 2, .ref b, .int 0, .ref y]) (congrArg (fun w9 : Int32 => ([.int w9, .ref b, .int 0, .ref y] : List Value)) (show (0 + 2 : Int32) = 2 by decide +kernel)) ?_
  refine z_sald B hX hbn (vin rfl) dL_law_1097 ?_
  refine z_top (st1 := [.int 6, .int 0, .ref y]) (congrArg (fun w9 : Int32 => ([.int w9, .int 0, .ref y] : List Value)) (show xs (2 : Int32).toNatClampNeg = 6 from hx2)) ?_
  have h_1 : Φ1 y = some (o_ 14 [.int 0, .ref (y + 1), .ref (y + 2), .int 0, .int 1, .int 1, .int 0, .int 0, .ref (y + 3), .ref (y + 4), .int 0, .long 0, .ref (y + 5), .int 0, .int 0, .long 0, .long 0, .long 0, .long 0, .ref (y + 6), .ref (y + 7), .int 0, .ref (y + 8), .int 0, .ref (y + 9), .ref (y + 10), .int 0, .ref (y + 11), .ref (y + 12), .ref (y + 13), .ref (y + 14), .ref (y + 15), .ref (y + 16), .int 0, .long (-1), .ref (y + 17), .ref (y + 18), .ref (y + 19), .ref (y + 20), .ref (y + 21), .ref (y + 22), .int 0, .ref (y + 23), .ref (y + 24), .int 0, .ref (y + 25), .int 0, .int 0, .int 0, .int (-1), .int 0, .int 0, .int 0, .long 0]) := ((fr1 y hxy (Nat.ne_of_lt (Nat.lt_of_lt_of_le (lt_off (x := y) (i := 0) (j := 26) rfl) hyo))).trans hy_0)
  have h_2 : Φ1 (y + 2) = some (ai_ G 307 (upd (upd (upd (upd (upd (upd (upd (upd (upd (upd (upd (upd (upd (upd (upd (upd (upd (upd (upd (upd (upd (fun _ => 0) (0 : Int32).toNatClampNeg 1) (1 : Int32).toNatClampNeg 100) (2 : Int32).toNatClampNeg 1000) (3 : Int32).toNatClampNeg 100) (4 : Int32).toNatClampNeg 20) (5 : Int32).toNatClampNeg 1000) (6 : Int32).toNatClampNeg 5000) (7 : Int32).toNatClampNeg 512) (8 : Int32).toNatClampNeg 1) (9 : Int32).toNatClampNeg 511) (10 : Int32).toNatClampNeg 1) (11 : Int32).toNatClampNeg 9) (15 : Int32).toNatClampNeg 0) (16 : Int32).toNatClampNeg 1) (17 : Int32).toNatClampNeg 2) (18 : Int32).toNatClampNeg 3) (19 : Int32).toNatClampNeg 4) (20 : Int32).toNatClampNeg 5) (21 : Int32).toNatClampNeg 6) (22 : Int32).toNatClampNeg 7) (23 : Int32).toNatClampNeg 8)) := ((fr1 (y + 2) (Nat.le_trans hxy (Nat.le_add_right y 2)) (Nat.ne_of_lt (Nat.lt_of_lt_of_le (lt_off (x := y) (i := 2) (j := 26) rfl) hyo))).trans hy_2)
  refine z_callV (As := [.int 0, .int 6]) (rest := []) B (m_X12_fieldAt_6 G l Φ1 sz1 y h_1 h_2 (Nat.le_trans hna (Nat.le_trans (Nat.le_add_right x 149) hxy))) (cwV 2 B.1.2.2.2.2 gL_law_X12_fieldAt rfl rfl rfl (by decide +kernel) ⟨Nat.le_of_ble_eq_true rfl, Nat.le_of_ble_eq_true rfl⟩) h_1 rfl rfl rfl rfl (Nat.le_of_ble_eq_true rfl) dL_law_1098 ⟨Nat.le_of_ble_eq_true rfl, Nat.le_of_ble_eq_true rfl⟩ (fun v2 Φ2 sz2 st2 hp2 hs2 => ?_)
  obtain ⟨rfl, ⟨fs1, hy1, hk1⟩, fr2⟩ := hp2
  replace hs2 : st2 = [.int 6] := hs2
  subst st2
  refine z_istore (lv' := [(7, .int 6), (6, .int 0), (5, .int 0), (4, .ref d), (3, .ref o), (2, .ref y), (1, .ref x), (0, .ref b)]) B dL_law_1101 (Nat.le_of_ble_eq_true rfl) rfl ?_
  refine z_aload_n B dL_law_1103 rfl 5 rfl ?_
  refine z_callV (As := []) (rest := []) B (m_thrown G l Φ2 sz2 y fs1 0 hy1 hk1) (cwV 0 B.1.2.2.2.2 gL_law_X12_thrown rfl rfl rfl (by decide +kernel) ⟨Nat.le_of_ble_eq_true rfl, Nat.le_of_ble_eq_true rfl⟩) hy1 rfl rfl rfl rfl (Nat.le_of_ble_eq_true rfl) dL_law_1104 ⟨Nat.le_of_ble_eq_true rfl, Nat.le_of_ble_eq_true rfl⟩ (fun v3 Φ3 sz3 st3 hp3 hs3 => ?_)
  obtain ⟨rfl, he1⟩ := hp3
  replace hs3 : st3 = [.int 0] := hs3
  subst st3
  rw [he1]
  refine z_iload B dL_law_1107 1 rfl ?_
  refine z_icmp_eq (tgt := 1114) B dL_law_1109 rfl (fun c_1 => ?_) (fun h9 => absurd (by decide) h9)
  refine z_iload B dL_law_1114 1 rfl ?_
  refine z_if_ne (tgt := 1131) B dL_law_1116 rfl (fun h9 => absurd (by decide) h9) (fun c_2 => ?_)
  refine z_aload_n B dL_law_1119 rfl 4 rfl ?_
  refine z_iconst (v := 0) B dL_law_1120 rfl ?_
  have h_3 : Φ2 o = some (al_ G 1 g1) := ((fr2 o hyo).trans ho1)
  refine z_lald B h_3 (vin rfl) dL_law_1121 ?_
  refine z_top (st1 := [.long 6]) (congrArg (fun w9 : Int64 => ([.long w9] : List Value)) (show g1 (0 : Int32).toNatClampNeg = 6 from hg1)) ?_
  refine z_iload B dL_law_1122 0 rfl ?_
  refine z_i2l (v := 6) B dL_law_1124 (by decide +kernel) ?_
  refine z_lcmp B dL_law_1125 ?_
  refine z_top (st1 := [.int 0]) (congrArg (fun w9 : Int32 => ([.int w9] : List Value)) (show (lg_cmp 6 6 : Int32) = 0 by decide +kernel)) ?_
  refine z_if_eq (tgt := 1131) B dL_law_1126 rfl (fun c_3 => ?_) (fun h9 => absurd (by decide) h9)
  refine z_goto (tgt := 2893) B dL_law_1131 rfl ?_
  refine z_lv [2, 3, 4, 5, 6, 7] rfl ?_
  refine z_widen (k := 178) (n := 20844) (Nat.le_of_ble_eq_true rfl) (Nat.le_of_ble_eq_true rfl) ?_
  exact hT _ _

set_option maxHeartbeats 4000000 in
set_option maxRecDepth 100000 in
theorem lc_20_7 {p9 : Program} {e9 : Env} {s9 : State} {m9 : MethodId} {a9 : Array Value} {w9 : List Frame} {t9 : Method} {k9 : Code} {Q9 : State → Prop} {nm9 : String} (G : EnvG) (l : Launch) (hl9 : l.stackTraces = false) (B : Bd p9 s9 m9 a9 t9 k9 G code 9 RL wsL_law ret nm9) (Φ : Hm) (sz : Nat) (b : Nat) (xs : Nat → Int32) (hX : va_X b 7 xs s9 s9.heap) (hbn : b < G.2.2.2) (x y o d : Nat)  (go : Nat → Int64) (gd : Nat → UInt64) (hna : G.2.2.2 ≤ x) (hxy : x + 149 ≤ y) (hyo : y + 26 ≤ o) (hyd : y + 26 ≤ d) (hod : o ≠ d) (hx_0 : Φ x = some (o_ 13 [.ref (x + 1), .ref (x + 3), .ref (x + 24), .ref (x + 46), .ref (x + 74), .ref (x + 80), .ref (x + 132), .ref (x + 121)])) (hx_3 : Φ (x + 3) = some (o_ 3 [.ref (x + 4), .ref (x + 5), .ref (x + 6), .ref (x + 7), .int 1, .int 511])) (hx_6 : Φ (x + 6) = some (aq_ G 4 4 (va_up (va_up (va_up (va_up (fun _ => none) (0 : Int32).toNatClampNeg (some (x + 8))) (1 : Int32).toNatClampNeg (some (x + 12))) (2 : Int32).toNatClampNeg (some (x + 16))) (3 : Int32).toNatClampNeg (some (x + 20))))) (hx_8 : Φ (x + 8) = some (o_ 12 [.ref (x + 9), .int 9, .int 511, .int 29])) (hx_9 : Φ (x + 9) = some (ai_ G 9 (upd (upd (upd (upd (upd (upd (upd (upd (upd (fun _ => 0) (0 : Int32).toNatClampNeg 0) (1 : Int32).toNatClampNeg 1) (2 : Int32).toNatClampNeg 2) (3 : Int32).toNatClampNeg 3) (4 : Int32).toNatClampNeg 4) (5 : Int32).toNatClampNeg 5) (6 : Int32).toNatClampNeg 6) (7 : Int32).toNatClampNeg 7) (8 : Int32).toNatClampNeg 8))) (hy_0 : Φ y = some (o_ 14 [.int 0, .ref (y + 1), .ref (y + 2), .int 0, .int 1, .int 1, .int 0, .int 0, .ref (y + 3), .ref (y + 4), .int 0, .long 0, .ref (y + 5), .int 0, .int 0, .long 0, .long 0, .long 0, .long 0, .ref (y + 6), .ref (y + 7), .int 0, .ref (y + 8), .int 0, .ref (y + 9), .ref (y + 10), .int 0, .ref (y + 11), .ref (y + 12), .ref (y + 13), .ref (y + 14), .ref (y + 15), .ref (y + 16), .int 0, .long (-1), .ref (y + 17), .ref (y + 18), .ref (y + 19), .ref (y + 20), .ref (y + 21), .ref (y + 22), .int 0, .ref (y + 23), .ref (y + 24), .int 0, .ref (y + 25), .int 0, .int 0, .int 0, .int (-1), .int 0, .int 0, .int 0, .long 0])) (hy_2 : Φ (y + 2) = some (ai_ G 307 (upd (upd (upd (upd (upd (upd (upd (upd (upd (upd (upd (upd (upd (upd (upd (upd (upd (upd (upd (upd (upd (fun _ => 0) (0 : Int32).toNatClampNeg 1) (1 : Int32).toNatClampNeg 100) (2 : Int32).toNatClampNeg 1000) (3 : Int32).toNatClampNeg 100) (4 : Int32).toNatClampNeg 20) (5 : Int32).toNatClampNeg 1000) (6 : Int32).toNatClampNeg 5000) (7 : Int32).toNatClampNeg 512) (8 : Int32).toNatClampNeg 1) (9 : Int32).toNatClampNeg 511) (10 : Int32).toNatClampNeg 1) (11 : Int32).toNatClampNeg 9) (15 : Int32).toNatClampNeg 0) (16 : Int32).toNatClampNeg 1) (17 : Int32).toNatClampNeg 2) (18 : Int32).toNatClampNeg 3) (19 : Int32).toNatClampNeg 4) (20 : Int32).toNatClampNeg 5) (21 : Int32).toNatClampNeg 6) (22 : Int32).toNatClampNeg 7) (23 : Int32).toNatClampNeg 8))) (hco : Φ o = some (al_ G 1 go)) (hx1 : xs 1 = 0) (hx2 : xs 2 = 7) (hT : ∀ (Φ1 : Hm) (sz1 : Nat), Z p9 l e9 room_1 s9 m9 a9 w9 t9 k9 Q9 G 9 2893 [(5, .int 0), (4, .ref d), (3, .ref o), (2, .ref y), (1, .ref x), (0, .ref b)] [] Φ1 sz1 178 20844) : Z p9 l e9 room_1 s9 m9 a9 w9 t9 k9 Q9 G 9 1066 [(5, .int 0), (4, .ref d), (3, .ref o), (2, .ref y), (1, .ref x), (0, .ref b)] [] Φ sz 177 20838 := by
  refine z_aload_n B dL_law_1066 rfl 4 rfl ?_
  refine z_aload_n B dL_law_1067 rfl 5 rfl ?_
  refine z_iload B dL_law_1068 0 rfl ?_
  refine z_iconst (v := 1) B dL_law_1070 rfl ?_
  refine z_iadd B dL_law_1071 ?_
  refine z_top (st1 := [.int 1, .ref b, .ref x]) (congrArg (fun w9 : Int32 => ([.int w9, .ref b, .ref x] : List Value)) (show (0 + 1 : Int32) = 1 by decide +kernel)) ?_
  refine z_sald B hX hbn (vin rfl) dL_law_1072 ?_
  refine z_top (st1 := [.int 0, .ref x]) (congrArg (fun w9 : Int32 => ([.int w9, .ref x] : List Value)) (show xs (1 : Int32).toNatClampNeg = 0 from hx1)) ?_
  refine z_aload_n B dL_law_1073 rfl 5 rfl ?_
  refine z_iload B dL_law_1074 0 rfl ?_
  refine z_iconst (v := 2) B dL_law_1076 rfl ?_
  refine z_iadd B dL_law_1077 ?_
  refine z_top (st1 := [.int 2, .ref b, .int 0, .ref x]) (congrArg (fun w9 : Int32 => ([.int w9, .ref b, .int 0, .ref x] : List Value)) (show (0 + 2 : Int32) = 2 by decide +kernel)) ?_
  refine z_sald B hX hbn (vin rfl) dL_law_1078 ?_
  refine z_top (st1 := [.int 7, .int 0, .ref x]) (congrArg (fun w9 : Int32 => ([.int w9, .int 0, .ref x] : List Value)) (show xs (2 : Int32).toNatClampNeg = 7 from hx2)) ?_
  refine z_aload_n B dL_law_1079 rfl 2 rfl ?_
  refine z_callSW (As := [.ref x, .int 0, .int 7, .ref o]) (rest := []) B (w_fieldAt_7 G l Φ sz x o go hx_0 hx_3 hx_6 hx_8 hx_9 hco hna (Nat.le_trans hxy (Nat.le_trans (Nat.le_add_right y 26) hyo))) (vx_cwSW 4 B.1.2.2.2.2 gL_law_L_fieldAt rfl rfl rfl (by decide +kernel) ⟨Nat.le_of_ble_eq_true rfl, Nat.le_of_ble_eq_true rfl⟩) rfl rfl (Nat.le_of_ble_eq_true rfl) dL_law_1080 ⟨Nat.le_of_ble_eq_true rfl, Nat.le_of_ble_eq_true rfl⟩ (fun v1 Φ1 sz1 st1 hp1 hs1 => ?_)
  obtain ⟨rfl, fr1, g1, ho1, hg1⟩ := hp1
  replace hs1 : st1 = [.int 0] := hs1
  subst st1
  refine z_istore (lv' := [(6, .int 0), (5, .int 0), (4, .ref d), (3, .ref o), (2, .ref y), (1, .ref x), (0, .ref b)]) B dL_law_1083 (Nat.le_of_ble_eq_true rfl) rfl ?_
  refine z_aload_n B dL_law_1085 rfl 4 rfl ?_
  refine z_aload_n B dL_law_1086 rfl 6 rfl ?_
  refine z_iload B dL_law_1087 1 rfl ?_
  refine z_iconst (v := 1) B dL_law_1089 rfl ?_
  refine z_iadd B dL_law_1090 ?_
  refine z_top (st1 := [.int 1, .ref b, .ref y]) (congrArg (fun w9 : Int32 => ([.int w9, .ref b, .ref y] : List Value)) (show (0 + 1 : Int32) = 1 by decide +kernel)) ?_
  refine z_sald B hX hbn (vin rfl) dL_law_1091 ?_
  refine z_top (st1 := [.int 0, .ref y]) (congrArg (fun w9 : Int32 => ([.int w9, .ref y] : List Value)) (show xs (1 : Int32).toNatClampNeg = 0 from hx1)) ?_
  refine z_aload_n B dL_law_1092 rfl 6 rfl ?_
  refine z_iload B dL_law_1093 1 rfl ?_
  refine z_iconst (v := 2) B dL_law_1095 rfl ?_
  refine z_iadd B dL_law_1096 ?_
  refine z_top (st1 := [.int 2, .ref b, .int 0, .ref y]) (congrArg (fun w9 : Int32 => ([.int w9, .ref b, .int 0, .ref y] : List Value)) (show (0 + 2 : Int32) = 2 by decide +kernel)) ?_
  refine z_sald B hX hbn (vin rfl) dL_law_1097 ?_
  refine z_top (st1 := [.int 7, .int 0, .ref y]) (congrArg (fun w9 : Int32 => ([.int w9, .int 0, .ref y] : List Value)) (show xs (2 : Int32).toNatClampNeg = 7 from hx2)) ?_
  have h_1 : Φ1 y = some (o_ 14 [.int 0, .ref (y + 1), .ref (y + 2), .int 0, .int 1, .int 1, .int 0, .int 0, .ref (y + 3), .ref (y + 4), .int 0, .long 0, .ref (y + 5), .int 0, .int 0, .long 0, .long 0, .long 0, .long 0, .ref (y + 6), .ref (y + 7), .int 0, .ref (y + 8), .int 0, .ref (y + 9), .ref (y + 10), .int 0, .ref (y + 11), .ref (y + 12), .ref (y + 13), .ref (y + 14), .ref (y + 15), .ref (y + 16), .int 0, .long (-1), .ref (y + 17), .ref (y + 18), .ref (y + 19), .ref (y + 20), .ref (y + 21), .ref (y + 22), .int 0, .ref (y + 23), .ref (y + 24), .int 0, .ref (y + 25), .int 0, .int 0, .int 0, .int (-1), .int 0, .int 0, .int 0, .long 0]) := ((fr1 y hxy (Nat.ne_of_lt (Nat.lt_of_lt_of_le (lt_off (x := y) (i := 0) (j := 26) rfl) hyo))).trans hy_0)
  have h_2 : Φ1 (y + 2) = some (ai_ G 307 (upd (upd (upd (upd (upd (upd (upd (upd (upd (upd (upd (upd (upd (upd (upd (upd (upd (upd (upd (upd (upd (fun _ => 0) (0 : Int32).toNatClampNeg 1) (1 : Int32).toNatClampNeg 100) (2 : Int32).toNatClampNeg 1000) (3 : Int32).toNatClampNeg 100) (4 : Int32).toNatClampNeg 20) (5 : Int32).toNatClampNeg 1000) (6 : Int32).toNatClampNeg 5000) (7 : Int32).toNatClampNeg 512) (8 : Int32).toNatClampNeg 1) (9 : Int32).toNatClampNeg 511) (10 : Int32).toNatClampNeg 1) (11 : Int32).toNatClampNeg 9) (15 : Int32).toNatClampNeg 0) (16 : Int32).toNatClampNeg 1) (17 : Int32).toNatClampNeg 2) (18 : Int32).toNatClampNeg 3) (19 : Int32).toNatClampNeg 4) (20 : Int32).toNatClampNeg 5) (21 : Int32).toNatClampNeg 6) (22 : Int32).toNatClampNeg 7) (23 : Int32).toNatClampNeg 8)) := ((fr1 (y + 2) (Nat.le_trans hxy (Nat.le_add_right y 2)) (Nat.ne_of_lt (Nat.lt_of_lt_of_le (lt_off (x := y) (i := 2) (j := 26) rfl) hyo))).trans hy_2)
  refine z_callV (As := [.int 0, .int 7]) (rest := []) B (m_X12_fieldAt_7 G l Φ1 sz1 y h_1 h_2 (Nat.le_trans hna (Nat.le_trans (Nat.le_add_right x 149) hxy))) (cwV 2 B.1.2.2.2.2 gL_law_X12_fieldAt rfl rfl rfl (by decide +kernel) ⟨Nat.le_of_ble_eq_true rfl, Nat.le_of_ble_eq_true rfl⟩) h_1 rfl rfl rfl rfl (Nat.le_of_ble_eq_true rfl) dL_law_1098 ⟨Nat.le_of_ble_eq_true rfl, Nat.le_of_ble_eq_true rfl⟩ (fun v2 Φ2 sz2 st2 hp2 hs2 => ?_)
  obtain ⟨rfl, ⟨fs1, hy1, hk1⟩, fr2⟩ := hp2
  replace hs2 : st2 = [.int 7] := hs2
  subst st2
  refine z_istore (lv' := [(7, .int 7), (6, .int 0), (5, .int 0), (4, .ref d), (3, .ref o), (2, .ref y), (1, .ref x), (0, .ref b)]) B dL_law_1101 (Nat.le_of_ble_eq_true rfl) rfl ?_
  refine z_aload_n B dL_law_1103 rfl 5 rfl ?_
  refine z_callV (As := []) (rest := []) B (m_thrown G l Φ2 sz2 y fs1 0 hy1 hk1) (cwV 0 B.1.2.2.2.2 gL_law_X12_thrown rfl rfl rfl (by decide +kernel) ⟨Nat.le_of_ble_eq_true rfl, Nat.le_of_ble_eq_true rfl⟩) hy1 rfl rfl rfl rfl (Nat.le_of_ble_eq_true rfl) dL_law_1104 ⟨Nat.le_of_ble_eq_true rfl, Nat.le_of_ble_eq_true rfl⟩ (fun v3 Φ3 sz3 st3 hp3 hs3 => ?_)
  obtain ⟨rfl, he1⟩ := hp3
  replace hs3 : st3 = [.int 0] := hs3
  subst st3
  rw [he1]
  refine z_iload B dL_law_1107 1 rfl ?_
  refine z_icmp_eq (tgt := 1114) B dL_law_1109 rfl (fun c_1 => ?_) (fun h9 => absurd (by decide) h9)
  refine z_iload B dL_law_1114 1 rfl ?_
  refine z_if_ne (tgt := 1131) B dL_law_1116 rfl (fun h9 => absurd (by decide) h9) (fun c_2 => ?_)
  refine z_aload_n B dL_law_1119 rfl 4 rfl ?_
  refine z_iconst (v := 0) B dL_law_1120 rfl ?_
  have h_3 : Φ2 o = some (al_ G 1 g1) := ((fr2 o hyo).trans ho1)
  refine z_lald B h_3 (vin rfl) dL_law_1121 ?_
  refine z_top (st1 := [.long 7]) (congrArg (fun w9 : Int64 => ([.long w9] : List Value)) (show g1 (0 : Int32).toNatClampNeg = 7 from hg1)) ?_
  refine z_iload B dL_law_1122 0 rfl ?_
  refine z_i2l (v := 7) B dL_law_1124 (by decide +kernel) ?_
  refine z_lcmp B dL_law_1125 ?_
  refine z_top (st1 := [.int 0]) (congrArg (fun w9 : Int32 => ([.int w9] : List Value)) (show (lg_cmp 7 7 : Int32) = 0 by decide +kernel)) ?_
  refine z_if_eq (tgt := 1131) B dL_law_1126 rfl (fun c_3 => ?_) (fun h9 => absurd (by decide) h9)
  refine z_goto (tgt := 2893) B dL_law_1131 rfl ?_
  refine z_lv [2, 3, 4, 5, 6, 7] rfl ?_
  refine z_widen (k := 178) (n := 20844) (Nat.le_of_ble_eq_true rfl) (Nat.le_of_ble_eq_true rfl) ?_
  exact hT _ _

set_option maxHeartbeats 4000000 in
set_option maxRecDepth 100000 in
theorem lc_20_8 {p9 : Program} {e9 : Env} {s9 : State} {m9 : MethodId} {a9 : Array Value} {w9 : List Frame} {t9 : Method} {k9 : Code} {Q9 : State → Prop} {nm9 : String} (G : EnvG) (l : Launch) (hl9 : l.stackTraces = false) (B : Bd p9 s9 m9 a9 t9 k9 G code 9 RL wsL_law ret nm9) (Φ : Hm) (sz : Nat) (b : Nat) (xs : Nat → Int32) (hX : va_X b 7 xs s9 s9.heap) (hbn : b < G.2.2.2) (x y o d : Nat)  (go : Nat → Int64) (gd : Nat → UInt64) (hna : G.2.2.2 ≤ x) (hxy : x + 149 ≤ y) (hyo : y + 26 ≤ o) (hyd : y + 26 ≤ d) (hod : o ≠ d) (hx_0 : Φ x = some (o_ 13 [.ref (x + 1), .ref (x + 3), .ref (x + 24), .ref (x + 46), .ref (x + 74), .ref (x + 80), .ref (x + 132), .ref (x + 121)])) (hx_3 : Φ (x + 3) = some (o_ 3 [.ref (x + 4), .ref (x + 5), .ref (x + 6), .ref (x + 7), .int 1, .int 511])) (hx_6 : Φ (x + 6) = some (aq_ G 4 4 (va_up (va_up (va_up (va_up (fun _ => none) (0 : Int32).toNatClampNeg (some (x + 8))) (1 : Int32).toNatClampNeg (some (x + 12))) (2 : Int32).toNatClampNeg (some (x + 16))) (3 : Int32).toNatClampNeg (some (x + 20))))) (hx_8 : Φ (x + 8) = some (o_ 12 [.ref (x + 9), .int 9, .int 511, .int 29])) (hx_9 : Φ (x + 9) = some (ai_ G 9 (upd (upd (upd (upd (upd (upd (upd (upd (upd (fun _ => 0) (0 : Int32).toNatClampNeg 0) (1 : Int32).toNatClampNeg 1) (2 : Int32).toNatClampNeg 2) (3 : Int32).toNatClampNeg 3) (4 : Int32).toNatClampNeg 4) (5 : Int32).toNatClampNeg 5) (6 : Int32).toNatClampNeg 6) (7 : Int32).toNatClampNeg 7) (8 : Int32).toNatClampNeg 8))) (hy_0 : Φ y = some (o_ 14 [.int 0, .ref (y + 1), .ref (y + 2), .int 0, .int 1, .int 1, .int 0, .int 0, .ref (y + 3), .ref (y + 4), .int 0, .long 0, .ref (y + 5), .int 0, .int 0, .long 0, .long 0, .long 0, .long 0, .ref (y + 6), .ref (y + 7), .int 0, .ref (y + 8), .int 0, .ref (y + 9), .ref (y + 10), .int 0, .ref (y + 11), .ref (y + 12), .ref (y + 13), .ref (y + 14), .ref (y + 15), .ref (y + 16), .int 0, .long (-1), .ref (y + 17), .ref (y + 18), .ref (y + 19), .ref (y + 20), .ref (y + 21), .ref (y + 22), .int 0, .ref (y + 23), .ref (y + 24), .int 0, .ref (y + 25), .int 0, .int 0, .int 0, .int (-1), .int 0, .int 0, .int 0, .long 0])) (hy_2 : Φ (y + 2) = some (ai_ G 307 (upd (upd (upd (upd (upd (upd (upd (upd (upd (upd (upd (upd (upd (upd (upd (upd (upd (upd (upd (upd (upd (fun _ => 0) (0 : Int32).toNatClampNeg 1) (1 : Int32).toNatClampNeg 100) (2 : Int32).toNatClampNeg 1000) (3 : Int32).toNatClampNeg 100) (4 : Int32).toNatClampNeg 20) (5 : Int32).toNatClampNeg 1000) (6 : Int32).toNatClampNeg 5000) (7 : Int32).toNatClampNeg 512) (8 : Int32).toNatClampNeg 1) (9 : Int32).toNatClampNeg 511) (10 : Int32).toNatClampNeg 1) (11 : Int32).toNatClampNeg 9) (15 : Int32).toNatClampNeg 0) (16 : Int32).toNatClampNeg 1) (17 : Int32).toNatClampNeg 2) (18 : Int32).toNatClampNeg 3) (19 : Int32).toNatClampNeg 4) (20 : Int32).toNatClampNeg 5) (21 : Int32).toNatClampNeg 6) (22 : Int32).toNatClampNeg 7) (23 : Int32).toNatClampNeg 8))) (hco : Φ o = some (al_ G 1 go)) (hx1 : xs 1 = 0) (hx2 : xs 2 = 8) (hT : ∀ (Φ1 : Hm) (sz1 : Nat), Z p9 l e9 room_1 s9 m9 a9 w9 t9 k9 Q9 G 9 2893 [(5, .int 0), (4, .ref d), (3, .ref o), (2, .ref y), (1, .ref x), (0, .ref b)] [] Φ1 sz1 178 20844) : Z p9 l e9 room_1 s9 m9 a9 w9 t9 k9 Q9 G 9 1066 [(5, .int 0), (4, .ref d), (3, .ref o), (2, .ref y), (1, .ref x), (0, .ref b)] [] Φ sz 177 20838 := by
  refine z_aload_n B dL_law_1066 rfl 4 rfl ?_
  refine z_aload_n B dL_law_1067 rfl 5 rfl ?_
  refine z_iload B dL_law_1068 0 rfl ?_
  refine z_iconst (v := 1) B dL_law_1070 rfl ?_
  refine z_iadd B dL_law_1071 ?_
  refine z_top (st1 := [.int 1, .ref b, .ref x]) (congrArg (fun w9 : Int32 => ([.int w9, .ref b, .ref x] : List Value)) (show (0 + 1 : Int32) = 1 by decide +kernel)) ?_
  refine z_sald B hX hbn (vin rfl) dL_law_1072 ?_
  refine z_top (st1 := [.int 0, .ref x]) (congrArg (fun w9 : Int32 => ([.int w9, .ref x] : List Value)) (show xs (1 : Int32).toNatClampNeg = 0 from hx1)) ?_
  refine z_aload_n B dL_law_1073 rfl 5 rfl ?_
  refine z_iload B dL_law_1074 0 rfl ?_
  refine z_iconst (v := 2) B dL_law_1076 rfl ?_
  refine z_iadd B dL_law_1077 ?_
  refine z_top (st1 := [.int 2, .ref b, .int 0, .ref x]) (congrArg (fun w9 : Int32 => ([.int w9, .ref b, .int 0, .ref x] : List Value)) (show (0 + 2 : Int32) = 2 by decide +kernel)) ?_
  refine z_sald B hX hbn (vin rfl) dL_law_1078 ?_
  refine z_top (st1 := [.int 8, .int 0, .ref x]) (congrArg (fun w9 : Int32 => ([.int w9, .int 0, .ref x] : List Value)) (show xs (2 : Int32).toNatClampNeg = 8 from hx2)) ?_
  refine z_aload_n B dL_law_1079 rfl 2 rfl ?_
  refine z_callSW (As := [.ref x, .int 0, .int 8, .ref o]) (rest := []) B (w_fieldAt_8 G l Φ sz x o go hx_0 hx_3 hx_6 hx_8 hx_9 hco hna (Nat.le_trans hxy (Nat.le_trans (Nat.le_add_right y 26) hyo))) (vx_cwSW 4 B.1.2.2.2.2 gL_law_L_fieldAt rfl rfl rfl (by decide +kernel) ⟨Nat.le_of_ble_eq_true rfl, Nat.le_of_ble_eq_true rfl⟩) rfl rfl (Nat.le_of_ble_eq_true rfl) dL_law_1080 ⟨Nat.le_of_ble_eq_true rfl, Nat.le_of_ble_eq_true rfl⟩ (fun v1 Φ1 sz1 st1 hp1 hs1 => ?_)
  obtain ⟨rfl, fr1, g1, ho1, hg1⟩ := hp1
  replace hs1 : st1 = [.int 0] := hs1
  subst st1
  refine z_istore (lv' := [(6, .int 0), (5, .int 0), (4, .ref d), (3, .ref o), (2, .ref y), (1, .ref x), (0, .ref b)]) B dL_law_1083 (Nat.le_of_ble_eq_true rfl) rfl ?_
  refine z_aload_n B dL_law_1085 rfl 4 rfl ?_
  refine z_aload_n B dL_law_1086 rfl 6 rfl ?_
  refine z_iload B dL_law_1087 1 rfl ?_
  refine z_iconst (v := 1) B dL_law_1089 rfl ?_
  refine z_iadd B dL_law_1090 ?_
  refine z_top (st1 := [.int 1, .ref b, .ref y]) (congrArg (fun w9 : Int32 => ([.int w9, .ref b, .ref y] : List Value)) (show (0 + 1 : Int32) = 1 by decide +kernel)) ?_
  refine z_sald B hX hbn (vin rfl) dL_law_1091 ?_
  refine z_top (st1 := [.int 0, .ref y]) (congrArg (fun w9 : Int32 => ([.int w9, .ref y] : List Value)) (show xs (1 : Int32).toNatClampNeg = 0 from hx1)) ?_
  refine z_aload_n B dL_law_1092 rfl 6 rfl ?_
  refine z_iload B dL_law_1093 1 rfl ?_
  refine z_iconst (v := 2) B dL_law_1095 rfl ?_
  refine z_iadd B dL_law_1096 ?_
  refine z_top (st1 := [.int 2, .ref b, .int 0, .ref y]) (congrArg (fun w9 : Int32 => ([.int w9, .ref b, .int 0, .ref y] : List Value)) (show (0 + 2 : Int32) = 2 by decide +kernel)) ?_
  refine z_sald B hX hbn (vin rfl) dL_law_1097 ?_
  refine z_top (st1 := [.int 8, .int 0, .ref y]) (congrArg (fun w9 : Int32 => ([.int w9, .int 0, .ref y] : List Value)) (show xs (2 : Int32).toNatClampNeg = 8 from hx2)) ?_
  have h_1 : Φ1 y = some (o_ 14 [.int 0, .ref (y + 1), .ref (y + 2), .int 0, .int 1, .int 1, .int 0, .int 0, .ref (y + 3), .ref (y + 4), .int 0, .long 0, .ref (y + 5), .int 0, .int 0, .long 0, .long 0, .long 0, .long 0, .ref (y + 6), .ref (y + 7), .int 0, .ref (y + 8), .int 0, .ref (y + 9), .ref (y + 10), .int 0, .ref (y + 11), .ref (y + 12), .ref (y + 13), .ref (y + 14), .ref (y + 15), .ref (y + 16), .int 0, .long (-1), .ref (y + 17), .ref (y + 18), .ref (y + 19), .ref (y + 20), .ref (y + 21), .ref (y + 22), .int 0, .ref (y + 23), .ref (y + 24), .int 0, .ref (y + 25), .int 0, .int 0, .int 0, .int (-1), .int 0, .int 0, .int 0, .long 0]) := ((fr1 y hxy (Nat.ne_of_lt (Nat.lt_of_lt_of_le (lt_off (x := y) (i := 0) (j := 26) rfl) hyo))).trans hy_0)
  have h_2 : Φ1 (y + 2) = some (ai_ G 307 (upd (upd (upd (upd (upd (upd (upd (upd (upd (upd (upd (upd (upd (upd (upd (upd (upd (upd (upd (upd (upd (fun _ => 0) (0 : Int32).toNatClampNeg 1) (1 : Int32).toNatClampNeg 100) (2 : Int32).toNatClampNeg 1000) (3 : Int32).toNatClampNeg 100) (4 : Int32).toNatClampNeg 20) (5 : Int32).toNatClampNeg 1000) (6 : Int32).toNatClampNeg 5000) (7 : Int32).toNatClampNeg 512) (8 : Int32).toNatClampNeg 1) (9 : Int32).toNatClampNeg 511) (10 : Int32).toNatClampNeg 1) (11 : Int32).toNatClampNeg 9) (15 : Int32).toNatClampNeg 0) (16 : Int32).toNatClampNeg 1) (17 : Int32).toNatClampNeg 2) (18 : Int32).toNatClampNeg 3) (19 : Int32).toNatClampNeg 4) (20 : Int32).toNatClampNeg 5) (21 : Int32).toNatClampNeg 6) (22 : Int32).toNatClampNeg 7) (23 : Int32).toNatClampNeg 8)) := ((fr1 (y + 2) (Nat.le_trans hxy (Nat.le_add_right y 2)) (Nat.ne_of_lt (Nat.lt_of_lt_of_le (lt_off (x := y) (i := 2) (j := 26) rfl) hyo))).trans hy_2)
  refine z_callV (As := [.int 0, .int 8]) (rest := []) B (m_X12_fieldAt_8 G l Φ1 sz1 y h_1 h_2 (Nat.le_trans hna (Nat.le_trans (Nat.le_add_right x 149) hxy))) (cwV 2 B.1.2.2.2.2 gL_law_X12_fieldAt rfl rfl rfl (by decide +kernel) ⟨Nat.le_of_ble_eq_true rfl, Nat.le_of_ble_eq_true rfl⟩) h_1 rfl rfl rfl rfl (Nat.le_of_ble_eq_true rfl) dL_law_1098 ⟨Nat.le_of_ble_eq_true rfl, Nat.le_of_ble_eq_true rfl⟩ (fun v2 Φ2 sz2 st2 hp2 hs2 => ?_)
  obtain ⟨rfl, ⟨fs1, hy1, hk1⟩, fr2⟩ := hp2
  replace hs2 : st2 = [.int 8] := hs2
  subst st2
  refine z_istore (lv' := [(7, .int 8), (6, .int 0), (5, .int 0), (4, .ref d), (3, .ref o), (2, .ref y), (1, .ref x), (0, .ref b)]) B dL_law_1101 (Nat.le_of_ble_eq_true rfl) rfl ?_
  refine z_aload_n B dL_law_1103 rfl 5 rfl ?_
  refine z_callV (As := []) (rest := []) B (m_thrown G l Φ2 sz2 y fs1 0 hy1 hk1) (cwV 0 B.1.2.2.2.2 gL_law_X12_thrown rfl rfl rfl (by decide +kernel) ⟨Nat.le_of_ble_eq_true rfl, Nat.le_of_ble_eq_true rfl⟩) hy1 rfl rfl rfl rfl (Nat.le_of_ble_eq_true rfl) dL_law_1104 ⟨Nat.le_of_ble_eq_true rfl, Nat.le_of_ble_eq_true rfl⟩ (fun v3 Φ3 sz3 st3 hp3 hs3 => ?_)
  obtain ⟨rfl, he1⟩ := hp3
  replace hs3 : st3 = [.int 0] := hs3
  subst st3
  rw [he1]
  refine z_iload B dL_law_1107 1 rfl ?_
  refine z_icmp_eq (tgt := 1114) B dL_law_1109 rfl (fun c_1 => ?_) (fun h9 => absurd (by decide) h9)
  refine z_iload B dL_law_1114 1 rfl ?_
  refine z_if_ne (tgt := 1131) B dL_law_1116 rfl (fun h9 => absurd (by decide) h9) (fun c_2 => ?_)
  refine z_aload_n B dL_law_1119 rfl 4 rfl ?_
  refine z_iconst (v := 0) B dL_law_1120 rfl ?_
  have h_3 : Φ2 o = some (al_ G 1 g1) := ((fr2 o hyo).trans ho1)
  refine z_lald B h_3 (vin rfl) dL_law_1121 ?_
  refine z_top (st1 := [.long 8]) (congrArg (fun w9 : Int64 => ([.long w9] : List Value)) (show g1 (0 : Int32).toNatClampNeg = 8 from hg1)) ?_
  refine z_iload B dL_law_1122 0 rfl ?_
  refine z_i2l (v := 8) B dL_law_1124 (by decide +kernel) ?_
  refine z_lcmp B dL_law_1125 ?_
  refine z_top (st1 := [.int 0]) (congrArg (fun w9 : Int32 => ([.int w9] : List Value)) (show (lg_cmp 8 8 : Int32) = 0 by decide +kernel)) ?_
  refine z_if_eq (tgt := 1131) B dL_law_1126 rfl (fun c_3 => ?_) (fun h9 => absurd (by decide) h9)
  refine z_goto (tgt := 2893) B dL_law_1131 rfl ?_
  refine z_lv [2, 3, 4, 5, 6, 7] rfl ?_
  refine z_widen (k := 178) (n := 20844) (Nat.le_of_ble_eq_true rfl) (Nat.le_of_ble_eq_true rfl) ?_
  exact hT _ _

set_option maxHeartbeats 4000000 in
set_option maxRecDepth 100000 in
theorem lc_20_n {p9 : Program} {e9 : Env} {s9 : State} {m9 : MethodId} {a9 : Array Value} {w9 : List Frame} {t9 : Method} {k9 : Code} {Q9 : State → Prop} {nm9 : String} (G : EnvG) (l : Launch) (hl9 : l.stackTraces = false) (B : Bd p9 s9 m9 a9 t9 k9 G code 9 RL wsL_law ret nm9) (Φ : Hm) (sz : Nat) (b : Nat) (xs : Nat → Int32) (hX : va_X b 7 xs s9 s9.heap) (hbn : b < G.2.2.2) (x y o d : Nat) (a2 : Int32) (go : Nat → Int64) (gd : Nat → UInt64) (hna : G.2.2.2 ≤ x) (hxy : x + 149 ≤ y) (hyo : y + 26 ≤ o) (hyd : y + 26 ≤ d) (hod : o ≠ d) (hx_0 : Φ x = some (o_ 13 [.ref (x + 1), .ref (x + 3), .ref (x + 24), .ref (x + 46), .ref (x + 74), .ref (x + 80), .ref (x + 132), .ref (x + 121)])) (hx_3 : Φ (x + 3) = some (o_ 3 [.ref (x + 4), .ref (x + 5), .ref (x + 6), .ref (x + 7), .int 1, .int 511])) (hx_6 : Φ (x + 6) = some (aq_ G 4 4 (va_up (va_up (va_up (va_up (fun _ => none) (0 : Int32).toNatClampNeg (some (x + 8))) (1 : Int32).toNatClampNeg (some (x + 12))) (2 : Int32).toNatClampNeg (some (x + 16))) (3 : Int32).toNatClampNeg (some (x + 20))))) (hx_8 : Φ (x + 8) = some (o_ 12 [.ref (x + 9), .int 9, .int 511, .int 29])) (hy_0 : Φ y = some (o_ 14 [.int 0, .ref (y + 1), .ref (y + 2), .int 0, .int 1, .int 1, .int 0, .int 0, .ref (y + 3), .ref (y + 4), .int 0, .long 0, .ref (y + 5), .int 0, .int 0, .long 0, .long 0, .long 0, .long 0, .ref (y + 6), .ref (y + 7), .int 0, .ref (y + 8), .int 0, .ref (y + 9), .ref (y + 10), .int 0, .ref (y + 11), .ref (y + 12), .ref (y + 13), .ref (y + 14), .ref (y + 15), .ref (y + 16), .int 0, .long (-1), .ref (y + 17), .ref (y + 18), .ref (y + 19), .ref (y + 20), .ref (y + 21), .ref (y + 22), .int 0, .ref (y + 23), .ref (y + 24), .int 0, .ref (y + 25), .int 0, .int 0, .int 0, .int (-1), .int 0, .int 0, .int 0, .long 0])) (hy_2 : Φ (y + 2) = some (ai_ G 307 (upd (upd (upd (upd (upd (upd (upd (upd (upd (upd (upd (upd (upd (upd (upd (upd (upd (upd (upd (upd (upd (fun _ => 0) (0 : Int32).toNatClampNeg 1) (1 : Int32).toNatClampNeg 100) (2 : Int32).toNatClampNeg 1000) (3 : Int32).toNatClampNeg 100) (4 : Int32).toNatClampNeg 20) (5 : Int32).toNatClampNeg 1000) (6 : Int32).toNatClampNeg 5000) (7 : Int32).toNatClampNeg 512) (8 : Int32).toNatClampNeg 1) (9 : Int32).toNatClampNeg 511) (10 : Int32).toNatClampNeg 1) (11 : Int32).toNatClampNeg 9) (15 : Int32).toNatClampNeg 0) (16 : Int32).toNatClampNeg 1) (17 : Int32).toNatClampNeg 2) (18 : Int32).toNatClampNeg 3) (19 : Int32).toNatClampNeg 4) (20 : Int32).toNatClampNeg 5) (21 : Int32).toNatClampNeg 6) (22 : Int32).toNatClampNeg 7) (23 : Int32).toNatClampNeg 8))) (hco : Φ o = some (al_ G 1 go)) (hx1 : xs 1 = 0) (hx2 : xs 2 = a2) (Fhb : ¬ (¬ a2 < 0 ∧ a2 < 9)) (Mhp : ¬ inP a2.toInt64 0 8) (hT : ∀ (Φ1 : Hm) (sz1 : Nat), Z p9 l e9 room_1 s9 m9 a9 w9 t9 k9 Q9 G 9 2893 [(5, .int 0), (4, .ref d), (3, .ref o), (2, .ref y), (1, .ref x), (0, .ref b)] [] Φ1 sz1 178 20844) : Z p9 l e9 room_1 s9 m9 a9 w9 t9 k9 Q9 G 9 1066 [(5, .int 0), (4, .ref d), (3, .ref o), (2, .ref y), (1, .ref x), (0, .ref b)] [] Φ sz 177 20838 := by
  refine z_aload_n B dL_law_1066 rfl 4 rfl ?_
  refine z_aload_n B dL_law_1067 rfl 5 rfl ?_
  refine z_iload B dL_law_1068 0 rfl ?_
  refine z_iconst (v := 1) B dL_law_1070 rfl ?_
  refine z_iadd B dL_law_1071 ?_
  refine z_top (st1 := [.int 1, .ref b, .ref x]) (congrArg (fun w9 : Int32 => ([.int w9, .ref b, .ref x] : List Value)) (show (0 + 1 : Int32) = 1 by decide +kernel)) ?_
  refine z_sald B hX hbn (vin rfl) dL_law_1072 ?_
  refine z_top (st1 := [.int 0, .ref x]) (congrArg (fun w9 : Int32 => ([.int w9, .ref x] : List Value)) (show xs (1 : Int32).toNatClampNeg = 0 from hx1)) ?_
  refine z_aload_n B dL_law_1073 rfl 5 rfl ?_
  refine z_iload B dL_law_1074 0 rfl ?_
  refine z_iconst (v := 2) B dL_law_1076 rfl ?_
  refine z_iadd B dL_law_1077 ?_
  refine z_top (st1 := [.int 2, .ref b, .int 0, .ref x]) (congrArg (fun w9 : Int32 => ([.int w9, .ref b, .int 0, .ref x] : List Value)) (show (0 + 2 : Int32) = 2 by decide +kernel)) ?_
  refine z_sald B hX hbn (vin rfl) dL_law_1078 ?_
  refine z_top (st1 := [.int a2, .int 0, .ref x]) (congrArg (fun w9 : Int32 => ([.int w9, .int 0, .ref x] : List Value)) (show xs (2 : Int32).toNatClampNeg = a2 from hx2)) ?_
  refine z_aload_n B dL_law_1079 rfl 2 rfl ?_
  refine z_callSW (As := [.ref x, .int 0, .int a2, .ref o]) (rest := []) B (w_fieldAt_n G l Φ sz x o a2 go hx_0 hx_3 hx_6 hx_8 hco hna (Nat.le_trans hxy (Nat.le_trans (Nat.le_add_right y 26) hyo)) Fhb) (vx_cwSW 4 B.1.2.2.2.2 gL_law_L_fieldAt rfl rfl rfl (by decide +kernel) ⟨Nat.le_of_ble_eq_true rfl, Nat.le_of_ble_eq_true rfl⟩) rfl rfl (Nat.le_of_ble_eq_true rfl) dL_law_1080 ⟨Nat.le_of_ble_eq_true rfl, Nat.le_of_ble_eq_true rfl⟩ (fun v1 Φ1 sz1 st1 hp1 hs1 => ?_)
  obtain ⟨rfl, fr1, g1, ho1, hg1⟩ := hp1
  replace hs1 : st1 = [.int 0] := hs1
  subst st1
  refine z_istore (lv' := [(6, .int 0), (5, .int 0), (4, .ref d), (3, .ref o), (2, .ref y), (1, .ref x), (0, .ref b)]) B dL_law_1083 (Nat.le_of_ble_eq_true rfl) rfl ?_
  refine z_aload_n B dL_law_1085 rfl 4 rfl ?_
  refine z_aload_n B dL_law_1086 rfl 6 rfl ?_
  refine z_iload B dL_law_1087 1 rfl ?_
  refine z_iconst (v := 1) B dL_law_1089 rfl ?_
  refine z_iadd B dL_law_1090 ?_
  refine z_top (st1 := [.int 1, .ref b, .ref y]) (congrArg (fun w9 : Int32 => ([.int w9, .ref b, .ref y] : List Value)) (show (0 + 1 : Int32) = 1 by decide +kernel)) ?_
  refine z_sald B hX hbn (vin rfl) dL_law_1091 ?_
  refine z_top (st1 := [.int 0, .ref y]) (congrArg (fun w9 : Int32 => ([.int w9, .ref y] : List Value)) (show xs (1 : Int32).toNatClampNeg = 0 from hx1)) ?_
  refine z_aload_n B dL_law_1092 rfl 6 rfl ?_
  refine z_iload B dL_law_1093 1 rfl ?_
  refine z_iconst (v := 2) B dL_law_1095 rfl ?_
  refine z_iadd B dL_law_1096 ?_
  refine z_top (st1 := [.int 2, .ref b, .int 0, .ref y]) (congrArg (fun w9 : Int32 => ([.int w9, .ref b, .int 0, .ref y] : List Value)) (show (0 + 2 : Int32) = 2 by decide +kernel)) ?_
  refine z_sald B hX hbn (vin rfl) dL_law_1097 ?_
  refine z_top (st1 := [.int a2, .int 0, .ref y]) (congrArg (fun w9 : Int32 => ([.int w9, .int 0, .ref y] : List Value)) (show xs (2 : Int32).toNatClampNeg = a2 from hx2)) ?_
  have h_1 : Φ1 y = some (o_ 14 [.int 0, .ref (y + 1), .ref (y + 2), .int 0, .int 1, .int 1, .int 0, .int 0, .ref (y + 3), .ref (y + 4), .int 0, .long 0, .ref (y + 5), .int 0, .int 0, .long 0, .long 0, .long 0, .long 0, .ref (y + 6), .ref (y + 7), .int 0, .ref (y + 8), .int 0, .ref (y + 9), .ref (y + 10), .int 0, .ref (y + 11), .ref (y + 12), .ref (y + 13), .ref (y + 14), .ref (y + 15), .ref (y + 16), .int 0, .long (-1), .ref (y + 17), .ref (y + 18), .ref (y + 19), .ref (y + 20), .ref (y + 21), .ref (y + 22), .int 0, .ref (y + 23), .ref (y + 24), .int 0, .ref (y + 25), .int 0, .int 0, .int 0, .int (-1), .int 0, .int 0, .int 0, .long 0]) := ((fr1 y hxy (Nat.ne_of_lt (Nat.lt_of_lt_of_le (lt_off (x := y) (i := 0) (j := 26) rfl) hyo))).trans hy_0)
  have h_2 : Φ1 (y + 2) = some (ai_ G 307 (upd (upd (upd (upd (upd (upd (upd (upd (upd (upd (upd (upd (upd (upd (upd (upd (upd (upd (upd (upd (upd (fun _ => 0) (0 : Int32).toNatClampNeg 1) (1 : Int32).toNatClampNeg 100) (2 : Int32).toNatClampNeg 1000) (3 : Int32).toNatClampNeg 100) (4 : Int32).toNatClampNeg 20) (5 : Int32).toNatClampNeg 1000) (6 : Int32).toNatClampNeg 5000) (7 : Int32).toNatClampNeg 512) (8 : Int32).toNatClampNeg 1) (9 : Int32).toNatClampNeg 511) (10 : Int32).toNatClampNeg 1) (11 : Int32).toNatClampNeg 9) (15 : Int32).toNatClampNeg 0) (16 : Int32).toNatClampNeg 1) (17 : Int32).toNatClampNeg 2) (18 : Int32).toNatClampNeg 3) (19 : Int32).toNatClampNeg 4) (20 : Int32).toNatClampNeg 5) (21 : Int32).toNatClampNeg 6) (22 : Int32).toNatClampNeg 7) (23 : Int32).toNatClampNeg 8)) := ((fr1 (y + 2) (Nat.le_trans hxy (Nat.le_add_right y 2)) (Nat.ne_of_lt (Nat.lt_of_lt_of_le (lt_off (x := y) (i := 2) (j := 26) rfl) hyo))).trans hy_2)
  refine z_callV (As := [.int 0, .int a2]) (rest := []) B (m_X12_fieldAt_n G l Φ1 sz1 y a2 h_1 h_2 (Nat.le_trans hna (Nat.le_trans (Nat.le_add_right x 149) hxy)) Mhp) (cwV 2 B.1.2.2.2.2 gL_law_X12_fieldAt rfl rfl rfl (by decide +kernel) ⟨Nat.le_of_ble_eq_true rfl, Nat.le_of_ble_eq_true rfl⟩) h_1 rfl rfl rfl rfl (Nat.le_of_ble_eq_true rfl) dL_law_1098 ⟨Nat.le_of_ble_eq_true rfl, Nat.le_of_ble_eq_true rfl⟩ (fun v2 Φ2 sz2 st2 hp2 hs2 => ?_)
  obtain ⟨rfl, ⟨fs1, hy1, hk1⟩, fr2⟩ := hp2
  replace hs2 : st2 = [.int (-1)] := hs2
  subst st2
  refine z_istore (lv' := [(7, .int (-1)), (6, .int 0), (5, .int 0), (4, .ref d), (3, .ref o), (2, .ref y), (1, .ref x), (0, .ref b)]) B dL_law_1101 (Nat.le_of_ble_eq_true rfl) rfl ?_
  refine z_aload_n B dL_law_1103 rfl 5 rfl ?_
  refine z_callV (As := []) (rest := []) B (m_thrown G l Φ2 sz2 y fs1 0 hy1 hk1) (cwV 0 B.1.2.2.2.2 gL_law_X12_thrown rfl rfl rfl (by decide +kernel) ⟨Nat.le_of_ble_eq_true rfl, Nat.le_of_ble_eq_true rfl⟩) hy1 rfl rfl rfl rfl (Nat.le_of_ble_eq_true rfl) dL_law_1104 ⟨Nat.le_of_ble_eq_true rfl, Nat.le_of_ble_eq_true rfl⟩ (fun v3 Φ3 sz3 st3 hp3 hs3 => ?_)
  obtain ⟨rfl, he1⟩ := hp3
  replace hs3 : st3 = [.int 0] := hs3
  subst st3
  rw [he1]
  refine z_iload B dL_law_1107 1 rfl ?_
  refine z_icmp_eq (tgt := 1114) B dL_law_1109 rfl (fun c_1 => ?_) (fun h9 => absurd (by decide) h9)
  refine z_iload B dL_law_1114 1 rfl ?_
  refine z_if_ne (tgt := 1131) B dL_law_1116 rfl (fun h9 => absurd (by decide) h9) (fun c_2 => ?_)
  refine z_aload_n B dL_law_1119 rfl 4 rfl ?_
  refine z_iconst (v := 0) B dL_law_1120 rfl ?_
  have h_3 : Φ2 o = some (al_ G 1 g1) := ((fr2 o hyo).trans ho1)
  refine z_lald B h_3 (vin rfl) dL_law_1121 ?_
  refine z_top (st1 := [.long (-1)]) (congrArg (fun w9 : Int64 => ([.long w9] : List Value)) (show g1 (0 : Int32).toNatClampNeg = (-1) from hg1)) ?_
  refine z_iload B dL_law_1122 0 rfl ?_
  refine z_i2l (v := (-1)) B dL_law_1124 (by decide +kernel) ?_
  refine z_lcmp B dL_law_1125 ?_
  refine z_top (st1 := [.int 0]) (congrArg (fun w9 : Int32 => ([.int w9] : List Value)) (show (lg_cmp (-1) (-1) : Int32) = 0 by decide +kernel)) ?_
  refine z_if_eq (tgt := 1131) B dL_law_1126 rfl (fun c_3 => ?_) (fun h9 => absurd (by decide) h9)
  refine z_goto (tgt := 2893) B dL_law_1131 rfl ?_
  refine z_lv [2, 3, 4, 5, 6, 7] rfl ?_
  refine z_widen (k := 178) (n := 20844) (Nat.le_of_ble_eq_true rfl) (Nat.le_of_ble_eq_true rfl) ?_
  exact hT _ _

set_option maxHeartbeats 4000000 in
set_option maxRecDepth 100000 in
theorem lc_22_0_0 {p9 : Program} {e9 : Env} {s9 : State} {m9 : MethodId} {a9 : Array Value} {w9 : List Frame} {t9 : Method} {k9 : Code} {Q9 : State → Prop} {nm9 : String} (G : EnvG) (l : Launch) (hl9 : l.stackTraces = false) (B : Bd p9 s9 m9 a9 t9 k9 G code 9 RL wsL_law ret nm9) (Φ : Hm) (sz : Nat) (b : Nat) (xs : Nat → Int32) (hX : va_X b 7 xs s9 s9.heap) (hbn : b < G.2.2.2) (x y o d : Nat)  (go : Nat → Int64) (gd : Nat → UInt64) (hna : G.2.2.2 ≤ x) (hxy : x + 149 ≤ y) (hyo : y + 26 ≤ o) (hyd : y + 26 ≤ d) (hod : o ≠ d) (hx_0 : Φ x = some (o_ 13 [.ref (x + 1), .ref (x + 3), .ref (x + 24), .ref (x + 46), .ref (x + 74), .ref (x + 80), .ref (x + 132), .ref (x + 121)])) (hx_3 : Φ (x + 3) = some (o_ 3 [.ref (x + 4), .ref (x + 5), .ref (x + 6), .ref (x + 7), .int 1, .int 511])) (hx_6 : Φ (x + 6) = some (aq_ G 4 4 (va_up (va_up (va_up (va_up (fun _ => none) (0 : Int32).toNatClampNeg (some (x + 8))) (1 : Int32).toNatClampNeg (some (x + 12))) (2 : Int32).toNatClampNeg (some (x + 16))) (3 : Int32).toNatClampNeg (some (x + 20))))) (hx_7 : Φ (x + 7) = some (aq_ G 4 4 (va_up (va_up (va_up (va_up (fun _ => none) (0 : Int32).toNatClampNeg (some (x + 10))) (1 : Int32).toNatClampNeg (some (x + 14))) (2 : Int32).toNatClampNeg (some (x + 18))) (3 : Int32).toNatClampNeg (some (x + 22))))) (hx_8 : Φ (x + 8) = some (o_ 12 [.ref (x + 9), .int 9, .int 511, .int 29])) (hx_9 : Φ (x + 9) = some (ai_ G 9 (upd (upd (upd (upd (upd (upd (upd (upd (upd (fun _ => 0) (0 : Int32).toNatClampNeg 0) (1 : Int32).toNatClampNeg 1) (2 : Int32).toNatClampNeg 2) (3 : Int32).toNatClampNeg 3) (4 : Int32).toNatClampNeg 4) (5 : Int32).toNatClampNeg 5) (6 : Int32).toNatClampNeg 6) (7 : Int32).toNatClampNeg 7) (8 : Int32).toNatClampNeg 8))) (hx_10 : Φ (x + 10) = some (o_ 12 [.ref (x + 11), .int 9, .int 511, .int 29])) (hx_11 : Φ (x + 11) = some (ai_ G 9 (upd (upd (upd (upd (upd (upd (upd (upd (upd (fun _ => 0) (0 : Int32).toNatClampNeg 0) (1 : Int32).toNatClampNeg 1) (2 : Int32).toNatClampNeg 2) (3 : Int32).toNatClampNeg 3) (4 : Int32).toNatClampNeg 4) (5 : Int32).toNatClampNeg 5) (6 : Int32).toNatClampNeg 6) (7 : Int32).toNatClampNeg 7) (8 : Int32).toNatClampNeg 8))) (hx_12 : Φ (x + 12) = some (o_ 12 [.ref (x + 13), .int 0, .int 0, .int 0])) (hx_14 : Φ (x + 14) = some (o_ 12 [.ref (x + 15), .int 0, .int 0, .int 0])) (hx_16 : Φ (x + 16) = some (o_ 12 [.ref (x + 17), .int 0, .int 0, .int 0])) (hx_18 : Φ (x + 18) = some (o_ 12 [.ref (x + 19), .int 0, .int 0, .int 0])) (hx_20 : Φ (x + 20) = some (o_ 12 [.ref (x + 21), .int 0, .int 0, .int 0])) (hx_22 : Φ (x + 22) = some (o_ 12 [.ref (x + 23), .int 0, .int 0, .int 0])) (hx_74 : Φ (x + 74) = some (o_ 10 [.ref (x + 3), .ref (x + 46), .ref (x + 75), .ref (x + 77), .int 0, .ref (x + 78), .ref (x + 79), .int 0, .long 0, .int 0])) (hx_78 : Φ (x + 78) = some (ai_ G 4 (fun _ => 0))) (hy_0 : Φ y = some (o_ 14 [.int 0, .ref (y + 1), .ref (y + 2), .int 0, .int 1, .int 1, .int 0, .int 0, .ref (y + 3), .ref (y + 4), .int 0, .long 0, .ref (y + 5), .int 0, .int 0, .long 0, .long 0, .long 0, .long 0, .ref (y + 6), .ref (y + 7), .int 0, .ref (y + 8), .int 0, .ref (y + 9), .ref (y + 10), .int 0, .ref (y + 11), .ref (y + 12), .ref (y + 13), .ref (y + 14), .ref (y + 15), .ref (y + 16), .int 0, .long (-1), .ref (y + 17), .ref (y + 18), .ref (y + 19), .ref (y + 20), .ref (y + 21), .ref (y + 22), .int 0, .ref (y + 23), .ref (y + 24), .int 0, .ref (y + 25), .int 0, .int 0, .int 0, .int (-1), .int 0, .int 0, .int 0, .long 0])) (hy_2 : Φ (y + 2) = some (ai_ G 307 (upd (upd (upd (upd (upd (upd (upd (upd (upd (upd (upd (upd (upd (upd (upd (upd (upd (upd (upd (upd (upd (fun _ => 0) (0 : Int32).toNatClampNeg 1) (1 : Int32).toNatClampNeg 100) (2 : Int32).toNatClampNeg 1000) (3 : Int32).toNatClampNeg 100) (4 : Int32).toNatClampNeg 20) (5 : Int32).toNatClampNeg 1000) (6 : Int32).toNatClampNeg 5000) (7 : Int32).toNatClampNeg 512) (8 : Int32).toNatClampNeg 1) (9 : Int32).toNatClampNeg 511) (10 : Int32).toNatClampNeg 1) (11 : Int32).toNatClampNeg 9) (15 : Int32).toNatClampNeg 0) (16 : Int32).toNatClampNeg 1) (17 : Int32).toNatClampNeg 2) (18 : Int32).toNatClampNeg 3) (19 : Int32).toNatClampNeg 4) (20 : Int32).toNatClampNeg 5) (21 : Int32).toNatClampNeg 6) (22 : Int32).toNatClampNeg 7) (23 : Int32).toNatClampNeg 8))) (hy_3 : Φ (y + 3) = some (ai_ G 4 (upd (upd (upd (upd (fun _ => 0) (0 : Int32).toNatClampNeg (-1)) (1 : Int32).toNatClampNeg (-1)) (2 : Int32).toNatClampNeg (-1)) (3 : Int32).toNatClampNeg (-1)))) (hco : Φ o = some (al_ G 1 go)) (hx1 : xs 1 = 0) (hx2 : xs 2 = 0) (hT : ∀ (Φ1 : Hm) (sz1 : Nat), Z p9 l e9 room_1 s9 m9 a9 w9 t9 k9 Q9 G 9 2893 [(5, .int 0), (4, .ref d), (3, .ref o), (2, .ref y), (1, .ref x), (0, .ref b)] [] Φ1 sz1 178 20844) : Z p9 l e9 room_1 s9 m9 a9 w9 t9 k9 Q9 G 9 1190 [(5, .int 0), (4, .ref d), (3, .ref o), (2, .ref y), (1, .ref x), (0, .ref b)] [] Φ sz 177 20838 := by
  refine z_aload_n B dL_law_1190 rfl 4 rfl ?_
  refine z_aload_n B dL_law_1191 rfl 5 rfl ?_
  refine z_iload B dL_law_1192 0 rfl ?_
  refine z_iconst (v := 1) B dL_law_1194 rfl ?_
  refine z_iadd B dL_law_1195 ?_
  refine z_top (st1 := [.int 1, .ref b, .ref x]) (congrArg (fun w9 : Int32 => ([.int w9, .ref b, .ref x] : List Value)) (show (0 + 1 : Int32) = 1 by decide +kernel)) ?_
  refine z_sald B hX hbn (vin rfl) dL_law_1196 ?_
  refine z_top (st1 := [.int 0, .ref x]) (congrArg (fun w9 : Int32 => ([.int w9, .ref x] : List Value)) (show xs (1 : Int32).toNatClampNeg = 0 from hx1)) ?_
  refine z_aload_n B dL_law_1197 rfl 5 rfl ?_
  refine z_iload B dL_law_1198 0 rfl ?_
  refine z_iconst (v := 2) B dL_law_1200 rfl ?_
  refine z_iadd B dL_law_1201 ?_
  refine z_top (st1 := [.int 2, .ref b, .int 0, .ref x]) (congrArg (fun w9 : Int32 => ([.int w9, .ref b, .int 0, .ref x] : List Value)) (show (0 + 2 : Int32) = 2 by decide +kernel)) ?_
  refine z_sald B hX hbn (vin rfl) dL_law_1202 ?_
  refine z_top (st1 := [.int 0, .int 0, .ref x]) (congrArg (fun w9 : Int32 => ([.int w9, .int 0, .ref x] : List Value)) (show xs (2 : Int32).toNatClampNeg = 0 from hx2)) ?_
  refine z_if_eq (tgt := 1210) B dL_law_1203 rfl (fun c_1 => ?_) (fun h9 => absurd rfl h9)
  refine z_iconst (v := 0) B dL_law_1210 rfl ?_
  refine z_aload_n B dL_law_1211 rfl 2 rfl ?_
  refine z_callSW (As := [.ref x, .int 0, .int 0, .ref o]) (rest := []) B (w_setSupport_0_0 G l Φ sz x o go hx_0 hx_3 hx_6 hx_7 hx_8 hx_9 hx_10 hx_11 hx_12 hx_14 hx_16 hx_18 hx_20 hx_22 hx_74 hx_78 hco hna (Nat.le_trans hxy (Nat.le_trans (Nat.le_add_right y 26) hyo))) (vx_cwSW 4 B.1.2.2.2.2 gL_law_L_setSupport rfl rfl rfl (by decide +kernel) ⟨Nat.le_of_ble_eq_true rfl, Nat.le_of_ble_eq_true rfl⟩) rfl rfl (Nat.le_of_ble_eq_true rfl) dL_law_1212 ⟨Nat.le_of_ble_eq_true rfl, Nat.le_of_ble_eq_true rfl⟩ (fun v1 Φ1 sz1 st1 hp1 hs1 => ?_)
  obtain ⟨rfl, fr1, g1, ho1, hg1⟩ := hp1
  replace hs1 : st1 = [.int 0] := hs1
  subst st1
  refine z_istore (lv' := [(6, .int 0), (5, .int 0), (4, .ref d), (3, .ref o), (2, .ref y), (1, .ref x), (0, .ref b)]) B dL_law_1215 (Nat.le_of_ble_eq_true rfl) rfl ?_
  refine z_aload_n B dL_law_1217 rfl 4 rfl ?_
  refine z_aload_n B dL_law_1218 rfl 6 rfl ?_
  refine z_iload B dL_law_1219 1 rfl ?_
  refine z_iconst (v := 1) B dL_law_1221 rfl ?_
  refine z_iadd B dL_law_1222 ?_
  refine z_top (st1 := [.int 1, .ref b, .ref y]) (congrArg (fun w9 : Int32 => ([.int w9, .ref b, .ref y] : List Value)) (show (0 + 1 : Int32) = 1 by decide +kernel)) ?_
  refine z_sald B hX hbn (vin rfl) dL_law_1223 ?_
  refine z_top (st1 := [.int 0, .ref y]) (congrArg (fun w9 : Int32 => ([.int w9, .ref y] : List Value)) (show xs (1 : Int32).toNatClampNeg = 0 from hx1)) ?_
  refine z_aload_n B dL_law_1224 rfl 6 rfl ?_
  refine z_iload B dL_law_1225 1 rfl ?_
  refine z_iconst (v := 2) B dL_law_1227 rfl ?_
  refine z_iadd B dL_law_1228 ?_
  refine z_top (st1 := [.int 2, .ref b, .int 0, .ref y]) (congrArg (fun w9 : Int32 => ([.int w9, .ref b, .int 0, .ref y] : List Value)) (show (0 + 2 : Int32) = 2 by decide +kernel)) ?_
  refine z_sald B hX hbn (vin rfl) dL_law_1229 ?_
  refine z_top (st1 := [.int 0, .int 0, .ref y]) (congrArg (fun w9 : Int32 => ([.int w9, .int 0, .ref y] : List Value)) (show xs (2 : Int32).toNatClampNeg = 0 from hx2)) ?_
  refine z_if_eq (tgt := 1237) B dL_law_1230 rfl (fun c_2 => ?_) (fun h9 => absurd rfl h9)
  refine z_iconst (v := 0) B dL_law_1237 rfl ?_
  have h_1 : Φ1 y = some (o_ 14 [.int 0, .ref (y + 1), .ref (y + 2), .int 0, .int 1, .int 1, .int 0, .int 0, .ref (y + 3), .ref (y + 4), .int 0, .long 0, .ref (y + 5), .int 0, .int 0, .long 0, .long 0, .long 0, .long 0, .ref (y + 6), .ref (y + 7), .int 0, .ref (y + 8), .int 0, .ref (y + 9), .ref (y + 10), .int 0, .ref (y + 11), .ref (y + 12), .ref (y + 13), .ref (y + 14), .ref (y + 15), .ref (y + 16), .int 0, .long (-1), .ref (y + 17), .ref (y + 18), .ref (y + 19), .ref (y + 20), .ref (y + 21), .ref (y + 22), .int 0, .ref (y + 23), .ref (y + 24), .int 0, .ref (y + 25), .int 0, .int 0, .int 0, .int (-1), .int 0, .int 0, .int 0, .long 0]) := ((fr1 y hxy (Nat.ne_of_lt (Nat.lt_of_lt_of_le (lt_off (x := y) (i := 0) (j := 26) rfl) hyo))).trans hy_0)
  have h_2 : Φ1 (y + 2) = some (ai_ G 307 (upd (upd (upd (upd (upd (upd (upd (upd (upd (upd (upd (upd (upd (upd (upd (upd (upd (upd (upd (upd (upd (fun _ => 0) (0 : Int32).toNatClampNeg 1) (1 : Int32).toNatClampNeg 100) (2 : Int32).toNatClampNeg 1000) (3 : Int32).toNatClampNeg 100) (4 : Int32).toNatClampNeg 20) (5 : Int32).toNatClampNeg 1000) (6 : Int32).toNatClampNeg 5000) (7 : Int32).toNatClampNeg 512) (8 : Int32).toNatClampNeg 1) (9 : Int32).toNatClampNeg 511) (10 : Int32).toNatClampNeg 1) (11 : Int32).toNatClampNeg 9) (15 : Int32).toNatClampNeg 0) (16 : Int32).toNatClampNeg 1) (17 : Int32).toNatClampNeg 2) (18 : Int32).toNatClampNeg 3) (19 : Int32).toNatClampNeg 4) (20 : Int32).toNatClampNeg 5) (21 : Int32).toNatClampNeg 6) (22 : Int32).toNatClampNeg 7) (23 : Int32).toNatClampNeg 8)) := ((fr1 (y + 2) (Nat.le_trans hxy (Nat.le_add_right y 2)) (Nat.ne_of_lt (Nat.lt_of_lt_of_le (lt_off (x := y) (i := 2) (j := 26) rfl) hyo))).trans hy_2)
  have h_3 : Φ1 (y + 3) = some (ai_ G 4 (upd (upd (upd (upd (fun _ => 0) (0 : Int32).toNatClampNeg (-1)) (1 : Int32).toNatClampNeg (-1)) (2 : Int32).toNatClampNeg (-1)) (3 : Int32).toNatClampNeg (-1))) := ((fr1 (y + 3) (Nat.le_trans hxy (Nat.le_add_right y 3)) (Nat.ne_of_lt (Nat.lt_of_lt_of_le (lt_off (x := y) (i := 3) (j := 26) rfl) hyo))).trans hy_3)
  refine z_callV (As := [.int 0, .int 0]) (rest := []) B (m_X12_setSupport_0_0 G l Φ1 sz1 y h_1 h_2 h_3 (Nat.le_trans hna (Nat.le_trans (Nat.le_add_right x 149) hxy))) (cwV 2 B.1.2.2.2.2 gL_law_X12_setSupport rfl rfl rfl (by decide +kernel) ⟨Nat.le_of_ble_eq_true rfl, Nat.le_of_ble_eq_true rfl⟩) h_1 rfl rfl rfl rfl (Nat.le_of_ble_eq_true rfl) dL_law_1238 ⟨Nat.le_of_ble_eq_true rfl, Nat.le_of_ble_eq_true rfl⟩ (fun v2 Φ2 sz2 st2 hp2 hs2 => ?_)
  obtain ⟨rfl, ⟨fs1, hy1, hk1⟩, fr2⟩ := hp2
  replace hs2 : st2 = [.int 1] := hs2
  subst st2
  refine z_istore (lv' := [(7, .int 1), (6, .int 0), (5, .int 0), (4, .ref d), (3, .ref o), (2, .ref y), (1, .ref x), (0, .ref b)]) B dL_law_1241 (Nat.le_of_ble_eq_true rfl) rfl ?_
  refine z_aload_n B dL_law_1243 rfl 5 rfl ?_
  refine z_callV (As := []) (rest := []) B (m_thrown G l Φ2 sz2 y fs1 0 hy1 hk1) (cwV 0 B.1.2.2.2.2 gL_law_X12_thrown rfl rfl rfl (by decide +kernel) ⟨Nat.le_of_ble_eq_true rfl, Nat.le_of_ble_eq_true rfl⟩) hy1 rfl rfl rfl rfl (Nat.le_of_ble_eq_true rfl) dL_law_1244 ⟨Nat.le_of_ble_eq_true rfl, Nat.le_of_ble_eq_true rfl⟩ (fun v3 Φ3 sz3 st3 hp3 hs3 => ?_)
  obtain ⟨rfl, he1⟩ := hp3
  replace hs3 : st3 = [.int 0] := hs3
  subst st3
  rw [he1]
  refine z_iload B dL_law_1247 1 rfl ?_
  refine z_icmp_eq (tgt := 1254) B dL_law_1249 rfl (fun c_3 => ?_) (fun h9 => absurd (by decide) h9)
  refine z_iload B dL_law_1254 1 rfl ?_
  refine z_if_ne (tgt := 1278) B dL_law_1256 rfl (fun h9 => absurd (by decide) h9) (fun c_4 => ?_)
  refine z_aload_n B dL_law_1259 rfl 4 rfl ?_
  refine z_iconst (v := 0) B dL_law_1260 rfl ?_
  have h_4 : Φ2 o = some (al_ G 1 g1) := ((fr2 o hyo).trans ho1)
  refine z_lald B h_4 (vin rfl) dL_law_1261 ?_
  refine z_top (st1 := [.long 1]) (congrArg (fun w9 : Int64 => ([.long w9] : List Value)) (show g1 (0 : Int32).toNatClampNeg = 1 from hg1)) ?_
  refine z_iload B dL_law_1262 0 rfl ?_
  refine z_if_eq (tgt := 1271) B dL_law_1264 rfl (fun h9 => absurd h9 (by decide)) (fun c_5 => ?_)
  refine z_lconst (v := 1) B dL_law_1267 rfl ?_
  refine z_goto (tgt := 1272) B dL_law_1268 rfl ?_
  refine z_lcmp B dL_law_1272 ?_
  refine z_top (st1 := [.int 0]) (congrArg (fun w9 : Int32 => ([.int w9] : List Value)) (show (lg_cmp 1 1 : Int32) = 0 by decide +kernel)) ?_
  refine z_if_eq (tgt := 1278) B dL_law_1273 rfl (fun c_6 => ?_) (fun h9 => absurd (by decide) h9)
  refine z_goto (tgt := 2893) B dL_law_1278 rfl ?_
  refine z_lv [2, 3, 4, 5, 6, 7] rfl ?_
  refine z_widen (k := 178) (n := 20844) (Nat.le_of_ble_eq_true rfl) (Nat.le_of_ble_eq_true rfl) ?_
  exact hT _ _

set_option maxHeartbeats 4000000 in
set_option maxRecDepth 100000 in
theorem lc_22_0_1 {p9 : Program} {e9 : Env} {s9 : State} {m9 : MethodId} {a9 : Array Value} {w9 : List Frame} {t9 : Method} {k9 : Code} {Q9 : State → Prop} {nm9 : String} (G : EnvG) (l : Launch) (hl9 : l.stackTraces = false) (B : Bd p9 s9 m9 a9 t9 k9 G code 9 RL wsL_law ret nm9) (Φ : Hm) (sz : Nat) (b : Nat) (xs : Nat → Int32) (hX : va_X b 7 xs s9 s9.heap) (hbn : b < G.2.2.2) (x y o d : Nat) (a2 : Int32) (go : Nat → Int64) (gd : Nat → UInt64) (hna : G.2.2.2 ≤ x) (hxy : x + 149 ≤ y) (hyo : y + 26 ≤ o) (hyd : y + 26 ≤ d) (hod : o ≠ d) (hx_0 : Φ x = some (o_ 13 [.ref (x + 1), .ref (x + 3), .ref (x + 24), .ref (x + 46), .ref (x + 74), .ref (x + 80), .ref (x + 132), .ref (x + 121)])) (hx_3 : Φ (x + 3) = some (o_ 3 [.ref (x + 4), .ref (x + 5), .ref (x + 6), .ref (x + 7), .int 1, .int 511])) (hy_0 : Φ y = some (o_ 14 [.int 0, .ref (y + 1), .ref (y + 2), .int 0, .int 1, .int 1, .int 0, .int 0, .ref (y + 3), .ref (y + 4), .int 0, .long 0, .ref (y + 5), .int 0, .int 0, .long 0, .long 0, .long 0, .long 0, .ref (y + 6), .ref (y + 7), .int 0, .ref (y + 8), .int 0, .ref (y + 9), .ref (y + 10), .int 0, .ref (y + 11), .ref (y + 12), .ref (y + 13), .ref (y + 14), .ref (y + 15), .ref (y + 16), .int 0, .long (-1), .ref (y + 17), .ref (y + 18), .ref (y + 19), .ref (y + 20), .ref (y + 21), .ref (y + 22), .int 0, .ref (y + 23), .ref (y + 24), .int 0, .ref (y + 25), .int 0, .int 0, .int 0, .int (-1), .int 0, .int 0, .int 0, .long 0])) (hy_2 : Φ (y + 2) = some (ai_ G 307 (upd (upd (upd (upd (upd (upd (upd (upd (upd (upd (upd (upd (upd (upd (upd (upd (upd (upd (upd (upd (upd (fun _ => 0) (0 : Int32).toNatClampNeg 1) (1 : Int32).toNatClampNeg 100) (2 : Int32).toNatClampNeg 1000) (3 : Int32).toNatClampNeg 100) (4 : Int32).toNatClampNeg 20) (5 : Int32).toNatClampNeg 1000) (6 : Int32).toNatClampNeg 5000) (7 : Int32).toNatClampNeg 512) (8 : Int32).toNatClampNeg 1) (9 : Int32).toNatClampNeg 511) (10 : Int32).toNatClampNeg 1) (11 : Int32).toNatClampNeg 9) (15 : Int32).toNatClampNeg 0) (16 : Int32).toNatClampNeg 1) (17 : Int32).toNatClampNeg 2) (18 : Int32).toNatClampNeg 3) (19 : Int32).toNatClampNeg 4) (20 : Int32).toNatClampNeg 5) (21 : Int32).toNatClampNeg 6) (22 : Int32).toNatClampNeg 7) (23 : Int32).toNatClampNeg 8))) (hco : Φ o = some (al_ G 1 go)) (hx1 : xs 1 = 0) (hx2 : xs 2 = a2) (hbz : a2 ≠ 0) (hT : ∀ (Φ1 : Hm) (sz1 : Nat), Z p9 l e9 room_1 s9 m9 a9 w9 t9 k9 Q9 G 9 2893 [(5, .int 0), (4, .ref d), (3, .ref o), (2, .ref y), (1, .ref x), (0, .ref b)] [] Φ1 sz1 178 20844) : Z p9 l e9 room_1 s9 m9 a9 w9 t9 k9 Q9 G 9 1190 [(5, .int 0), (4, .ref d), (3, .ref o), (2, .ref y), (1, .ref x), (0, .ref b)] [] Φ sz 177 20838 := by
  refine z_aload_n B dL_law_1190 rfl 4 rfl ?_
  refine z_aload_n B dL_law_1191 rfl 5 rfl ?_
  refine z_iload B dL_law_1192 0 rfl ?_
  refine z_iconst (v := 1) B dL_law_1194 rfl ?_
  refine z_iadd B dL_law_1195 ?_
  refine z_top (st1 := [.int 1, .ref b, .ref x]) (congrArg (fun w9 : Int32 => ([.int w9, .ref b, .ref x] : List Value)) (show (0 + 1 : Int32) = 1 by decide +kernel)) ?_
  refine z_sald B hX hbn (vin rfl) dL_law_1196 ?_
  refine z_top (st1 := [.int 0, .ref x]) (congrArg (fun w9 : Int32 => ([.int w9, .ref x] : List Value)) (show xs (1 : Int32).toNatClampNeg = 0 from hx1)) ?_
  refine z_aload_n B dL_law_1197 rfl 5 rfl ?_
  refine z_iload B dL_law_1198 0 rfl ?_
  refine z_iconst (v := 2) B dL_law_1200 rfl ?_
  refine z_iadd B dL_law_1201 ?_
  refine z_top (st1 := [.int 2, .ref b, .int 0, .ref x]) (congrArg (fun w9 : Int32 => ([.int w9, .ref b, .int 0, .ref x] : List Value)) (show (0 + 2 : Int32) = 2 by decide +kernel)) ?_
  refine z_sald B hX hbn (vin rfl) dL_law_1202 ?_
  refine z_top (st1 := [.int a2, .int 0, .ref x]) (congrArg (fun w9 : Int32 => ([.int w9, .int 0, .ref x] : List Value)) (show xs (2 : Int32).toNatClampNeg = a2 from hx2)) ?_
  refine z_if_eq (tgt := 1210) B dL_law_1203 rfl (fun h9 => absurd h9 hbz) (fun c_1 => ?_)
  refine z_iconst (v := 1) B dL_law_1206 rfl ?_
  refine z_goto (tgt := 1211) B dL_law_1207 rfl ?_
  refine z_aload_n B dL_law_1211 rfl 2 rfl ?_
  refine z_callSW (As := [.ref x, .int 0, .int 1, .ref o]) (rest := []) B (w_setSupport_0_1 G l Φ sz x o go hx_0 hx_3 hco hna (Nat.le_trans hxy (Nat.le_trans (Nat.le_add_right y 26) hyo))) (vx_cwSW 4 B.1.2.2.2.2 gL_law_L_setSupport rfl rfl rfl (by decide +kernel) ⟨Nat.le_of_ble_eq_true rfl, Nat.le_of_ble_eq_true rfl⟩) rfl rfl (Nat.le_of_ble_eq_true rfl) dL_law_1212 ⟨Nat.le_of_ble_eq_true rfl, Nat.le_of_ble_eq_true rfl⟩ (fun v1 Φ1 sz1 st1 hp1 hs1 => ?_)
  obtain ⟨rfl, fr1, g1, ho1, hg1⟩ := hp1
  replace hs1 : st1 = [.int 0] := hs1
  subst st1
  refine z_istore (lv' := [(6, .int 0), (5, .int 0), (4, .ref d), (3, .ref o), (2, .ref y), (1, .ref x), (0, .ref b)]) B dL_law_1215 (Nat.le_of_ble_eq_true rfl) rfl ?_
  refine z_aload_n B dL_law_1217 rfl 4 rfl ?_
  refine z_aload_n B dL_law_1218 rfl 6 rfl ?_
  refine z_iload B dL_law_1219 1 rfl ?_
  refine z_iconst (v := 1) B dL_law_1221 rfl ?_
  refine z_iadd B dL_law_1222 ?_
  refine z_top (st1 := [.int 1, .ref b, .ref y]) (congrArg (fun w9 : Int32 => ([.int w9, .ref b, .ref y] : List Value)) (show (0 + 1 : Int32) = 1 by decide +kernel)) ?_
  refine z_sald B hX hbn (vin rfl) dL_law_1223 ?_
  refine z_top (st1 := [.int 0, .ref y]) (congrArg (fun w9 : Int32 => ([.int w9, .ref y] : List Value)) (show xs (1 : Int32).toNatClampNeg = 0 from hx1)) ?_
  refine z_aload_n B dL_law_1224 rfl 6 rfl ?_
  refine z_iload B dL_law_1225 1 rfl ?_
  refine z_iconst (v := 2) B dL_law_1227 rfl ?_
  refine z_iadd B dL_law_1228 ?_
  refine z_top (st1 := [.int 2, .ref b, .int 0, .ref y]) (congrArg (fun w9 : Int32 => ([.int w9, .ref b, .int 0, .ref y] : List Value)) (show (0 + 2 : Int32) = 2 by decide +kernel)) ?_
  refine z_sald B hX hbn (vin rfl) dL_law_1229 ?_
  refine z_top (st1 := [.int a2, .int 0, .ref y]) (congrArg (fun w9 : Int32 => ([.int w9, .int 0, .ref y] : List Value)) (show xs (2 : Int32).toNatClampNeg = a2 from hx2)) ?_
  refine z_if_eq (tgt := 1237) B dL_law_1230 rfl (fun h9 => absurd h9 hbz) (fun c_2 => ?_)
  refine z_iconst (v := 1) B dL_law_1233 rfl ?_
  refine z_goto (tgt := 1238) B dL_law_1234 rfl ?_
  have h_1 : Φ1 y = some (o_ 14 [.int 0, .ref (y + 1), .ref (y + 2), .int 0, .int 1, .int 1, .int 0, .int 0, .ref (y + 3), .ref (y + 4), .int 0, .long 0, .ref (y + 5), .int 0, .int 0, .long 0, .long 0, .long 0, .long 0, .ref (y + 6), .ref (y + 7), .int 0, .ref (y + 8), .int 0, .ref (y + 9), .ref (y + 10), .int 0, .ref (y + 11), .ref (y + 12), .ref (y + 13), .ref (y + 14), .ref (y + 15), .ref (y + 16), .int 0, .long (-1), .ref (y + 17), .ref (y + 18), .ref (y + 19), .ref (y + 20), .ref (y + 21), .ref (y + 22), .int 0, .ref (y + 23), .ref (y + 24), .int 0, .ref (y + 25), .int 0, .int 0, .int 0, .int (-1), .int 0, .int 0, .int 0, .long 0]) := ((fr1 y hxy (Nat.ne_of_lt (Nat.lt_of_lt_of_le (lt_off (x := y) (i := 0) (j := 26) rfl) hyo))).trans hy_0)
  have h_2 : Φ1 (y + 2) = some (ai_ G 307 (upd (upd (upd (upd (upd (upd (upd (upd (upd (upd (upd (upd (upd (upd (upd (upd (upd (upd (upd (upd (upd (fun _ => 0) (0 : Int32).toNatClampNeg 1) (1 : Int32).toNatClampNeg 100) (2 : Int32).toNatClampNeg 1000) (3 : Int32).toNatClampNeg 100) (4 : Int32).toNatClampNeg 20) (5 : Int32).toNatClampNeg 1000) (6 : Int32).toNatClampNeg 5000) (7 : Int32).toNatClampNeg 512) (8 : Int32).toNatClampNeg 1) (9 : Int32).toNatClampNeg 511) (10 : Int32).toNatClampNeg 1) (11 : Int32).toNatClampNeg 9) (15 : Int32).toNatClampNeg 0) (16 : Int32).toNatClampNeg 1) (17 : Int32).toNatClampNeg 2) (18 : Int32).toNatClampNeg 3) (19 : Int32).toNatClampNeg 4) (20 : Int32).toNatClampNeg 5) (21 : Int32).toNatClampNeg 6) (22 : Int32).toNatClampNeg 7) (23 : Int32).toNatClampNeg 8)) := ((fr1 (y + 2) (Nat.le_trans hxy (Nat.le_add_right y 2)) (Nat.ne_of_lt (Nat.lt_of_lt_of_le (lt_off (x := y) (i := 2) (j := 26) rfl) hyo))).trans hy_2)
  refine z_callV (As := [.int 0, .int 1]) (rest := []) B (m_X12_setSupport_0_1 G l Φ1 sz1 y h_1 h_2 (Nat.le_trans hna (Nat.le_trans (Nat.le_add_right x 149) hxy))) (cwV 2 B.1.2.2.2.2 gL_law_X12_setSupport rfl rfl rfl (by decide +kernel) ⟨Nat.le_of_ble_eq_true rfl, Nat.le_of_ble_eq_true rfl⟩) h_1 rfl rfl rfl rfl (Nat.le_of_ble_eq_true rfl) dL_law_1238 ⟨Nat.le_of_ble_eq_true rfl, Nat.le_of_ble_eq_true rfl⟩ (fun v2 Φ2 sz2 st2 hp2 hs2 => ?_)
  obtain ⟨rfl, ⟨fs1, hy1, hk1⟩, fr2⟩ := hp2
  replace hs2 : st2 = [.int 1] := hs2
  subst st2
  refine z_istore (lv' := [(7, .int 1), (6, .int 0), (5, .int 0), (4, .ref d), (3, .ref o), (2, .ref y), (1, .ref x), (0, .ref b)]) B dL_law_1241 (Nat.le_of_ble_eq_true rfl) rfl ?_
  refine z_aload_n B dL_law_1243 rfl 5 rfl ?_
  refine z_callV (As := []) (rest := []) B (m_thrown G l Φ2 sz2 y fs1 0 hy1 hk1) (cwV 0 B.1.2.2.2.2 gL_law_X12_thrown rfl rfl rfl (by decide +kernel) ⟨Nat.le_of_ble_eq_true rfl, Nat.le_of_ble_eq_true rfl⟩) hy1 rfl rfl rfl rfl (Nat.le_of_ble_eq_true rfl) dL_law_1244 ⟨Nat.le_of_ble_eq_true rfl, Nat.le_of_ble_eq_true rfl⟩ (fun v3 Φ3 sz3 st3 hp3 hs3 => ?_)
  obtain ⟨rfl, he1⟩ := hp3
  replace hs3 : st3 = [.int 0] := hs3
  subst st3
  rw [he1]
  refine z_iload B dL_law_1247 1 rfl ?_
  refine z_icmp_eq (tgt := 1254) B dL_law_1249 rfl (fun c_3 => ?_) (fun h9 => absurd (by decide) h9)
  refine z_iload B dL_law_1254 1 rfl ?_
  refine z_if_ne (tgt := 1278) B dL_law_1256 rfl (fun h9 => absurd (by decide) h9) (fun c_4 => ?_)
  refine z_aload_n B dL_law_1259 rfl 4 rfl ?_
  refine z_iconst (v := 0) B dL_law_1260 rfl ?_
  have h_3 : Φ2 o = some (al_ G 1 g1) := ((fr2 o hyo).trans ho1)
  refine z_lald B h_3 (vin rfl) dL_law_1261 ?_
  refine z_top (st1 := [.long 1]) (congrArg (fun w9 : Int64 => ([.long w9] : List Value)) (show g1 (0 : Int32).toNatClampNeg = 1 from hg1)) ?_
  refine z_iload B dL_law_1262 0 rfl ?_
  refine z_if_eq (tgt := 1271) B dL_law_1264 rfl (fun h9 => absurd h9 (by decide)) (fun c_5 => ?_)
  refine z_lconst (v := 1) B dL_law_1267 rfl ?_
  refine z_goto (tgt := 1272) B dL_law_1268 rfl ?_
  refine z_lcmp B dL_law_1272 ?_
  refine z_top (st1 := [.int 0]) (congrArg (fun w9 : Int32 => ([.int w9] : List Value)) (show (lg_cmp 1 1 : Int32) = 0 by decide +kernel)) ?_
  refine z_if_eq (tgt := 1278) B dL_law_1273 rfl (fun c_6 => ?_) (fun h9 => absurd (by decide) h9)
  refine z_goto (tgt := 2893) B dL_law_1278 rfl ?_
  refine z_lv [2, 3, 4, 5, 6, 7] rfl ?_
  refine z_widen (k := 178) (n := 20844) (Nat.le_of_ble_eq_true rfl) (Nat.le_of_ble_eq_true rfl) ?_
  exact hT _ _

set_option maxHeartbeats 4000000 in
set_option maxRecDepth 100000 in
theorem lc_22_1_0 {p9 : Program} {e9 : Env} {s9 : State} {m9 : MethodId} {a9 : Array Value} {w9 : List Frame} {t9 : Method} {k9 : Code} {Q9 : State → Prop} {nm9 : String} (G : EnvG) (l : Launch) (hl9 : l.stackTraces = false) (B : Bd p9 s9 m9 a9 t9 k9 G code 9 RL wsL_law ret nm9) (Φ : Hm) (sz : Nat) (b : Nat) (xs : Nat → Int32) (hX : va_X b 7 xs s9 s9.heap) (hbn : b < G.2.2.2) (x y o d : Nat)  (go : Nat → Int64) (gd : Nat → UInt64) (hna : G.2.2.2 ≤ x) (hxy : x + 149 ≤ y) (hyo : y + 26 ≤ o) (hyd : y + 26 ≤ d) (hod : o ≠ d) (hx_0 : Φ x = some (o_ 13 [.ref (x + 1), .ref (x + 3), .ref (x + 24), .ref (x + 46), .ref (x + 74), .ref (x + 80), .ref (x + 132), .ref (x + 121)])) (hx_3 : Φ (x + 3) = some (o_ 3 [.ref (x + 4), .ref (x + 5), .ref (x + 6), .ref (x + 7), .int 1, .int 511])) (hx_6 : Φ (x + 6) = some (aq_ G 4 4 (va_up (va_up (va_up (va_up (fun _ => none) (0 : Int32).toNatClampNeg (some (x + 8))) (1 : Int32).toNatClampNeg (some (x + 12))) (2 : Int32).toNatClampNeg (some (x + 16))) (3 : Int32).toNatClampNeg (some (x + 20))))) (hx_7 : Φ (x + 7) = some (aq_ G 4 4 (va_up (va_up (va_up (va_up (fun _ => none) (0 : Int32).toNatClampNeg (some (x + 10))) (1 : Int32).toNatClampNeg (some (x + 14))) (2 : Int32).toNatClampNeg (some (x + 18))) (3 : Int32).toNatClampNeg (some (x + 22))))) (hx_8 : Φ (x + 8) = some (o_ 12 [.ref (x + 9), .int 9, .int 511, .int 29])) (hx_9 : Φ (x + 9) = some (ai_ G 9 (upd (upd (upd (upd (upd (upd (upd (upd (upd (fun _ => 0) (0 : Int32).toNatClampNeg 0) (1 : Int32).toNatClampNeg 1) (2 : Int32).toNatClampNeg 2) (3 : Int32).toNatClampNeg 3) (4 : Int32).toNatClampNeg 4) (5 : Int32).toNatClampNeg 5) (6 : Int32).toNatClampNeg 6) (7 : Int32).toNatClampNeg 7) (8 : Int32).toNatClampNeg 8))) (hx_10 : Φ (x + 10) = some (o_ 12 [.ref (x + 11), .int 9, .int 511, .int 29])) (hx_11 : Φ (x + 11) = some (ai_ G 9 (upd (upd (upd (upd (upd (upd (upd (upd (upd (fun _ => 0) (0 : Int32).toNatClampNeg 0) (1 : Int32).toNatClampNeg 1) (2 : Int32).toNatClampNeg 2) (3 : Int32).toNatClampNeg 3) (4 : Int32).toNatClampNeg 4) (5 : Int32).toNatClampNeg 5) (6 : Int32).toNatClampNeg 6) (7 : Int32).toNatClampNeg 7) (8 : Int32).toNatClampNeg 8))) (hx_12 : Φ (x + 12) = some (o_ 12 [.ref (x + 13), .int 0, .int 0, .int 0])) (hx_14 : Φ (x + 14) = some (o_ 12 [.ref (x + 15), .int 0, .int 0, .int 0])) (hx_16 : Φ (x + 16) = some (o_ 12 [.ref (x + 17), .int 0, .int 0, .int 0])) (hx_18 : Φ (x + 18) = some (o_ 12 [.ref (x + 19), .int 0, .int 0, .int 0])) (hx_20 : Φ (x + 20) = some (o_ 12 [.ref (x + 21), .int 0, .int 0, .int 0])) (hx_22 : Φ (x + 22) = some (o_ 12 [.ref (x + 23), .int 0, .int 0, .int 0])) (hx_74 : Φ (x + 74) = some (o_ 10 [.ref (x + 3), .ref (x + 46), .ref (x + 75), .ref (x + 77), .int 0, .ref (x + 78), .ref (x + 79), .int 0, .long 0, .int 0])) (hx_78 : Φ (x + 78) = some (ai_ G 4 (fun _ => 0))) (hy_0 : Φ y = some (o_ 14 [.int 0, .ref (y + 1), .ref (y + 2), .int 0, .int 1, .int 1, .int 0, .int 0, .ref (y + 3), .ref (y + 4), .int 0, .long 0, .ref (y + 5), .int 0, .int 0, .long 0, .long 0, .long 0, .long 0, .ref (y + 6), .ref (y + 7), .int 0, .ref (y + 8), .int 0, .ref (y + 9), .ref (y + 10), .int 0, .ref (y + 11), .ref (y + 12), .ref (y + 13), .ref (y + 14), .ref (y + 15), .ref (y + 16), .int 0, .long (-1), .ref (y + 17), .ref (y + 18), .ref (y + 19), .ref (y + 20), .ref (y + 21), .ref (y + 22), .int 0, .ref (y + 23), .ref (y + 24), .int 0, .ref (y + 25), .int 0, .int 0, .int 0, .int (-1), .int 0, .int 0, .int 0, .long 0])) (hy_2 : Φ (y + 2) = some (ai_ G 307 (upd (upd (upd (upd (upd (upd (upd (upd (upd (upd (upd (upd (upd (upd (upd (upd (upd (upd (upd (upd (upd (fun _ => 0) (0 : Int32).toNatClampNeg 1) (1 : Int32).toNatClampNeg 100) (2 : Int32).toNatClampNeg 1000) (3 : Int32).toNatClampNeg 100) (4 : Int32).toNatClampNeg 20) (5 : Int32).toNatClampNeg 1000) (6 : Int32).toNatClampNeg 5000) (7 : Int32).toNatClampNeg 512) (8 : Int32).toNatClampNeg 1) (9 : Int32).toNatClampNeg 511) (10 : Int32).toNatClampNeg 1) (11 : Int32).toNatClampNeg 9) (15 : Int32).toNatClampNeg 0) (16 : Int32).toNatClampNeg 1) (17 : Int32).toNatClampNeg 2) (18 : Int32).toNatClampNeg 3) (19 : Int32).toNatClampNeg 4) (20 : Int32).toNatClampNeg 5) (21 : Int32).toNatClampNeg 6) (22 : Int32).toNatClampNeg 7) (23 : Int32).toNatClampNeg 8))) (hy_3 : Φ (y + 3) = some (ai_ G 4 (upd (upd (upd (upd (fun _ => 0) (0 : Int32).toNatClampNeg (-1)) (1 : Int32).toNatClampNeg (-1)) (2 : Int32).toNatClampNeg (-1)) (3 : Int32).toNatClampNeg (-1)))) (hco : Φ o = some (al_ G 1 go)) (hx1 : xs 1 = 1) (hx2 : xs 2 = 0) (hT : ∀ (Φ1 : Hm) (sz1 : Nat), Z p9 l e9 room_1 s9 m9 a9 w9 t9 k9 Q9 G 9 2893 [(5, .int 0), (4, .ref d), (3, .ref o), (2, .ref y), (1, .ref x), (0, .ref b)] [] Φ1 sz1 178 20844) : Z p9 l e9 room_1 s9 m9 a9 w9 t9 k9 Q9 G 9 1190 [(5, .int 0), (4, .ref d), (3, .ref o), (2, .ref y), (1, .ref x), (0, .ref b)] [] Φ sz 177 20838 := by
  refine z_aload_n B dL_law_1190 rfl 4 rfl ?_
  refine z_aload_n B dL_law_1191 rfl 5 rfl ?_
  refine z_iload B dL_law_1192 0 rfl ?_
  refine z_iconst (v := 1) B dL_law_1194 rfl ?_
  refine z_iadd B dL_law_1195 ?_
  refine z_top (st1 := [.int 1, .ref b, .ref x]) (congrArg (fun w9 : Int32 => ([.int w9, .ref b, .ref x] : List Value)) (show (0 + 1 : Int32) = 1 by decide +kernel)) ?_
  refine z_sald B hX hbn (vin rfl) dL_law_1196 ?_
  refine z_top (st1 := [.int 1, .ref x]) (congrArg (fun w9 : Int32 => ([.int w9, .ref x] : List Value)) (show xs (1 : Int32).toNatClampNeg = 1 from hx1)) ?_
  refine z_aload_n B dL_law_1197 rfl 5 rfl ?_
  refine z_iload B dL_law_1198 0 rfl ?_
  refine z_iconst (v := 2) B dL_law_1200 rfl ?_
  refine z_iadd B dL_law_1201 ?_
  refine z_top (st1 := [.int 2, .ref b, .int 1, .ref x]) (congrArg (fun w9 : Int32 => ([.int w9, .ref b, .int 1, .ref x] : List Value)) (show (0 + 2 : Int32) = 2 by decide +kernel)) ?_
  refine z_sald B hX hbn (vin rfl) dL_law_1202 ?_
  refine z_top (st1 := [.int 0, .int 1, .ref x]) (congrArg (fun w9 : Int32 => ([.int w9, .int 1, .ref x] : List Value)) (show xs (2 : Int32).toNatClampNeg = 0 from hx2)) ?_
  refine z_if_eq (tgt := 1210) B dL_law_1203 rfl (fun c_1 => ?_) (fun h9 => absurd rfl h9)
  refine z_iconst (v := 0) B dL_law_1210 rfl ?_
  refine z_aload_n B dL_law_1211 rfl 2 rfl ?_
  refine z_callSW (As := [.ref x, .int 1, .int 0, .ref o]) (rest := []) B (w_setSupport_1_0 G l Φ sz x o go hx_0 hx_3 hx_6 hx_7 hx_8 hx_9 hx_10 hx_11 hx_12 hx_14 hx_16 hx_18 hx_20 hx_22 hx_74 hx_78 hco hna (Nat.le_trans hxy (Nat.le_trans (Nat.le_add_right y 26) hyo))) (vx_cwSW 4 B.1.2.2.2.2 gL_law_L_setSupport rfl rfl rfl (by decide +kernel) ⟨Nat.le_of_ble_eq_true rfl, Nat.le_of_ble_eq_true rfl⟩) rfl rfl (Nat.le_of_ble_eq_true rfl) dL_law_1212 ⟨Nat.le_of_ble_eq_true rfl, Nat.le_of_ble_eq_true rfl⟩ (fun v1 Φ1 sz1 st1 hp1 hs1 => ?_)
  obtain ⟨rfl, fr1, g1, ho1, hg1⟩ := hp1
  replace hs1 : st1 = [.int 0] := hs1
  subst st1
  refine z_istore (lv' := [(6, .int 0), (5, .int 0), (4, .ref d), (3, .ref o), (2, .ref y), (1, .ref x), (0, .ref b)]) B dL_law_1215 (Nat.le_of_ble_eq_true rfl) rfl ?_
  refine z_aload_n B dL_law_1217 rfl 4 rfl ?_
  refine z_aload_n B dL_law_1218 rfl 6 rfl ?_
  refine z_iload B dL_law_1219 1 rfl ?_
  refine z_iconst (v := 1) B dL_law_1221 rfl ?_
  refine z_iadd B dL_law_1222 ?_
  refine z_top (st1 := [.int 1, .ref b, .ref y]) (congrArg (fun w9 : Int32 => ([.int w9, .ref b, .ref y] : List Value)) (show (0 + 1 : Int32) = 1 by decide +kernel)) ?_
  refine z_sald B hX hbn (vin rfl) dL_law_1223 ?_
  refine z_top (st1 := [.int 1, .ref y]) (congrArg (fun w9 : Int32 => ([.int w9, .ref y] : List Value)) (show xs (1 : Int32).toNatClampNeg = 1 from hx1)) ?_
  refine z_aload_n B dL_law_1224 rfl 6 rfl ?_
  refine z_iload B dL_law_1225 1 rfl ?_
  refine z_iconst (v := 2) B dL_law_1227 rfl ?_
  refine z_iadd B dL_law_1228 ?_
  refine z_top (st1 := [.int 2, .ref b, .int 1, .ref y]) (congrArg (fun w9 : Int32 => ([.int w9, .ref b, .int 1, .ref y] : List Value)) (show (0 + 2 : Int32) = 2 by decide +kernel)) ?_
  refine z_sald B hX hbn (vin rfl) dL_law_1229 ?_
  refine z_top (st1 := [.int 0, .int 1, .ref y]) (congrArg (fun w9 : Int32 => ([.int w9, .int 1, .ref y] : List Value)) (show xs (2 : Int32).toNatClampNeg = 0 from hx2)) ?_
  refine z_if_eq (tgt := 1237) B dL_law_1230 rfl (fun c_2 => ?_) (fun h9 => absurd rfl h9)
  refine z_iconst (v := 0) B dL_law_1237 rfl ?_
  have h_1 : Φ1 y = some (o_ 14 [.int 0, .ref (y + 1), .ref (y + 2), .int 0, .int 1, .int 1, .int 0, .int 0, .ref (y + 3), .ref (y + 4), .int 0, .long 0, .ref (y + 5), .int 0, .int 0, .long 0, .long 0, .long 0, .long 0, .ref (y + 6), .ref (y + 7), .int 0, .ref (y + 8), .int 0, .ref (y + 9), .ref (y + 10), .int 0, .ref (y + 11), .ref (y + 12), .ref (y + 13), .ref (y + 14), .ref (y + 15), .ref (y + 16), .int 0, .long (-1), .ref (y + 17), .ref (y + 18), .ref (y + 19), .ref (y + 20), .ref (y + 21), .ref (y + 22), .int 0, .ref (y + 23), .ref (y + 24), .int 0, .ref (y + 25), .int 0, .int 0, .int 0, .int (-1), .int 0, .int 0, .int 0, .long 0]) := ((fr1 y hxy (Nat.ne_of_lt (Nat.lt_of_lt_of_le (lt_off (x := y) (i := 0) (j := 26) rfl) hyo))).trans hy_0)
  have h_2 : Φ1 (y + 2) = some (ai_ G 307 (upd (upd (upd (upd (upd (upd (upd (upd (upd (upd (upd (upd (upd (upd (upd (upd (upd (upd (upd (upd (upd (fun _ => 0) (0 : Int32).toNatClampNeg 1) (1 : Int32).toNatClampNeg 100) (2 : Int32).toNatClampNeg 1000) (3 : Int32).toNatClampNeg 100) (4 : Int32).toNatClampNeg 20) (5 : Int32).toNatClampNeg 1000) (6 : Int32).toNatClampNeg 5000) (7 : Int32).toNatClampNeg 512) (8 : Int32).toNatClampNeg 1) (9 : Int32).toNatClampNeg 511) (10 : Int32).toNatClampNeg 1) (11 : Int32).toNatClampNeg 9) (15 : Int32).toNatClampNeg 0) (16 : Int32).toNatClampNeg 1) (17 : Int32).toNatClampNeg 2) (18 : Int32).toNatClampNeg 3) (19 : Int32).toNatClampNeg 4) (20 : Int32).toNatClampNeg 5) (21 : Int32).toNatClampNeg 6) (22 : Int32).toNatClampNeg 7) (23 : Int32).toNatClampNeg 8)) := ((fr1 (y + 2) (Nat.le_trans hxy (Nat.le_add_right y 2)) (Nat.ne_of_lt (Nat.lt_of_lt_of_le (lt_off (x := y) (i := 2) (j := 26) rfl) hyo))).trans hy_2)
  have h_3 : Φ1 (y + 3) = some (ai_ G 4 (upd (upd (upd (upd (fun _ => 0) (0 : Int32).toNatClampNeg (-1)) (1 : Int32).toNatClampNeg (-1)) (2 : Int32).toNatClampNeg (-1)) (3 : Int32).toNatClampNeg (-1))) := ((fr1 (y + 3) (Nat.le_trans hxy (Nat.le_add_right y 3)) (Nat.ne_of_lt (Nat.lt_of_lt_of_le (lt_off (x := y) (i := 3) (j := 26) rfl) hyo))).trans hy_3)
  refine z_callV (As := [.int 1, .int 0]) (rest := []) B (m_X12_setSupport_1_0 G l Φ1 sz1 y h_1 h_2 h_3 (Nat.le_trans hna (Nat.le_trans (Nat.le_add_right x 149) hxy))) (cwV 2 B.1.2.2.2.2 gL_law_X12_setSupport rfl rfl rfl (by decide +kernel) ⟨Nat.le_of_ble_eq_true rfl, Nat.le_of_ble_eq_true rfl⟩) h_1 rfl rfl rfl rfl (Nat.le_of_ble_eq_true rfl) dL_law_1238 ⟨Nat.le_of_ble_eq_true rfl, Nat.le_of_ble_eq_true rfl⟩ (fun v2 Φ2 sz2 st2 hp2 hs2 => ?_)
  obtain ⟨rfl, ⟨fs1, hy1, hk1⟩, fr2⟩ := hp2
  replace hs2 : st2 = [.int 1] := hs2
  subst st2
  refine z_istore (lv' := [(7, .int 1), (6, .int 0), (5, .int 0), (4, .ref d), (3, .ref o), (2, .ref y), (1, .ref x), (0, .ref b)]) B dL_law_1241 (Nat.le_of_ble_eq_true rfl) rfl ?_
  refine z_aload_n B dL_law_1243 rfl 5 rfl ?_
  refine z_callV (As := []) (rest := []) B (m_thrown G l Φ2 sz2 y fs1 0 hy1 hk1) (cwV 0 B.1.2.2.2.2 gL_law_X12_thrown rfl rfl rfl (by decide +kernel) ⟨Nat.le_of_ble_eq_true rfl, Nat.le_of_ble_eq_true rfl⟩) hy1 rfl rfl rfl rfl (Nat.le_of_ble_eq_true rfl) dL_law_1244 ⟨Nat.le_of_ble_eq_true rfl, Nat.le_of_ble_eq_true rfl⟩ (fun v3 Φ3 sz3 st3 hp3 hs3 => ?_)
  obtain ⟨rfl, he1⟩ := hp3
  replace hs3 : st3 = [.int 0] := hs3
  subst st3
  rw [he1]
  refine z_iload B dL_law_1247 1 rfl ?_
  refine z_icmp_eq (tgt := 1254) B dL_law_1249 rfl (fun c_3 => ?_) (fun h9 => absurd (by decide) h9)
  refine z_iload B dL_law_1254 1 rfl ?_
  refine z_if_ne (tgt := 1278) B dL_law_1256 rfl (fun h9 => absurd (by decide) h9) (fun c_4 => ?_)
  refine z_aload_n B dL_law_1259 rfl 4 rfl ?_
  refine z_iconst (v := 0) B dL_law_1260 rfl ?_
  have h_4 : Φ2 o = some (al_ G 1 g1) := ((fr2 o hyo).trans ho1)
  refine z_lald B h_4 (vin rfl) dL_law_1261 ?_
  refine z_top (st1 := [.long 1]) (congrArg (fun w9 : Int64 => ([.long w9] : List Value)) (show g1 (0 : Int32).toNatClampNeg = 1 from hg1)) ?_
  refine z_iload B dL_law_1262 0 rfl ?_
  refine z_if_eq (tgt := 1271) B dL_law_1264 rfl (fun h9 => absurd h9 (by decide)) (fun c_5 => ?_)
  refine z_lconst (v := 1) B dL_law_1267 rfl ?_
  refine z_goto (tgt := 1272) B dL_law_1268 rfl ?_
  refine z_lcmp B dL_law_1272 ?_
  refine z_top (st1 := [.int 0]) (congrArg (fun w9 : Int32 => ([.int w9] : List Value)) (show (lg_cmp 1 1 : Int32) = 0 by decide +kernel)) ?_
  refine z_if_eq (tgt := 1278) B dL_law_1273 rfl (fun c_6 => ?_) (fun h9 => absurd (by decide) h9)
  refine z_goto (tgt := 2893) B dL_law_1278 rfl ?_
  refine z_lv [2, 3, 4, 5, 6, 7] rfl ?_
  refine z_widen (k := 178) (n := 20844) (Nat.le_of_ble_eq_true rfl) (Nat.le_of_ble_eq_true rfl) ?_
  exact hT _ _

set_option maxHeartbeats 4000000 in
set_option maxRecDepth 100000 in
theorem lc_22_1_1 {p9 : Program} {e9 : Env} {s9 : State} {m9 : MethodId} {a9 : Array Value} {w9 : List Frame} {t9 : Method} {k9 : Code} {Q9 : State → Prop} {nm9 : String} (G : EnvG) (l : Launch) (hl9 : l.stackTraces = false) (B : Bd p9 s9 m9 a9 t9 k9 G code 9 RL wsL_law ret nm9) (Φ : Hm) (sz : Nat) (b : Nat) (xs : Nat → Int32) (hX : va_X b 7 xs s9 s9.heap) (hbn : b < G.2.2.2) (x y o d : Nat) (a2 : Int32) (go : Nat → Int64) (gd : Nat → UInt64) (hna : G.2.2.2 ≤ x) (hxy : x + 149 ≤ y) (hyo : y + 26 ≤ o) (hyd : y + 26 ≤ d) (hod : o ≠ d) (hx_0 : Φ x = some (o_ 13 [.ref (x + 1), .ref (x + 3), .ref (x + 24), .ref (x + 46), .ref (x + 74), .ref (x + 80), .ref (x + 132), .ref (x + 121)])) (hx_3 : Φ (x + 3) = some (o_ 3 [.ref (x + 4), .ref (x + 5), .ref (x + 6), .ref (x + 7), .int 1, .int 511])) (hy_0 : Φ y = some (o_ 14 [.int 0, .ref (y + 1), .ref (y + 2), .int 0, .int 1, .int 1, .int 0, .int 0, .ref (y + 3), .ref (y + 4), .int 0, .long 0, .ref (y + 5), .int 0, .int 0, .long 0, .long 0, .long 0, .long 0, .ref (y + 6), .ref (y + 7), .int 0, .ref (y + 8), .int 0, .ref (y + 9), .ref (y + 10), .int 0, .ref (y + 11), .ref (y + 12), .ref (y + 13), .ref (y + 14), .ref (y + 15), .ref (y + 16), .int 0, .long (-1), .ref (y + 17), .ref (y + 18), .ref (y + 19), .ref (y + 20), .ref (y + 21), .ref (y + 22), .int 0, .ref (y + 23), .ref (y + 24), .int 0, .ref (y + 25), .int 0, .int 0, .int 0, .int (-1), .int 0, .int 0, .int 0, .long 0])) (hy_2 : Φ (y + 2) = some (ai_ G 307 (upd (upd (upd (upd (upd (upd (upd (upd (upd (upd (upd (upd (upd (upd (upd (upd (upd (upd (upd (upd (upd (fun _ => 0) (0 : Int32).toNatClampNeg 1) (1 : Int32).toNatClampNeg 100) (2 : Int32).toNatClampNeg 1000) (3 : Int32).toNatClampNeg 100) (4 : Int32).toNatClampNeg 20) (5 : Int32).toNatClampNeg 1000) (6 : Int32).toNatClampNeg 5000) (7 : Int32).toNatClampNeg 512) (8 : Int32).toNatClampNeg 1) (9 : Int32).toNatClampNeg 511) (10 : Int32).toNatClampNeg 1) (11 : Int32).toNatClampNeg 9) (15 : Int32).toNatClampNeg 0) (16 : Int32).toNatClampNeg 1) (17 : Int32).toNatClampNeg 2) (18 : Int32).toNatClampNeg 3) (19 : Int32).toNatClampNeg 4) (20 : Int32).toNatClampNeg 5) (21 : Int32).toNatClampNeg 6) (22 : Int32).toNatClampNeg 7) (23 : Int32).toNatClampNeg 8))) (hco : Φ o = some (al_ G 1 go)) (hx1 : xs 1 = 1) (hx2 : xs 2 = a2) (hbz : a2 ≠ 0) (hT : ∀ (Φ1 : Hm) (sz1 : Nat), Z p9 l e9 room_1 s9 m9 a9 w9 t9 k9 Q9 G 9 2893 [(5, .int 0), (4, .ref d), (3, .ref o), (2, .ref y), (1, .ref x), (0, .ref b)] [] Φ1 sz1 178 20844) : Z p9 l e9 room_1 s9 m9 a9 w9 t9 k9 Q9 G 9 1190 [(5, .int 0), (4, .ref d), (3, .ref o), (2, .ref y), (1, .ref x), (0, .ref b)] [] Φ sz 177 20838 := by
  refine z_aload_n B dL_law_1190 rfl 4 rfl ?_
  refine z_aload_n B dL_law_1191 rfl 5 rfl ?_
  refine z_iload B dL_law_1192 0 rfl ?_
  refine z_iconst (v := 1) B dL_law_1194 rfl ?_
  refine z_iadd B dL_law_1195 ?_
  refine z_top (st1 := [.int 1, .ref b, .ref x]) (congrArg (fun w9 : Int32 => ([.int w9, .ref b, .ref x] : List Value)) (show (0 + 1 : Int32) = 1 by decide +kernel)) ?_
  refine z_sald B hX hbn (vin rfl) dL_law_1196 ?_
  refine z_top (st1 := [.int 1, .ref x]) (congrArg (fun w9 : Int32 => ([.int w9, .ref x] : List Value)) (show xs (1 : Int32).toNatClampNeg = 1 from hx1)) ?_
  refine z_aload_n B dL_law_1197 rfl 5 rfl ?_
  refine z_iload B dL_law_1198 0 rfl ?_
  refine z_iconst (v := 2) B dL_law_1200 rfl ?_
  refine z_iadd B dL_law_1201 ?_
  refine z_top (st1 := [.int 2, .ref b, .int 1, .ref x]) (congrArg (fun w9 : Int32 => ([.int w9, .ref b, .int 1, .ref x] : List Value)) (show (0 + 2 : Int32) = 2 by decide +kernel)) ?_
  refine z_sald B hX hbn (vin rfl) dL_law_1202 ?_
  refine z_top (st1 := [.int a2, .int 1, .ref x]) (congrArg (fun w9 : Int32 => ([.int w9, .int 1, .ref x] : List Value)) (show xs (2 : Int32).toNatClampNeg = a2 from hx2)) ?_
  refine z_if_eq (tgt := 1210) B dL_law_1203 rfl (fun h9 => absurd h9 hbz) (fun c_1 => ?_)
  refine z_iconst (v := 1) B dL_law_1206 rfl ?_
  refine z_goto (tgt := 1211) B dL_law_1207 rfl ?_
  refine z_aload_n B dL_law_1211 rfl 2 rfl ?_
  refine z_callSW (As := [.ref x, .int 1, .int 1, .ref o]) (rest := []) B (w_setSupport_1_1 G l Φ sz x o go hx_0 hx_3 hco hna (Nat.le_trans hxy (Nat.le_trans (Nat.le_add_right y 26) hyo))) (vx_cwSW 4 B.1.2.2.2.2 gL_law_L_setSupport rfl rfl rfl (by decide +kernel) ⟨Nat.le_of_ble_eq_true rfl, Nat.le_of_ble_eq_true rfl⟩) rfl rfl (Nat.le_of_ble_eq_true rfl) dL_law_1212 ⟨Nat.le_of_ble_eq_true rfl, Nat.le_of_ble_eq_true rfl⟩ (fun v1 Φ1 sz1 st1 hp1 hs1 => ?_)
  obtain ⟨rfl, fr1, g1, ho1, hg1⟩ := hp1
  replace hs1 : st1 = [.int 0] := hs1
  subst st1
  refine z_istore (lv' := [(6, .int 0), (5, .int 0), (4, .ref d), (3, .ref o), (2, .ref y), (1, .ref x), (0, .ref b)]) B dL_law_1215 (Nat.le_of_ble_eq_true rfl) rfl ?_
  refine z_aload_n B dL_law_1217 rfl 4 rfl ?_
  refine z_aload_n B dL_law_1218 rfl 6 rfl ?_
  refine z_iload B dL_law_1219 1 rfl ?_
  refine z_iconst (v := 1) B dL_law_1221 rfl ?_
  refine z_iadd B dL_law_1222 ?_
  refine z_top (st1 := [.int 1, .ref b, .ref y]) (congrArg (fun w9 : Int32 => ([.int w9, .ref b, .ref y] : List Value)) (show (0 + 1 : Int32) = 1 by decide +kernel)) ?_
  refine z_sald B hX hbn (vin rfl) dL_law_1223 ?_
  refine z_top (st1 := [.int 1, .ref y]) (congrArg (fun w9 : Int32 => ([.int w9, .ref y] : List Value)) (show xs (1 : Int32).toNatClampNeg = 1 from hx1)) ?_
  refine z_aload_n B dL_law_1224 rfl 6 rfl ?_
  refine z_iload B dL_law_1225 1 rfl ?_
  refine z_iconst (v := 2) B dL_law_1227 rfl ?_
  refine z_iadd B dL_law_1228 ?_
  refine z_top (st1 := [.int 2, .ref b, .int 1, .ref y]) (congrArg (fun w9 : Int32 => ([.int w9, .ref b, .int 1, .ref y] : List Value)) (show (0 + 2 : Int32) = 2 by decide +kernel)) ?_
  refine z_sald B hX hbn (vin rfl) dL_law_1229 ?_
  refine z_top (st1 := [.int a2, .int 1, .ref y]) (congrArg (fun w9 : Int32 => ([.int w9, .int 1, .ref y] : List Value)) (show xs (2 : Int32).toNatClampNeg = a2 from hx2)) ?_
  refine z_if_eq (tgt := 1237) B dL_law_1230 rfl (fun h9 => absurd h9 hbz) (fun c_2 => ?_)
  refine z_iconst (v := 1) B dL_law_1233 rfl ?_
  refine z_goto (tgt := 1238) B dL_law_1234 rfl ?_
  have h_1 : Φ1 y = some (o_ 14 [.int 0, .ref (y + 1), .ref (y + 2), .int 0, .int 1, .int 1, .int 0, .int 0, .ref (y + 3), .ref (y + 4), .int 0, .long 0, .ref (y + 5), .int 0, .int 0, .long 0, .long 0, .long 0, .long 0, .ref (y + 6), .ref (y + 7), .int 0, .ref (y + 8), .int 0, .ref (y + 9), .ref (y + 10), .int 0, .ref (y + 11), .ref (y + 12), .ref (y + 13), .ref (y + 14), .ref (y + 15), .ref (y + 16), .int 0, .long (-1), .ref (y + 17), .ref (y + 18), .ref (y + 19), .ref (y + 20), .ref (y + 21), .ref (y + 22), .int 0, .ref (y + 23), .ref (y + 24), .int 0, .ref (y + 25), .int 0, .int 0, .int 0, .int (-1), .int 0, .int 0, .int 0, .long 0]) := ((fr1 y hxy (Nat.ne_of_lt (Nat.lt_of_lt_of_le (lt_off (x := y) (i := 0) (j := 26) rfl) hyo))).trans hy_0)
  have h_2 : Φ1 (y + 2) = some (ai_ G 307 (upd (upd (upd (upd (upd (upd (upd (upd (upd (upd (upd (upd (upd (upd (upd (upd (upd (upd (upd (upd (upd (fun _ => 0) (0 : Int32).toNatClampNeg 1) (1 : Int32).toNatClampNeg 100) (2 : Int32).toNatClampNeg 1000) (3 : Int32).toNatClampNeg 100) (4 : Int32).toNatClampNeg 20) (5 : Int32).toNatClampNeg 1000) (6 : Int32).toNatClampNeg 5000) (7 : Int32).toNatClampNeg 512) (8 : Int32).toNatClampNeg 1) (9 : Int32).toNatClampNeg 511) (10 : Int32).toNatClampNeg 1) (11 : Int32).toNatClampNeg 9) (15 : Int32).toNatClampNeg 0) (16 : Int32).toNatClampNeg 1) (17 : Int32).toNatClampNeg 2) (18 : Int32).toNatClampNeg 3) (19 : Int32).toNatClampNeg 4) (20 : Int32).toNatClampNeg 5) (21 : Int32).toNatClampNeg 6) (22 : Int32).toNatClampNeg 7) (23 : Int32).toNatClampNeg 8)) := ((fr1 (y + 2) (Nat.le_trans hxy (Nat.le_add_right y 2)) (Nat.ne_of_lt (Nat.lt_of_lt_of_le (lt_off (x := y) (i := 2) (j := 26) rfl) hyo))).trans hy_2)
  refine z_callV (As := [.int 1, .int 1]) (rest := []) B (m_X12_setSupport_1_1 G l Φ1 sz1 y h_1 h_2 (Nat.le_trans hna (Nat.le_trans (Nat.le_add_right x 149) hxy))) (cwV 2 B.1.2.2.2.2 gL_law_X12_setSupport rfl rfl rfl (by decide +kernel) ⟨Nat.le_of_ble_eq_true rfl, Nat.le_of_ble_eq_true rfl⟩) h_1 rfl rfl rfl rfl (Nat.le_of_ble_eq_true rfl) dL_law_1238 ⟨Nat.le_of_ble_eq_true rfl, Nat.le_of_ble_eq_true rfl⟩ (fun v2 Φ2 sz2 st2 hp2 hs2 => ?_)
  obtain ⟨rfl, ⟨fs1, hy1, hk1⟩, fr2⟩ := hp2
  replace hs2 : st2 = [.int 1] := hs2
  subst st2
  refine z_istore (lv' := [(7, .int 1), (6, .int 0), (5, .int 0), (4, .ref d), (3, .ref o), (2, .ref y), (1, .ref x), (0, .ref b)]) B dL_law_1241 (Nat.le_of_ble_eq_true rfl) rfl ?_
  refine z_aload_n B dL_law_1243 rfl 5 rfl ?_
  refine z_callV (As := []) (rest := []) B (m_thrown G l Φ2 sz2 y fs1 0 hy1 hk1) (cwV 0 B.1.2.2.2.2 gL_law_X12_thrown rfl rfl rfl (by decide +kernel) ⟨Nat.le_of_ble_eq_true rfl, Nat.le_of_ble_eq_true rfl⟩) hy1 rfl rfl rfl rfl (Nat.le_of_ble_eq_true rfl) dL_law_1244 ⟨Nat.le_of_ble_eq_true rfl, Nat.le_of_ble_eq_true rfl⟩ (fun v3 Φ3 sz3 st3 hp3 hs3 => ?_)
  obtain ⟨rfl, he1⟩ := hp3
  replace hs3 : st3 = [.int 0] := hs3
  subst st3
  rw [he1]
  refine z_iload B dL_law_1247 1 rfl ?_
  refine z_icmp_eq (tgt := 1254) B dL_law_1249 rfl (fun c_3 => ?_) (fun h9 => absurd (by decide) h9)
  refine z_iload B dL_law_1254 1 rfl ?_
  refine z_if_ne (tgt := 1278) B dL_law_1256 rfl (fun h9 => absurd (by decide) h9) (fun c_4 => ?_)
  refine z_aload_n B dL_law_1259 rfl 4 rfl ?_
  refine z_iconst (v := 0) B dL_law_1260 rfl ?_
  have h_3 : Φ2 o = some (al_ G 1 g1) := ((fr2 o hyo).trans ho1)
  refine z_lald B h_3 (vin rfl) dL_law_1261 ?_
  refine z_top (st1 := [.long 1]) (congrArg (fun w9 : Int64 => ([.long w9] : List Value)) (show g1 (0 : Int32).toNatClampNeg = 1 from hg1)) ?_
  refine z_iload B dL_law_1262 0 rfl ?_
  refine z_if_eq (tgt := 1271) B dL_law_1264 rfl (fun h9 => absurd h9 (by decide)) (fun c_5 => ?_)
  refine z_lconst (v := 1) B dL_law_1267 rfl ?_
  refine z_goto (tgt := 1272) B dL_law_1268 rfl ?_
  refine z_lcmp B dL_law_1272 ?_
  refine z_top (st1 := [.int 0]) (congrArg (fun w9 : Int32 => ([.int w9] : List Value)) (show (lg_cmp 1 1 : Int32) = 0 by decide +kernel)) ?_
  refine z_if_eq (tgt := 1278) B dL_law_1273 rfl (fun c_6 => ?_) (fun h9 => absurd (by decide) h9)
  refine z_goto (tgt := 2893) B dL_law_1278 rfl ?_
  refine z_lv [2, 3, 4, 5, 6, 7] rfl ?_
  refine z_widen (k := 178) (n := 20844) (Nat.le_of_ble_eq_true rfl) (Nat.le_of_ble_eq_true rfl) ?_
  exact hT _ _

set_option maxHeartbeats 4000000 in
set_option maxRecDepth 100000 in
theorem lc_22_2_0 {p9 : Program} {e9 : Env} {s9 : State} {m9 : MethodId} {a9 : Array Value} {w9 : List Frame} {t9 : Method} {k9 : Code} {Q9 : State → Prop} {nm9 : String} (G : EnvG) (l : Launch) (hl9 : l.stackTraces = false) (B : Bd p9 s9 m9 a9 t9 k9 G code 9 RL wsL_law ret nm9) (Φ : Hm) (sz : Nat) (b : Nat) (xs : Nat → Int32) (hX : va_X b 7 xs s9 s9.heap) (hbn : b < G.2.2.2) (x y o d : Nat)  (go : Nat → Int64) (gd : Nat → UInt64) (hna : G.2.2.2 ≤ x) (hxy : x + 149 ≤ y) (hyo : y + 26 ≤ o) (hyd : y + 26 ≤ d) (hod : o ≠ d) (hx_0 : Φ x = some (o_ 13 [.ref (x + 1), .ref (x + 3), .ref (x + 24), .ref (x + 46), .ref (x + 74), .ref (x + 80), .ref (x + 132), .ref (x + 121)])) (hx_3 : Φ (x + 3) = some (o_ 3 [.ref (x + 4), .ref (x + 5), .ref (x + 6), .ref (x + 7), .int 1, .int 511])) (hx_6 : Φ (x + 6) = some (aq_ G 4 4 (va_up (va_up (va_up (va_up (fun _ => none) (0 : Int32).toNatClampNeg (some (x + 8))) (1 : Int32).toNatClampNeg (some (x + 12))) (2 : Int32).toNatClampNeg (some (x + 16))) (3 : Int32).toNatClampNeg (some (x + 20))))) (hx_7 : Φ (x + 7) = some (aq_ G 4 4 (va_up (va_up (va_up (va_up (fun _ => none) (0 : Int32).toNatClampNeg (some (x + 10))) (1 : Int32).toNatClampNeg (some (x + 14))) (2 : Int32).toNatClampNeg (some (x + 18))) (3 : Int32).toNatClampNeg (some (x + 22))))) (hx_8 : Φ (x + 8) = some (o_ 12 [.ref (x + 9), .int 9, .int 511, .int 29])) (hx_9 : Φ (x + 9) = some (ai_ G 9 (upd (upd (upd (upd (upd (upd (upd (upd (upd (fun _ => 0) (0 : Int32).toNatClampNeg 0) (1 : Int32).toNatClampNeg 1) (2 : Int32).toNatClampNeg 2) (3 : Int32).toNatClampNeg 3) (4 : Int32).toNatClampNeg 4) (5 : Int32).toNatClampNeg 5) (6 : Int32).toNatClampNeg 6) (7 : Int32).toNatClampNeg 7) (8 : Int32).toNatClampNeg 8))) (hx_10 : Φ (x + 10) = some (o_ 12 [.ref (x + 11), .int 9, .int 511, .int 29])) (hx_11 : Φ (x + 11) = some (ai_ G 9 (upd (upd (upd (upd (upd (upd (upd (upd (upd (fun _ => 0) (0 : Int32).toNatClampNeg 0) (1 : Int32).toNatClampNeg 1) (2 : Int32).toNatClampNeg 2) (3 : Int32).toNatClampNeg 3) (4 : Int32).toNatClampNeg 4) (5 : Int32).toNatClampNeg 5) (6 : Int32).toNatClampNeg 6) (7 : Int32).toNatClampNeg 7) (8 : Int32).toNatClampNeg 8))) (hx_12 : Φ (x + 12) = some (o_ 12 [.ref (x + 13), .int 0, .int 0, .int 0])) (hx_14 : Φ (x + 14) = some (o_ 12 [.ref (x + 15), .int 0, .int 0, .int 0])) (hx_16 : Φ (x + 16) = some (o_ 12 [.ref (x + 17), .int 0, .int 0, .int 0])) (hx_18 : Φ (x + 18) = some (o_ 12 [.ref (x + 19), .int 0, .int 0, .int 0])) (hx_20 : Φ (x + 20) = some (o_ 12 [.ref (x + 21), .int 0, .int 0, .int 0])) (hx_22 : Φ (x + 22) = some (o_ 12 [.ref (x + 23), .int 0, .int 0, .int 0])) (hx_74 : Φ (x + 74) = some (o_ 10 [.ref (x + 3), .ref (x + 46), .ref (x + 75), .ref (x + 77), .int 0, .ref (x + 78), .ref (x + 79), .int 0, .long 0, .int 0])) (hx_78 : Φ (x + 78) = some (ai_ G 4 (fun _ => 0))) (hy_0 : Φ y = some (o_ 14 [.int 0, .ref (y + 1), .ref (y + 2), .int 0, .int 1, .int 1, .int 0, .int 0, .ref (y + 3), .ref (y + 4), .int 0, .long 0, .ref (y + 5), .int 0, .int 0, .long 0, .long 0, .long 0, .long 0, .ref (y + 6), .ref (y + 7), .int 0, .ref (y + 8), .int 0, .ref (y + 9), .ref (y + 10), .int 0, .ref (y + 11), .ref (y + 12), .ref (y + 13), .ref (y + 14), .ref (y + 15), .ref (y + 16), .int 0, .long (-1), .ref (y + 17), .ref (y + 18), .ref (y + 19), .ref (y + 20), .ref (y + 21), .ref (y + 22), .int 0, .ref (y + 23), .ref (y + 24), .int 0, .ref (y + 25), .int 0, .int 0, .int 0, .int (-1), .int 0, .int 0, .int 0, .long 0])) (hy_2 : Φ (y + 2) = some (ai_ G 307 (upd (upd (upd (upd (upd (upd (upd (upd (upd (upd (upd (upd (upd (upd (upd (upd (upd (upd (upd (upd (upd (fun _ => 0) (0 : Int32).toNatClampNeg 1) (1 : Int32).toNatClampNeg 100) (2 : Int32).toNatClampNeg 1000) (3 : Int32).toNatClampNeg 100) (4 : Int32).toNatClampNeg 20) (5 : Int32).toNatClampNeg 1000) (6 : Int32).toNatClampNeg 5000) (7 : Int32).toNatClampNeg 512) (8 : Int32).toNatClampNeg 1) (9 : Int32).toNatClampNeg 511) (10 : Int32).toNatClampNeg 1) (11 : Int32).toNatClampNeg 9) (15 : Int32).toNatClampNeg 0) (16 : Int32).toNatClampNeg 1) (17 : Int32).toNatClampNeg 2) (18 : Int32).toNatClampNeg 3) (19 : Int32).toNatClampNeg 4) (20 : Int32).toNatClampNeg 5) (21 : Int32).toNatClampNeg 6) (22 : Int32).toNatClampNeg 7) (23 : Int32).toNatClampNeg 8))) (hy_3 : Φ (y + 3) = some (ai_ G 4 (upd (upd (upd (upd (fun _ => 0) (0 : Int32).toNatClampNeg (-1)) (1 : Int32).toNatClampNeg (-1)) (2 : Int32).toNatClampNeg (-1)) (3 : Int32).toNatClampNeg (-1)))) (hco : Φ o = some (al_ G 1 go)) (hx1 : xs 1 = 2) (hx2 : xs 2 = 0) (hT : ∀ (Φ1 : Hm) (sz1 : Nat), Z p9 l e9 room_1 s9 m9 a9 w9 t9 k9 Q9 G 9 2893 [(5, .int 0), (4, .ref d), (3, .ref o), (2, .ref y), (1, .ref x), (0, .ref b)] [] Φ1 sz1 178 20844) : Z p9 l e9 room_1 s9 m9 a9 w9 t9 k9 Q9 G 9 1190 [(5, .int 0), (4, .ref d), (3, .ref o), (2, .ref y), (1, .ref x), (0, .ref b)] [] Φ sz 177 20838 := by
  refine z_aload_n B dL_law_1190 rfl 4 rfl ?_
  refine z_aload_n B dL_law_1191 rfl 5 rfl ?_
  refine z_iload B dL_law_1192 0 rfl ?_
  refine z_iconst (v := 1) B dL_law_1194 rfl ?_
  refine z_iadd B dL_law_1195 ?_
  refine z_top (st1 := [.int 1, .ref b, .ref x]) (congrArg (fun w9 : Int32 => ([.int w9, .ref b, .ref x] : List Value)) (show (0 + 1 : Int32) = 1 by decide +kernel)) ?_
  refine z_sald B hX hbn (vin rfl) dL_law_1196 ?_
  refine z_top (st1 := [.int 2, .ref x]) (congrArg (fun w9 : Int32 => ([.int w9, .ref x] : List Value)) (show xs (1 : Int32).toNatClampNeg = 2 from hx1)) ?_
  refine z_aload_n B dL_law_1197 rfl 5 rfl ?_
  refine z_iload B dL_law_1198 0 rfl ?_
  refine z_iconst (v := 2) B dL_law_1200 rfl ?_
  refine z_iadd B dL_law_1201 ?_
  refine z_top (st1 := [.int 2, .ref b, .int 2, .ref x]) (congrArg (fun w9 : Int32 => ([.int w9, .ref b, .int 2, .ref x] : List Value)) (show (0 + 2 : Int32) = 2 by decide +kernel)) ?_
  refine z_sald B hX hbn (vin rfl) dL_law_1202 ?_
  refine z_top (st1 := [.int 0, .int 2, .ref x]) (congrArg (fun w9 : Int32 => ([.int w9, .int 2, .ref x] : List Value)) (show xs (2 : Int32).toNatClampNeg = 0 from hx2)) ?_
  refine z_if_eq (tgt := 1210) B dL_law_1203 rfl (fun c_1 => ?_) (fun h9 => absurd rfl h9)
  refine z_iconst (v := 0) B dL_law_1210 rfl ?_
  refine z_aload_n B dL_law_1211 rfl 2 rfl ?_
  refine z_callSW (As := [.ref x, .int 2, .int 0, .ref o]) (rest := []) B (w_setSupport_2_0 G l Φ sz x o go hx_0 hx_3 hx_6 hx_7 hx_8 hx_9 hx_10 hx_11 hx_12 hx_14 hx_16 hx_18 hx_20 hx_22 hx_74 hx_78 hco hna (Nat.le_trans hxy (Nat.le_trans (Nat.le_add_right y 26) hyo))) (vx_cwSW 4 B.1.2.2.2.2 gL_law_L_setSupport rfl rfl rfl (by decide +kernel) ⟨Nat.le_of_ble_eq_true rfl, Nat.le_of_ble_eq_true rfl⟩) rfl rfl (Nat.le_of_ble_eq_true rfl) dL_law_1212 ⟨Nat.le_of_ble_eq_true rfl, Nat.le_of_ble_eq_true rfl⟩ (fun v1 Φ1 sz1 st1 hp1 hs1 => ?_)
  obtain ⟨rfl, fr1, g1, ho1, hg1⟩ := hp1
  replace hs1 : st1 = [.int 0] := hs1
  subst st1
  refine z_istore (lv' := [(6, .int 0), (5, .int 0), (4, .ref d), (3, .ref o), (2, .ref y), (1, .ref x), (0, .ref b)]) B dL_law_1215 (Nat.le_of_ble_eq_true rfl) rfl ?_
  refine z_aload_n B dL_law_1217 rfl 4 rfl ?_
  refine z_aload_n B dL_law_1218 rfl 6 rfl ?_
  refine z_iload B dL_law_1219 1 rfl ?_
  refine z_iconst (v := 1) B dL_law_1221 rfl ?_
  refine z_iadd B dL_law_1222 ?_
  refine z_top (st1 := [.int 1, .ref b, .ref y]) (congrArg (fun w9 : Int32 => ([.int w9, .ref b, .ref y] : List Value)) (show (0 + 1 : Int32) = 1 by decide +kernel)) ?_
  refine z_sald B hX hbn (vin rfl) dL_law_1223 ?_
  refine z_top (st1 := [.int 2, .ref y]) (congrArg (fun w9 : Int32 => ([.int w9, .ref y] : List Value)) (show xs (1 : Int32).toNatClampNeg = 2 from hx1)) ?_
  refine z_aload_n B dL_law_1224 rfl 6 rfl ?_
  refine z_iload B dL_law_1225 1 rfl ?_
  refine z_iconst (v := 2) B dL_law_1227 rfl ?_
  refine z_iadd B dL_law_1228 ?_
  refine z_top (st1 := [.int 2, .ref b, .int 2, .ref y]) (congrArg (fun w9 : Int32 => ([.int w9, .ref b, .int 2, .ref y] : List Value)) (show (0 + 2 : Int32) = 2 by decide +kernel)) ?_
  refine z_sald B hX hbn (vin rfl) dL_law_1229 ?_
  refine z_top (st1 := [.int 0, .int 2, .ref y]) (congrArg (fun w9 : Int32 => ([.int w9, .int 2, .ref y] : List Value)) (show xs (2 : Int32).toNatClampNeg = 0 from hx2)) ?_
  refine z_if_eq (tgt := 1237) B dL_law_1230 rfl (fun c_2 => ?_) (fun h9 => absurd rfl h9)
  refine z_iconst (v := 0) B dL_law_1237 rfl ?_
  have h_1 : Φ1 y = some (o_ 14 [.int 0, .ref (y + 1), .ref (y + 2), .int 0, .int 1, .int 1, .int 0, .int 0, .ref (y + 3), .ref (y + 4), .int 0, .long 0, .ref (y + 5), .int 0, .int 0, .long 0, .long 0, .long 0, .long 0, .ref (y + 6), .ref (y + 7), .int 0, .ref (y + 8), .int 0, .ref (y + 9), .ref (y + 10), .int 0, .ref (y + 11), .ref (y + 12), .ref (y + 13), .ref (y + 14), .ref (y + 15), .ref (y + 16), .int 0, .long (-1), .ref (y + 17), .ref (y + 18), .ref (y + 19), .ref (y + 20), .ref (y + 21), .ref (y + 22), .int 0, .ref (y + 23), .ref (y + 24), .int 0, .ref (y + 25), .int 0, .int 0, .int 0, .int (-1), .int 0, .int 0, .int 0, .long 0]) := ((fr1 y hxy (Nat.ne_of_lt (Nat.lt_of_lt_of_le (lt_off (x := y) (i := 0) (j := 26) rfl) hyo))).trans hy_0)
  have h_2 : Φ1 (y + 2) = some (ai_ G 307 (upd (upd (upd (upd (upd (upd (upd (upd (upd (upd (upd (upd (upd (upd (upd (upd (upd (upd (upd (upd (upd (fun _ => 0) (0 : Int32).toNatClampNeg 1) (1 : Int32).toNatClampNeg 100) (2 : Int32).toNatClampNeg 1000) (3 : Int32).toNatClampNeg 100) (4 : Int32).toNatClampNeg 20) (5 : Int32).toNatClampNeg 1000) (6 : Int32).toNatClampNeg 5000) (7 : Int32).toNatClampNeg 512) (8 : Int32).toNatClampNeg 1) (9 : Int32).toNatClampNeg 511) (10 : Int32).toNatClampNeg 1) (11 : Int32).toNatClampNeg 9) (15 : Int32).toNatClampNeg 0) (16 : Int32).toNatClampNeg 1) (17 : Int32).toNatClampNeg 2) (18 : Int32).toNatClampNeg 3) (19 : Int32).toNatClampNeg 4) (20 : Int32).toNatClampNeg 5) (21 : Int32).toNatClampNeg 6) (22 : Int32).toNatClampNeg 7) (23 : Int32).toNatClampNeg 8)) := ((fr1 (y + 2) (Nat.le_trans hxy (Nat.le_add_right y 2)) (Nat.ne_of_lt (Nat.lt_of_lt_of_le (lt_off (x := y) (i := 2) (j := 26) rfl) hyo))).trans hy_2)
  have h_3 : Φ1 (y + 3) = some (ai_ G 4 (upd (upd (upd (upd (fun _ => 0) (0 : Int32).toNatClampNeg (-1)) (1 : Int32).toNatClampNeg (-1)) (2 : Int32).toNatClampNeg (-1)) (3 : Int32).toNatClampNeg (-1))) := ((fr1 (y + 3) (Nat.le_trans hxy (Nat.le_add_right y 3)) (Nat.ne_of_lt (Nat.lt_of_lt_of_le (lt_off (x := y) (i := 3) (j := 26) rfl) hyo))).trans hy_3)
  refine z_callV (As := [.int 2, .int 0]) (rest := []) B (m_X12_setSupport_2_0 G l Φ1 sz1 y h_1 h_2 h_3 (Nat.le_trans hna (Nat.le_trans (Nat.le_add_right x 149) hxy))) (cwV 2 B.1.2.2.2.2 gL_law_X12_setSupport rfl rfl rfl (by decide +kernel) ⟨Nat.le_of_ble_eq_true rfl, Nat.le_of_ble_eq_true rfl⟩) h_1 rfl rfl rfl rfl (Nat.le_of_ble_eq_true rfl) dL_law_1238 ⟨Nat.le_of_ble_eq_true rfl, Nat.le_of_ble_eq_true rfl⟩ (fun v2 Φ2 sz2 st2 hp2 hs2 => ?_)
  obtain ⟨rfl, ⟨fs1, hy1, hk1⟩, fr2⟩ := hp2
  replace hs2 : st2 = [.int 1] := hs2
  subst st2
  refine z_istore (lv' := [(7, .int 1), (6, .int 0), (5, .int 0), (4, .ref d), (3, .ref o), (2, .ref y), (1, .ref x), (0, .ref b)]) B dL_law_1241 (Nat.le_of_ble_eq_true rfl) rfl ?_
  refine z_aload_n B dL_law_1243 rfl 5 rfl ?_
  refine z_callV (As := []) (rest := []) B (m_thrown G l Φ2 sz2 y fs1 0 hy1 hk1) (cwV 0 B.1.2.2.2.2 gL_law_X12_thrown rfl rfl rfl (by decide +kernel) ⟨Nat.le_of_ble_eq_true rfl, Nat.le_of_ble_eq_true rfl⟩) hy1 rfl rfl rfl rfl (Nat.le_of_ble_eq_true rfl) dL_law_1244 ⟨Nat.le_of_ble_eq_true rfl, Nat.le_of_ble_eq_true rfl⟩ (fun v3 Φ3 sz3 st3 hp3 hs3 => ?_)
  obtain ⟨rfl, he1⟩ := hp3
  replace hs3 : st3 = [.int 0] := hs3
  subst st3
  rw [he1]
  refine z_iload B dL_law_1247 1 rfl ?_
  refine z_icmp_eq (tgt := 1254) B dL_law_1249 rfl (fun c_3 => ?_) (fun h9 => absurd (by decide) h9)
  refine z_iload B dL_law_1254 1 rfl ?_
  refine z_if_ne (tgt := 1278) B dL_law_1256 rfl (fun h9 => absurd (by decide) h9) (fun c_4 => ?_)
  refine z_aload_n B dL_law_1259 rfl 4 rfl ?_
  refine z_iconst (v := 0) B dL_law_1260 rfl ?_
  have h_4 : Φ2 o = some (al_ G 1 g1) := ((fr2 o hyo).trans ho1)
  refine z_lald B h_4 (vin rfl) dL_law_1261 ?_
  refine z_top (st1 := [.long 1]) (congrArg (fun w9 : Int64 => ([.long w9] : List Value)) (show g1 (0 : Int32).toNatClampNeg = 1 from hg1)) ?_
  refine z_iload B dL_law_1262 0 rfl ?_
  refine z_if_eq (tgt := 1271) B dL_law_1264 rfl (fun h9 => absurd h9 (by decide)) (fun c_5 => ?_)
  refine z_lconst (v := 1) B dL_law_1267 rfl ?_
  refine z_goto (tgt := 1272) B dL_law_1268 rfl ?_
  refine z_lcmp B dL_law_1272 ?_
  refine z_top (st1 := [.int 0]) (congrArg (fun w9 : Int32 => ([.int w9] : List Value)) (show (lg_cmp 1 1 : Int32) = 0 by decide +kernel)) ?_
  refine z_if_eq (tgt := 1278) B dL_law_1273 rfl (fun c_6 => ?_) (fun h9 => absurd (by decide) h9)
  refine z_goto (tgt := 2893) B dL_law_1278 rfl ?_
  refine z_lv [2, 3, 4, 5, 6, 7] rfl ?_
  refine z_widen (k := 178) (n := 20844) (Nat.le_of_ble_eq_true rfl) (Nat.le_of_ble_eq_true rfl) ?_
  exact hT _ _

set_option maxHeartbeats 4000000 in
set_option maxRecDepth 100000 in
theorem lc_22_2_1 {p9 : Program} {e9 : Env} {s9 : State} {m9 : MethodId} {a9 : Array Value} {w9 : List Frame} {t9 : Method} {k9 : Code} {Q9 : State → Prop} {nm9 : String} (G : EnvG) (l : Launch) (hl9 : l.stackTraces = false) (B : Bd p9 s9 m9 a9 t9 k9 G code 9 RL wsL_law ret nm9) (Φ : Hm) (sz : Nat) (b : Nat) (xs : Nat → Int32) (hX : va_X b 7 xs s9 s9.heap) (hbn : b < G.2.2.2) (x y o d : Nat) (a2 : Int32) (go : Nat → Int64) (gd : Nat → UInt64) (hna : G.2.2.2 ≤ x) (hxy : x + 149 ≤ y) (hyo : y + 26 ≤ o) (hyd : y + 26 ≤ d) (hod : o ≠ d) (hx_0 : Φ x = some (o_ 13 [.ref (x + 1), .ref (x + 3), .ref (x + 24), .ref (x + 46), .ref (x + 74), .ref (x + 80), .ref (x + 132), .ref (x + 121)])) (hx_3 : Φ (x + 3) = some (o_ 3 [.ref (x + 4), .ref (x + 5), .ref (x + 6), .ref (x + 7), .int 1, .int 511])) (hy_0 : Φ y = some (o_ 14 [.int 0, .ref (y + 1), .ref (y + 2), .int 0, .int 1, .int 1, .int 0, .int 0, .ref (y + 3), .ref (y + 4), .int 0, .long 0, .ref (y + 5), .int 0, .int 0, .long 0, .long 0, .long 0, .long 0, .ref (y + 6), .ref (y + 7), .int 0, .ref (y + 8), .int 0, .ref (y + 9), .ref (y + 10), .int 0, .ref (y + 11), .ref (y + 12), .ref (y + 13), .ref (y + 14), .ref (y + 15), .ref (y + 16), .int 0, .long (-1), .ref (y + 17), .ref (y + 18), .ref (y + 19), .ref (y + 20), .ref (y + 21), .ref (y + 22), .int 0, .ref (y + 23), .ref (y + 24), .int 0, .ref (y + 25), .int 0, .int 0, .int 0, .int (-1), .int 0, .int 0, .int 0, .long 0])) (hy_2 : Φ (y + 2) = some (ai_ G 307 (upd (upd (upd (upd (upd (upd (upd (upd (upd (upd (upd (upd (upd (upd (upd (upd (upd (upd (upd (upd (upd (fun _ => 0) (0 : Int32).toNatClampNeg 1) (1 : Int32).toNatClampNeg 100) (2 : Int32).toNatClampNeg 1000) (3 : Int32).toNatClampNeg 100) (4 : Int32).toNatClampNeg 20) (5 : Int32).toNatClampNeg 1000) (6 : Int32).toNatClampNeg 5000) (7 : Int32).toNatClampNeg 512) (8 : Int32).toNatClampNeg 1) (9 : Int32).toNatClampNeg 511) (10 : Int32).toNatClampNeg 1) (11 : Int32).toNatClampNeg 9) (15 : Int32).toNatClampNeg 0) (16 : Int32).toNatClampNeg 1) (17 : Int32).toNatClampNeg 2) (18 : Int32).toNatClampNeg 3) (19 : Int32).toNatClampNeg 4) (20 : Int32).toNatClampNeg 5) (21 : Int32).toNatClampNeg 6) (22 : Int32).toNatClampNeg 7) (23 : Int32).toNatClampNeg 8))) (hco : Φ o = some (al_ G 1 go)) (hx1 : xs 1 = 2) (hx2 : xs 2 = a2) (hbz : a2 ≠ 0) (hT : ∀ (Φ1 : Hm) (sz1 : Nat), Z p9 l e9 room_1 s9 m9 a9 w9 t9 k9 Q9 G 9 2893 [(5, .int 0), (4, .ref d), (3, .ref o), (2, .ref y), (1, .ref x), (0, .ref b)] [] Φ1 sz1 178 20844) : Z p9 l e9 room_1 s9 m9 a9 w9 t9 k9 Q9 G 9 1190 [(5, .int 0), (4, .ref d), (3, .ref o), (2, .ref y), (1, .ref x), (0, .ref b)] [] Φ sz 177 20838 := by
  refine z_aload_n B dL_law_1190 rfl 4 rfl ?_
  refine z_aload_n B dL_law_1191 rfl 5 rfl ?_
  refine z_iload B dL_law_1192 0 rfl ?_
  refine z_iconst (v := 1) B dL_law_1194 rfl ?_
  refine z_iadd B dL_law_1195 ?_
  refine z_top (st1 := [.int 1, .ref b, .ref x]) (congrArg (fun w9 : Int32 => ([.int w9, .ref b, .ref x] : List Value)) (show (0 + 1 : Int32) = 1 by decide +kernel)) ?_
  refine z_sald B hX hbn (vin rfl) dL_law_1196 ?_
  refine z_top (st1 := [.int 2, .ref x]) (congrArg (fun w9 : Int32 => ([.int w9, .ref x] : List Value)) (show xs (1 : Int32).toNatClampNeg = 2 from hx1)) ?_
  refine z_aload_n B dL_law_1197 rfl 5 rfl ?_
  refine z_iload B dL_law_1198 0 rfl ?_
  refine z_iconst (v := 2) B dL_law_1200 rfl ?_
  refine z_iadd B dL_law_1201 ?_
  refine z_top (st1 := [.int 2, .ref b, .int 2, .ref x]) (congrArg (fun w9 : Int32 => ([.int w9, .ref b, .int 2, .ref x] : List Value)) (show (0 + 2 : Int32) = 2 by decide +kernel)) ?_
  refine z_sald B hX hbn (vin rfl) dL_law_1202 ?_
  refine z_top (st1 := [.int a2, .int 2, .ref x]) (congrArg (fun w9 : Int32 => ([.int w9, .int 2, .ref x] : List Value)) (show xs (2 : Int32).toNatClampNeg = a2 from hx2)) ?_
  refine z_if_eq (tgt := 1210) B dL_law_1203 rfl (fun h9 => absurd h9 hbz) (fun c_1 => ?_)
  refine z_iconst (v := 1) B dL_law_1206 rfl ?_
  refine z_goto (tgt := 1211) B dL_law_1207 rfl ?_
  refine z_aload_n B dL_law_1211 rfl 2 rfl ?_
  refine z_callSW (As := [.ref x, .int 2, .int 1, .ref o]) (rest := []) B (w_setSupport_2_1 G l Φ sz x o go hx_0 hx_3 hco hna (Nat.le_trans hxy (Nat.le_trans (Nat.le_add_right y 26) hyo))) (vx_cwSW 4 B.1.2.2.2.2 gL_law_L_setSupport rfl rfl rfl (by decide +kernel) ⟨Nat.le_of_ble_eq_true rfl, Nat.le_of_ble_eq_true rfl⟩) rfl rfl (Nat.le_of_ble_eq_true rfl) dL_law_1212 ⟨Nat.le_of_ble_eq_true rfl, Nat.le_of_ble_eq_true rfl⟩ (fun v1 Φ1 sz1 st1 hp1 hs1 => ?_)
  obtain ⟨rfl, fr1, g1, ho1, hg1⟩ := hp1
  replace hs1 : st1 = [.int 0] := hs1
  subst st1
  refine z_istore (lv' := [(6, .int 0), (5, .int 0), (4, .ref d), (3, .ref o), (2, .ref y), (1, .ref x), (0, .ref b)]) B dL_law_1215 (Nat.le_of_ble_eq_true rfl) rfl ?_
  refine z_aload_n B dL_law_1217 rfl 4 rfl ?_
  refine z_aload_n B dL_law_1218 rfl 6 rfl ?_
  refine z_iload B dL_law_1219 1 rfl ?_
  refine z_iconst (v := 1) B dL_law_1221 rfl ?_
  refine z_iadd B dL_law_1222 ?_
  refine z_top (st1 := [.int 1, .ref b, .ref y]) (congrArg (fun w9 : Int32 => ([.int w9, .ref b, .ref y] : List Value)) (show (0 + 1 : Int32) = 1 by decide +kernel)) ?_
  refine z_sald B hX hbn (vin rfl) dL_law_1223 ?_
  refine z_top (st1 := [.int 2, .ref y]) (congrArg (fun w9 : Int32 => ([.int w9, .ref y] : List Value)) (show xs (1 : Int32).toNatClampNeg = 2 from hx1)) ?_
  refine z_aload_n B dL_law_1224 rfl 6 rfl ?_
  refine z_iload B dL_law_1225 1 rfl ?_
  refine z_iconst (v := 2) B dL_law_1227 rfl ?_
  refine z_iadd B dL_law_1228 ?_
  refine z_top (st1 := [.int 2, .ref b, .int 2, .ref y]) (congrArg (fun w9 : Int32 => ([.int w9, .ref b, .int 2, .ref y] : List Value)) (show (0 + 2 : Int32) = 2 by decide +kernel)) ?_
  refine z_sald B hX hbn (vin rfl) dL_law_1229 ?_
  refine z_top (st1 := [.int a2, .int 2, .ref y]) (congrArg (fun w9 : Int32 => ([.int w9, .int 2, .ref y] : List Value)) (show xs (2 : Int32).toNatClampNeg = a2 from hx2)) ?_
  refine z_if_eq (tgt := 1237) B dL_law_1230 rfl (fun h9 => absurd h9 hbz) (fun c_2 => ?_)
  refine z_iconst (v := 1) B dL_law_1233 rfl ?_
  refine z_goto (tgt := 1238) B dL_law_1234 rfl ?_
  have h_1 : Φ1 y = some (o_ 14 [.int 0, .ref (y + 1), .ref (y + 2), .int 0, .int 1, .int 1, .int 0, .int 0, .ref (y + 3), .ref (y + 4), .int 0, .long 0, .ref (y + 5), .int 0, .int 0, .long 0, .long 0, .long 0, .long 0, .ref (y + 6), .ref (y + 7), .int 0, .ref (y + 8), .int 0, .ref (y + 9), .ref (y + 10), .int 0, .ref (y + 11), .ref (y + 12), .ref (y + 13), .ref (y + 14), .ref (y + 15), .ref (y + 16), .int 0, .long (-1), .ref (y + 17), .ref (y + 18), .ref (y + 19), .ref (y + 20), .ref (y + 21), .ref (y + 22), .int 0, .ref (y + 23), .ref (y + 24), .int 0, .ref (y + 25), .int 0, .int 0, .int 0, .int (-1), .int 0, .int 0, .int 0, .long 0]) := ((fr1 y hxy (Nat.ne_of_lt (Nat.lt_of_lt_of_le (lt_off (x := y) (i := 0) (j := 26) rfl) hyo))).trans hy_0)
  have h_2 : Φ1 (y + 2) = some (ai_ G 307 (upd (upd (upd (upd (upd (upd (upd (upd (upd (upd (upd (upd (upd (upd (upd (upd (upd (upd (upd (upd (upd (fun _ => 0) (0 : Int32).toNatClampNeg 1) (1 : Int32).toNatClampNeg 100) (2 : Int32).toNatClampNeg 1000) (3 : Int32).toNatClampNeg 100) (4 : Int32).toNatClampNeg 20) (5 : Int32).toNatClampNeg 1000) (6 : Int32).toNatClampNeg 5000) (7 : Int32).toNatClampNeg 512) (8 : Int32).toNatClampNeg 1) (9 : Int32).toNatClampNeg 511) (10 : Int32).toNatClampNeg 1) (11 : Int32).toNatClampNeg 9) (15 : Int32).toNatClampNeg 0) (16 : Int32).toNatClampNeg 1) (17 : Int32).toNatClampNeg 2) (18 : Int32).toNatClampNeg 3) (19 : Int32).toNatClampNeg 4) (20 : Int32).toNatClampNeg 5) (21 : Int32).toNatClampNeg 6) (22 : Int32).toNatClampNeg 7) (23 : Int32).toNatClampNeg 8)) := ((fr1 (y + 2) (Nat.le_trans hxy (Nat.le_add_right y 2)) (Nat.ne_of_lt (Nat.lt_of_lt_of_le (lt_off (x := y) (i := 2) (j := 26) rfl) hyo))).trans hy_2)
  refine z_callV (As := [.int 2, .int 1]) (rest := []) B (m_X12_setSupport_2_1 G l Φ1 sz1 y h_1 h_2 (Nat.le_trans hna (Nat.le_trans (Nat.le_add_right x 149) hxy))) (cwV 2 B.1.2.2.2.2 gL_law_X12_setSupport rfl rfl rfl (by decide +kernel) ⟨Nat.le_of_ble_eq_true rfl, Nat.le_of_ble_eq_true rfl⟩) h_1 rfl rfl rfl rfl (Nat.le_of_ble_eq_true rfl) dL_law_1238 ⟨Nat.le_of_ble_eq_true rfl, Nat.le_of_ble_eq_true rfl⟩ (fun v2 Φ2 sz2 st2 hp2 hs2 => ?_)
  obtain ⟨rfl, ⟨fs1, hy1, hk1⟩, fr2⟩ := hp2
  replace hs2 : st2 = [.int 1] := hs2
  subst st2
  refine z_istore (lv' := [(7, .int 1), (6, .int 0), (5, .int 0), (4, .ref d), (3, .ref o), (2, .ref y), (1, .ref x), (0, .ref b)]) B dL_law_1241 (Nat.le_of_ble_eq_true rfl) rfl ?_
  refine z_aload_n B dL_law_1243 rfl 5 rfl ?_
  refine z_callV (As := []) (rest := []) B (m_thrown G l Φ2 sz2 y fs1 0 hy1 hk1) (cwV 0 B.1.2.2.2.2 gL_law_X12_thrown rfl rfl rfl (by decide +kernel) ⟨Nat.le_of_ble_eq_true rfl, Nat.le_of_ble_eq_true rfl⟩) hy1 rfl rfl rfl rfl (Nat.le_of_ble_eq_true rfl) dL_law_1244 ⟨Nat.le_of_ble_eq_true rfl, Nat.le_of_ble_eq_true rfl⟩ (fun v3 Φ3 sz3 st3 hp3 hs3 => ?_)
  obtain ⟨rfl, he1⟩ := hp3
  replace hs3 : st3 = [.int 0] := hs3
  subst st3
  rw [he1]
  refine z_iload B dL_law_1247 1 rfl ?_
  refine z_icmp_eq (tgt := 1254) B dL_law_1249 rfl (fun c_3 => ?_) (fun h9 => absurd (by decide) h9)
  refine z_iload B dL_law_1254 1 rfl ?_
  refine z_if_ne (tgt := 1278) B dL_law_1256 rfl (fun h9 => absurd (by decide) h9) (fun c_4 => ?_)
  refine z_aload_n B dL_law_1259 rfl 4 rfl ?_
  refine z_iconst (v := 0) B dL_law_1260 rfl ?_
  have h_3 : Φ2 o = some (al_ G 1 g1) := ((fr2 o hyo).trans ho1)
  refine z_lald B h_3 (vin rfl) dL_law_1261 ?_
  refine z_top (st1 := [.long 1]) (congrArg (fun w9 : Int64 => ([.long w9] : List Value)) (show g1 (0 : Int32).toNatClampNeg = 1 from hg1)) ?_
  refine z_iload B dL_law_1262 0 rfl ?_
  refine z_if_eq (tgt := 1271) B dL_law_1264 rfl (fun h9 => absurd h9 (by decide)) (fun c_5 => ?_)
  refine z_lconst (v := 1) B dL_law_1267 rfl ?_
  refine z_goto (tgt := 1272) B dL_law_1268 rfl ?_
  refine z_lcmp B dL_law_1272 ?_
  refine z_top (st1 := [.int 0]) (congrArg (fun w9 : Int32 => ([.int w9] : List Value)) (show (lg_cmp 1 1 : Int32) = 0 by decide +kernel)) ?_
  refine z_if_eq (tgt := 1278) B dL_law_1273 rfl (fun c_6 => ?_) (fun h9 => absurd (by decide) h9)
  refine z_goto (tgt := 2893) B dL_law_1278 rfl ?_
  refine z_lv [2, 3, 4, 5, 6, 7] rfl ?_
  refine z_widen (k := 178) (n := 20844) (Nat.le_of_ble_eq_true rfl) (Nat.le_of_ble_eq_true rfl) ?_
  exact hT _ _

set_option maxHeartbeats 4000000 in
set_option maxRecDepth 100000 in
theorem lc_22_3_0 {p9 : Program} {e9 : Env} {s9 : State} {m9 : MethodId} {a9 : Array Value} {w9 : List Frame} {t9 : Method} {k9 : Code} {Q9 : State → Prop} {nm9 : String} (G : EnvG) (l : Launch) (hl9 : l.stackTraces = false) (B : Bd p9 s9 m9 a9 t9 k9 G code 9 RL wsL_law ret nm9) (Φ : Hm) (sz : Nat) (b : Nat) (xs : Nat → Int32) (hX : va_X b 7 xs s9 s9.heap) (hbn : b < G.2.2.2) (x y o d : Nat)  (go : Nat → Int64) (gd : Nat → UInt64) (hna : G.2.2.2 ≤ x) (hxy : x + 149 ≤ y) (hyo : y + 26 ≤ o) (hyd : y + 26 ≤ d) (hod : o ≠ d) (hx_0 : Φ x = some (o_ 13 [.ref (x + 1), .ref (x + 3), .ref (x + 24), .ref (x + 46), .ref (x + 74), .ref (x + 80), .ref (x + 132), .ref (x + 121)])) (hx_3 : Φ (x + 3) = some (o_ 3 [.ref (x + 4), .ref (x + 5), .ref (x + 6), .ref (x + 7), .int 1, .int 511])) (hx_6 : Φ (x + 6) = some (aq_ G 4 4 (va_up (va_up (va_up (va_up (fun _ => none) (0 : Int32).toNatClampNeg (some (x + 8))) (1 : Int32).toNatClampNeg (some (x + 12))) (2 : Int32).toNatClampNeg (some (x + 16))) (3 : Int32).toNatClampNeg (some (x + 20))))) (hx_7 : Φ (x + 7) = some (aq_ G 4 4 (va_up (va_up (va_up (va_up (fun _ => none) (0 : Int32).toNatClampNeg (some (x + 10))) (1 : Int32).toNatClampNeg (some (x + 14))) (2 : Int32).toNatClampNeg (some (x + 18))) (3 : Int32).toNatClampNeg (some (x + 22))))) (hx_8 : Φ (x + 8) = some (o_ 12 [.ref (x + 9), .int 9, .int 511, .int 29])) (hx_9 : Φ (x + 9) = some (ai_ G 9 (upd (upd (upd (upd (upd (upd (upd (upd (upd (fun _ => 0) (0 : Int32).toNatClampNeg 0) (1 : Int32).toNatClampNeg 1) (2 : Int32).toNatClampNeg 2) (3 : Int32).toNatClampNeg 3) (4 : Int32).toNatClampNeg 4) (5 : Int32).toNatClampNeg 5) (6 : Int32).toNatClampNeg 6) (7 : Int32).toNatClampNeg 7) (8 : Int32).toNatClampNeg 8))) (hx_10 : Φ (x + 10) = some (o_ 12 [.ref (x + 11), .int 9, .int 511, .int 29])) (hx_11 : Φ (x + 11) = some (ai_ G 9 (upd (upd (upd (upd (upd (upd (upd (upd (upd (fun _ => 0) (0 : Int32).toNatClampNeg 0) (1 : Int32).toNatClampNeg 1) (2 : Int32).toNatClampNeg 2) (3 : Int32).toNatClampNeg 3) (4 : Int32).toNatClampNeg 4) (5 : Int32).toNatClampNeg 5) (6 : Int32).toNatClampNeg 6) (7 : Int32).toNatClampNeg 7) (8 : Int32).toNatClampNeg 8))) (hx_12 : Φ (x + 12) = some (o_ 12 [.ref (x + 13), .int 0, .int 0, .int 0])) (hx_14 : Φ (x + 14) = some (o_ 12 [.ref (x + 15), .int 0, .int 0, .int 0])) (hx_16 : Φ (x + 16) = some (o_ 12 [.ref (x + 17), .int 0, .int 0, .int 0])) (hx_18 : Φ (x + 18) = some (o_ 12 [.ref (x + 19), .int 0, .int 0, .int 0])) (hx_20 : Φ (x + 20) = some (o_ 12 [.ref (x + 21), .int 0, .int 0, .int 0])) (hx_22 : Φ (x + 22) = some (o_ 12 [.ref (x + 23), .int 0, .int 0, .int 0])) (hx_74 : Φ (x + 74) = some (o_ 10 [.ref (x + 3), .ref (x + 46), .ref (x + 75), .ref (x + 77), .int 0, .ref (x + 78), .ref (x + 79), .int 0, .long 0, .int 0])) (hx_78 : Φ (x + 78) = some (ai_ G 4 (fun _ => 0))) (hy_0 : Φ y = some (o_ 14 [.int 0, .ref (y + 1), .ref (y + 2), .int 0, .int 1, .int 1, .int 0, .int 0, .ref (y + 3), .ref (y + 4), .int 0, .long 0, .ref (y + 5), .int 0, .int 0, .long 0, .long 0, .long 0, .long 0, .ref (y + 6), .ref (y + 7), .int 0, .ref (y + 8), .int 0, .ref (y + 9), .ref (y + 10), .int 0, .ref (y + 11), .ref (y + 12), .ref (y + 13), .ref (y + 14), .ref (y + 15), .ref (y + 16), .int 0, .long (-1), .ref (y + 17), .ref (y + 18), .ref (y + 19), .ref (y + 20), .ref (y + 21), .ref (y + 22), .int 0, .ref (y + 23), .ref (y + 24), .int 0, .ref (y + 25), .int 0, .int 0, .int 0, .int (-1), .int 0, .int 0, .int 0, .long 0])) (hy_2 : Φ (y + 2) = some (ai_ G 307 (upd (upd (upd (upd (upd (upd (upd (upd (upd (upd (upd (upd (upd (upd (upd (upd (upd (upd (upd (upd (upd (fun _ => 0) (0 : Int32).toNatClampNeg 1) (1 : Int32).toNatClampNeg 100) (2 : Int32).toNatClampNeg 1000) (3 : Int32).toNatClampNeg 100) (4 : Int32).toNatClampNeg 20) (5 : Int32).toNatClampNeg 1000) (6 : Int32).toNatClampNeg 5000) (7 : Int32).toNatClampNeg 512) (8 : Int32).toNatClampNeg 1) (9 : Int32).toNatClampNeg 511) (10 : Int32).toNatClampNeg 1) (11 : Int32).toNatClampNeg 9) (15 : Int32).toNatClampNeg 0) (16 : Int32).toNatClampNeg 1) (17 : Int32).toNatClampNeg 2) (18 : Int32).toNatClampNeg 3) (19 : Int32).toNatClampNeg 4) (20 : Int32).toNatClampNeg 5) (21 : Int32).toNatClampNeg 6) (22 : Int32).toNatClampNeg 7) (23 : Int32).toNatClampNeg 8))) (hy_3 : Φ (y + 3) = some (ai_ G 4 (upd (upd (upd (upd (fun _ => 0) (0 : Int32).toNatClampNeg (-1)) (1 : Int32).toNatClampNeg (-1)) (2 : Int32).toNatClampNeg (-1)) (3 : Int32).toNatClampNeg (-1)))) (hco : Φ o = some (al_ G 1 go)) (hx1 : xs 1 = 3) (hx2 : xs 2 = 0) (hT : ∀ (Φ1 : Hm) (sz1 : Nat), Z p9 l e9 room_1 s9 m9 a9 w9 t9 k9 Q9 G 9 2893 [(5, .int 0), (4, .ref d), (3, .ref o), (2, .ref y), (1, .ref x), (0, .ref b)] [] Φ1 sz1 178 20844) : Z p9 l e9 room_1 s9 m9 a9 w9 t9 k9 Q9 G 9 1190 [(5, .int 0), (4, .ref d), (3, .ref o), (2, .ref y), (1, .ref x), (0, .ref b)] [] Φ sz 177 20838 := by
  refine z_aload_n B dL_law_1190 rfl 4 rfl ?_
  refine z_aload_n B dL_law_1191 rfl 5 rfl ?_
  refine z_iload B dL_law_1192 0 rfl ?_
  refine z_iconst (v := 1) B dL_law_1194 rfl ?_
  refine z_iadd B dL_law_1195 ?_
  refine z_top (st1 := [.int 1, .ref b, .ref x]) (congrArg (fun w9 : Int32 => ([.int w9, .ref b, .ref x] : List Value)) (show (0 + 1 : Int32) = 1 by decide +kernel)) ?_
  refine z_sald B hX hbn (vin rfl) dL_law_1196 ?_
  refine z_top (st1 := [.int 3, .ref x]) (congrArg (fun w9 : Int32 => ([.int w9, .ref x] : List Value)) (show xs (1 : Int32).toNatClampNeg = 3 from hx1)) ?_
  refine z_aload_n B dL_law_1197 rfl 5 rfl ?_
  refine z_iload B dL_law_1198 0 rfl ?_
  refine z_iconst (v := 2) B dL_law_1200 rfl ?_
  refine z_iadd B dL_law_1201 ?_
  refine z_top (st1 := [.int 2, .ref b, .int 3, .ref x]) (congrArg (fun w9 : Int32 => ([.int w9, .ref b, .int 3, .ref x] : List Value)) (show (0 + 2 : Int32) = 2 by decide +kernel)) ?_
  refine z_sald B hX hbn (vin rfl) dL_law_1202 ?_
  refine z_top (st1 := [.int 0, .int 3, .ref x]) (congrArg (fun w9 : Int32 => ([.int w9, .int 3, .ref x] : List Value)) (show xs (2 : Int32).toNatClampNeg = 0 from hx2)) ?_
  refine z_if_eq (tgt := 1210) B dL_law_1203 rfl (fun c_1 => ?_) (fun h9 => absurd rfl h9)
  refine z_iconst (v := 0) B dL_law_1210 rfl ?_
  refine z_aload_n B dL_law_1211 rfl 2 rfl ?_
  refine z_callSW (As := [.ref x, .int 3, .int 0, .ref o]) (rest := []) B (w_setSupport_3_0 G l Φ sz x o go hx_0 hx_3 hx_6 hx_7 hx_8 hx_9 hx_10 hx_11 hx_12 hx_14 hx_16 hx_18 hx_20 hx_22 hx_74 hx_78 hco hna (Nat.le_trans hxy (Nat.le_trans (Nat.le_add_right y 26) hyo))) (vx_cwSW 4 B.1.2.2.2.2 gL_law_L_setSupport rfl rfl rfl (by decide +kernel) ⟨Nat.le_of_ble_eq_true rfl, Nat.le_of_ble_eq_true rfl⟩) rfl rfl (Nat.le_of_ble_eq_true rfl) dL_law_1212 ⟨Nat.le_of_ble_eq_true rfl, Nat.le_of_ble_eq_true rfl⟩ (fun v1 Φ1 sz1 st1 hp1 hs1 => ?_)
  obtain ⟨rfl, fr1, g1, ho1, hg1⟩ := hp1
  replace hs1 : st1 = [.int 0] := hs1
  subst st1
  refine z_istore (lv' := [(6, .int 0), (5, .int 0), (4, .ref d), (3, .ref o), (2, .ref y), (1, .ref x), (0, .ref b)]) B dL_law_1215 (Nat.le_of_ble_eq_true rfl) rfl ?_
  refine z_aload_n B dL_law_1217 rfl 4 rfl ?_
  refine z_aload_n B dL_law_1218 rfl 6 rfl ?_
  refine z_iload B dL_law_1219 1 rfl ?_
  refine z_iconst (v := 1) B dL_law_1221 rfl ?_
  refine z_iadd B dL_law_1222 ?_
  refine z_top (st1 := [.int 1, .ref b, .ref y]) (congrArg (fun w9 : Int32 => ([.int w9, .ref b, .ref y] : List Value)) (show (0 + 1 : Int32) = 1 by decide +kernel)) ?_
  refine z_sald B hX hbn (vin rfl) dL_law_1223 ?_
  refine z_top (st1 := [.int 3, .ref y]) (congrArg (fun w9 : Int32 => ([.int w9, .ref y] : List Value)) (show xs (1 : Int32).toNatClampNeg = 3 from hx1)) ?_
  refine z_aload_n B dL_law_1224 rfl 6 rfl ?_
  refine z_iload B dL_law_1225 1 rfl ?_
  refine z_iconst (v := 2) B dL_law_1227 rfl ?_
  refine z_iadd B dL_law_1228 ?_
  refine z_top (st1 := [.int 2, .ref b, .int 3, .ref y]) (congrArg (fun w9 : Int32 => ([.int w9, .ref b, .int 3, .ref y] : List Value)) (show (0 + 2 : Int32) = 2 by decide +kernel)) ?_
  refine z_sald B hX hbn (vin rfl) dL_law_1229 ?_
  refine z_top (st1 := [.int 0, .int 3, .ref y]) (congrArg (fun w9 : Int32 => ([.int w9, .int 3, .ref y] : List Value)) (show xs (2 : Int32).toNatClampNeg = 0 from hx2)) ?_
  refine z_if_eq (tgt := 1237) B dL_law_1230 rfl (fun c_2 => ?_) (fun h9 => absurd rfl h9)
  refine z_iconst (v := 0) B dL_law_1237 rfl ?_
  have h_1 : Φ1 y = some (o_ 14 [.int 0, .ref (y + 1), .ref (y + 2), .int 0, .int 1, .int 1, .int 0, .int 0, .ref (y + 3), .ref (y + 4), .int 0, .long 0, .ref (y + 5), .int 0, .int 0, .long 0, .long 0, .long 0, .long 0, .ref (y + 6), .ref (y + 7), .int 0, .ref (y + 8), .int 0, .ref (y + 9), .ref (y + 10), .int 0, .ref (y + 11), .ref (y + 12), .ref (y + 13), .ref (y + 14), .ref (y + 15), .ref (y + 16), .int 0, .long (-1), .ref (y + 17), .ref (y + 18), .ref (y + 19), .ref (y + 20), .ref (y + 21), .ref (y + 22), .int 0, .ref (y + 23), .ref (y + 24), .int 0, .ref (y + 25), .int 0, .int 0, .int 0, .int (-1), .int 0, .int 0, .int 0, .long 0]) := ((fr1 y hxy (Nat.ne_of_lt (Nat.lt_of_lt_of_le (lt_off (x := y) (i := 0) (j := 26) rfl) hyo))).trans hy_0)
  have h_2 : Φ1 (y + 2) = some (ai_ G 307 (upd (upd (upd (upd (upd (upd (upd (upd (upd (upd (upd (upd (upd (upd (upd (upd (upd (upd (upd (upd (upd (fun _ => 0) (0 : Int32).toNatClampNeg 1) (1 : Int32).toNatClampNeg 100) (2 : Int32).toNatClampNeg 1000) (3 : Int32).toNatClampNeg 100) (4 : Int32).toNatClampNeg 20) (5 : Int32).toNatClampNeg 1000) (6 : Int32).toNatClampNeg 5000) (7 : Int32).toNatClampNeg 512) (8 : Int32).toNatClampNeg 1) (9 : Int32).toNatClampNeg 511) (10 : Int32).toNatClampNeg 1) (11 : Int32).toNatClampNeg 9) (15 : Int32).toNatClampNeg 0) (16 : Int32).toNatClampNeg 1) (17 : Int32).toNatClampNeg 2) (18 : Int32).toNatClampNeg 3) (19 : Int32).toNatClampNeg 4) (20 : Int32).toNatClampNeg 5) (21 : Int32).toNatClampNeg 6) (22 : Int32).toNatClampNeg 7) (23 : Int32).toNatClampNeg 8)) := ((fr1 (y + 2) (Nat.le_trans hxy (Nat.le_add_right y 2)) (Nat.ne_of_lt (Nat.lt_of_lt_of_le (lt_off (x := y) (i := 2) (j := 26) rfl) hyo))).trans hy_2)
  have h_3 : Φ1 (y + 3) = some (ai_ G 4 (upd (upd (upd (upd (fun _ => 0) (0 : Int32).toNatClampNeg (-1)) (1 : Int32).toNatClampNeg (-1)) (2 : Int32).toNatClampNeg (-1)) (3 : Int32).toNatClampNeg (-1))) := ((fr1 (y + 3) (Nat.le_trans hxy (Nat.le_add_right y 3)) (Nat.ne_of_lt (Nat.lt_of_lt_of_le (lt_off (x := y) (i := 3) (j := 26) rfl) hyo))).trans hy_3)
  refine z_callV (As := [.int 3, .int 0]) (rest := []) B (m_X12_setSupport_3_0 G l Φ1 sz1 y h_1 h_2 h_3 (Nat.le_trans hna (Nat.le_trans (Nat.le_add_right x 149) hxy))) (cwV 2 B.1.2.2.2.2 gL_law_X12_setSupport rfl rfl rfl (by decide +kernel) ⟨Nat.le_of_ble_eq_true rfl, Nat.le_of_ble_eq_true rfl⟩) h_1 rfl rfl rfl rfl (Nat.le_of_ble_eq_true rfl) dL_law_1238 ⟨Nat.le_of_ble_eq_true rfl, Nat.le_of_ble_eq_true rfl⟩ (fun v2 Φ2 sz2 st2 hp2 hs2 => ?_)
  obtain ⟨rfl, ⟨fs1, hy1, hk1⟩, fr2⟩ := hp2
  replace hs2 : st2 = [.int 1] := hs2
  subst st2
  refine z_istore (lv' := [(7, .int 1), (6, .int 0), (5, .int 0), (4, .ref d), (3, .ref o), (2, .ref y), (1, .ref x), (0, .ref b)]) B dL_law_1241 (Nat.le_of_ble_eq_true rfl) rfl ?_
  refine z_aload_n B dL_law_1243 rfl 5 rfl ?_
  refine z_callV (As := []) (rest := []) B (m_thrown G l Φ2 sz2 y fs1 0 hy1 hk1) (cwV 0 B.1.2.2.2.2 gL_law_X12_thrown rfl rfl rfl (by decide +kernel) ⟨Nat.le_of_ble_eq_true rfl, Nat.le_of_ble_eq_true rfl⟩) hy1 rfl rfl rfl rfl (Nat.le_of_ble_eq_true rfl) dL_law_1244 ⟨Nat.le_of_ble_eq_true rfl, Nat.le_of_ble_eq_true rfl⟩ (fun v3 Φ3 sz3 st3 hp3 hs3 => ?_)
  obtain ⟨rfl, he1⟩ := hp3
  replace hs3 : st3 = [.int 0] := hs3
  subst st3
  rw [he1]
  refine z_iload B dL_law_1247 1 rfl ?_
  refine z_icmp_eq (tgt := 1254) B dL_law_1249 rfl (fun c_3 => ?_) (fun h9 => absurd (by decide) h9)
  refine z_iload B dL_law_1254 1 rfl ?_
  refine z_if_ne (tgt := 1278) B dL_law_1256 rfl (fun h9 => absurd (by decide) h9) (fun c_4 => ?_)
  refine z_aload_n B dL_law_1259 rfl 4 rfl ?_
  refine z_iconst (v := 0) B dL_law_1260 rfl ?_
  have h_4 : Φ2 o = some (al_ G 1 g1) := ((fr2 o hyo).trans ho1)
  refine z_lald B h_4 (vin rfl) dL_law_1261 ?_
  refine z_top (st1 := [.long 1]) (congrArg (fun w9 : Int64 => ([.long w9] : List Value)) (show g1 (0 : Int32).toNatClampNeg = 1 from hg1)) ?_
  refine z_iload B dL_law_1262 0 rfl ?_
  refine z_if_eq (tgt := 1271) B dL_law_1264 rfl (fun h9 => absurd h9 (by decide)) (fun c_5 => ?_)
  refine z_lconst (v := 1) B dL_law_1267 rfl ?_
  refine z_goto (tgt := 1272) B dL_law_1268 rfl ?_
  refine z_lcmp B dL_law_1272 ?_
  refine z_top (st1 := [.int 0]) (congrArg (fun w9 : Int32 => ([.int w9] : List Value)) (show (lg_cmp 1 1 : Int32) = 0 by decide +kernel)) ?_
  refine z_if_eq (tgt := 1278) B dL_law_1273 rfl (fun c_6 => ?_) (fun h9 => absurd (by decide) h9)
  refine z_goto (tgt := 2893) B dL_law_1278 rfl ?_
  refine z_lv [2, 3, 4, 5, 6, 7] rfl ?_
  refine z_widen (k := 178) (n := 20844) (Nat.le_of_ble_eq_true rfl) (Nat.le_of_ble_eq_true rfl) ?_
  exact hT _ _

set_option maxHeartbeats 4000000 in
set_option maxRecDepth 100000 in
theorem lc_22_3_1 {p9 : Program} {e9 : Env} {s9 : State} {m9 : MethodId} {a9 : Array Value} {w9 : List Frame} {t9 : Method} {k9 : Code} {Q9 : State → Prop} {nm9 : String} (G : EnvG) (l : Launch) (hl9 : l.stackTraces = false) (B : Bd p9 s9 m9 a9 t9 k9 G code 9 RL wsL_law ret nm9) (Φ : Hm) (sz : Nat) (b : Nat) (xs : Nat → Int32) (hX : va_X b 7 xs s9 s9.heap) (hbn : b < G.2.2.2) (x y o d : Nat) (a2 : Int32) (go : Nat → Int64) (gd : Nat → UInt64) (hna : G.2.2.2 ≤ x) (hxy : x + 149 ≤ y) (hyo : y + 26 ≤ o) (hyd : y + 26 ≤ d) (hod : o ≠ d) (hx_0 : Φ x = some (o_ 13 [.ref (x + 1), .ref (x + 3), .ref (x + 24), .ref (x + 46), .ref (x + 74), .ref (x + 80), .ref (x + 132), .ref (x + 121)])) (hx_3 : Φ (x + 3) = some (o_ 3 [.ref (x + 4), .ref (x + 5), .ref (x + 6), .ref (x + 7), .int 1, .int 511])) (hy_0 : Φ y = some (o_ 14 [.int 0, .ref (y + 1), .ref (y + 2), .int 0, .int 1, .int 1, .int 0, .int 0, .ref (y + 3), .ref (y + 4), .int 0, .long 0, .ref (y + 5), .int 0, .int 0, .long 0, .long 0, .long 0, .long 0, .ref (y + 6), .ref (y + 7), .int 0, .ref (y + 8), .int 0, .ref (y + 9), .ref (y + 10), .int 0, .ref (y + 11), .ref (y + 12), .ref (y + 13), .ref (y + 14), .ref (y + 15), .ref (y + 16), .int 0, .long (-1), .ref (y + 17), .ref (y + 18), .ref (y + 19), .ref (y + 20), .ref (y + 21), .ref (y + 22), .int 0, .ref (y + 23), .ref (y + 24), .int 0, .ref (y + 25), .int 0, .int 0, .int 0, .int (-1), .int 0, .int 0, .int 0, .long 0])) (hy_2 : Φ (y + 2) = some (ai_ G 307 (upd (upd (upd (upd (upd (upd (upd (upd (upd (upd (upd (upd (upd (upd (upd (upd (upd (upd (upd (upd (upd (fun _ => 0) (0 : Int32).toNatClampNeg 1) (1 : Int32).toNatClampNeg 100) (2 : Int32).toNatClampNeg 1000) (3 : Int32).toNatClampNeg 100) (4 : Int32).toNatClampNeg 20) (5 : Int32).toNatClampNeg 1000) (6 : Int32).toNatClampNeg 5000) (7 : Int32).toNatClampNeg 512) (8 : Int32).toNatClampNeg 1) (9 : Int32).toNatClampNeg 511) (10 : Int32).toNatClampNeg 1) (11 : Int32).toNatClampNeg 9) (15 : Int32).toNatClampNeg 0) (16 : Int32).toNatClampNeg 1) (17 : Int32).toNatClampNeg 2) (18 : Int32).toNatClampNeg 3) (19 : Int32).toNatClampNeg 4) (20 : Int32).toNatClampNeg 5) (21 : Int32).toNatClampNeg 6) (22 : Int32).toNatClampNeg 7) (23 : Int32).toNatClampNeg 8))) (hco : Φ o = some (al_ G 1 go)) (hx1 : xs 1 = 3) (hx2 : xs 2 = a2) (hbz : a2 ≠ 0) (hT : ∀ (Φ1 : Hm) (sz1 : Nat), Z p9 l e9 room_1 s9 m9 a9 w9 t9 k9 Q9 G 9 2893 [(5, .int 0), (4, .ref d), (3, .ref o), (2, .ref y), (1, .ref x), (0, .ref b)] [] Φ1 sz1 178 20844) : Z p9 l e9 room_1 s9 m9 a9 w9 t9 k9 Q9 G 9 1190 [(5, .int 0), (4, .ref d), (3, .ref o), (2, .ref y), (1, .ref x), (0, .ref b)] [] Φ sz 177 20838 := by
  refine z_aload_n B dL_law_1190 rfl 4 rfl ?_
  refine z_aload_n B dL_law_1191 rfl 5 rfl ?_
  refine z_iload B dL_law_1192 0 rfl ?_
  refine z_iconst (v := 1) B dL_law_1194 rfl ?_
  refine z_iadd B dL_law_1195 ?_
  refine z_top (st1 := [.int 1, .ref b, .ref x]) (congrArg (fun w9 : Int32 => ([.int w9, .ref b, .ref x] : List Value)) (show (0 + 1 : Int32) = 1 by decide +kernel)) ?_
  refine z_sald B hX hbn (vin rfl) dL_law_1196 ?_
  refine z_top (st1 := [.int 3, .ref x]) (congrArg (fun w9 : Int32 => ([.int w9, .ref x] : List Value)) (show xs (1 : Int32).toNatClampNeg = 3 from hx1)) ?_
  refine z_aload_n B dL_law_1197 rfl 5 rfl ?_
  refine z_iload B dL_law_1198 0 rfl ?_
  refine z_iconst (v := 2) B dL_law_1200 rfl ?_
  refine z_iadd B dL_law_1201 ?_
  refine z_top (st1 := [.int 2, .ref b, .int 3, .ref x]) (congrArg (fun w9 : Int32 => ([.int w9, .ref b, .int 3, .ref x] : List Value)) (show (0 + 2 : Int32) = 2 by decide +kernel)) ?_
  refine z_sald B hX hbn (vin rfl) dL_law_1202 ?_
  refine z_top (st1 := [.int a2, .int 3, .ref x]) (congrArg (fun w9 : Int32 => ([.int w9, .int 3, .ref x] : List Value)) (show xs (2 : Int32).toNatClampNeg = a2 from hx2)) ?_
  refine z_if_eq (tgt := 1210) B dL_law_1203 rfl (fun h9 => absurd h9 hbz) (fun c_1 => ?_)
  refine z_iconst (v := 1) B dL_law_1206 rfl ?_
  refine z_goto (tgt := 1211) B dL_law_1207 rfl ?_
  refine z_aload_n B dL_law_1211 rfl 2 rfl ?_
  refine z_callSW (As := [.ref x, .int 3, .int 1, .ref o]) (rest := []) B (w_setSupport_3_1 G l Φ sz x o go hx_0 hx_3 hco hna (Nat.le_trans hxy (Nat.le_trans (Nat.le_add_right y 26) hyo))) (vx_cwSW 4 B.1.2.2.2.2 gL_law_L_setSupport rfl rfl rfl (by decide +kernel) ⟨Nat.le_of_ble_eq_true rfl, Nat.le_of_ble_eq_true rfl⟩) rfl rfl (Nat.le_of_ble_eq_true rfl) dL_law_1212 ⟨Nat.le_of_ble_eq_true rfl, Nat.le_of_ble_eq_true rfl⟩ (fun v1 Φ1 sz1 st1 hp1 hs1 => ?_)
  obtain ⟨rfl, fr1, g1, ho1, hg1⟩ := hp1
  replace hs1 : st1 = [.int 0] := hs1
  subst st1
  refine z_istore (lv' := [(6, .int 0), (5, .int 0), (4, .ref d), (3, .ref o), (2, .ref y), (1, .ref x), (0, .ref b)]) B dL_law_1215 (Nat.le_of_ble_eq_true rfl) rfl ?_
  refine z_aload_n B dL_law_1217 rfl 4 rfl ?_
  refine z_aload_n B dL_law_1218 rfl 6 rfl ?_
  refine z_iload B dL_law_1219 1 rfl ?_
  refine z_iconst (v := 1) B dL_law_1221 rfl ?_
  refine z_iadd B dL_law_1222 ?_
  refine z_top (st1 := [.int 1, .ref b, .ref y]) (congrArg (fun w9 : Int32 => ([.int w9, .ref b, .ref y] : List Value)) (show (0 + 1 : Int32) = 1 by decide +kernel)) ?_
  refine z_sald B hX hbn (vin rfl) dL_law_1223 ?_
  refine z_top (st1 := [.int 3, .ref y]) (congrArg (fun w9 : Int32 => ([.int w9, .ref y] : List Value)) (show xs (1 : Int32).toNatClampNeg = 3 from hx1)) ?_
  refine z_aload_n B dL_law_1224 rfl 6 rfl ?_
  refine z_iload B dL_law_1225 1 rfl ?_
  refine z_iconst (v := 2) B dL_law_1227 rfl ?_
  refine z_iadd B dL_law_1228 ?_
  refine z_top (st1 := [.int 2, .ref b, .int 3, .ref y]) (congrArg (fun w9 : Int32 => ([.int w9, .ref b, .int 3, .ref y] : List Value)) (show (0 + 2 : Int32) = 2 by decide +kernel)) ?_
  refine z_sald B hX hbn (vin rfl) dL_law_1229 ?_
  refine z_top (st1 := [.int a2, .int 3, .ref y]) (congrArg (fun w9 : Int32 => ([.int w9, .int 3, .ref y] : List Value)) (show xs (2 : Int32).toNatClampNeg = a2 from hx2)) ?_
  refine z_if_eq (tgt := 1237) B dL_law_1230 rfl (fun h9 => absurd h9 hbz) (fun c_2 => ?_)
  refine z_iconst (v := 1) B dL_law_1233 rfl ?_
  refine z_goto (tgt := 1238) B dL_law_1234 rfl ?_
  have h_1 : Φ1 y = some (o_ 14 [.int 0, .ref (y + 1), .ref (y + 2), .int 0, .int 1, .int 1, .int 0, .int 0, .ref (y + 3), .ref (y + 4), .int 0, .long 0, .ref (y + 5), .int 0, .int 0, .long 0, .long 0, .long 0, .long 0, .ref (y + 6), .ref (y + 7), .int 0, .ref (y + 8), .int 0, .ref (y + 9), .ref (y + 10), .int 0, .ref (y + 11), .ref (y + 12), .ref (y + 13), .ref (y + 14), .ref (y + 15), .ref (y + 16), .int 0, .long (-1), .ref (y + 17), .ref (y + 18), .ref (y + 19), .ref (y + 20), .ref (y + 21), .ref (y + 22), .int 0, .ref (y + 23), .ref (y + 24), .int 0, .ref (y + 25), .int 0, .int 0, .int 0, .int (-1), .int 0, .int 0, .int 0, .long 0]) := ((fr1 y hxy (Nat.ne_of_lt (Nat.lt_of_lt_of_le (lt_off (x := y) (i := 0) (j := 26) rfl) hyo))).trans hy_0)
  have h_2 : Φ1 (y + 2) = some (ai_ G 307 (upd (upd (upd (upd (upd (upd (upd (upd (upd (upd (upd (upd (upd (upd (upd (upd (upd (upd (upd (upd (upd (fun _ => 0) (0 : Int32).toNatClampNeg 1) (1 : Int32).toNatClampNeg 100) (2 : Int32).toNatClampNeg 1000) (3 : Int32).toNatClampNeg 100) (4 : Int32).toNatClampNeg 20) (5 : Int32).toNatClampNeg 1000) (6 : Int32).toNatClampNeg 5000) (7 : Int32).toNatClampNeg 512) (8 : Int32).toNatClampNeg 1) (9 : Int32).toNatClampNeg 511) (10 : Int32).toNatClampNeg 1) (11 : Int32).toNatClampNeg 9) (15 : Int32).toNatClampNeg 0) (16 : Int32).toNatClampNeg 1) (17 : Int32).toNatClampNeg 2) (18 : Int32).toNatClampNeg 3) (19 : Int32).toNatClampNeg 4) (20 : Int32).toNatClampNeg 5) (21 : Int32).toNatClampNeg 6) (22 : Int32).toNatClampNeg 7) (23 : Int32).toNatClampNeg 8)) := ((fr1 (y + 2) (Nat.le_trans hxy (Nat.le_add_right y 2)) (Nat.ne_of_lt (Nat.lt_of_lt_of_le (lt_off (x := y) (i := 2) (j := 26) rfl) hyo))).trans hy_2)
  refine z_callV (As := [.int 3, .int 1]) (rest := []) B (m_X12_setSupport_3_1 G l Φ1 sz1 y h_1 h_2 (Nat.le_trans hna (Nat.le_trans (Nat.le_add_right x 149) hxy))) (cwV 2 B.1.2.2.2.2 gL_law_X12_setSupport rfl rfl rfl (by decide +kernel) ⟨Nat.le_of_ble_eq_true rfl, Nat.le_of_ble_eq_true rfl⟩) h_1 rfl rfl rfl rfl (Nat.le_of_ble_eq_true rfl) dL_law_1238 ⟨Nat.le_of_ble_eq_true rfl, Nat.le_of_ble_eq_true rfl⟩ (fun v2 Φ2 sz2 st2 hp2 hs2 => ?_)
  obtain ⟨rfl, ⟨fs1, hy1, hk1⟩, fr2⟩ := hp2
  replace hs2 : st2 = [.int 1] := hs2
  subst st2
  refine z_istore (lv' := [(7, .int 1), (6, .int 0), (5, .int 0), (4, .ref d), (3, .ref o), (2, .ref y), (1, .ref x), (0, .ref b)]) B dL_law_1241 (Nat.le_of_ble_eq_true rfl) rfl ?_
  refine z_aload_n B dL_law_1243 rfl 5 rfl ?_
  refine z_callV (As := []) (rest := []) B (m_thrown G l Φ2 sz2 y fs1 0 hy1 hk1) (cwV 0 B.1.2.2.2.2 gL_law_X12_thrown rfl rfl rfl (by decide +kernel) ⟨Nat.le_of_ble_eq_true rfl, Nat.le_of_ble_eq_true rfl⟩) hy1 rfl rfl rfl rfl (Nat.le_of_ble_eq_true rfl) dL_law_1244 ⟨Nat.le_of_ble_eq_true rfl, Nat.le_of_ble_eq_true rfl⟩ (fun v3 Φ3 sz3 st3 hp3 hs3 => ?_)
  obtain ⟨rfl, he1⟩ := hp3
  replace hs3 : st3 = [.int 0] := hs3
  subst st3
  rw [he1]
  refine z_iload B dL_law_1247 1 rfl ?_
  refine z_icmp_eq (tgt := 1254) B dL_law_1249 rfl (fun c_3 => ?_) (fun h9 => absurd (by decide) h9)
  refine z_iload B dL_law_1254 1 rfl ?_
  refine z_if_ne (tgt := 1278) B dL_law_1256 rfl (fun h9 => absurd (by decide) h9) (fun c_4 => ?_)
  refine z_aload_n B dL_law_1259 rfl 4 rfl ?_
  refine z_iconst (v := 0) B dL_law_1260 rfl ?_
  have h_3 : Φ2 o = some (al_ G 1 g1) := ((fr2 o hyo).trans ho1)
  refine z_lald B h_3 (vin rfl) dL_law_1261 ?_
  refine z_top (st1 := [.long 1]) (congrArg (fun w9 : Int64 => ([.long w9] : List Value)) (show g1 (0 : Int32).toNatClampNeg = 1 from hg1)) ?_
  refine z_iload B dL_law_1262 0 rfl ?_
  refine z_if_eq (tgt := 1271) B dL_law_1264 rfl (fun h9 => absurd h9 (by decide)) (fun c_5 => ?_)
  refine z_lconst (v := 1) B dL_law_1267 rfl ?_
  refine z_goto (tgt := 1272) B dL_law_1268 rfl ?_
  refine z_lcmp B dL_law_1272 ?_
  refine z_top (st1 := [.int 0]) (congrArg (fun w9 : Int32 => ([.int w9] : List Value)) (show (lg_cmp 1 1 : Int32) = 0 by decide +kernel)) ?_
  refine z_if_eq (tgt := 1278) B dL_law_1273 rfl (fun c_6 => ?_) (fun h9 => absurd (by decide) h9)
  refine z_goto (tgt := 2893) B dL_law_1278 rfl ?_
  refine z_lv [2, 3, 4, 5, 6, 7] rfl ?_
  refine z_widen (k := 178) (n := 20844) (Nat.le_of_ble_eq_true rfl) (Nat.le_of_ble_eq_true rfl) ?_
  exact hT _ _

set_option maxHeartbeats 4000000 in
set_option maxRecDepth 100000 in
theorem lc_22_4_0 {p9 : Program} {e9 : Env} {s9 : State} {m9 : MethodId} {a9 : Array Value} {w9 : List Frame} {t9 : Method} {k9 : Code} {Q9 : State → Prop} {nm9 : String} (G : EnvG) (l : Launch) (hl9 : l.stackTraces = false) (B : Bd p9 s9 m9 a9 t9 k9 G code 9 RL wsL_law ret nm9) (Φ : Hm) (sz : Nat) (b : Nat) (xs : Nat → Int32) (hX : va_X b 7 xs s9 s9.heap) (hbn : b < G.2.2.2) (x y o d : Nat)  (go : Nat → Int64) (gd : Nat → UInt64) (hna : G.2.2.2 ≤ x) (hxy : x + 149 ≤ y) (hyo : y + 26 ≤ o) (hyd : y + 26 ≤ d) (hod : o ≠ d) (hx_0 : Φ x = some (o_ 13 [.ref (x + 1), .ref (x + 3), .ref (x + 24), .ref (x + 46), .ref (x + 74), .ref (x + 80), .ref (x + 132), .ref (x + 121)])) (hx_3 : Φ (x + 3) = some (o_ 3 [.ref (x + 4), .ref (x + 5), .ref (x + 6), .ref (x + 7), .int 1, .int 511])) (hx_6 : Φ (x + 6) = some (aq_ G 4 4 (va_up (va_up (va_up (va_up (fun _ => none) (0 : Int32).toNatClampNeg (some (x + 8))) (1 : Int32).toNatClampNeg (some (x + 12))) (2 : Int32).toNatClampNeg (some (x + 16))) (3 : Int32).toNatClampNeg (some (x + 20))))) (hx_7 : Φ (x + 7) = some (aq_ G 4 4 (va_up (va_up (va_up (va_up (fun _ => none) (0 : Int32).toNatClampNeg (some (x + 10))) (1 : Int32).toNatClampNeg (some (x + 14))) (2 : Int32).toNatClampNeg (some (x + 18))) (3 : Int32).toNatClampNeg (some (x + 22))))) (hx_8 : Φ (x + 8) = some (o_ 12 [.ref (x + 9), .int 9, .int 511, .int 29])) (hx_9 : Φ (x + 9) = some (ai_ G 9 (upd (upd (upd (upd (upd (upd (upd (upd (upd (fun _ => 0) (0 : Int32).toNatClampNeg 0) (1 : Int32).toNatClampNeg 1) (2 : Int32).toNatClampNeg 2) (3 : Int32).toNatClampNeg 3) (4 : Int32).toNatClampNeg 4) (5 : Int32).toNatClampNeg 5) (6 : Int32).toNatClampNeg 6) (7 : Int32).toNatClampNeg 7) (8 : Int32).toNatClampNeg 8))) (hx_10 : Φ (x + 10) = some (o_ 12 [.ref (x + 11), .int 9, .int 511, .int 29])) (hx_11 : Φ (x + 11) = some (ai_ G 9 (upd (upd (upd (upd (upd (upd (upd (upd (upd (fun _ => 0) (0 : Int32).toNatClampNeg 0) (1 : Int32).toNatClampNeg 1) (2 : Int32).toNatClampNeg 2) (3 : Int32).toNatClampNeg 3) (4 : Int32).toNatClampNeg 4) (5 : Int32).toNatClampNeg 5) (6 : Int32).toNatClampNeg 6) (7 : Int32).toNatClampNeg 7) (8 : Int32).toNatClampNeg 8))) (hx_12 : Φ (x + 12) = some (o_ 12 [.ref (x + 13), .int 0, .int 0, .int 0])) (hx_14 : Φ (x + 14) = some (o_ 12 [.ref (x + 15), .int 0, .int 0, .int 0])) (hx_16 : Φ (x + 16) = some (o_ 12 [.ref (x + 17), .int 0, .int 0, .int 0])) (hx_18 : Φ (x + 18) = some (o_ 12 [.ref (x + 19), .int 0, .int 0, .int 0])) (hx_20 : Φ (x + 20) = some (o_ 12 [.ref (x + 21), .int 0, .int 0, .int 0])) (hx_22 : Φ (x + 22) = some (o_ 12 [.ref (x + 23), .int 0, .int 0, .int 0])) (hx_74 : Φ (x + 74) = some (o_ 10 [.ref (x + 3), .ref (x + 46), .ref (x + 75), .ref (x + 77), .int 0, .ref (x + 78), .ref (x + 79), .int 0, .long 0, .int 0])) (hx_78 : Φ (x + 78) = some (ai_ G 4 (fun _ => 0))) (hy_0 : Φ y = some (o_ 14 [.int 0, .ref (y + 1), .ref (y + 2), .int 0, .int 1, .int 1, .int 0, .int 0, .ref (y + 3), .ref (y + 4), .int 0, .long 0, .ref (y + 5), .int 0, .int 0, .long 0, .long 0, .long 0, .long 0, .ref (y + 6), .ref (y + 7), .int 0, .ref (y + 8), .int 0, .ref (y + 9), .ref (y + 10), .int 0, .ref (y + 11), .ref (y + 12), .ref (y + 13), .ref (y + 14), .ref (y + 15), .ref (y + 16), .int 0, .long (-1), .ref (y + 17), .ref (y + 18), .ref (y + 19), .ref (y + 20), .ref (y + 21), .ref (y + 22), .int 0, .ref (y + 23), .ref (y + 24), .int 0, .ref (y + 25), .int 0, .int 0, .int 0, .int (-1), .int 0, .int 0, .int 0, .long 0])) (hy_2 : Φ (y + 2) = some (ai_ G 307 (upd (upd (upd (upd (upd (upd (upd (upd (upd (upd (upd (upd (upd (upd (upd (upd (upd (upd (upd (upd (upd (fun _ => 0) (0 : Int32).toNatClampNeg 1) (1 : Int32).toNatClampNeg 100) (2 : Int32).toNatClampNeg 1000) (3 : Int32).toNatClampNeg 100) (4 : Int32).toNatClampNeg 20) (5 : Int32).toNatClampNeg 1000) (6 : Int32).toNatClampNeg 5000) (7 : Int32).toNatClampNeg 512) (8 : Int32).toNatClampNeg 1) (9 : Int32).toNatClampNeg 511) (10 : Int32).toNatClampNeg 1) (11 : Int32).toNatClampNeg 9) (15 : Int32).toNatClampNeg 0) (16 : Int32).toNatClampNeg 1) (17 : Int32).toNatClampNeg 2) (18 : Int32).toNatClampNeg 3) (19 : Int32).toNatClampNeg 4) (20 : Int32).toNatClampNeg 5) (21 : Int32).toNatClampNeg 6) (22 : Int32).toNatClampNeg 7) (23 : Int32).toNatClampNeg 8))) (hy_3 : Φ (y + 3) = some (ai_ G 4 (upd (upd (upd (upd (fun _ => 0) (0 : Int32).toNatClampNeg (-1)) (1 : Int32).toNatClampNeg (-1)) (2 : Int32).toNatClampNeg (-1)) (3 : Int32).toNatClampNeg (-1)))) (hco : Φ o = some (al_ G 1 go)) (hx1 : xs 1 = 4) (hx2 : xs 2 = 0) (hT : ∀ (Φ1 : Hm) (sz1 : Nat), Z p9 l e9 room_1 s9 m9 a9 w9 t9 k9 Q9 G 9 2893 [(5, .int 0), (4, .ref d), (3, .ref o), (2, .ref y), (1, .ref x), (0, .ref b)] [] Φ1 sz1 178 20844) : Z p9 l e9 room_1 s9 m9 a9 w9 t9 k9 Q9 G 9 1190 [(5, .int 0), (4, .ref d), (3, .ref o), (2, .ref y), (1, .ref x), (0, .ref b)] [] Φ sz 177 20838 := by
  refine z_aload_n B dL_law_1190 rfl 4 rfl ?_
  refine z_aload_n B dL_law_1191 rfl 5 rfl ?_
  refine z_iload B dL_law_1192 0 rfl ?_
  refine z_iconst (v := 1) B dL_law_1194 rfl ?_
  refine z_iadd B dL_law_1195 ?_
  refine z_top (st1 := [.int 1, .ref b, .ref x]) (congrArg (fun w9 : Int32 => ([.int w9, .ref b, .ref x] : List Value)) (show (0 + 1 : Int32) = 1 by decide +kernel)) ?_
  refine z_sald B hX hbn (vin rfl) dL_law_1196 ?_
  refine z_top (st1 := [.int 4, .ref x]) (congrArg (fun w9 : Int32 => ([.int w9, .ref x] : List Value)) (show xs (1 : Int32).toNatClampNeg = 4 from hx1)) ?_
  refine z_aload_n B dL_law_1197 rfl 5 rfl ?_
  refine z_iload B dL_law_1198 0 rfl ?_
  refine z_iconst (v := 2) B dL_law_1200 rfl ?_
  refine z_iadd B dL_law_1201 ?_
  refine z_top (st1 := [.int 2, .ref b, .int 4, .ref x]) (congrArg (fun w9 : Int32 => ([.int w9, .ref b, .int 4, .ref x] : List Value)) (show (0 + 2 : Int32) = 2 by decide +kernel)) ?_
  refine z_sald B hX hbn (vin rfl) dL_law_1202 ?_
  refine z_top (st1 := [.int 0, .int 4, .ref x]) (congrArg (fun w9 : Int32 => ([.int w9, .int 4, .ref x] : List Value)) (show xs (2 : Int32).toNatClampNeg = 0 from hx2)) ?_
  refine z_if_eq (tgt := 1210) B dL_law_1203 rfl (fun c_1 => ?_) (fun h9 => absurd rfl h9)
  refine z_iconst (v := 0) B dL_law_1210 rfl ?_
  refine z_aload_n B dL_law_1211 rfl 2 rfl ?_
  refine z_callSW (As := [.ref x, .int 4, .int 0, .ref o]) (rest := []) B (w_setSupport_4_0 G l Φ sz x o go hx_0 hx_3 hx_6 hx_7 hx_8 hx_9 hx_10 hx_11 hx_12 hx_14 hx_16 hx_18 hx_20 hx_22 hx_74 hx_78 hco hna (Nat.le_trans hxy (Nat.le_trans (Nat.le_add_right y 26) hyo))) (vx_cwSW 4 B.1.2.2.2.2 gL_law_L_setSupport rfl rfl rfl (by decide +kernel) ⟨Nat.le_of_ble_eq_true rfl, Nat.le_of_ble_eq_true rfl⟩) rfl rfl (Nat.le_of_ble_eq_true rfl) dL_law_1212 ⟨Nat.le_of_ble_eq_true rfl, Nat.le_of_ble_eq_true rfl⟩ (fun v1 Φ1 sz1 st1 hp1 hs1 => ?_)
  obtain ⟨rfl, fr1, g1, ho1, hg1⟩ := hp1
  replace hs1 : st1 = [.int 0] := hs1
  subst st1
  refine z_istore (lv' := [(6, .int 0), (5, .int 0), (4, .ref d), (3, .ref o), (2, .ref y), (1, .ref x), (0, .ref b)]) B dL_law_1215 (Nat.le_of_ble_eq_true rfl) rfl ?_
  refine z_aload_n B dL_law_1217 rfl 4 rfl ?_
  refine z_aload_n B dL_law_1218 rfl 6 rfl ?_
  refine z_iload B dL_law_1219 1 rfl ?_
  refine z_iconst (v := 1) B dL_law_1221 rfl ?_
  refine z_iadd B dL_law_1222 ?_
  refine z_top (st1 := [.int 1, .ref b, .ref y]) (congrArg (fun w9 : Int32 => ([.int w9, .ref b, .ref y] : List Value)) (show (0 + 1 : Int32) = 1 by decide +kernel)) ?_
  refine z_sald B hX hbn (vin rfl) dL_law_1223 ?_
  refine z_top (st1 := [.int 4, .ref y]) (congrArg (fun w9 : Int32 => ([.int w9, .ref y] : List Value)) (show xs (1 : Int32).toNatClampNeg = 4 from hx1)) ?_
  refine z_aload_n B dL_law_1224 rfl 6 rfl ?_
  refine z_iload B dL_law_1225 1 rfl ?_
  refine z_iconst (v := 2) B dL_law_1227 rfl ?_
  refine z_iadd B dL_law_1228 ?_
  refine z_top (st1 := [.int 2, .ref b, .int 4, .ref y]) (congrArg (fun w9 : Int32 => ([.int w9, .ref b, .int 4, .ref y] : List Value)) (show (0 + 2 : Int32) = 2 by decide +kernel)) ?_
  refine z_sald B hX hbn (vin rfl) dL_law_1229 ?_
  refine z_top (st1 := [.int 0, .int 4, .ref y]) (congrArg (fun w9 : Int32 => ([.int w9, .int 4, .ref y] : List Value)) (show xs (2 : Int32).toNatClampNeg = 0 from hx2)) ?_
  refine z_if_eq (tgt := 1237) B dL_law_1230 rfl (fun c_2 => ?_) (fun h9 => absurd rfl h9)
  refine z_iconst (v := 0) B dL_law_1237 rfl ?_
  have h_1 : Φ1 y = some (o_ 14 [.int 0, .ref (y + 1), .ref (y + 2), .int 0, .int 1, .int 1, .int 0, .int 0, .ref (y + 3), .ref (y + 4), .int 0, .long 0, .ref (y + 5), .int 0, .int 0, .long 0, .long 0, .long 0, .long 0, .ref (y + 6), .ref (y + 7), .int 0, .ref (y + 8), .int 0, .ref (y + 9), .ref (y + 10), .int 0, .ref (y + 11), .ref (y + 12), .ref (y + 13), .ref (y + 14), .ref (y + 15), .ref (y + 16), .int 0, .long (-1), .ref (y + 17), .ref (y + 18), .ref (y + 19), .ref (y + 20), .ref (y + 21), .ref (y + 22), .int 0, .ref (y + 23), .ref (y + 24), .int 0, .ref (y + 25), .int 0, .int 0, .int 0, .int (-1), .int 0, .int 0, .int 0, .long 0]) := ((fr1 y hxy (Nat.ne_of_lt (Nat.lt_of_lt_of_le (lt_off (x := y) (i := 0) (j := 26) rfl) hyo))).trans hy_0)
  have h_2 : Φ1 (y + 2) = some (ai_ G 307 (upd (upd (upd (upd (upd (upd (upd (upd (upd (upd (upd (upd (upd (upd (upd (upd (upd (upd (upd (upd (upd (fun _ => 0) (0 : Int32).toNatClampNeg 1) (1 : Int32).toNatClampNeg 100) (2 : Int32).toNatClampNeg 1000) (3 : Int32).toNatClampNeg 100) (4 : Int32).toNatClampNeg 20) (5 : Int32).toNatClampNeg 1000) (6 : Int32).toNatClampNeg 5000) (7 : Int32).toNatClampNeg 512) (8 : Int32).toNatClampNeg 1) (9 : Int32).toNatClampNeg 511) (10 : Int32).toNatClampNeg 1) (11 : Int32).toNatClampNeg 9) (15 : Int32).toNatClampNeg 0) (16 : Int32).toNatClampNeg 1) (17 : Int32).toNatClampNeg 2) (18 : Int32).toNatClampNeg 3) (19 : Int32).toNatClampNeg 4) (20 : Int32).toNatClampNeg 5) (21 : Int32).toNatClampNeg 6) (22 : Int32).toNatClampNeg 7) (23 : Int32).toNatClampNeg 8)) := ((fr1 (y + 2) (Nat.le_trans hxy (Nat.le_add_right y 2)) (Nat.ne_of_lt (Nat.lt_of_lt_of_le (lt_off (x := y) (i := 2) (j := 26) rfl) hyo))).trans hy_2)
  have h_3 : Φ1 (y + 3) = some (ai_ G 4 (upd (upd (upd (upd (fun _ => 0) (0 : Int32).toNatClampNeg (-1)) (1 : Int32).toNatClampNeg (-1)) (2 : Int32).toNatClampNeg (-1)) (3 : Int32).toNatClampNeg (-1))) := ((fr1 (y + 3) (Nat.le_trans hxy (Nat.le_add_right y 3)) (Nat.ne_of_lt (Nat.lt_of_lt_of_le (lt_off (x := y) (i := 3) (j := 26) rfl) hyo))).trans hy_3)
  refine z_callV (As := [.int 4, .int 0]) (rest := []) B (m_X12_setSupport_4_0 G l Φ1 sz1 y h_1 h_2 h_3 (Nat.le_trans hna (Nat.le_trans (Nat.le_add_right x 149) hxy))) (cwV 2 B.1.2.2.2.2 gL_law_X12_setSupport rfl rfl rfl (by decide +kernel) ⟨Nat.le_of_ble_eq_true rfl, Nat.le_of_ble_eq_true rfl⟩) h_1 rfl rfl rfl rfl (Nat.le_of_ble_eq_true rfl) dL_law_1238 ⟨Nat.le_of_ble_eq_true rfl, Nat.le_of_ble_eq_true rfl⟩ (fun v2 Φ2 sz2 st2 hp2 hs2 => ?_)
  obtain ⟨rfl, ⟨fs1, hy1, hk1⟩, fr2⟩ := hp2
  replace hs2 : st2 = [.int 1] := hs2
  subst st2
  refine z_istore (lv' := [(7, .int 1), (6, .int 0), (5, .int 0), (4, .ref d), (3, .ref o), (2, .ref y), (1, .ref x), (0, .ref b)]) B dL_law_1241 (Nat.le_of_ble_eq_true rfl) rfl ?_
  refine z_aload_n B dL_law_1243 rfl 5 rfl ?_
  refine z_callV (As := []) (rest := []) B (m_thrown G l Φ2 sz2 y fs1 0 hy1 hk1) (cwV 0 B.1.2.2.2.2 gL_law_X12_thrown rfl rfl rfl (by decide +kernel) ⟨Nat.le_of_ble_eq_true rfl, Nat.le_of_ble_eq_true rfl⟩) hy1 rfl rfl rfl rfl (Nat.le_of_ble_eq_true rfl) dL_law_1244 ⟨Nat.le_of_ble_eq_true rfl, Nat.le_of_ble_eq_true rfl⟩ (fun v3 Φ3 sz3 st3 hp3 hs3 => ?_)
  obtain ⟨rfl, he1⟩ := hp3
  replace hs3 : st3 = [.int 0] := hs3
  subst st3
  rw [he1]
  refine z_iload B dL_law_1247 1 rfl ?_
  refine z_icmp_eq (tgt := 1254) B dL_law_1249 rfl (fun c_3 => ?_) (fun h9 => absurd (by decide) h9)
  refine z_iload B dL_law_1254 1 rfl ?_
  refine z_if_ne (tgt := 1278) B dL_law_1256 rfl (fun h9 => absurd (by decide) h9) (fun c_4 => ?_)
  refine z_aload_n B dL_law_1259 rfl 4 rfl ?_
  refine z_iconst (v := 0) B dL_law_1260 rfl ?_
  have h_4 : Φ2 o = some (al_ G 1 g1) := ((fr2 o hyo).trans ho1)
  refine z_lald B h_4 (vin rfl) dL_law_1261 ?_
  refine z_top (st1 := [.long 1]) (congrArg (fun w9 : Int64 => ([.long w9] : List Value)) (show g1 (0 : Int32).toNatClampNeg = 1 from hg1)) ?_
  refine z_iload B dL_law_1262 0 rfl ?_
  refine z_if_eq (tgt := 1271) B dL_law_1264 rfl (fun h9 => absurd h9 (by decide)) (fun c_5 => ?_)
  refine z_lconst (v := 1) B dL_law_1267 rfl ?_
  refine z_goto (tgt := 1272) B dL_law_1268 rfl ?_
  refine z_lcmp B dL_law_1272 ?_
  refine z_top (st1 := [.int 0]) (congrArg (fun w9 : Int32 => ([.int w9] : List Value)) (show (lg_cmp 1 1 : Int32) = 0 by decide +kernel)) ?_
  refine z_if_eq (tgt := 1278) B dL_law_1273 rfl (fun c_6 => ?_) (fun h9 => absurd (by decide) h9)
  refine z_goto (tgt := 2893) B dL_law_1278 rfl ?_
  refine z_lv [2, 3, 4, 5, 6, 7] rfl ?_
  refine z_widen (k := 178) (n := 20844) (Nat.le_of_ble_eq_true rfl) (Nat.le_of_ble_eq_true rfl) ?_
  exact hT _ _

set_option maxHeartbeats 4000000 in
set_option maxRecDepth 100000 in
theorem lc_22_4_1 {p9 : Program} {e9 : Env} {s9 : State} {m9 : MethodId} {a9 : Array Value} {w9 : List Frame} {t9 : Method} {k9 : Code} {Q9 : State → Prop} {nm9 : String} (G : EnvG) (l : Launch) (hl9 : l.stackTraces = false) (B : Bd p9 s9 m9 a9 t9 k9 G code 9 RL wsL_law ret nm9) (Φ : Hm) (sz : Nat) (b : Nat) (xs : Nat → Int32) (hX : va_X b 7 xs s9 s9.heap) (hbn : b < G.2.2.2) (x y o d : Nat) (a2 : Int32) (go : Nat → Int64) (gd : Nat → UInt64) (hna : G.2.2.2 ≤ x) (hxy : x + 149 ≤ y) (hyo : y + 26 ≤ o) (hyd : y + 26 ≤ d) (hod : o ≠ d) (hx_0 : Φ x = some (o_ 13 [.ref (x + 1), .ref (x + 3), .ref (x + 24), .ref (x + 46), .ref (x + 74), .ref (x + 80), .ref (x + 132), .ref (x + 121)])) (hx_3 : Φ (x + 3) = some (o_ 3 [.ref (x + 4), .ref (x + 5), .ref (x + 6), .ref (x + 7), .int 1, .int 511])) (hy_0 : Φ y = some (o_ 14 [.int 0, .ref (y + 1), .ref (y + 2), .int 0, .int 1, .int 1, .int 0, .int 0, .ref (y + 3), .ref (y + 4), .int 0, .long 0, .ref (y + 5), .int 0, .int 0, .long 0, .long 0, .long 0, .long 0, .ref (y + 6), .ref (y + 7), .int 0, .ref (y + 8), .int 0, .ref (y + 9), .ref (y + 10), .int 0, .ref (y + 11), .ref (y + 12), .ref (y + 13), .ref (y + 14), .ref (y + 15), .ref (y + 16), .int 0, .long (-1), .ref (y + 17), .ref (y + 18), .ref (y + 19), .ref (y + 20), .ref (y + 21), .ref (y + 22), .int 0, .ref (y + 23), .ref (y + 24), .int 0, .ref (y + 25), .int 0, .int 0, .int 0, .int (-1), .int 0, .int 0, .int 0, .long 0])) (hy_2 : Φ (y + 2) = some (ai_ G 307 (upd (upd (upd (upd (upd (upd (upd (upd (upd (upd (upd (upd (upd (upd (upd (upd (upd (upd (upd (upd (upd (fun _ => 0) (0 : Int32).toNatClampNeg 1) (1 : Int32).toNatClampNeg 100) (2 : Int32).toNatClampNeg 1000) (3 : Int32).toNatClampNeg 100) (4 : Int32).toNatClampNeg 20) (5 : Int32).toNatClampNeg 1000) (6 : Int32).toNatClampNeg 5000) (7 : Int32).toNatClampNeg 512) (8 : Int32).toNatClampNeg 1) (9 : Int32).toNatClampNeg 511) (10 : Int32).toNatClampNeg 1) (11 : Int32).toNatClampNeg 9) (15 : Int32).toNatClampNeg 0) (16 : Int32).toNatClampNeg 1) (17 : Int32).toNatClampNeg 2) (18 : Int32).toNatClampNeg 3) (19 : Int32).toNatClampNeg 4) (20 : Int32).toNatClampNeg 5) (21 : Int32).toNatClampNeg 6) (22 : Int32).toNatClampNeg 7) (23 : Int32).toNatClampNeg 8))) (hco : Φ o = some (al_ G 1 go)) (hx1 : xs 1 = 4) (hx2 : xs 2 = a2) (hbz : a2 ≠ 0) (hT : ∀ (Φ1 : Hm) (sz1 : Nat), Z p9 l e9 room_1 s9 m9 a9 w9 t9 k9 Q9 G 9 2893 [(5, .int 0), (4, .ref d), (3, .ref o), (2, .ref y), (1, .ref x), (0, .ref b)] [] Φ1 sz1 178 20844) : Z p9 l e9 room_1 s9 m9 a9 w9 t9 k9 Q9 G 9 1190 [(5, .int 0), (4, .ref d), (3, .ref o), (2, .ref y), (1, .ref x), (0, .ref b)] [] Φ sz 177 20838 := by
  refine z_aload_n B dL_law_1190 rfl 4 rfl ?_
  refine z_aload_n B dL_law_1191 rfl 5 rfl ?_
  refine z_iload B dL_law_1192 0 rfl ?_
  refine z_iconst (v := 1) B dL_law_1194 rfl ?_
  refine z_iadd B dL_law_1195 ?_
  refine z_top (st1 := [.int 1, .ref b, .ref x]) (congrArg (fun w9 : Int32 => ([.int w9, .ref b, .ref x] : List Value)) (show (0 + 1 : Int32) = 1 by decide +kernel)) ?_
  refine z_sald B hX hbn (vin rfl) dL_law_1196 ?_
  refine z_top (st1 := [.int 4, .ref x]) (congrArg (fun w9 : Int32 => ([.int w9, .ref x] : List Value)) (show xs (1 : Int32).toNatClampNeg = 4 from hx1)) ?_
  refine z_aload_n B dL_law_1197 rfl 5 rfl ?_
  refine z_iload B dL_law_1198 0 rfl ?_
  refine z_iconst (v := 2) B dL_law_1200 rfl ?_
  refine z_iadd B dL_law_1201 ?_
  refine z_top (st1 := [.int 2, .ref b, .int 4, .ref x]) (congrArg (fun w9 : Int32 => ([.int w9, .ref b, .int 4, .ref x] : List Value)) (show (0 + 2 : Int32) = 2 by decide +kernel)) ?_
  refine z_sald B hX hbn (vin rfl) dL_law_1202 ?_
  refine z_top (st1 := [.int a2, .int 4, .ref x]) (congrArg (fun w9 : Int32 => ([.int w9, .int 4, .ref x] : List Value)) (show xs (2 : Int32).toNatClampNeg = a2 from hx2)) ?_
  refine z_if_eq (tgt := 1210) B dL_law_1203 rfl (fun h9 => absurd h9 hbz) (fun c_1 => ?_)
  refine z_iconst (v := 1) B dL_law_1206 rfl ?_
  refine z_goto (tgt := 1211) B dL_law_1207 rfl ?_
  refine z_aload_n B dL_law_1211 rfl 2 rfl ?_
  refine z_callSW (As := [.ref x, .int 4, .int 1, .ref o]) (rest := []) B (w_setSupport_4_1 G l Φ sz x o go hx_0 hx_3 hco hna (Nat.le_trans hxy (Nat.le_trans (Nat.le_add_right y 26) hyo))) (vx_cwSW 4 B.1.2.2.2.2 gL_law_L_setSupport rfl rfl rfl (by decide +kernel) ⟨Nat.le_of_ble_eq_true rfl, Nat.le_of_ble_eq_true rfl⟩) rfl rfl (Nat.le_of_ble_eq_true rfl) dL_law_1212 ⟨Nat.le_of_ble_eq_true rfl, Nat.le_of_ble_eq_true rfl⟩ (fun v1 Φ1 sz1 st1 hp1 hs1 => ?_)
  obtain ⟨rfl, fr1, g1, ho1, hg1⟩ := hp1
  replace hs1 : st1 = [.int 0] := hs1
  subst st1
  refine z_istore (lv' := [(6, .int 0), (5, .int 0), (4, .ref d), (3, .ref o), (2, .ref y), (1, .ref x), (0, .ref b)]) B dL_law_1215 (Nat.le_of_ble_eq_true rfl) rfl ?_
  refine z_aload_n B dL_law_1217 rfl 4 rfl ?_
  refine z_aload_n B dL_law_1218 rfl 6 rfl ?_
  refine z_iload B dL_law_1219 1 rfl ?_
  refine z_iconst (v := 1) B dL_law_1221 rfl ?_
  refine z_iadd B dL_law_1222 ?_
  refine z_top (st1 := [.int 1, .ref b, .ref y]) (congrArg (fun w9 : Int32 => ([.int w9, .ref b, .ref y] : List Value)) (show (0 + 1 : Int32) = 1 by decide +kernel)) ?_
  refine z_sald B hX hbn (vin rfl) dL_law_1223 ?_
  refine z_top (st1 := [.int 4, .ref y]) (congrArg (fun w9 : Int32 => ([.int w9, .ref y] : List Value)) (show xs (1 : Int32).toNatClampNeg = 4 from hx1)) ?_
  refine z_aload_n B dL_law_1224 rfl 6 rfl ?_
  refine z_iload B dL_law_1225 1 rfl ?_
  refine z_iconst (v := 2) B dL_law_1227 rfl ?_
  refine z_iadd B dL_law_1228 ?_
  refine z_top (st1 := [.int 2, .ref b, .int 4, .ref y]) (congrArg (fun w9 : Int32 => ([.int w9, .ref b, .int 4, .ref y] : List Value)) (show (0 + 2 : Int32) = 2 by decide +kernel)) ?_
  refine z_sald B hX hbn (vin rfl) dL_law_1229 ?_
  refine z_top (st1 := [.int a2, .int 4, .ref y]) (congrArg (fun w9 : Int32 => ([.int w9, .int 4, .ref y] : List Value)) (show xs (2 : Int32).toNatClampNeg = a2 from hx2)) ?_
  refine z_if_eq (tgt := 1237) B dL_law_1230 rfl (fun h9 => absurd h9 hbz) (fun c_2 => ?_)
  refine z_iconst (v := 1) B dL_law_1233 rfl ?_
  refine z_goto (tgt := 1238) B dL_law_1234 rfl ?_
  have h_1 : Φ1 y = some (o_ 14 [.int 0, .ref (y + 1), .ref (y + 2), .int 0, .int 1, .int 1, .int 0, .int 0, .ref (y + 3), .ref (y + 4), .int 0, .long 0, .ref (y + 5), .int 0, .int 0, .long 0, .long 0, .long 0, .long 0, .ref (y + 6), .ref (y + 7), .int 0, .ref (y + 8), .int 0, .ref (y + 9), .ref (y + 10), .int 0, .ref (y + 11), .ref (y + 12), .ref (y + 13), .ref (y + 14), .ref (y + 15), .ref (y + 16), .int 0, .long (-1), .ref (y + 17), .ref (y + 18), .ref (y + 19), .ref (y + 20), .ref (y + 21), .ref (y + 22), .int 0, .ref (y + 23), .ref (y + 24), .int 0, .ref (y + 25), .int 0, .int 0, .int 0, .int (-1), .int 0, .int 0, .int 0, .long 0]) := ((fr1 y hxy (Nat.ne_of_lt (Nat.lt_of_lt_of_le (lt_off (x := y) (i := 0) (j := 26) rfl) hyo))).trans hy_0)
  have h_2 : Φ1 (y + 2) = some (ai_ G 307 (upd (upd (upd (upd (upd (upd (upd (upd (upd (upd (upd (upd (upd (upd (upd (upd (upd (upd (upd (upd (upd (fun _ => 0) (0 : Int32).toNatClampNeg 1) (1 : Int32).toNatClampNeg 100) (2 : Int32).toNatClampNeg 1000) (3 : Int32).toNatClampNeg 100) (4 : Int32).toNatClampNeg 20) (5 : Int32).toNatClampNeg 1000) (6 : Int32).toNatClampNeg 5000) (7 : Int32).toNatClampNeg 512) (8 : Int32).toNatClampNeg 1) (9 : Int32).toNatClampNeg 511) (10 : Int32).toNatClampNeg 1) (11 : Int32).toNatClampNeg 9) (15 : Int32).toNatClampNeg 0) (16 : Int32).toNatClampNeg 1) (17 : Int32).toNatClampNeg 2) (18 : Int32).toNatClampNeg 3) (19 : Int32).toNatClampNeg 4) (20 : Int32).toNatClampNeg 5) (21 : Int32).toNatClampNeg 6) (22 : Int32).toNatClampNeg 7) (23 : Int32).toNatClampNeg 8)) := ((fr1 (y + 2) (Nat.le_trans hxy (Nat.le_add_right y 2)) (Nat.ne_of_lt (Nat.lt_of_lt_of_le (lt_off (x := y) (i := 2) (j := 26) rfl) hyo))).trans hy_2)
  refine z_callV (As := [.int 4, .int 1]) (rest := []) B (m_X12_setSupport_4_1 G l Φ1 sz1 y h_1 h_2 (Nat.le_trans hna (Nat.le_trans (Nat.le_add_right x 149) hxy))) (cwV 2 B.1.2.2.2.2 gL_law_X12_setSupport rfl rfl rfl (by decide +kernel) ⟨Nat.le_of_ble_eq_true rfl, Nat.le_of_ble_eq_true rfl⟩) h_1 rfl rfl rfl rfl (Nat.le_of_ble_eq_true rfl) dL_law_1238 ⟨Nat.le_of_ble_eq_true rfl, Nat.le_of_ble_eq_true rfl⟩ (fun v2 Φ2 sz2 st2 hp2 hs2 => ?_)
  obtain ⟨rfl, ⟨fs1, hy1, hk1⟩, fr2⟩ := hp2
  replace hs2 : st2 = [.int 1] := hs2
  subst st2
  refine z_istore (lv' := [(7, .int 1), (6, .int 0), (5, .int 0), (4, .ref d), (3, .ref o), (2, .ref y), (1, .ref x), (0, .ref b)]) B dL_law_1241 (Nat.le_of_ble_eq_true rfl) rfl ?_
  refine z_aload_n B dL_law_1243 rfl 5 rfl ?_
  refine z_callV (As := []) (rest := []) B (m_thrown G l Φ2 sz2 y fs1 0 hy1 hk1) (cwV 0 B.1.2.2.2.2 gL_law_X12_thrown rfl rfl rfl (by decide +kernel) ⟨Nat.le_of_ble_eq_true rfl, Nat.le_of_ble_eq_true rfl⟩) hy1 rfl rfl rfl rfl (Nat.le_of_ble_eq_true rfl) dL_law_1244 ⟨Nat.le_of_ble_eq_true rfl, Nat.le_of_ble_eq_true rfl⟩ (fun v3 Φ3 sz3 st3 hp3 hs3 => ?_)
  obtain ⟨rfl, he1⟩ := hp3
  replace hs3 : st3 = [.int 0] := hs3
  subst st3
  rw [he1]
  refine z_iload B dL_law_1247 1 rfl ?_
  refine z_icmp_eq (tgt := 1254) B dL_law_1249 rfl (fun c_3 => ?_) (fun h9 => absurd (by decide) h9)
  refine z_iload B dL_law_1254 1 rfl ?_
  refine z_if_ne (tgt := 1278) B dL_law_1256 rfl (fun h9 => absurd (by decide) h9) (fun c_4 => ?_)
  refine z_aload_n B dL_law_1259 rfl 4 rfl ?_
  refine z_iconst (v := 0) B dL_law_1260 rfl ?_
  have h_3 : Φ2 o = some (al_ G 1 g1) := ((fr2 o hyo).trans ho1)
  refine z_lald B h_3 (vin rfl) dL_law_1261 ?_
  refine z_top (st1 := [.long 1]) (congrArg (fun w9 : Int64 => ([.long w9] : List Value)) (show g1 (0 : Int32).toNatClampNeg = 1 from hg1)) ?_
  refine z_iload B dL_law_1262 0 rfl ?_
  refine z_if_eq (tgt := 1271) B dL_law_1264 rfl (fun h9 => absurd h9 (by decide)) (fun c_5 => ?_)
  refine z_lconst (v := 1) B dL_law_1267 rfl ?_
  refine z_goto (tgt := 1272) B dL_law_1268 rfl ?_
  refine z_lcmp B dL_law_1272 ?_
  refine z_top (st1 := [.int 0]) (congrArg (fun w9 : Int32 => ([.int w9] : List Value)) (show (lg_cmp 1 1 : Int32) = 0 by decide +kernel)) ?_
  refine z_if_eq (tgt := 1278) B dL_law_1273 rfl (fun c_6 => ?_) (fun h9 => absurd (by decide) h9)
  refine z_goto (tgt := 2893) B dL_law_1278 rfl ?_
  refine z_lv [2, 3, 4, 5, 6, 7] rfl ?_
  refine z_widen (k := 178) (n := 20844) (Nat.le_of_ble_eq_true rfl) (Nat.le_of_ble_eq_true rfl) ?_
  exact hT _ _

set_option maxHeartbeats 4000000 in
set_option maxRecDepth 100000 in
theorem lc_22_5_0 {p9 : Program} {e9 : Env} {s9 : State} {m9 : MethodId} {a9 : Array Value} {w9 : List Frame} {t9 : Method} {k9 : Code} {Q9 : State → Prop} {nm9 : String} (G : EnvG) (l : Launch) (hl9 : l.stackTraces = false) (B : Bd p9 s9 m9 a9 t9 k9 G code 9 RL wsL_law ret nm9) (Φ : Hm) (sz : Nat) (b : Nat) (xs : Nat → Int32) (hX : va_X b 7 xs s9 s9.heap) (hbn : b < G.2.2.2) (x y o d : Nat)  (go : Nat → Int64) (gd : Nat → UInt64) (hna : G.2.2.2 ≤ x) (hxy : x + 149 ≤ y) (hyo : y + 26 ≤ o) (hyd : y + 26 ≤ d) (hod : o ≠ d) (hx_0 : Φ x = some (o_ 13 [.ref (x + 1), .ref (x + 3), .ref (x + 24), .ref (x + 46), .ref (x + 74), .ref (x + 80), .ref (x + 132), .ref (x + 121)])) (hx_3 : Φ (x + 3) = some (o_ 3 [.ref (x + 4), .ref (x + 5), .ref (x + 6), .ref (x + 7), .int 1, .int 511])) (hx_6 : Φ (x + 6) = some (aq_ G 4 4 (va_up (va_up (va_up (va_up (fun _ => none) (0 : Int32).toNatClampNeg (some (x + 8))) (1 : Int32).toNatClampNeg (some (x + 12))) (2 : Int32).toNatClampNeg (some (x + 16))) (3 : Int32).toNatClampNeg (some (x + 20))))) (hx_7 : Φ (x + 7) = some (aq_ G 4 4 (va_up (va_up (va_up (va_up (fun _ => none) (0 : Int32).toNatClampNeg (some (x + 10))) (1 : Int32).toNatClampNeg (some (x + 14))) (2 : Int32).toNatClampNeg (some (x + 18))) (3 : Int32).toNatClampNeg (some (x + 22))))) (hx_8 : Φ (x + 8) = some (o_ 12 [.ref (x + 9), .int 9, .int 511, .int 29])) (hx_9 : Φ (x + 9) = some (ai_ G 9 (upd (upd (upd (upd (upd (upd (upd (upd (upd (fun _ => 0) (0 : Int32).toNatClampNeg 0) (1 : Int32).toNatClampNeg 1) (2 : Int32).toNatClampNeg 2) (3 : Int32).toNatClampNeg 3) (4 : Int32).toNatClampNeg 4) (5 : Int32).toNatClampNeg 5) (6 : Int32).toNatClampNeg 6) (7 : Int32).toNatClampNeg 7) (8 : Int32).toNatClampNeg 8))) (hx_10 : Φ (x + 10) = some (o_ 12 [.ref (x + 11), .int 9, .int 511, .int 29])) (hx_11 : Φ (x + 11) = some (ai_ G 9 (upd (upd (upd (upd (upd (upd (upd (upd (upd (fun _ => 0) (0 : Int32).toNatClampNeg 0) (1 : Int32).toNatClampNeg 1) (2 : Int32).toNatClampNeg 2) (3 : Int32).toNatClampNeg 3) (4 : Int32).toNatClampNeg 4) (5 : Int32).toNatClampNeg 5) (6 : Int32).toNatClampNeg 6) (7 : Int32).toNatClampNeg 7) (8 : Int32).toNatClampNeg 8))) (hx_12 : Φ (x + 12) = some (o_ 12 [.ref (x + 13), .int 0, .int 0, .int 0])) (hx_14 : Φ (x + 14) = some (o_ 12 [.ref (x + 15), .int 0, .int 0, .int 0])) (hx_16 : Φ (x + 16) = some (o_ 12 [.ref (x + 17), .int 0, .int 0, .int 0])) (hx_18 : Φ (x + 18) = some (o_ 12 [.ref (x + 19), .int 0, .int 0, .int 0])) (hx_20 : Φ (x + 20) = some (o_ 12 [.ref (x + 21), .int 0, .int 0, .int 0])) (hx_22 : Φ (x + 22) = some (o_ 12 [.ref (x + 23), .int 0, .int 0, .int 0])) (hx_74 : Φ (x + 74) = some (o_ 10 [.ref (x + 3), .ref (x + 46), .ref (x + 75), .ref (x + 77), .int 0, .ref (x + 78), .ref (x + 79), .int 0, .long 0, .int 0])) (hx_78 : Φ (x + 78) = some (ai_ G 4 (fun _ => 0))) (hy_0 : Φ y = some (o_ 14 [.int 0, .ref (y + 1), .ref (y + 2), .int 0, .int 1, .int 1, .int 0, .int 0, .ref (y + 3), .ref (y + 4), .int 0, .long 0, .ref (y + 5), .int 0, .int 0, .long 0, .long 0, .long 0, .long 0, .ref (y + 6), .ref (y + 7), .int 0, .ref (y + 8), .int 0, .ref (y + 9), .ref (y + 10), .int 0, .ref (y + 11), .ref (y + 12), .ref (y + 13), .ref (y + 14), .ref (y + 15), .ref (y + 16), .int 0, .long (-1), .ref (y + 17), .ref (y + 18), .ref (y + 19), .ref (y + 20), .ref (y + 21), .ref (y + 22), .int 0, .ref (y + 23), .ref (y + 24), .int 0, .ref (y + 25), .int 0, .int 0, .int 0, .int (-1), .int 0, .int 0, .int 0, .long 0])) (hy_2 : Φ (y + 2) = some (ai_ G 307 (upd (upd (upd (upd (upd (upd (upd (upd (upd (upd (upd (upd (upd (upd (upd (upd (upd (upd (upd (upd (upd (fun _ => 0) (0 : Int32).toNatClampNeg 1) (1 : Int32).toNatClampNeg 100) (2 : Int32).toNatClampNeg 1000) (3 : Int32).toNatClampNeg 100) (4 : Int32).toNatClampNeg 20) (5 : Int32).toNatClampNeg 1000) (6 : Int32).toNatClampNeg 5000) (7 : Int32).toNatClampNeg 512) (8 : Int32).toNatClampNeg 1) (9 : Int32).toNatClampNeg 511) (10 : Int32).toNatClampNeg 1) (11 : Int32).toNatClampNeg 9) (15 : Int32).toNatClampNeg 0) (16 : Int32).toNatClampNeg 1) (17 : Int32).toNatClampNeg 2) (18 : Int32).toNatClampNeg 3) (19 : Int32).toNatClampNeg 4) (20 : Int32).toNatClampNeg 5) (21 : Int32).toNatClampNeg 6) (22 : Int32).toNatClampNeg 7) (23 : Int32).toNatClampNeg 8))) (hy_3 : Φ (y + 3) = some (ai_ G 4 (upd (upd (upd (upd (fun _ => 0) (0 : Int32).toNatClampNeg (-1)) (1 : Int32).toNatClampNeg (-1)) (2 : Int32).toNatClampNeg (-1)) (3 : Int32).toNatClampNeg (-1)))) (hco : Φ o = some (al_ G 1 go)) (hx1 : xs 1 = 5) (hx2 : xs 2 = 0) (hT : ∀ (Φ1 : Hm) (sz1 : Nat), Z p9 l e9 room_1 s9 m9 a9 w9 t9 k9 Q9 G 9 2893 [(5, .int 0), (4, .ref d), (3, .ref o), (2, .ref y), (1, .ref x), (0, .ref b)] [] Φ1 sz1 178 20844) : Z p9 l e9 room_1 s9 m9 a9 w9 t9 k9 Q9 G 9 1190 [(5, .int 0), (4, .ref d), (3, .ref o), (2, .ref y), (1, .ref x), (0, .ref b)] [] Φ sz 177 20838 := by
  refine z_aload_n B dL_law_1190 rfl 4 rfl ?_
  refine z_aload_n B dL_law_1191 rfl 5 rfl ?_
  refine z_iload B dL_law_1192 0 rfl ?_
  refine z_iconst (v := 1) B dL_law_1194 rfl ?_
  refine z_iadd B dL_law_1195 ?_
  refine z_top (st1 := [.int 1, .ref b, .ref x]) (congrArg (fun w9 : Int32 => ([.int w9, .ref b, .ref x] : List Value)) (show (0 + 1 : Int32) = 1 by decide +kernel)) ?_
  refine z_sald B hX hbn (vin rfl) dL_law_1196 ?_
  refine z_top (st1 := [.int 5, .ref x]) (congrArg (fun w9 : Int32 => ([.int w9, .ref x] : List Value)) (show xs (1 : Int32).toNatClampNeg = 5 from hx1)) ?_
  refine z_aload_n B dL_law_1197 rfl 5 rfl ?_
  refine z_iload B dL_law_1198 0 rfl ?_
  refine z_iconst (v := 2) B dL_law_1200 rfl ?_
  refine z_iadd B dL_law_1201 ?_
  refine z_top (st1 := [.int 2, .ref b, .int 5, .ref x]) (congrArg (fun w9 : Int32 => ([.int w9, .ref b, .int 5, .ref x] : List Value)) (show (0 + 2 : Int32) = 2 by decide +kernel)) ?_
  refine z_sald B hX hbn (vin rfl) dL_law_1202 ?_
  refine z_top (st1 := [.int 0, .int 5, .ref x]) (congrArg (fun w9 : Int32 => ([.int w9, .int 5, .ref x] : List Value)) (show xs (2 : Int32).toNatClampNeg = 0 from hx2)) ?_
  refine z_if_eq (tgt := 1210) B dL_law_1203 rfl (fun c_1 => ?_) (fun h9 => absurd rfl h9)
  refine z_iconst (v := 0) B dL_law_1210 rfl ?_
  refine z_aload_n B dL_law_1211 rfl 2 rfl ?_
  refine z_callSW (As := [.ref x, .int 5, .int 0, .ref o]) (rest := []) B (w_setSupport_5_0 G l Φ sz x o go hx_0 hx_3 hx_6 hx_7 hx_8 hx_9 hx_10 hx_11 hx_12 hx_14 hx_16 hx_18 hx_20 hx_22 hx_74 hx_78 hco hna (Nat.le_trans hxy (Nat.le_trans (Nat.le_add_right y 26) hyo))) (vx_cwSW 4 B.1.2.2.2.2 gL_law_L_setSupport rfl rfl rfl (by decide +kernel) ⟨Nat.le_of_ble_eq_true rfl, Nat.le_of_ble_eq_true rfl⟩) rfl rfl (Nat.le_of_ble_eq_true rfl) dL_law_1212 ⟨Nat.le_of_ble_eq_true rfl, Nat.le_of_ble_eq_true rfl⟩ (fun v1 Φ1 sz1 st1 hp1 hs1 => ?_)
  obtain ⟨rfl, fr1, g1, ho1, hg1⟩ := hp1
  replace hs1 : st1 = [.int 0] := hs1
  subst st1
  refine z_istore (lv' := [(6, .int 0), (5, .int 0), (4, .ref d), (3, .ref o), (2, .ref y), (1, .ref x), (0, .ref b)]) B dL_law_1215 (Nat.le_of_ble_eq_true rfl) rfl ?_
  refine z_aload_n B dL_law_1217 rfl 4 rfl ?_
  refine z_aload_n B dL_law_1218 rfl 6 rfl ?_
  refine z_iload B dL_law_1219 1 rfl ?_
  refine z_iconst (v := 1) B dL_law_1221 rfl ?_
  refine z_iadd B dL_law_1222 ?_
  refine z_top (st1 := [.int 1, .ref b, .ref y]) (congrArg (fun w9 : Int32 => ([.int w9, .ref b, .ref y] : List Value)) (show (0 + 1 : Int32) = 1 by decide +kernel)) ?_
  refine z_sald B hX hbn (vin rfl) dL_law_1223 ?_
  refine z_top (st1 := [.int 5, .ref y]) (congrArg (fun w9 : Int32 => ([.int w9, .ref y] : List Value)) (show xs (1 : Int32).toNatClampNeg = 5 from hx1)) ?_
  refine z_aload_n B dL_law_1224 rfl 6 rfl ?_
  refine z_iload B dL_law_1225 1 rfl ?_
  refine z_iconst (v := 2) B dL_law_1227 rfl ?_
  refine z_iadd B dL_law_1228 ?_
  refine z_top (st1 := [.int 2, .ref b, .int 5, .ref y]) (congrArg (fun w9 : Int32 => ([.int w9, .ref b, .int 5, .ref y] : List Value)) (show (0 + 2 : Int32) = 2 by decide +kernel)) ?_
  refine z_sald B hX hbn (vin rfl) dL_law_1229 ?_
  refine z_top (st1 := [.int 0, .int 5, .ref y]) (congrArg (fun w9 : Int32 => ([.int w9, .int 5, .ref y] : List Value)) (show xs (2 : Int32).toNatClampNeg = 0 from hx2)) ?_
  refine z_if_eq (tgt := 1237) B dL_law_1230 rfl (fun c_2 => ?_) (fun h9 => absurd rfl h9)
  refine z_iconst (v := 0) B dL_law_1237 rfl ?_
  have h_1 : Φ1 y = some (o_ 14 [.int 0, .ref (y + 1), .ref (y + 2), .int 0, .int 1, .int 1, .int 0, .int 0, .ref (y + 3), .ref (y + 4), .int 0, .long 0, .ref (y + 5), .int 0, .int 0, .long 0, .long 0, .long 0, .long 0, .ref (y + 6), .ref (y + 7), .int 0, .ref (y + 8), .int 0, .ref (y + 9), .ref (y + 10), .int 0, .ref (y + 11), .ref (y + 12), .ref (y + 13), .ref (y + 14), .ref (y + 15), .ref (y + 16), .int 0, .long (-1), .ref (y + 17), .ref (y + 18), .ref (y + 19), .ref (y + 20), .ref (y + 21), .ref (y + 22), .int 0, .ref (y + 23), .ref (y + 24), .int 0, .ref (y + 25), .int 0, .int 0, .int 0, .int (-1), .int 0, .int 0, .int 0, .long 0]) := ((fr1 y hxy (Nat.ne_of_lt (Nat.lt_of_lt_of_le (lt_off (x := y) (i := 0) (j := 26) rfl) hyo))).trans hy_0)
  have h_2 : Φ1 (y + 2) = some (ai_ G 307 (upd (upd (upd (upd (upd (upd (upd (upd (upd (upd (upd (upd (upd (upd (upd (upd (upd (upd (upd (upd (upd (fun _ => 0) (0 : Int32).toNatClampNeg 1) (1 : Int32).toNatClampNeg 100) (2 : Int32).toNatClampNeg 1000) (3 : Int32).toNatClampNeg 100) (4 : Int32).toNatClampNeg 20) (5 : Int32).toNatClampNeg 1000) (6 : Int32).toNatClampNeg 5000) (7 : Int32).toNatClampNeg 512) (8 : Int32).toNatClampNeg 1) (9 : Int32).toNatClampNeg 511) (10 : Int32).toNatClampNeg 1) (11 : Int32).toNatClampNeg 9) (15 : Int32).toNatClampNeg 0) (16 : Int32).toNatClampNeg 1) (17 : Int32).toNatClampNeg 2) (18 : Int32).toNatClampNeg 3) (19 : Int32).toNatClampNeg 4) (20 : Int32).toNatClampNeg 5) (21 : Int32).toNatClampNeg 6) (22 : Int32).toNatClampNeg 7) (23 : Int32).toNatClampNeg 8)) := ((fr1 (y + 2) (Nat.le_trans hxy (Nat.le_add_right y 2)) (Nat.ne_of_lt (Nat.lt_of_lt_of_le (lt_off (x := y) (i := 2) (j := 26) rfl) hyo))).trans hy_2)
  have h_3 : Φ1 (y + 3) = some (ai_ G 4 (upd (upd (upd (upd (fun _ => 0) (0 : Int32).toNatClampNeg (-1)) (1 : Int32).toNatClampNeg (-1)) (2 : Int32).toNatClampNeg (-1)) (3 : Int32).toNatClampNeg (-1))) := ((fr1 (y + 3) (Nat.le_trans hxy (Nat.le_add_right y 3)) (Nat.ne_of_lt (Nat.lt_of_lt_of_le (lt_off (x := y) (i := 3) (j := 26) rfl) hyo))).trans hy_3)
  refine z_callV (As := [.int 5, .int 0]) (rest := []) B (m_X12_setSupport_5_0 G l Φ1 sz1 y h_1 h_2 h_3 (Nat.le_trans hna (Nat.le_trans (Nat.le_add_right x 149) hxy))) (cwV 2 B.1.2.2.2.2 gL_law_X12_setSupport rfl rfl rfl (by decide +kernel) ⟨Nat.le_of_ble_eq_true rfl, Nat.le_of_ble_eq_true rfl⟩) h_1 rfl rfl rfl rfl (Nat.le_of_ble_eq_true rfl) dL_law_1238 ⟨Nat.le_of_ble_eq_true rfl, Nat.le_of_ble_eq_true rfl⟩ (fun v2 Φ2 sz2 st2 hp2 hs2 => ?_)
  obtain ⟨rfl, ⟨fs1, hy1, hk1⟩, fr2⟩ := hp2
  replace hs2 : st2 = [.int 1] := hs2
  subst st2
  refine z_istore (lv' := [(7, .int 1), (6, .int 0), (5, .int 0), (4, .ref d), (3, .ref o), (2, .ref y), (1, .ref x), (0, .ref b)]) B dL_law_1241 (Nat.le_of_ble_eq_true rfl) rfl ?_
  refine z_aload_n B dL_law_1243 rfl 5 rfl ?_
  refine z_callV (As := []) (rest := []) B (m_thrown G l Φ2 sz2 y fs1 0 hy1 hk1) (cwV 0 B.1.2.2.2.2 gL_law_X12_thrown rfl rfl rfl (by decide +kernel) ⟨Nat.le_of_ble_eq_true rfl, Nat.le_of_ble_eq_true rfl⟩) hy1 rfl rfl rfl rfl (Nat.le_of_ble_eq_true rfl) dL_law_1244 ⟨Nat.le_of_ble_eq_true rfl, Nat.le_of_ble_eq_true rfl⟩ (fun v3 Φ3 sz3 st3 hp3 hs3 => ?_)
  obtain ⟨rfl, he1⟩ := hp3
  replace hs3 : st3 = [.int 0] := hs3
  subst st3
  rw [he1]
  refine z_iload B dL_law_1247 1 rfl ?_
  refine z_icmp_eq (tgt := 1254) B dL_law_1249 rfl (fun c_3 => ?_) (fun h9 => absurd (by decide) h9)
  refine z_iload B dL_law_1254 1 rfl ?_
  refine z_if_ne (tgt := 1278) B dL_law_1256 rfl (fun h9 => absurd (by decide) h9) (fun c_4 => ?_)
  refine z_aload_n B dL_law_1259 rfl 4 rfl ?_
  refine z_iconst (v := 0) B dL_law_1260 rfl ?_
  have h_4 : Φ2 o = some (al_ G 1 g1) := ((fr2 o hyo).trans ho1)
  refine z_lald B h_4 (vin rfl) dL_law_1261 ?_
  refine z_top (st1 := [.long 1]) (congrArg (fun w9 : Int64 => ([.long w9] : List Value)) (show g1 (0 : Int32).toNatClampNeg = 1 from hg1)) ?_
  refine z_iload B dL_law_1262 0 rfl ?_
  refine z_if_eq (tgt := 1271) B dL_law_1264 rfl (fun h9 => absurd h9 (by decide)) (fun c_5 => ?_)
  refine z_lconst (v := 1) B dL_law_1267 rfl ?_
  refine z_goto (tgt := 1272) B dL_law_1268 rfl ?_
  refine z_lcmp B dL_law_1272 ?_
  refine z_top (st1 := [.int 0]) (congrArg (fun w9 : Int32 => ([.int w9] : List Value)) (show (lg_cmp 1 1 : Int32) = 0 by decide +kernel)) ?_
  refine z_if_eq (tgt := 1278) B dL_law_1273 rfl (fun c_6 => ?_) (fun h9 => absurd (by decide) h9)
  refine z_goto (tgt := 2893) B dL_law_1278 rfl ?_
  refine z_lv [2, 3, 4, 5, 6, 7] rfl ?_
  refine z_widen (k := 178) (n := 20844) (Nat.le_of_ble_eq_true rfl) (Nat.le_of_ble_eq_true rfl) ?_
  exact hT _ _

set_option maxHeartbeats 4000000 in
set_option maxRecDepth 100000 in
theorem lc_22_5_1 {p9 : Program} {e9 : Env} {s9 : State} {m9 : MethodId} {a9 : Array Value} {w9 : List Frame} {t9 : Method} {k9 : Code} {Q9 : State → Prop} {nm9 : String} (G : EnvG) (l : Launch) (hl9 : l.stackTraces = false) (B : Bd p9 s9 m9 a9 t9 k9 G code 9 RL wsL_law ret nm9) (Φ : Hm) (sz : Nat) (b : Nat) (xs : Nat → Int32) (hX : va_X b 7 xs s9 s9.heap) (hbn : b < G.2.2.2) (x y o d : Nat) (a2 : Int32) (go : Nat → Int64) (gd : Nat → UInt64) (hna : G.2.2.2 ≤ x) (hxy : x + 149 ≤ y) (hyo : y + 26 ≤ o) (hyd : y + 26 ≤ d) (hod : o ≠ d) (hx_0 : Φ x = some (o_ 13 [.ref (x + 1), .ref (x + 3), .ref (x + 24), .ref (x + 46), .ref (x + 74), .ref (x + 80), .ref (x + 132), .ref (x + 121)])) (hx_3 : Φ (x + 3) = some (o_ 3 [.ref (x + 4), .ref (x + 5), .ref (x + 6), .ref (x + 7), .int 1, .int 511])) (hy_0 : Φ y = some (o_ 14 [.int 0, .ref (y + 1), .ref (y + 2), .int 0, .int 1, .int 1, .int 0, .int 0, .ref (y + 3), .ref (y + 4), .int 0, .long 0, .ref (y + 5), .int 0, .int 0, .long 0, .long 0, .long 0, .long 0, .ref (y + 6), .ref (y + 7), .int 0, .ref (y + 8), .int 0, .ref (y + 9), .ref (y + 10), .int 0, .ref (y + 11), .ref (y + 12), .ref (y + 13), .ref (y + 14), .ref (y + 15), .ref (y + 16), .int 0, .long (-1), .ref (y + 17), .ref (y + 18), .ref (y + 19), .ref (y + 20), .ref (y + 21), .ref (y + 22), .int 0, .ref (y + 23), .ref (y + 24), .int 0, .ref (y + 25), .int 0, .int 0, .int 0, .int (-1), .int 0, .int 0, .int 0, .long 0])) (hy_2 : Φ (y + 2) = some (ai_ G 307 (upd (upd (upd (upd (upd (upd (upd (upd (upd (upd (upd (upd (upd (upd (upd (upd (upd (upd (upd (upd (upd (fun _ => 0) (0 : Int32).toNatClampNeg 1) (1 : Int32).toNatClampNeg 100) (2 : Int32).toNatClampNeg 1000) (3 : Int32).toNatClampNeg 100) (4 : Int32).toNatClampNeg 20) (5 : Int32).toNatClampNeg 1000) (6 : Int32).toNatClampNeg 5000) (7 : Int32).toNatClampNeg 512) (8 : Int32).toNatClampNeg 1) (9 : Int32).toNatClampNeg 511) (10 : Int32).toNatClampNeg 1) (11 : Int32).toNatClampNeg 9) (15 : Int32).toNatClampNeg 0) (16 : Int32).toNatClampNeg 1) (17 : Int32).toNatClampNeg 2) (18 : Int32).toNatClampNeg 3) (19 : Int32).toNatClampNeg 4) (20 : Int32).toNatClampNeg 5) (21 : Int32).toNatClampNeg 6) (22 : Int32).toNatClampNeg 7) (23 : Int32).toNatClampNeg 8))) (hco : Φ o = some (al_ G 1 go)) (hx1 : xs 1 = 5) (hx2 : xs 2 = a2) (hbz : a2 ≠ 0) (hT : ∀ (Φ1 : Hm) (sz1 : Nat), Z p9 l e9 room_1 s9 m9 a9 w9 t9 k9 Q9 G 9 2893 [(5, .int 0), (4, .ref d), (3, .ref o), (2, .ref y), (1, .ref x), (0, .ref b)] [] Φ1 sz1 178 20844) : Z p9 l e9 room_1 s9 m9 a9 w9 t9 k9 Q9 G 9 1190 [(5, .int 0), (4, .ref d), (3, .ref o), (2, .ref y), (1, .ref x), (0, .ref b)] [] Φ sz 177 20838 := by
  refine z_aload_n B dL_law_1190 rfl 4 rfl ?_
  refine z_aload_n B dL_law_1191 rfl 5 rfl ?_
  refine z_iload B dL_law_1192 0 rfl ?_
  refine z_iconst (v := 1) B dL_law_1194 rfl ?_
  refine z_iadd B dL_law_1195 ?_
  refine z_top (st1 := [.int 1, .ref b, .ref x]) (congrArg (fun w9 : Int32 => ([.int w9, .ref b, .ref x] : List Value)) (show (0 + 1 : Int32) = 1 by decide +kernel)) ?_
  refine z_sald B hX hbn (vin rfl) dL_law_1196 ?_
  refine z_top (st1 := [.int 5, .ref x]) (congrArg (fun w9 : Int32 => ([.int w9, .ref x] : List Value)) (show xs (1 : Int32).toNatClampNeg = 5 from hx1)) ?_
  refine z_aload_n B dL_law_1197 rfl 5 rfl ?_
  refine z_iload B dL_law_1198 0 rfl ?_
  refine z_iconst (v := 2) B dL_law_1200 rfl ?_
  refine z_iadd B dL_law_1201 ?_
  refine z_top (st1 := [.int 2, .ref b, .int 5, .ref x]) (congrArg (fun w9 : Int32 => ([.int w9, .ref b, .int 5, .ref x] : List Value)) (show (0 + 2 : Int32) = 2 by decide +kernel)) ?_
  refine z_sald B hX hbn (vin rfl) dL_law_1202 ?_
  refine z_top (st1 := [.int a2, .int 5, .ref x]) (congrArg (fun w9 : Int32 => ([.int w9, .int 5, .ref x] : List Value)) (show xs (2 : Int32).toNatClampNeg = a2 from hx2)) ?_
  refine z_if_eq (tgt := 1210) B dL_law_1203 rfl (fun h9 => absurd h9 hbz) (fun c_1 => ?_)
  refine z_iconst (v := 1) B dL_law_1206 rfl ?_
  refine z_goto (tgt := 1211) B dL_law_1207 rfl ?_
  refine z_aload_n B dL_law_1211 rfl 2 rfl ?_
  refine z_callSW (As := [.ref x, .int 5, .int 1, .ref o]) (rest := []) B (w_setSupport_5_1 G l Φ sz x o go hx_0 hx_3 hco hna (Nat.le_trans hxy (Nat.le_trans (Nat.le_add_right y 26) hyo))) (vx_cwSW 4 B.1.2.2.2.2 gL_law_L_setSupport rfl rfl rfl (by decide +kernel) ⟨Nat.le_of_ble_eq_true rfl, Nat.le_of_ble_eq_true rfl⟩) rfl rfl (Nat.le_of_ble_eq_true rfl) dL_law_1212 ⟨Nat.le_of_ble_eq_true rfl, Nat.le_of_ble_eq_true rfl⟩ (fun v1 Φ1 sz1 st1 hp1 hs1 => ?_)
  obtain ⟨rfl, fr1, g1, ho1, hg1⟩ := hp1
  replace hs1 : st1 = [.int 0] := hs1
  subst st1
  refine z_istore (lv' := [(6, .int 0), (5, .int 0), (4, .ref d), (3, .ref o), (2, .ref y), (1, .ref x), (0, .ref b)]) B dL_law_1215 (Nat.le_of_ble_eq_true rfl) rfl ?_
  refine z_aload_n B dL_law_1217 rfl 4 rfl ?_
  refine z_aload_n B dL_law_1218 rfl 6 rfl ?_
  refine z_iload B dL_law_1219 1 rfl ?_
  refine z_iconst (v := 1) B dL_law_1221 rfl ?_
  refine z_iadd B dL_law_1222 ?_
  refine z_top (st1 := [.int 1, .ref b, .ref y]) (congrArg (fun w9 : Int32 => ([.int w9, .ref b, .ref y] : List Value)) (show (0 + 1 : Int32) = 1 by decide +kernel)) ?_
  refine z_sald B hX hbn (vin rfl) dL_law_1223 ?_
  refine z_top (st1 := [.int 5, .ref y]) (congrArg (fun w9 : Int32 => ([.int w9, .ref y] : List Value)) (show xs (1 : Int32).toNatClampNeg = 5 from hx1)) ?_
  refine z_aload_n B dL_law_1224 rfl 6 rfl ?_
  refine z_iload B dL_law_1225 1 rfl ?_
  refine z_iconst (v := 2) B dL_law_1227 rfl ?_
  refine z_iadd B dL_law_1228 ?_
  refine z_top (st1 := [.int 2, .ref b, .int 5, .ref y]) (congrArg (fun w9 : Int32 => ([.int w9, .ref b, .int 5, .ref y] : List Value)) (show (0 + 2 : Int32) = 2 by decide +kernel)) ?_
  refine z_sald B hX hbn (vin rfl) dL_law_1229 ?_
  refine z_top (st1 := [.int a2, .int 5, .ref y]) (congrArg (fun w9 : Int32 => ([.int w9, .int 5, .ref y] : List Value)) (show xs (2 : Int32).toNatClampNeg = a2 from hx2)) ?_
  refine z_if_eq (tgt := 1237) B dL_law_1230 rfl (fun h9 => absurd h9 hbz) (fun c_2 => ?_)
  refine z_iconst (v := 1) B dL_law_1233 rfl ?_
  refine z_goto (tgt := 1238) B dL_law_1234 rfl ?_
  have h_1 : Φ1 y = some (o_ 14 [.int 0, .ref (y + 1), .ref (y + 2), .int 0, .int 1, .int 1, .int 0, .int 0, .ref (y + 3), .ref (y + 4), .int 0, .long 0, .ref (y + 5), .int 0, .int 0, .long 0, .long 0, .long 0, .long 0, .ref (y + 6), .ref (y + 7), .int 0, .ref (y + 8), .int 0, .ref (y + 9), .ref (y + 10), .int 0, .ref (y + 11), .ref (y + 12), .ref (y + 13), .ref (y + 14), .ref (y + 15), .ref (y + 16), .int 0, .long (-1), .ref (y + 17), .ref (y + 18), .ref (y + 19), .ref (y + 20), .ref (y + 21), .ref (y + 22), .int 0, .ref (y + 23), .ref (y + 24), .int 0, .ref (y + 25), .int 0, .int 0, .int 0, .int (-1), .int 0, .int 0, .int 0, .long 0]) := ((fr1 y hxy (Nat.ne_of_lt (Nat.lt_of_lt_of_le (lt_off (x := y) (i := 0) (j := 26) rfl) hyo))).trans hy_0)
  have h_2 : Φ1 (y + 2) = some (ai_ G 307 (upd (upd (upd (upd (upd (upd (upd (upd (upd (upd (upd (upd (upd (upd (upd (upd (upd (upd (upd (upd (upd (fun _ => 0) (0 : Int32).toNatClampNeg 1) (1 : Int32).toNatClampNeg 100) (2 : Int32).toNatClampNeg 1000) (3 : Int32).toNatClampNeg 100) (4 : Int32).toNatClampNeg 20) (5 : Int32).toNatClampNeg 1000) (6 : Int32).toNatClampNeg 5000) (7 : Int32).toNatClampNeg 512) (8 : Int32).toNatClampNeg 1) (9 : Int32).toNatClampNeg 511) (10 : Int32).toNatClampNeg 1) (11 : Int32).toNatClampNeg 9) (15 : Int32).toNatClampNeg 0) (16 : Int32).toNatClampNeg 1) (17 : Int32).toNatClampNeg 2) (18 : Int32).toNatClampNeg 3) (19 : Int32).toNatClampNeg 4) (20 : Int32).toNatClampNeg 5) (21 : Int32).toNatClampNeg 6) (22 : Int32).toNatClampNeg 7) (23 : Int32).toNatClampNeg 8)) := ((fr1 (y + 2) (Nat.le_trans hxy (Nat.le_add_right y 2)) (Nat.ne_of_lt (Nat.lt_of_lt_of_le (lt_off (x := y) (i := 2) (j := 26) rfl) hyo))).trans hy_2)
  refine z_callV (As := [.int 5, .int 1]) (rest := []) B (m_X12_setSupport_5_1 G l Φ1 sz1 y h_1 h_2 (Nat.le_trans hna (Nat.le_trans (Nat.le_add_right x 149) hxy))) (cwV 2 B.1.2.2.2.2 gL_law_X12_setSupport rfl rfl rfl (by decide +kernel) ⟨Nat.le_of_ble_eq_true rfl, Nat.le_of_ble_eq_true rfl⟩) h_1 rfl rfl rfl rfl (Nat.le_of_ble_eq_true rfl) dL_law_1238 ⟨Nat.le_of_ble_eq_true rfl, Nat.le_of_ble_eq_true rfl⟩ (fun v2 Φ2 sz2 st2 hp2 hs2 => ?_)
  obtain ⟨rfl, ⟨fs1, hy1, hk1⟩, fr2⟩ := hp2
  replace hs2 : st2 = [.int 1] := hs2
  subst st2
  refine z_istore (lv' := [(7, .int 1), (6, .int 0), (5, .int 0), (4, .ref d), (3, .ref o), (2, .ref y), (1, .ref x), (0, .ref b)]) B dL_law_1241 (Nat.le_of_ble_eq_true rfl) rfl ?_
  refine z_aload_n B dL_law_1243 rfl 5 rfl ?_
  refine z_callV (As := []) (rest := []) B (m_thrown G l Φ2 sz2 y fs1 0 hy1 hk1) (cwV 0 B.1.2.2.2.2 gL_law_X12_thrown rfl rfl rfl (by decide +kernel) ⟨Nat.le_of_ble_eq_true rfl, Nat.le_of_ble_eq_true rfl⟩) hy1 rfl rfl rfl rfl (Nat.le_of_ble_eq_true rfl) dL_law_1244 ⟨Nat.le_of_ble_eq_true rfl, Nat.le_of_ble_eq_true rfl⟩ (fun v3 Φ3 sz3 st3 hp3 hs3 => ?_)
  obtain ⟨rfl, he1⟩ := hp3
  replace hs3 : st3 = [.int 0] := hs3
  subst st3
  rw [he1]
  refine z_iload B dL_law_1247 1 rfl ?_
  refine z_icmp_eq (tgt := 1254) B dL_law_1249 rfl (fun c_3 => ?_) (fun h9 => absurd (by decide) h9)
  refine z_iload B dL_law_1254 1 rfl ?_
  refine z_if_ne (tgt := 1278) B dL_law_1256 rfl (fun h9 => absurd (by decide) h9) (fun c_4 => ?_)
  refine z_aload_n B dL_law_1259 rfl 4 rfl ?_
  refine z_iconst (v := 0) B dL_law_1260 rfl ?_
  have h_3 : Φ2 o = some (al_ G 1 g1) := ((fr2 o hyo).trans ho1)
  refine z_lald B h_3 (vin rfl) dL_law_1261 ?_
  refine z_top (st1 := [.long 1]) (congrArg (fun w9 : Int64 => ([.long w9] : List Value)) (show g1 (0 : Int32).toNatClampNeg = 1 from hg1)) ?_
  refine z_iload B dL_law_1262 0 rfl ?_
  refine z_if_eq (tgt := 1271) B dL_law_1264 rfl (fun h9 => absurd h9 (by decide)) (fun c_5 => ?_)
  refine z_lconst (v := 1) B dL_law_1267 rfl ?_
  refine z_goto (tgt := 1272) B dL_law_1268 rfl ?_
  refine z_lcmp B dL_law_1272 ?_
  refine z_top (st1 := [.int 0]) (congrArg (fun w9 : Int32 => ([.int w9] : List Value)) (show (lg_cmp 1 1 : Int32) = 0 by decide +kernel)) ?_
  refine z_if_eq (tgt := 1278) B dL_law_1273 rfl (fun c_6 => ?_) (fun h9 => absurd (by decide) h9)
  refine z_goto (tgt := 2893) B dL_law_1278 rfl ?_
  refine z_lv [2, 3, 4, 5, 6, 7] rfl ?_
  refine z_widen (k := 178) (n := 20844) (Nat.le_of_ble_eq_true rfl) (Nat.le_of_ble_eq_true rfl) ?_
  exact hT _ _

set_option maxHeartbeats 4000000 in
set_option maxRecDepth 100000 in
theorem lc_22_6_0 {p9 : Program} {e9 : Env} {s9 : State} {m9 : MethodId} {a9 : Array Value} {w9 : List Frame} {t9 : Method} {k9 : Code} {Q9 : State → Prop} {nm9 : String} (G : EnvG) (l : Launch) (hl9 : l.stackTraces = false) (B : Bd p9 s9 m9 a9 t9 k9 G code 9 RL wsL_law ret nm9) (Φ : Hm) (sz : Nat) (b : Nat) (xs : Nat → Int32) (hX : va_X b 7 xs s9 s9.heap) (hbn : b < G.2.2.2) (x y o d : Nat)  (go : Nat → Int64) (gd : Nat → UInt64) (hna : G.2.2.2 ≤ x) (hxy : x + 149 ≤ y) (hyo : y + 26 ≤ o) (hyd : y + 26 ≤ d) (hod : o ≠ d) (hx_0 : Φ x = some (o_ 13 [.ref (x + 1), .ref (x + 3), .ref (x + 24), .ref (x + 46), .ref (x + 74), .ref (x + 80), .ref (x + 132), .ref (x + 121)])) (hx_3 : Φ (x + 3) = some (o_ 3 [.ref (x + 4), .ref (x + 5), .ref (x + 6), .ref (x + 7), .int 1, .int 511])) (hx_6 : Φ (x + 6) = some (aq_ G 4 4 (va_up (va_up (va_up (va_up (fun _ => none) (0 : Int32).toNatClampNeg (some (x + 8))) (1 : Int32).toNatClampNeg (some (x + 12))) (2 : Int32).toNatClampNeg (some (x + 16))) (3 : Int32).toNatClampNeg (some (x + 20))))) (hx_7 : Φ (x + 7) = some (aq_ G 4 4 (va_up (va_up (va_up (va_up (fun _ => none) (0 : Int32).toNatClampNeg (some (x + 10))) (1 : Int32).toNatClampNeg (some (x + 14))) (2 : Int32).toNatClampNeg (some (x + 18))) (3 : Int32).toNatClampNeg (some (x + 22))))) (hx_8 : Φ (x + 8) = some (o_ 12 [.ref (x + 9), .int 9, .int 511, .int 29])) (hx_9 : Φ (x + 9) = some (ai_ G 9 (upd (upd (upd (upd (upd (upd (upd (upd (upd (fun _ => 0) (0 : Int32).toNatClampNeg 0) (1 : Int32).toNatClampNeg 1) (2 : Int32).toNatClampNeg 2) (3 : Int32).toNatClampNeg 3) (4 : Int32).toNatClampNeg 4) (5 : Int32).toNatClampNeg 5) (6 : Int32).toNatClampNeg 6) (7 : Int32).toNatClampNeg 7) (8 : Int32).toNatClampNeg 8))) (hx_10 : Φ (x + 10) = some (o_ 12 [.ref (x + 11), .int 9, .int 511, .int 29])) (hx_11 : Φ (x + 11) = some (ai_ G 9 (upd (upd (upd (upd (upd (upd (upd (upd (upd (fun _ => 0) (0 : Int32).toNatClampNeg 0) (1 : Int32).toNatClampNeg 1) (2 : Int32).toNatClampNeg 2) (3 : Int32).toNatClampNeg 3) (4 : Int32).toNatClampNeg 4) (5 : Int32).toNatClampNeg 5) (6 : Int32).toNatClampNeg 6) (7 : Int32).toNatClampNeg 7) (8 : Int32).toNatClampNeg 8))) (hx_12 : Φ (x + 12) = some (o_ 12 [.ref (x + 13), .int 0, .int 0, .int 0])) (hx_14 : Φ (x + 14) = some (o_ 12 [.ref (x + 15), .int 0, .int 0, .int 0])) (hx_16 : Φ (x + 16) = some (o_ 12 [.ref (x + 17), .int 0, .int 0, .int 0])) (hx_18 : Φ (x + 18) = some (o_ 12 [.ref (x + 19), .int 0, .int 0, .int 0])) (hx_20 : Φ (x + 20) = some (o_ 12 [.ref (x + 21), .int 0, .int 0, .int 0])) (hx_22 : Φ (x + 22) = some (o_ 12 [.ref (x + 23), .int 0, .int 0, .int 0])) (hx_74 : Φ (x + 74) = some (o_ 10 [.ref (x + 3), .ref (x + 46), .ref (x + 75), .ref (x + 77), .int 0, .ref (x + 78), .ref (x + 79), .int 0, .long 0, .int 0])) (hx_78 : Φ (x + 78) = some (ai_ G 4 (fun _ => 0))) (hy_0 : Φ y = some (o_ 14 [.int 0, .ref (y + 1), .ref (y + 2), .int 0, .int 1, .int 1, .int 0, .int 0, .ref (y + 3), .ref (y + 4), .int 0, .long 0, .ref (y + 5), .int 0, .int 0, .long 0, .long 0, .long 0, .long 0, .ref (y + 6), .ref (y + 7), .int 0, .ref (y + 8), .int 0, .ref (y + 9), .ref (y + 10), .int 0, .ref (y + 11), .ref (y + 12), .ref (y + 13), .ref (y + 14), .ref (y + 15), .ref (y + 16), .int 0, .long (-1), .ref (y + 17), .ref (y + 18), .ref (y + 19), .ref (y + 20), .ref (y + 21), .ref (y + 22), .int 0, .ref (y + 23), .ref (y + 24), .int 0, .ref (y + 25), .int 0, .int 0, .int 0, .int (-1), .int 0, .int 0, .int 0, .long 0])) (hy_2 : Φ (y + 2) = some (ai_ G 307 (upd (upd (upd (upd (upd (upd (upd (upd (upd (upd (upd (upd (upd (upd (upd (upd (upd (upd (upd (upd (upd (fun _ => 0) (0 : Int32).toNatClampNeg 1) (1 : Int32).toNatClampNeg 100) (2 : Int32).toNatClampNeg 1000) (3 : Int32).toNatClampNeg 100) (4 : Int32).toNatClampNeg 20) (5 : Int32).toNatClampNeg 1000) (6 : Int32).toNatClampNeg 5000) (7 : Int32).toNatClampNeg 512) (8 : Int32).toNatClampNeg 1) (9 : Int32).toNatClampNeg 511) (10 : Int32).toNatClampNeg 1) (11 : Int32).toNatClampNeg 9) (15 : Int32).toNatClampNeg 0) (16 : Int32).toNatClampNeg 1) (17 : Int32).toNatClampNeg 2) (18 : Int32).toNatClampNeg 3) (19 : Int32).toNatClampNeg 4) (20 : Int32).toNatClampNeg 5) (21 : Int32).toNatClampNeg 6) (22 : Int32).toNatClampNeg 7) (23 : Int32).toNatClampNeg 8))) (hy_3 : Φ (y + 3) = some (ai_ G 4 (upd (upd (upd (upd (fun _ => 0) (0 : Int32).toNatClampNeg (-1)) (1 : Int32).toNatClampNeg (-1)) (2 : Int32).toNatClampNeg (-1)) (3 : Int32).toNatClampNeg (-1)))) (hco : Φ o = some (al_ G 1 go)) (hx1 : xs 1 = 6) (hx2 : xs 2 = 0) (hT : ∀ (Φ1 : Hm) (sz1 : Nat), Z p9 l e9 room_1 s9 m9 a9 w9 t9 k9 Q9 G 9 2893 [(5, .int 0), (4, .ref d), (3, .ref o), (2, .ref y), (1, .ref x), (0, .ref b)] [] Φ1 sz1 178 20844) : Z p9 l e9 room_1 s9 m9 a9 w9 t9 k9 Q9 G 9 1190 [(5, .int 0), (4, .ref d), (3, .ref o), (2, .ref y), (1, .ref x), (0, .ref b)] [] Φ sz 177 20838 := by
  refine z_aload_n B dL_law_1190 rfl 4 rfl ?_
  refine z_aload_n B dL_law_1191 rfl 5 rfl ?_
  refine z_iload B dL_law_1192 0 rfl ?_
  refine z_iconst (v := 1) B dL_law_1194 rfl ?_
  refine z_iadd B dL_law_1195 ?_
  refine z_top (st1 := [.int 1, .ref b, .ref x]) (congrArg (fun w9 : Int32 => ([.int w9, .ref b, .ref x] : List Value)) (show (0 + 1 : Int32) = 1 by decide +kernel)) ?_
  refine z_sald B hX hbn (vin rfl) dL_law_1196 ?_
  refine z_top (st1 := [.int 6, .ref x]) (congrArg (fun w9 : Int32 => ([.int w9, .ref x] : List Value)) (show xs (1 : Int32).toNatClampNeg = 6 from hx1)) ?_
  refine z_aload_n B dL_law_1197 rfl 5 rfl ?_
  refine z_iload B dL_law_1198 0 rfl ?_
  refine z_iconst (v := 2) B dL_law_1200 rfl ?_
  refine z_iadd B dL_law_1201 ?_
  refine z_top (st1 := [.int 2, .ref b, .int 6, .ref x]) (congrArg (fun w9 : Int32 => ([.int w9, .ref b, .int 6, .ref x] : List Value)) (show (0 + 2 : Int32) = 2 by decide +kernel)) ?_
  refine z_sald B hX hbn (vin rfl) dL_law_1202 ?_
  refine z_top (st1 := [.int 0, .int 6, .ref x]) (congrArg (fun w9 : Int32 => ([.int w9, .int 6, .ref x] : List Value)) (show xs (2 : Int32).toNatClampNeg = 0 from hx2)) ?_
  refine z_if_eq (tgt := 1210) B dL_law_1203 rfl (fun c_1 => ?_) (fun h9 => absurd rfl h9)
  refine z_iconst (v := 0) B dL_law_1210 rfl ?_
  refine z_aload_n B dL_law_1211 rfl 2 rfl ?_
  refine z_callSW (As := [.ref x, .int 6, .int 0, .ref o]) (rest := []) B (w_setSupport_6_0 G l Φ sz x o go hx_0 hx_3 hx_6 hx_7 hx_8 hx_9 hx_10 hx_11 hx_12 hx_14 hx_16 hx_18 hx_20 hx_22 hx_74 hx_78 hco hna (Nat.le_trans hxy (Nat.le_trans (Nat.le_add_right y 26) hyo))) (vx_cwSW 4 B.1.2.2.2.2 gL_law_L_setSupport rfl rfl rfl (by decide +kernel) ⟨Nat.le_of_ble_eq_true rfl, Nat.le_of_ble_eq_true rfl⟩) rfl rfl (Nat.le_of_ble_eq_true rfl) dL_law_1212 ⟨Nat.le_of_ble_eq_true rfl, Nat.le_of_ble_eq_true rfl⟩ (fun v1 Φ1 sz1 st1 hp1 hs1 => ?_)
  obtain ⟨rfl, fr1, g1, ho1, hg1⟩ := hp1
  replace hs1 : st1 = [.int 0] := hs1
  subst st1
  refine z_istore (lv' := [(6, .int 0), (5, .int 0), (4, .ref d), (3, .ref o), (2, .ref y), (1, .ref x), (0, .ref b)]) B dL_law_1215 (Nat.le_of_ble_eq_true rfl) rfl ?_
  refine z_aload_n B dL_law_1217 rfl 4 rfl ?_
  refine z_aload_n B dL_law_1218 rfl 6 rfl ?_
  refine z_iload B dL_law_1219 1 rfl ?_
  refine z_iconst (v := 1) B dL_law_1221 rfl ?_
  refine z_iadd B dL_law_1222 ?_
  refine z_top (st1 := [.int 1, .ref b, .ref y]) (congrArg (fun w9 : Int32 => ([.int w9, .ref b, .ref y] : List Value)) (show (0 + 1 : Int32) = 1 by decide +kernel)) ?_
  refine z_sald B hX hbn (vin rfl) dL_law_1223 ?_
  refine z_top (st1 := [.int 6, .ref y]) (congrArg (fun w9 : Int32 => ([.int w9, .ref y] : List Value)) (show xs (1 : Int32).toNatClampNeg = 6 from hx1)) ?_
  refine z_aload_n B dL_law_1224 rfl 6 rfl ?_
  refine z_iload B dL_law_1225 1 rfl ?_
  refine z_iconst (v := 2) B dL_law_1227 rfl ?_
  refine z_iadd B dL_law_1228 ?_
  refine z_top (st1 := [.int 2, .ref b, .int 6, .ref y]) (congrArg (fun w9 : Int32 => ([.int w9, .ref b, .int 6, .ref y] : List Value)) (show (0 + 2 : Int32) = 2 by decide +kernel)) ?_
  refine z_sald B hX hbn (vin rfl) dL_law_1229 ?_
  refine z_top (st1 := [.int 0, .int 6, .ref y]) (congrArg (fun w9 : Int32 => ([.int w9, .int 6, .ref y] : List Value)) (show xs (2 : Int32).toNatClampNeg = 0 from hx2)) ?_
  refine z_if_eq (tgt := 1237) B dL_law_1230 rfl (fun c_2 => ?_) (fun h9 => absurd rfl h9)
  refine z_iconst (v := 0) B dL_law_1237 rfl ?_
  have h_1 : Φ1 y = some (o_ 14 [.int 0, .ref (y + 1), .ref (y + 2), .int 0, .int 1, .int 1, .int 0, .int 0, .ref (y + 3), .ref (y + 4), .int 0, .long 0, .ref (y + 5), .int 0, .int 0, .long 0, .long 0, .long 0, .long 0, .ref (y + 6), .ref (y + 7), .int 0, .ref (y + 8), .int 0, .ref (y + 9), .ref (y + 10), .int 0, .ref (y + 11), .ref (y + 12), .ref (y + 13), .ref (y + 14), .ref (y + 15), .ref (y + 16), .int 0, .long (-1), .ref (y + 17), .ref (y + 18), .ref (y + 19), .ref (y + 20), .ref (y + 21), .ref (y + 22), .int 0, .ref (y + 23), .ref (y + 24), .int 0, .ref (y + 25), .int 0, .int 0, .int 0, .int (-1), .int 0, .int 0, .int 0, .long 0]) := ((fr1 y hxy (Nat.ne_of_lt (Nat.lt_of_lt_of_le (lt_off (x := y) (i := 0) (j := 26) rfl) hyo))).trans hy_0)
  have h_2 : Φ1 (y + 2) = some (ai_ G 307 (upd (upd (upd (upd (upd (upd (upd (upd (upd (upd (upd (upd (upd (upd (upd (upd (upd (upd (upd (upd (upd (fun _ => 0) (0 : Int32).toNatClampNeg 1) (1 : Int32).toNatClampNeg 100) (2 : Int32).toNatClampNeg 1000) (3 : Int32).toNatClampNeg 100) (4 : Int32).toNatClampNeg 20) (5 : Int32).toNatClampNeg 1000) (6 : Int32).toNatClampNeg 5000) (7 : Int32).toNatClampNeg 512) (8 : Int32).toNatClampNeg 1) (9 : Int32).toNatClampNeg 511) (10 : Int32).toNatClampNeg 1) (11 : Int32).toNatClampNeg 9) (15 : Int32).toNatClampNeg 0) (16 : Int32).toNatClampNeg 1) (17 : Int32).toNatClampNeg 2) (18 : Int32).toNatClampNeg 3) (19 : Int32).toNatClampNeg 4) (20 : Int32).toNatClampNeg 5) (21 : Int32).toNatClampNeg 6) (22 : Int32).toNatClampNeg 7) (23 : Int32).toNatClampNeg 8)) := ((fr1 (y + 2) (Nat.le_trans hxy (Nat.le_add_right y 2)) (Nat.ne_of_lt (Nat.lt_of_lt_of_le (lt_off (x := y) (i := 2) (j := 26) rfl) hyo))).trans hy_2)
  have h_3 : Φ1 (y + 3) = some (ai_ G 4 (upd (upd (upd (upd (fun _ => 0) (0 : Int32).toNatClampNeg (-1)) (1 : Int32).toNatClampNeg (-1)) (2 : Int32).toNatClampNeg (-1)) (3 : Int32).toNatClampNeg (-1))) := ((fr1 (y + 3) (Nat.le_trans hxy (Nat.le_add_right y 3)) (Nat.ne_of_lt (Nat.lt_of_lt_of_le (lt_off (x := y) (i := 3) (j := 26) rfl) hyo))).trans hy_3)
  refine z_callV (As := [.int 6, .int 0]) (rest := []) B (m_X12_setSupport_6_0 G l Φ1 sz1 y h_1 h_2 h_3 (Nat.le_trans hna (Nat.le_trans (Nat.le_add_right x 149) hxy))) (cwV 2 B.1.2.2.2.2 gL_law_X12_setSupport rfl rfl rfl (by decide +kernel) ⟨Nat.le_of_ble_eq_true rfl, Nat.le_of_ble_eq_true rfl⟩) h_1 rfl rfl rfl rfl (Nat.le_of_ble_eq_true rfl) dL_law_1238 ⟨Nat.le_of_ble_eq_true rfl, Nat.le_of_ble_eq_true rfl⟩ (fun v2 Φ2 sz2 st2 hp2 hs2 => ?_)
  obtain ⟨rfl, ⟨fs1, hy1, hk1⟩, fr2⟩ := hp2
  replace hs2 : st2 = [.int 1] := hs2
  subst st2
  refine z_istore (lv' := [(7, .int 1), (6, .int 0), (5, .int 0), (4, .ref d), (3, .ref o), (2, .ref y), (1, .ref x), (0, .ref b)]) B dL_law_1241 (Nat.le_of_ble_eq_true rfl) rfl ?_
  refine z_aload_n B dL_law_1243 rfl 5 rfl ?_
  refine z_callV (As := []) (rest := []) B (m_thrown G l Φ2 sz2 y fs1 0 hy1 hk1) (cwV 0 B.1.2.2.2.2 gL_law_X12_thrown rfl rfl rfl (by decide +kernel) ⟨Nat.le_of_ble_eq_true rfl, Nat.le_of_ble_eq_true rfl⟩) hy1 rfl rfl rfl rfl (Nat.le_of_ble_eq_true rfl) dL_law_1244 ⟨Nat.le_of_ble_eq_true rfl, Nat.le_of_ble_eq_true rfl⟩ (fun v3 Φ3 sz3 st3 hp3 hs3 => ?_)
  obtain ⟨rfl, he1⟩ := hp3
  replace hs3 : st3 = [.int 0] := hs3
  subst st3
  rw [he1]
  refine z_iload B dL_law_1247 1 rfl ?_
  refine z_icmp_eq (tgt := 1254) B dL_law_1249 rfl (fun c_3 => ?_) (fun h9 => absurd (by decide) h9)
  refine z_iload B dL_law_1254 1 rfl ?_
  refine z_if_ne (tgt := 1278) B dL_law_1256 rfl (fun h9 => absurd (by decide) h9) (fun c_4 => ?_)
  refine z_aload_n B dL_law_1259 rfl 4 rfl ?_
  refine z_iconst (v := 0) B dL_law_1260 rfl ?_
  have h_4 : Φ2 o = some (al_ G 1 g1) := ((fr2 o hyo).trans ho1)
  refine z_lald B h_4 (vin rfl) dL_law_1261 ?_
  refine z_top (st1 := [.long 1]) (congrArg (fun w9 : Int64 => ([.long w9] : List Value)) (show g1 (0 : Int32).toNatClampNeg = 1 from hg1)) ?_
  refine z_iload B dL_law_1262 0 rfl ?_
  refine z_if_eq (tgt := 1271) B dL_law_1264 rfl (fun h9 => absurd h9 (by decide)) (fun c_5 => ?_)
  refine z_lconst (v := 1) B dL_law_1267 rfl ?_
  refine z_goto (tgt := 1272) B dL_law_1268 rfl ?_
  refine z_lcmp B dL_law_1272 ?_
  refine z_top (st1 := [.int 0]) (congrArg (fun w9 : Int32 => ([.int w9] : List Value)) (show (lg_cmp 1 1 : Int32) = 0 by decide +kernel)) ?_
  refine z_if_eq (tgt := 1278) B dL_law_1273 rfl (fun c_6 => ?_) (fun h9 => absurd (by decide) h9)
  refine z_goto (tgt := 2893) B dL_law_1278 rfl ?_
  refine z_lv [2, 3, 4, 5, 6, 7] rfl ?_
  refine z_widen (k := 178) (n := 20844) (Nat.le_of_ble_eq_true rfl) (Nat.le_of_ble_eq_true rfl) ?_
  exact hT _ _

set_option maxHeartbeats 4000000 in
set_option maxRecDepth 100000 in
theorem lc_22_6_1 {p9 : Program} {e9 : Env} {s9 : State} {m9 : MethodId} {a9 : Array Value} {w9 : List Frame} {t9 : Method} {k9 : Code} {Q9 : State → Prop} {nm9 : String} (G : EnvG) (l : Launch) (hl9 : l.stackTraces = false) (B : Bd p9 s9 m9 a9 t9 k9 G code 9 RL wsL_law ret nm9) (Φ : Hm) (sz : Nat) (b : Nat) (xs : Nat → Int32) (hX : va_X b 7 xs s9 s9.heap) (hbn : b < G.2.2.2) (x y o d : Nat) (a2 : Int32) (go : Nat → Int64) (gd : Nat → UInt64) (hna : G.2.2.2 ≤ x) (hxy : x + 149 ≤ y) (hyo : y + 26 ≤ o) (hyd : y + 26 ≤ d) (hod : o ≠ d) (hx_0 : Φ x = some (o_ 13 [.ref (x + 1), .ref (x + 3), .ref (x + 24), .ref (x + 46), .ref (x + 74), .ref (x + 80), .ref (x + 132), .ref (x + 121)])) (hx_3 : Φ (x + 3) = some (o_ 3 [.ref (x + 4), .ref (x + 5), .ref (x + 6), .ref (x + 7), .int 1, .int 511])) (hy_0 : Φ y = some (o_ 14 [.int 0, .ref (y + 1), .ref (y + 2), .int 0, .int 1, .int 1, .int 0, .int 0, .ref (y + 3), .ref (y + 4), .int 0, .long 0, .ref (y + 5), .int 0, .int 0, .long 0, .long 0, .long 0, .long 0, .ref (y + 6), .ref (y + 7), .int 0, .ref (y + 8), .int 0, .ref (y + 9), .ref (y + 10), .int 0, .ref (y + 11), .ref (y + 12), .ref (y + 13), .ref (y + 14), .ref (y + 15), .ref (y + 16), .int 0, .long (-1), .ref (y + 17), .ref (y + 18), .ref (y + 19), .ref (y + 20), .ref (y + 21), .ref (y + 22), .int 0, .ref (y + 23), .ref (y + 24), .int 0, .ref (y + 25), .int 0, .int 0, .int 0, .int (-1), .int 0, .int 0, .int 0, .long 0])) (hy_2 : Φ (y + 2) = some (ai_ G 307 (upd (upd (upd (upd (upd (upd (upd (upd (upd (upd (upd (upd (upd (upd (upd (upd (upd (upd (upd (upd (upd (fun _ => 0) (0 : Int32).toNatClampNeg 1) (1 : Int32).toNatClampNeg 100) (2 : Int32).toNatClampNeg 1000) (3 : Int32).toNatClampNeg 100) (4 : Int32).toNatClampNeg 20) (5 : Int32).toNatClampNeg 1000) (6 : Int32).toNatClampNeg 5000) (7 : Int32).toNatClampNeg 512) (8 : Int32).toNatClampNeg 1) (9 : Int32).toNatClampNeg 511) (10 : Int32).toNatClampNeg 1) (11 : Int32).toNatClampNeg 9) (15 : Int32).toNatClampNeg 0) (16 : Int32).toNatClampNeg 1) (17 : Int32).toNatClampNeg 2) (18 : Int32).toNatClampNeg 3) (19 : Int32).toNatClampNeg 4) (20 : Int32).toNatClampNeg 5) (21 : Int32).toNatClampNeg 6) (22 : Int32).toNatClampNeg 7) (23 : Int32).toNatClampNeg 8))) (hco : Φ o = some (al_ G 1 go)) (hx1 : xs 1 = 6) (hx2 : xs 2 = a2) (hbz : a2 ≠ 0) (hT : ∀ (Φ1 : Hm) (sz1 : Nat), Z p9 l e9 room_1 s9 m9 a9 w9 t9 k9 Q9 G 9 2893 [(5, .int 0), (4, .ref d), (3, .ref o), (2, .ref y), (1, .ref x), (0, .ref b)] [] Φ1 sz1 178 20844) : Z p9 l e9 room_1 s9 m9 a9 w9 t9 k9 Q9 G 9 1190 [(5, .int 0), (4, .ref d), (3, .ref o), (2, .ref y), (1, .ref x), (0, .ref b)] [] Φ sz 177 20838 := by
  refine z_aload_n B dL_law_1190 rfl 4 rfl ?_
  refine z_aload_n B dL_law_1191 rfl 5 rfl ?_
  refine z_iload B dL_law_1192 0 rfl ?_
  refine z_iconst (v := 1) B dL_law_1194 rfl ?_
  refine z_iadd B dL_law_1195 ?_
  refine z_top (st1 := [.int 1, .ref b, .ref x]) (congrArg (fun w9 : Int32 => ([.int w9, .ref b, .ref x] : List Value)) (show (0 + 1 : Int32) = 1 by decide +kernel)) ?_
  refine z_sald B hX hbn (vin rfl) dL_law_1196 ?_
  refine z_top (st1 := [.int 6, .ref x]) (congrArg (fun w9 : Int32 => ([.int w9, .ref x] : List Value)) (show xs (1 : Int32).toNatClampNeg = 6 from hx1)) ?_
  refine z_aload_n B dL_law_1197 rfl 5 rfl ?_
  refine z_iload B dL_law_1198 0 rfl ?_
  refine z_iconst (v := 2) B dL_law_1200 rfl ?_
  refine z_iadd B dL_law_1201 ?_
  refine z_top (st1 := [.int 2, .ref b, .int 6, .ref x]) (congrArg (fun w9 : Int32 => ([.int w9, .ref b, .int 6, .ref x] : List Value)) (show (0 + 2 : Int32) = 2 by decide +kernel)) ?_
  refine z_sald B hX hbn (vin rfl) dL_law_1202 ?_
  refine z_top (st1 := [.int a2, .int 6, .ref x]) (congrArg (fun w9 : Int32 => ([.int w9, .int 6, .ref x] : List Value)) (show xs (2 : Int32).toNatClampNeg = a2 from hx2)) ?_
  refine z_if_eq (tgt := 1210) B dL_law_1203 rfl (fun h9 => absurd h9 hbz) (fun c_1 => ?_)
  refine z_iconst (v := 1) B dL_law_1206 rfl ?_
  refine z_goto (tgt := 1211) B dL_law_1207 rfl ?_
  refine z_aload_n B dL_law_1211 rfl 2 rfl ?_
  refine z_callSW (As := [.ref x, .int 6, .int 1, .ref o]) (rest := []) B (w_setSupport_6_1 G l Φ sz x o go hx_0 hx_3 hco hna (Nat.le_trans hxy (Nat.le_trans (Nat.le_add_right y 26) hyo))) (vx_cwSW 4 B.1.2.2.2.2 gL_law_L_setSupport rfl rfl rfl (by decide +kernel) ⟨Nat.le_of_ble_eq_true rfl, Nat.le_of_ble_eq_true rfl⟩) rfl rfl (Nat.le_of_ble_eq_true rfl) dL_law_1212 ⟨Nat.le_of_ble_eq_true rfl, Nat.le_of_ble_eq_true rfl⟩ (fun v1 Φ1 sz1 st1 hp1 hs1 => ?_)
  obtain ⟨rfl, fr1, g1, ho1, hg1⟩ := hp1
  replace hs1 : st1 = [.int 0] := hs1
  subst st1
  refine z_istore (lv' := [(6, .int 0), (5, .int 0), (4, .ref d), (3, .ref o), (2, .ref y), (1, .ref x), (0, .ref b)]) B dL_law_1215 (Nat.le_of_ble_eq_true rfl) rfl ?_
  refine z_aload_n B dL_law_1217 rfl 4 rfl ?_
  refine z_aload_n B dL_law_1218 rfl 6 rfl ?_
  refine z_iload B dL_law_1219 1 rfl ?_
  refine z_iconst (v := 1) B dL_law_1221 rfl ?_
  refine z_iadd B dL_law_1222 ?_
  refine z_top (st1 := [.int 1, .ref b, .ref y]) (congrArg (fun w9 : Int32 => ([.int w9, .ref b, .ref y] : List Value)) (show (0 + 1 : Int32) = 1 by decide +kernel)) ?_
  refine z_sald B hX hbn (vin rfl) dL_law_1223 ?_
  refine z_top (st1 := [.int 6, .ref y]) (congrArg (fun w9 : Int32 => ([.int w9, .ref y] : List Value)) (show xs (1 : Int32).toNatClampNeg = 6 from hx1)) ?_
  refine z_aload_n B dL_law_1224 rfl 6 rfl ?_
  refine z_iload B dL_law_1225 1 rfl ?_
  refine z_iconst (v := 2) B dL_law_1227 rfl ?_
  refine z_iadd B dL_law_1228 ?_
  refine z_top (st1 := [.int 2, .ref b, .int 6, .ref y]) (congrArg (fun w9 : Int32 => ([.int w9, .ref b, .int 6, .ref y] : List Value)) (show (0 + 2 : Int32) = 2 by decide +kernel)) ?_
  refine z_sald B hX hbn (vin rfl) dL_law_1229 ?_
  refine z_top (st1 := [.int a2, .int 6, .ref y]) (congrArg (fun w9 : Int32 => ([.int w9, .int 6, .ref y] : List Value)) (show xs (2 : Int32).toNatClampNeg = a2 from hx2)) ?_
  refine z_if_eq (tgt := 1237) B dL_law_1230 rfl (fun h9 => absurd h9 hbz) (fun c_2 => ?_)
  refine z_iconst (v := 1) B dL_law_1233 rfl ?_
  refine z_goto (tgt := 1238) B dL_law_1234 rfl ?_
  have h_1 : Φ1 y = some (o_ 14 [.int 0, .ref (y + 1), .ref (y + 2), .int 0, .int 1, .int 1, .int 0, .int 0, .ref (y + 3), .ref (y + 4), .int 0, .long 0, .ref (y + 5), .int 0, .int 0, .long 0, .long 0, .long 0, .long 0, .ref (y + 6), .ref (y + 7), .int 0, .ref (y + 8), .int 0, .ref (y + 9), .ref (y + 10), .int 0, .ref (y + 11), .ref (y + 12), .ref (y + 13), .ref (y + 14), .ref (y + 15), .ref (y + 16), .int 0, .long (-1), .ref (y + 17), .ref (y + 18), .ref (y + 19), .ref (y + 20), .ref (y + 21), .ref (y + 22), .int 0, .ref (y + 23), .ref (y + 24), .int 0, .ref (y + 25), .int 0, .int 0, .int 0, .int (-1), .int 0, .int 0, .int 0, .long 0]) := ((fr1 y hxy (Nat.ne_of_lt (Nat.lt_of_lt_of_le (lt_off (x := y) (i := 0) (j := 26) rfl) hyo))).trans hy_0)
  have h_2 : Φ1 (y + 2) = some (ai_ G 307 (upd (upd (upd (upd (upd (upd (upd (upd (upd (upd (upd (upd (upd (upd (upd (upd (upd (upd (upd (upd (upd (fun _ => 0) (0 : Int32).toNatClampNeg 1) (1 : Int32).toNatClampNeg 100) (2 : Int32).toNatClampNeg 1000) (3 : Int32).toNatClampNeg 100) (4 : Int32).toNatClampNeg 20) (5 : Int32).toNatClampNeg 1000) (6 : Int32).toNatClampNeg 5000) (7 : Int32).toNatClampNeg 512) (8 : Int32).toNatClampNeg 1) (9 : Int32).toNatClampNeg 511) (10 : Int32).toNatClampNeg 1) (11 : Int32).toNatClampNeg 9) (15 : Int32).toNatClampNeg 0) (16 : Int32).toNatClampNeg 1) (17 : Int32).toNatClampNeg 2) (18 : Int32).toNatClampNeg 3) (19 : Int32).toNatClampNeg 4) (20 : Int32).toNatClampNeg 5) (21 : Int32).toNatClampNeg 6) (22 : Int32).toNatClampNeg 7) (23 : Int32).toNatClampNeg 8)) := ((fr1 (y + 2) (Nat.le_trans hxy (Nat.le_add_right y 2)) (Nat.ne_of_lt (Nat.lt_of_lt_of_le (lt_off (x := y) (i := 2) (j := 26) rfl) hyo))).trans hy_2)
  refine z_callV (As := [.int 6, .int 1]) (rest := []) B (m_X12_setSupport_6_1 G l Φ1 sz1 y h_1 h_2 (Nat.le_trans hna (Nat.le_trans (Nat.le_add_right x 149) hxy))) (cwV 2 B.1.2.2.2.2 gL_law_X12_setSupport rfl rfl rfl (by decide +kernel) ⟨Nat.le_of_ble_eq_true rfl, Nat.le_of_ble_eq_true rfl⟩) h_1 rfl rfl rfl rfl (Nat.le_of_ble_eq_true rfl) dL_law_1238 ⟨Nat.le_of_ble_eq_true rfl, Nat.le_of_ble_eq_true rfl⟩ (fun v2 Φ2 sz2 st2 hp2 hs2 => ?_)
  obtain ⟨rfl, ⟨fs1, hy1, hk1⟩, fr2⟩ := hp2
  replace hs2 : st2 = [.int 1] := hs2
  subst st2
  refine z_istore (lv' := [(7, .int 1), (6, .int 0), (5, .int 0), (4, .ref d), (3, .ref o), (2, .ref y), (1, .ref x), (0, .ref b)]) B dL_law_1241 (Nat.le_of_ble_eq_true rfl) rfl ?_
  refine z_aload_n B dL_law_1243 rfl 5 rfl ?_
  refine z_callV (As := []) (rest := []) B (m_thrown G l Φ2 sz2 y fs1 0 hy1 hk1) (cwV 0 B.1.2.2.2.2 gL_law_X12_thrown rfl rfl rfl (by decide +kernel) ⟨Nat.le_of_ble_eq_true rfl, Nat.le_of_ble_eq_true rfl⟩) hy1 rfl rfl rfl rfl (Nat.le_of_ble_eq_true rfl) dL_law_1244 ⟨Nat.le_of_ble_eq_true rfl, Nat.le_of_ble_eq_true rfl⟩ (fun v3 Φ3 sz3 st3 hp3 hs3 => ?_)
  obtain ⟨rfl, he1⟩ := hp3
  replace hs3 : st3 = [.int 0] := hs3
  subst st3
  rw [he1]
  refine z_iload B dL_law_1247 1 rfl ?_
  refine z_icmp_eq (tgt := 1254) B dL_law_1249 rfl (fun c_3 => ?_) (fun h9 => absurd (by decide) h9)
  refine z_iload B dL_law_1254 1 rfl ?_
  refine z_if_ne (tgt := 1278) B dL_law_1256 rfl (fun h9 => absurd (by decide) h9) (fun c_4 => ?_)
  refine z_aload_n B dL_law_1259 rfl 4 rfl ?_
  refine z_iconst (v := 0) B dL_law_1260 rfl ?_
  have h_3 : Φ2 o = some (al_ G 1 g1) := ((fr2 o hyo).trans ho1)
  refine z_lald B h_3 (vin rfl) dL_law_1261 ?_
  refine z_top (st1 := [.long 1]) (congrArg (fun w9 : Int64 => ([.long w9] : List Value)) (show g1 (0 : Int32).toNatClampNeg = 1 from hg1)) ?_
  refine z_iload B dL_law_1262 0 rfl ?_
  refine z_if_eq (tgt := 1271) B dL_law_1264 rfl (fun h9 => absurd h9 (by decide)) (fun c_5 => ?_)
  refine z_lconst (v := 1) B dL_law_1267 rfl ?_
  refine z_goto (tgt := 1272) B dL_law_1268 rfl ?_
  refine z_lcmp B dL_law_1272 ?_
  refine z_top (st1 := [.int 0]) (congrArg (fun w9 : Int32 => ([.int w9] : List Value)) (show (lg_cmp 1 1 : Int32) = 0 by decide +kernel)) ?_
  refine z_if_eq (tgt := 1278) B dL_law_1273 rfl (fun c_6 => ?_) (fun h9 => absurd (by decide) h9)
  refine z_goto (tgt := 2893) B dL_law_1278 rfl ?_
  refine z_lv [2, 3, 4, 5, 6, 7] rfl ?_
  refine z_widen (k := 178) (n := 20844) (Nat.le_of_ble_eq_true rfl) (Nat.le_of_ble_eq_true rfl) ?_
  exact hT _ _

set_option maxHeartbeats 4000000 in
set_option maxRecDepth 100000 in
theorem lc_22_7_0 {p9 : Program} {e9 : Env} {s9 : State} {m9 : MethodId} {a9 : Array Value} {w9 : List Frame} {t9 : Method} {k9 : Code} {Q9 : State → Prop} {nm9 : String} (G : EnvG) (l : Launch) (hl9 : l.stackTraces = false) (B : Bd p9 s9 m9 a9 t9 k9 G code 9 RL wsL_law ret nm9) (Φ : Hm) (sz : Nat) (b : Nat) (xs : Nat → Int32) (hX : va_X b 7 xs s9 s9.heap) (hbn : b < G.2.2.2) (x y o d : Nat)  (go : Nat → Int64) (gd : Nat → UInt64) (hna : G.2.2.2 ≤ x) (hxy : x + 149 ≤ y) (hyo : y + 26 ≤ o) (hyd : y + 26 ≤ d) (hod : o ≠ d) (hx_0 : Φ x = some (o_ 13 [.ref (x + 1), .ref (x + 3), .ref (x + 24), .ref (x + 46), .ref (x + 74), .ref (x + 80), .ref (x + 132), .ref (x + 121)])) (hx_3 : Φ (x + 3) = some (o_ 3 [.ref (x + 4), .ref (x + 5), .ref (x + 6), .ref (x + 7), .int 1, .int 511])) (hx_6 : Φ (x + 6) = some (aq_ G 4 4 (va_up (va_up (va_up (va_up (fun _ => none) (0 : Int32).toNatClampNeg (some (x + 8))) (1 : Int32).toNatClampNeg (some (x + 12))) (2 : Int32).toNatClampNeg (some (x + 16))) (3 : Int32).toNatClampNeg (some (x + 20))))) (hx_7 : Φ (x + 7) = some (aq_ G 4 4 (va_up (va_up (va_up (va_up (fun _ => none) (0 : Int32).toNatClampNeg (some (x + 10))) (1 : Int32).toNatClampNeg (some (x + 14))) (2 : Int32).toNatClampNeg (some (x + 18))) (3 : Int32).toNatClampNeg (some (x + 22))))) (hx_8 : Φ (x + 8) = some (o_ 12 [.ref (x + 9), .int 9, .int 511, .int 29])) (hx_9 : Φ (x + 9) = some (ai_ G 9 (upd (upd (upd (upd (upd (upd (upd (upd (upd (fun _ => 0) (0 : Int32).toNatClampNeg 0) (1 : Int32).toNatClampNeg 1) (2 : Int32).toNatClampNeg 2) (3 : Int32).toNatClampNeg 3) (4 : Int32).toNatClampNeg 4) (5 : Int32).toNatClampNeg 5) (6 : Int32).toNatClampNeg 6) (7 : Int32).toNatClampNeg 7) (8 : Int32).toNatClampNeg 8))) (hx_10 : Φ (x + 10) = some (o_ 12 [.ref (x + 11), .int 9, .int 511, .int 29])) (hx_11 : Φ (x + 11) = some (ai_ G 9 (upd (upd (upd (upd (upd (upd (upd (upd (upd (fun _ => 0) (0 : Int32).toNatClampNeg 0) (1 : Int32).toNatClampNeg 1) (2 : Int32).toNatClampNeg 2) (3 : Int32).toNatClampNeg 3) (4 : Int32).toNatClampNeg 4) (5 : Int32).toNatClampNeg 5) (6 : Int32).toNatClampNeg 6) (7 : Int32).toNatClampNeg 7) (8 : Int32).toNatClampNeg 8))) (hx_12 : Φ (x + 12) = some (o_ 12 [.ref (x + 13), .int 0, .int 0, .int 0])) (hx_14 : Φ (x + 14) = some (o_ 12 [.ref (x + 15), .int 0, .int 0, .int 0])) (hx_16 : Φ (x + 16) = some (o_ 12 [.ref (x + 17), .int 0, .int 0, .int 0])) (hx_18 : Φ (x + 18) = some (o_ 12 [.ref (x + 19), .int 0, .int 0, .int 0])) (hx_20 : Φ (x + 20) = some (o_ 12 [.ref (x + 21), .int 0, .int 0, .int 0])) (hx_22 : Φ (x + 22) = some (o_ 12 [.ref (x + 23), .int 0, .int 0, .int 0])) (hx_74 : Φ (x + 74) = some (o_ 10 [.ref (x + 3), .ref (x + 46), .ref (x + 75), .ref (x + 77), .int 0, .ref (x + 78), .ref (x + 79), .int 0, .long 0, .int 0])) (hx_78 : Φ (x + 78) = some (ai_ G 4 (fun _ => 0))) (hy_0 : Φ y = some (o_ 14 [.int 0, .ref (y + 1), .ref (y + 2), .int 0, .int 1, .int 1, .int 0, .int 0, .ref (y + 3), .ref (y + 4), .int 0, .long 0, .ref (y + 5), .int 0, .int 0, .long 0, .long 0, .long 0, .long 0, .ref (y + 6), .ref (y + 7), .int 0, .ref (y + 8), .int 0, .ref (y + 9), .ref (y + 10), .int 0, .ref (y + 11), .ref (y + 12), .ref (y + 13), .ref (y + 14), .ref (y + 15), .ref (y + 16), .int 0, .long (-1), .ref (y + 17), .ref (y + 18), .ref (y + 19), .ref (y + 20), .ref (y + 21), .ref (y + 22), .int 0, .ref (y + 23), .ref (y + 24), .int 0, .ref (y + 25), .int 0, .int 0, .int 0, .int (-1), .int 0, .int 0, .int 0, .long 0])) (hy_2 : Φ (y + 2) = some (ai_ G 307 (upd (upd (upd (upd (upd (upd (upd (upd (upd (upd (upd (upd (upd (upd (upd (upd (upd (upd (upd (upd (upd (fun _ => 0) (0 : Int32).toNatClampNeg 1) (1 : Int32).toNatClampNeg 100) (2 : Int32).toNatClampNeg 1000) (3 : Int32).toNatClampNeg 100) (4 : Int32).toNatClampNeg 20) (5 : Int32).toNatClampNeg 1000) (6 : Int32).toNatClampNeg 5000) (7 : Int32).toNatClampNeg 512) (8 : Int32).toNatClampNeg 1) (9 : Int32).toNatClampNeg 511) (10 : Int32).toNatClampNeg 1) (11 : Int32).toNatClampNeg 9) (15 : Int32).toNatClampNeg 0) (16 : Int32).toNatClampNeg 1) (17 : Int32).toNatClampNeg 2) (18 : Int32).toNatClampNeg 3) (19 : Int32).toNatClampNeg 4) (20 : Int32).toNatClampNeg 5) (21 : Int32).toNatClampNeg 6) (22 : Int32).toNatClampNeg 7) (23 : Int32).toNatClampNeg 8))) (hy_3 : Φ (y + 3) = some (ai_ G 4 (upd (upd (upd (upd (fun _ => 0) (0 : Int32).toNatClampNeg (-1)) (1 : Int32).toNatClampNeg (-1)) (2 : Int32).toNatClampNeg (-1)) (3 : Int32).toNatClampNeg (-1)))) (hco : Φ o = some (al_ G 1 go)) (hx1 : xs 1 = 7) (hx2 : xs 2 = 0) (hT : ∀ (Φ1 : Hm) (sz1 : Nat), Z p9 l e9 room_1 s9 m9 a9 w9 t9 k9 Q9 G 9 2893 [(5, .int 0), (4, .ref d), (3, .ref o), (2, .ref y), (1, .ref x), (0, .ref b)] [] Φ1 sz1 178 20844) : Z p9 l e9 room_1 s9 m9 a9 w9 t9 k9 Q9 G 9 1190 [(5, .int 0), (4, .ref d), (3, .ref o), (2, .ref y), (1, .ref x), (0, .ref b)] [] Φ sz 177 20838 := by
  refine z_aload_n B dL_law_1190 rfl 4 rfl ?_
  refine z_aload_n B dL_law_1191 rfl 5 rfl ?_
  refine z_iload B dL_law_1192 0 rfl ?_
  refine z_iconst (v := 1) B dL_law_1194 rfl ?_
  refine z_iadd B dL_law_1195 ?_
  refine z_top (st1 := [.int 1, .ref b, .ref x]) (congrArg (fun w9 : Int32 => ([.int w9, .ref b, .ref x] : List Value)) (show (0 + 1 : Int32) = 1 by decide +kernel)) ?_
  refine z_sald B hX hbn (vin rfl) dL_law_1196 ?_
  refine z_top (st1 := [.int 7, .ref x]) (congrArg (fun w9 : Int32 => ([.int w9, .ref x] : List Value)) (show xs (1 : Int32).toNatClampNeg = 7 from hx1)) ?_
  refine z_aload_n B dL_law_1197 rfl 5 rfl ?_
  refine z_iload B dL_law_1198 0 rfl ?_
  refine z_iconst (v := 2) B dL_law_1200 rfl ?_
  refine z_iadd B dL_law_1201 ?_
  refine z_top (st1 := [.int 2, .ref b, .int 7, .ref x]) (congrArg (fun w9 : Int32 => ([.int w9, .ref b, .int 7, .ref x] : List Value)) (show (0 + 2 : Int32) = 2 by decide +kernel)) ?_
  refine z_sald B hX hbn (vin rfl) dL_law_1202 ?_
  refine z_top (st1 := [.int 0, .int 7, .ref x]) (congrArg (fun w9 : Int32 => ([.int w9, .int 7, .ref x] : List Value)) (show xs (2 : Int32).toNatClampNeg = 0 from hx2)) ?_
  refine z_if_eq (tgt := 1210) B dL_law_1203 rfl (fun c_1 => ?_) (fun h9 => absurd rfl h9)
  refine z_iconst (v := 0) B dL_law_1210 rfl ?_
  refine z_aload_n B dL_law_1211 rfl 2 rfl ?_
  refine z_callSW (As := [.ref x, .int 7, .int 0, .ref o]) (rest := []) B (w_setSupport_7_0 G l Φ sz x o go hx_0 hx_3 hx_6 hx_7 hx_8 hx_9 hx_10 hx_11 hx_12 hx_14 hx_16 hx_18 hx_20 hx_22 hx_74 hx_78 hco hna (Nat.le_trans hxy (Nat.le_trans (Nat.le_add_right y 26) hyo))) (vx_cwSW 4 B.1.2.2.2.2 gL_law_L_setSupport rfl rfl rfl (by decide +kernel) ⟨Nat.le_of_ble_eq_true rfl, Nat.le_of_ble_eq_true rfl⟩) rfl rfl (Nat.le_of_ble_eq_true rfl) dL_law_1212 ⟨Nat.le_of_ble_eq_true rfl, Nat.le_of_ble_eq_true rfl⟩ (fun v1 Φ1 sz1 st1 hp1 hs1 => ?_)
  obtain ⟨rfl, fr1, g1, ho1, hg1⟩ := hp1
  replace hs1 : st1 = [.int 0] := hs1
  subst st1
  refine z_istore (lv' := [(6, .int 0), (5, .int 0), (4, .ref d), (3, .ref o), (2, .ref y), (1, .ref x), (0, .ref b)]) B dL_law_1215 (Nat.le_of_ble_eq_true rfl) rfl ?_
  refine z_aload_n B dL_law_1217 rfl 4 rfl ?_
  refine z_aload_n B dL_law_1218 rfl 6 rfl ?_
  refine z_iload B dL_law_1219 1 rfl ?_
  refine z_iconst (v := 1) B dL_law_1221 rfl ?_
  refine z_iadd B dL_law_1222 ?_
  refine z_top (st1 := [.int 1, .ref b, .ref y]) (congrArg (fun w9 : Int32 => ([.int w9, .ref b, .ref y] : List Value)) (show (0 + 1 : Int32) = 1 by decide +kernel)) ?_
  refine z_sald B hX hbn (vin rfl) dL_law_1223 ?_
  refine z_top (st1 := [.int 7, .ref y]) (congrArg (fun w9 : Int32 => ([.int w9, .ref y] : List Value)) (show xs (1 : Int32).toNatClampNeg = 7 from hx1)) ?_
  refine z_aload_n B dL_law_1224 rfl 6 rfl ?_
  refine z_iload B dL_law_1225 1 rfl ?_
  refine z_iconst (v := 2) B dL_law_1227 rfl ?_
  refine z_iadd B dL_law_1228 ?_
  refine z_top (st1 := [.int 2, .ref b, .int 7, .ref y]) (congrArg (fun w9 : Int32 => ([.int w9, .ref b, .int 7, .ref y] : List Value)) (show (0 + 2 : Int32) = 2 by decide +kernel)) ?_
  refine z_sald B hX hbn (vin rfl) dL_law_1229 ?_
  refine z_top (st1 := [.int 0, .int 7, .ref y]) (congrArg (fun w9 : Int32 => ([.int w9, .int 7, .ref y] : List Value)) (show xs (2 : Int32).toNatClampNeg = 0 from hx2)) ?_
  refine z_if_eq (tgt := 1237) B dL_law_1230 rfl (fun c_2 => ?_) (fun h9 => absurd rfl h9)
  refine z_iconst (v := 0) B dL_law_1237 rfl ?_
  have h_1 : Φ1 y = some (o_ 14 [.int 0, .ref (y + 1), .ref (y + 2), .int 0, .int 1, .int 1, .int 0, .int 0, .ref (y + 3), .ref (y + 4), .int 0, .long 0, .ref (y + 5), .int 0, .int 0, .long 0, .long 0, .long 0, .long 0, .ref (y + 6), .ref (y + 7), .int 0, .ref (y + 8), .int 0, .ref (y + 9), .ref (y + 10), .int 0, .ref (y + 11), .ref (y + 12), .ref (y + 13), .ref (y + 14), .ref (y + 15), .ref (y + 16), .int 0, .long (-1), .ref (y + 17), .ref (y + 18), .ref (y + 19), .ref (y + 20), .ref (y + 21), .ref (y + 22), .int 0, .ref (y + 23), .ref (y + 24), .int 0, .ref (y + 25), .int 0, .int 0, .int 0, .int (-1), .int 0, .int 0, .int 0, .long 0]) := ((fr1 y hxy (Nat.ne_of_lt (Nat.lt_of_lt_of_le (lt_off (x := y) (i := 0) (j := 26) rfl) hyo))).trans hy_0)
  have h_2 : Φ1 (y + 2) = some (ai_ G 307 (upd (upd (upd (upd (upd (upd (upd (upd (upd (upd (upd (upd (upd (upd (upd (upd (upd (upd (upd (upd (upd (fun _ => 0) (0 : Int32).toNatClampNeg 1) (1 : Int32).toNatClampNeg 100) (2 : Int32).toNatClampNeg 1000) (3 : Int32).toNatClampNeg 100) (4 : Int32).toNatClampNeg 20) (5 : Int32).toNatClampNeg 1000) (6 : Int32).toNatClampNeg 5000) (7 : Int32).toNatClampNeg 512) (8 : Int32).toNatClampNeg 1) (9 : Int32).toNatClampNeg 511) (10 : Int32).toNatClampNeg 1) (11 : Int32).toNatClampNeg 9) (15 : Int32).toNatClampNeg 0) (16 : Int32).toNatClampNeg 1) (17 : Int32).toNatClampNeg 2) (18 : Int32).toNatClampNeg 3) (19 : Int32).toNatClampNeg 4) (20 : Int32).toNatClampNeg 5) (21 : Int32).toNatClampNeg 6) (22 : Int32).toNatClampNeg 7) (23 : Int32).toNatClampNeg 8)) := ((fr1 (y + 2) (Nat.le_trans hxy (Nat.le_add_right y 2)) (Nat.ne_of_lt (Nat.lt_of_lt_of_le (lt_off (x := y) (i := 2) (j := 26) rfl) hyo))).trans hy_2)
  have h_3 : Φ1 (y + 3) = some (ai_ G 4 (upd (upd (upd (upd (fun _ => 0) (0 : Int32).toNatClampNeg (-1)) (1 : Int32).toNatClampNeg (-1)) (2 : Int32).toNatClampNeg (-1)) (3 : Int32).toNatClampNeg (-1))) := ((fr1 (y + 3) (Nat.le_trans hxy (Nat.le_add_right y 3)) (Nat.ne_of_lt (Nat.lt_of_lt_of_le (lt_off (x := y) (i := 3) (j := 26) rfl) hyo))).trans hy_3)
  refine z_callV (As := [.int 7, .int 0]) (rest := []) B (m_X12_setSupport_7_0 G l Φ1 sz1 y h_1 h_2 h_3 (Nat.le_trans hna (Nat.le_trans (Nat.le_add_right x 149) hxy))) (cwV 2 B.1.2.2.2.2 gL_law_X12_setSupport rfl rfl rfl (by decide +kernel) ⟨Nat.le_of_ble_eq_true rfl, Nat.le_of_ble_eq_true rfl⟩) h_1 rfl rfl rfl rfl (Nat.le_of_ble_eq_true rfl) dL_law_1238 ⟨Nat.le_of_ble_eq_true rfl, Nat.le_of_ble_eq_true rfl⟩ (fun v2 Φ2 sz2 st2 hp2 hs2 => ?_)
  obtain ⟨rfl, ⟨fs1, hy1, hk1⟩, fr2⟩ := hp2
  replace hs2 : st2 = [.int 1] := hs2
  subst st2
  refine z_istore (lv' := [(7, .int 1), (6, .int 0), (5, .int 0), (4, .ref d), (3, .ref o), (2, .ref y), (1, .ref x), (0, .ref b)]) B dL_law_1241 (Nat.le_of_ble_eq_true rfl) rfl ?_
  refine z_aload_n B dL_law_1243 rfl 5 rfl ?_
  refine z_callV (As := []) (rest := []) B (m_thrown G l Φ2 sz2 y fs1 0 hy1 hk1) (cwV 0 B.1.2.2.2.2 gL_law_X12_thrown rfl rfl rfl (by decide +kernel) ⟨Nat.le_of_ble_eq_true rfl, Nat.le_of_ble_eq_true rfl⟩) hy1 rfl rfl rfl rfl (Nat.le_of_ble_eq_true rfl) dL_law_1244 ⟨Nat.le_of_ble_eq_true rfl, Nat.le_of_ble_eq_true rfl⟩ (fun v3 Φ3 sz3 st3 hp3 hs3 => ?_)
  obtain ⟨rfl, he1⟩ := hp3
  replace hs3 : st3 = [.int 0] := hs3
  subst st3
  rw [he1]
  refine z_iload B dL_law_1247 1 rfl ?_
  refine z_icmp_eq (tgt := 1254) B dL_law_1249 rfl (fun c_3 => ?_) (fun h9 => absurd (by decide) h9)
  refine z_iload B dL_law_1254 1 rfl ?_
  refine z_if_ne (tgt := 1278) B dL_law_1256 rfl (fun h9 => absurd (by decide) h9) (fun c_4 => ?_)
  refine z_aload_n B dL_law_1259 rfl 4 rfl ?_
  refine z_iconst (v := 0) B dL_law_1260 rfl ?_
  have h_4 : Φ2 o = some (al_ G 1 g1) := ((fr2 o hyo).trans ho1)
  refine z_lald B h_4 (vin rfl) dL_law_1261 ?_
  refine z_top (st1 := [.long 1]) (congrArg (fun w9 : Int64 => ([.long w9] : List Value)) (show g1 (0 : Int32).toNatClampNeg = 1 from hg1)) ?_
  refine z_iload B dL_law_1262 0 rfl ?_
  refine z_if_eq (tgt := 1271) B dL_law_1264 rfl (fun h9 => absurd h9 (by decide)) (fun c_5 => ?_)
  refine z_lconst (v := 1) B dL_law_1267 rfl ?_
  refine z_goto (tgt := 1272) B dL_law_1268 rfl ?_
  refine z_lcmp B dL_law_1272 ?_
  refine z_top (st1 := [.int 0]) (congrArg (fun w9 : Int32 => ([.int w9] : List Value)) (show (lg_cmp 1 1 : Int32) = 0 by decide +kernel)) ?_
  refine z_if_eq (tgt := 1278) B dL_law_1273 rfl (fun c_6 => ?_) (fun h9 => absurd (by decide) h9)
  refine z_goto (tgt := 2893) B dL_law_1278 rfl ?_
  refine z_lv [2, 3, 4, 5, 6, 7] rfl ?_
  refine z_widen (k := 178) (n := 20844) (Nat.le_of_ble_eq_true rfl) (Nat.le_of_ble_eq_true rfl) ?_
  exact hT _ _

set_option maxHeartbeats 4000000 in
set_option maxRecDepth 100000 in
theorem lc_22_7_1 {p9 : Program} {e9 : Env} {s9 : State} {m9 : MethodId} {a9 : Array Value} {w9 : List Frame} {t9 : Method} {k9 : Code} {Q9 : State → Prop} {nm9 : String} (G : EnvG) (l : Launch) (hl9 : l.stackTraces = false) (B : Bd p9 s9 m9 a9 t9 k9 G code 9 RL wsL_law ret nm9) (Φ : Hm) (sz : Nat) (b : Nat) (xs : Nat → Int32) (hX : va_X b 7 xs s9 s9.heap) (hbn : b < G.2.2.2) (x y o d : Nat) (a2 : Int32) (go : Nat → Int64) (gd : Nat → UInt64) (hna : G.2.2.2 ≤ x) (hxy : x + 149 ≤ y) (hyo : y + 26 ≤ o) (hyd : y + 26 ≤ d) (hod : o ≠ d) (hx_0 : Φ x = some (o_ 13 [.ref (x + 1), .ref (x + 3), .ref (x + 24), .ref (x + 46), .ref (x + 74), .ref (x + 80), .ref (x + 132), .ref (x + 121)])) (hx_3 : Φ (x + 3) = some (o_ 3 [.ref (x + 4), .ref (x + 5), .ref (x + 6), .ref (x + 7), .int 1, .int 511])) (hy_0 : Φ y = some (o_ 14 [.int 0, .ref (y + 1), .ref (y + 2), .int 0, .int 1, .int 1, .int 0, .int 0, .ref (y + 3), .ref (y + 4), .int 0, .long 0, .ref (y + 5), .int 0, .int 0, .long 0, .long 0, .long 0, .long 0, .ref (y + 6), .ref (y + 7), .int 0, .ref (y + 8), .int 0, .ref (y + 9), .ref (y + 10), .int 0, .ref (y + 11), .ref (y + 12), .ref (y + 13), .ref (y + 14), .ref (y + 15), .ref (y + 16), .int 0, .long (-1), .ref (y + 17), .ref (y + 18), .ref (y + 19), .ref (y + 20), .ref (y + 21), .ref (y + 22), .int 0, .ref (y + 23), .ref (y + 24), .int 0, .ref (y + 25), .int 0, .int 0, .int 0, .int (-1), .int 0, .int 0, .int 0, .long 0])) (hy_2 : Φ (y + 2) = some (ai_ G 307 (upd (upd (upd (upd (upd (upd (upd (upd (upd (upd (upd (upd (upd (upd (upd (upd (upd (upd (upd (upd (upd (fun _ => 0) (0 : Int32).toNatClampNeg 1) (1 : Int32).toNatClampNeg 100) (2 : Int32).toNatClampNeg 1000) (3 : Int32).toNatClampNeg 100) (4 : Int32).toNatClampNeg 20) (5 : Int32).toNatClampNeg 1000) (6 : Int32).toNatClampNeg 5000) (7 : Int32).toNatClampNeg 512) (8 : Int32).toNatClampNeg 1) (9 : Int32).toNatClampNeg 511) (10 : Int32).toNatClampNeg 1) (11 : Int32).toNatClampNeg 9) (15 : Int32).toNatClampNeg 0) (16 : Int32).toNatClampNeg 1) (17 : Int32).toNatClampNeg 2) (18 : Int32).toNatClampNeg 3) (19 : Int32).toNatClampNeg 4) (20 : Int32).toNatClampNeg 5) (21 : Int32).toNatClampNeg 6) (22 : Int32).toNatClampNeg 7) (23 : Int32).toNatClampNeg 8))) (hco : Φ o = some (al_ G 1 go)) (hx1 : xs 1 = 7) (hx2 : xs 2 = a2) (hbz : a2 ≠ 0) (hT : ∀ (Φ1 : Hm) (sz1 : Nat), Z p9 l e9 room_1 s9 m9 a9 w9 t9 k9 Q9 G 9 2893 [(5, .int 0), (4, .ref d), (3, .ref o), (2, .ref y), (1, .ref x), (0, .ref b)] [] Φ1 sz1 178 20844) : Z p9 l e9 room_1 s9 m9 a9 w9 t9 k9 Q9 G 9 1190 [(5, .int 0), (4, .ref d), (3, .ref o), (2, .ref y), (1, .ref x), (0, .ref b)] [] Φ sz 177 20838 := by
  refine z_aload_n B dL_law_1190 rfl 4 rfl ?_
  refine z_aload_n B dL_law_1191 rfl 5 rfl ?_
  refine z_iload B dL_law_1192 0 rfl ?_
  refine z_iconst (v := 1) B dL_law_1194 rfl ?_
  refine z_iadd B dL_law_1195 ?_
  refine z_top (st1 := [.int 1, .ref b, .ref x]) (congrArg (fun w9 : Int32 => ([.int w9, .ref b, .ref x] : List Value)) (show (0 + 1 : Int32) = 1 by decide +kernel)) ?_
  refine z_sald B hX hbn (vin rfl) dL_law_1196 ?_
  refine z_top (st1 := [.int 7, .ref x]) (congrArg (fun w9 : Int32 => ([.int w9, .ref x] : List Value)) (show xs (1 : Int32).toNatClampNeg = 7 from hx1)) ?_
  refine z_aload_n B dL_law_1197 rfl 5 rfl ?_
  refine z_iload B dL_law_1198 0 rfl ?_
  refine z_iconst (v := 2) B dL_law_1200 rfl ?_
  refine z_iadd B dL_law_1201 ?_
  refine z_top (st1 := [.int 2, .ref b, .int 7, .ref x]) (congrArg (fun w9 : Int32 => ([.int w9, .ref b, .int 7, .ref x] : List Value)) (show (0 + 2 : Int32) = 2 by decide +kernel)) ?_
  refine z_sald B hX hbn (vin rfl) dL_law_1202 ?_
  refine z_top (st1 := [.int a2, .int 7, .ref x]) (congrArg (fun w9 : Int32 => ([.int w9, .int 7, .ref x] : List Value)) (show xs (2 : Int32).toNatClampNeg = a2 from hx2)) ?_
  refine z_if_eq (tgt := 1210) B dL_law_1203 rfl (fun h9 => absurd h9 hbz) (fun c_1 => ?_)
  refine z_iconst (v := 1) B dL_law_1206 rfl ?_
  refine z_goto (tgt := 1211) B dL_law_1207 rfl ?_
  refine z_aload_n B dL_law_1211 rfl 2 rfl ?_
  refine z_callSW (As := [.ref x, .int 7, .int 1, .ref o]) (rest := []) B (w_setSupport_7_1 G l Φ sz x o go hx_0 hx_3 hco hna (Nat.le_trans hxy (Nat.le_trans (Nat.le_add_right y 26) hyo))) (vx_cwSW 4 B.1.2.2.2.2 gL_law_L_setSupport rfl rfl rfl (by decide +kernel) ⟨Nat.le_of_ble_eq_true rfl, Nat.le_of_ble_eq_true rfl⟩) rfl rfl (Nat.le_of_ble_eq_true rfl) dL_law_1212 ⟨Nat.le_of_ble_eq_true rfl, Nat.le_of_ble_eq_true rfl⟩ (fun v1 Φ1 sz1 st1 hp1 hs1 => ?_)
  obtain ⟨rfl, fr1, g1, ho1, hg1⟩ := hp1
  replace hs1 : st1 = [.int 0] := hs1
  subst st1
  refine z_istore (lv' := [(6, .int 0), (5, .int 0), (4, .ref d), (3, .ref o), (2, .ref y), (1, .ref x), (0, .ref b)]) B dL_law_1215 (Nat.le_of_ble_eq_true rfl) rfl ?_
  refine z_aload_n B dL_law_1217 rfl 4 rfl ?_
  refine z_aload_n B dL_law_1218 rfl 6 rfl ?_
  refine z_iload B dL_law_1219 1 rfl ?_
  refine z_iconst (v := 1) B dL_law_1221 rfl ?_
  refine z_iadd B dL_law_1222 ?_
  refine z_top (st1 := [.int 1, .ref b, .ref y]) (congrArg (fun w9 : Int32 => ([.int w9, .ref b, .ref y] : List Value)) (show (0 + 1 : Int32) = 1 by decide +kernel)) ?_
  refine z_sald B hX hbn (vin rfl) dL_law_1223 ?_
  refine z_top (st1 := [.int 7, .ref y]) (congrArg (fun w9 : Int32 => ([.int w9, .ref y] : List Value)) (show xs (1 : Int32).toNatClampNeg = 7 from hx1)) ?_
  refine z_aload_n B dL_law_1224 rfl 6 rfl ?_
  refine z_iload B dL_law_1225 1 rfl ?_
  refine z_iconst (v := 2) B dL_law_1227 rfl ?_
  refine z_iadd B dL_law_1228 ?_
  refine z_top (st1 := [.int 2, .ref b, .int 7, .ref y]) (congrArg (fun w9 : Int32 => ([.int w9, .ref b, .int 7, .ref y] : List Value)) (show (0 + 2 : Int32) = 2 by decide +kernel)) ?_
  refine z_sald B hX hbn (vin rfl) dL_law_1229 ?_
  refine z_top (st1 := [.int a2, .int 7, .ref y]) (congrArg (fun w9 : Int32 => ([.int w9, .int 7, .ref y] : List Value)) (show xs (2 : Int32).toNatClampNeg = a2 from hx2)) ?_
  refine z_if_eq (tgt := 1237) B dL_law_1230 rfl (fun h9 => absurd h9 hbz) (fun c_2 => ?_)
  refine z_iconst (v := 1) B dL_law_1233 rfl ?_
  refine z_goto (tgt := 1238) B dL_law_1234 rfl ?_
  have h_1 : Φ1 y = some (o_ 14 [.int 0, .ref (y + 1), .ref (y + 2), .int 0, .int 1, .int 1, .int 0, .int 0, .ref (y + 3), .ref (y + 4), .int 0, .long 0, .ref (y + 5), .int 0, .int 0, .long 0, .long 0, .long 0, .long 0, .ref (y + 6), .ref (y + 7), .int 0, .ref (y + 8), .int 0, .ref (y + 9), .ref (y + 10), .int 0, .ref (y + 11), .ref (y + 12), .ref (y + 13), .ref (y + 14), .ref (y + 15), .ref (y + 16), .int 0, .long (-1), .ref (y + 17), .ref (y + 18), .ref (y + 19), .ref (y + 20), .ref (y + 21), .ref (y + 22), .int 0, .ref (y + 23), .ref (y + 24), .int 0, .ref (y + 25), .int 0, .int 0, .int 0, .int (-1), .int 0, .int 0, .int 0, .long 0]) := ((fr1 y hxy (Nat.ne_of_lt (Nat.lt_of_lt_of_le (lt_off (x := y) (i := 0) (j := 26) rfl) hyo))).trans hy_0)
  have h_2 : Φ1 (y + 2) = some (ai_ G 307 (upd (upd (upd (upd (upd (upd (upd (upd (upd (upd (upd (upd (upd (upd (upd (upd (upd (upd (upd (upd (upd (fun _ => 0) (0 : Int32).toNatClampNeg 1) (1 : Int32).toNatClampNeg 100) (2 : Int32).toNatClampNeg 1000) (3 : Int32).toNatClampNeg 100) (4 : Int32).toNatClampNeg 20) (5 : Int32).toNatClampNeg 1000) (6 : Int32).toNatClampNeg 5000) (7 : Int32).toNatClampNeg 512) (8 : Int32).toNatClampNeg 1) (9 : Int32).toNatClampNeg 511) (10 : Int32).toNatClampNeg 1) (11 : Int32).toNatClampNeg 9) (15 : Int32).toNatClampNeg 0) (16 : Int32).toNatClampNeg 1) (17 : Int32).toNatClampNeg 2) (18 : Int32).toNatClampNeg 3) (19 : Int32).toNatClampNeg 4) (20 : Int32).toNatClampNeg 5) (21 : Int32).toNatClampNeg 6) (22 : Int32).toNatClampNeg 7) (23 : Int32).toNatClampNeg 8)) := ((fr1 (y + 2) (Nat.le_trans hxy (Nat.le_add_right y 2)) (Nat.ne_of_lt (Nat.lt_of_lt_of_le (lt_off (x := y) (i := 2) (j := 26) rfl) hyo))).trans hy_2)
  refine z_callV (As := [.int 7, .int 1]) (rest := []) B (m_X12_setSupport_7_1 G l Φ1 sz1 y h_1 h_2 (Nat.le_trans hna (Nat.le_trans (Nat.le_add_right x 149) hxy))) (cwV 2 B.1.2.2.2.2 gL_law_X12_setSupport rfl rfl rfl (by decide +kernel) ⟨Nat.le_of_ble_eq_true rfl, Nat.le_of_ble_eq_true rfl⟩) h_1 rfl rfl rfl rfl (Nat.le_of_ble_eq_true rfl) dL_law_1238 ⟨Nat.le_of_ble_eq_true rfl, Nat.le_of_ble_eq_true rfl⟩ (fun v2 Φ2 sz2 st2 hp2 hs2 => ?_)
  obtain ⟨rfl, ⟨fs1, hy1, hk1⟩, fr2⟩ := hp2
  replace hs2 : st2 = [.int 1] := hs2
  subst st2
  refine z_istore (lv' := [(7, .int 1), (6, .int 0), (5, .int 0), (4, .ref d), (3, .ref o), (2, .ref y), (1, .ref x), (0, .ref b)]) B dL_law_1241 (Nat.le_of_ble_eq_true rfl) rfl ?_
  refine z_aload_n B dL_law_1243 rfl 5 rfl ?_
  refine z_callV (As := []) (rest := []) B (m_thrown G l Φ2 sz2 y fs1 0 hy1 hk1) (cwV 0 B.1.2.2.2.2 gL_law_X12_thrown rfl rfl rfl (by decide +kernel) ⟨Nat.le_of_ble_eq_true rfl, Nat.le_of_ble_eq_true rfl⟩) hy1 rfl rfl rfl rfl (Nat.le_of_ble_eq_true rfl) dL_law_1244 ⟨Nat.le_of_ble_eq_true rfl, Nat.le_of_ble_eq_true rfl⟩ (fun v3 Φ3 sz3 st3 hp3 hs3 => ?_)
  obtain ⟨rfl, he1⟩ := hp3
  replace hs3 : st3 = [.int 0] := hs3
  subst st3
  rw [he1]
  refine z_iload B dL_law_1247 1 rfl ?_
  refine z_icmp_eq (tgt := 1254) B dL_law_1249 rfl (fun c_3 => ?_) (fun h9 => absurd (by decide) h9)
  refine z_iload B dL_law_1254 1 rfl ?_
  refine z_if_ne (tgt := 1278) B dL_law_1256 rfl (fun h9 => absurd (by decide) h9) (fun c_4 => ?_)
  refine z_aload_n B dL_law_1259 rfl 4 rfl ?_
  refine z_iconst (v := 0) B dL_law_1260 rfl ?_
  have h_3 : Φ2 o = some (al_ G 1 g1) := ((fr2 o hyo).trans ho1)
  refine z_lald B h_3 (vin rfl) dL_law_1261 ?_
  refine z_top (st1 := [.long 1]) (congrArg (fun w9 : Int64 => ([.long w9] : List Value)) (show g1 (0 : Int32).toNatClampNeg = 1 from hg1)) ?_
  refine z_iload B dL_law_1262 0 rfl ?_
  refine z_if_eq (tgt := 1271) B dL_law_1264 rfl (fun h9 => absurd h9 (by decide)) (fun c_5 => ?_)
  refine z_lconst (v := 1) B dL_law_1267 rfl ?_
  refine z_goto (tgt := 1272) B dL_law_1268 rfl ?_
  refine z_lcmp B dL_law_1272 ?_
  refine z_top (st1 := [.int 0]) (congrArg (fun w9 : Int32 => ([.int w9] : List Value)) (show (lg_cmp 1 1 : Int32) = 0 by decide +kernel)) ?_
  refine z_if_eq (tgt := 1278) B dL_law_1273 rfl (fun c_6 => ?_) (fun h9 => absurd (by decide) h9)
  refine z_goto (tgt := 2893) B dL_law_1278 rfl ?_
  refine z_lv [2, 3, 4, 5, 6, 7] rfl ?_
  refine z_widen (k := 178) (n := 20844) (Nat.le_of_ble_eq_true rfl) (Nat.le_of_ble_eq_true rfl) ?_
  exact hT _ _

set_option maxHeartbeats 4000000 in
set_option maxRecDepth 100000 in
theorem lc_22_8_0 {p9 : Program} {e9 : Env} {s9 : State} {m9 : MethodId} {a9 : Array Value} {w9 : List Frame} {t9 : Method} {k9 : Code} {Q9 : State → Prop} {nm9 : String} (G : EnvG) (l : Launch) (hl9 : l.stackTraces = false) (B : Bd p9 s9 m9 a9 t9 k9 G code 9 RL wsL_law ret nm9) (Φ : Hm) (sz : Nat) (b : Nat) (xs : Nat → Int32) (hX : va_X b 7 xs s9 s9.heap) (hbn : b < G.2.2.2) (x y o d : Nat)  (go : Nat → Int64) (gd : Nat → UInt64) (hna : G.2.2.2 ≤ x) (hxy : x + 149 ≤ y) (hyo : y + 26 ≤ o) (hyd : y + 26 ≤ d) (hod : o ≠ d) (hx_0 : Φ x = some (o_ 13 [.ref (x + 1), .ref (x + 3), .ref (x + 24), .ref (x + 46), .ref (x + 74), .ref (x + 80), .ref (x + 132), .ref (x + 121)])) (hx_3 : Φ (x + 3) = some (o_ 3 [.ref (x + 4), .ref (x + 5), .ref (x + 6), .ref (x + 7), .int 1, .int 511])) (hx_6 : Φ (x + 6) = some (aq_ G 4 4 (va_up (va_up (va_up (va_up (fun _ => none) (0 : Int32).toNatClampNeg (some (x + 8))) (1 : Int32).toNatClampNeg (some (x + 12))) (2 : Int32).toNatClampNeg (some (x + 16))) (3 : Int32).toNatClampNeg (some (x + 20))))) (hx_7 : Φ (x + 7) = some (aq_ G 4 4 (va_up (va_up (va_up (va_up (fun _ => none) (0 : Int32).toNatClampNeg (some (x + 10))) (1 : Int32).toNatClampNeg (some (x + 14))) (2 : Int32).toNatClampNeg (some (x + 18))) (3 : Int32).toNatClampNeg (some (x + 22))))) (hx_8 : Φ (x + 8) = some (o_ 12 [.ref (x + 9), .int 9, .int 511, .int 29])) (hx_9 : Φ (x + 9) = some (ai_ G 9 (upd (upd (upd (upd (upd (upd (upd (upd (upd (fun _ => 0) (0 : Int32).toNatClampNeg 0) (1 : Int32).toNatClampNeg 1) (2 : Int32).toNatClampNeg 2) (3 : Int32).toNatClampNeg 3) (4 : Int32).toNatClampNeg 4) (5 : Int32).toNatClampNeg 5) (6 : Int32).toNatClampNeg 6) (7 : Int32).toNatClampNeg 7) (8 : Int32).toNatClampNeg 8))) (hx_10 : Φ (x + 10) = some (o_ 12 [.ref (x + 11), .int 9, .int 511, .int 29])) (hx_11 : Φ (x + 11) = some (ai_ G 9 (upd (upd (upd (upd (upd (upd (upd (upd (upd (fun _ => 0) (0 : Int32).toNatClampNeg 0) (1 : Int32).toNatClampNeg 1) (2 : Int32).toNatClampNeg 2) (3 : Int32).toNatClampNeg 3) (4 : Int32).toNatClampNeg 4) (5 : Int32).toNatClampNeg 5) (6 : Int32).toNatClampNeg 6) (7 : Int32).toNatClampNeg 7) (8 : Int32).toNatClampNeg 8))) (hx_12 : Φ (x + 12) = some (o_ 12 [.ref (x + 13), .int 0, .int 0, .int 0])) (hx_14 : Φ (x + 14) = some (o_ 12 [.ref (x + 15), .int 0, .int 0, .int 0])) (hx_16 : Φ (x + 16) = some (o_ 12 [.ref (x + 17), .int 0, .int 0, .int 0])) (hx_18 : Φ (x + 18) = some (o_ 12 [.ref (x + 19), .int 0, .int 0, .int 0])) (hx_20 : Φ (x + 20) = some (o_ 12 [.ref (x + 21), .int 0, .int 0, .int 0])) (hx_22 : Φ (x + 22) = some (o_ 12 [.ref (x + 23), .int 0, .int 0, .int 0])) (hx_74 : Φ (x + 74) = some (o_ 10 [.ref (x + 3), .ref (x + 46), .ref (x + 75), .ref (x + 77), .int 0, .ref (x + 78), .ref (x + 79), .int 0, .long 0, .int 0])) (hx_78 : Φ (x + 78) = some (ai_ G 4 (fun _ => 0))) (hy_0 : Φ y = some (o_ 14 [.int 0, .ref (y + 1), .ref (y + 2), .int 0, .int 1, .int 1, .int 0, .int 0, .ref (y + 3), .ref (y + 4), .int 0, .long 0, .ref (y + 5), .int 0, .int 0, .long 0, .long 0, .long 0, .long 0, .ref (y + 6), .ref (y + 7), .int 0, .ref (y + 8), .int 0, .ref (y + 9), .ref (y + 10), .int 0, .ref (y + 11), .ref (y + 12), .ref (y + 13), .ref (y + 14), .ref (y + 15), .ref (y + 16), .int 0, .long (-1), .ref (y + 17), .ref (y + 18), .ref (y + 19), .ref (y + 20), .ref (y + 21), .ref (y + 22), .int 0, .ref (y + 23), .ref (y + 24), .int 0, .ref (y + 25), .int 0, .int 0, .int 0, .int (-1), .int 0, .int 0, .int 0, .long 0])) (hy_2 : Φ (y + 2) = some (ai_ G 307 (upd (upd (upd (upd (upd (upd (upd (upd (upd (upd (upd (upd (upd (upd (upd (upd (upd (upd (upd (upd (upd (fun _ => 0) (0 : Int32).toNatClampNeg 1) (1 : Int32).toNatClampNeg 100) (2 : Int32).toNatClampNeg 1000) (3 : Int32).toNatClampNeg 100) (4 : Int32).toNatClampNeg 20) (5 : Int32).toNatClampNeg 1000) (6 : Int32).toNatClampNeg 5000) (7 : Int32).toNatClampNeg 512) (8 : Int32).toNatClampNeg 1) (9 : Int32).toNatClampNeg 511) (10 : Int32).toNatClampNeg 1) (11 : Int32).toNatClampNeg 9) (15 : Int32).toNatClampNeg 0) (16 : Int32).toNatClampNeg 1) (17 : Int32).toNatClampNeg 2) (18 : Int32).toNatClampNeg 3) (19 : Int32).toNatClampNeg 4) (20 : Int32).toNatClampNeg 5) (21 : Int32).toNatClampNeg 6) (22 : Int32).toNatClampNeg 7) (23 : Int32).toNatClampNeg 8))) (hy_3 : Φ (y + 3) = some (ai_ G 4 (upd (upd (upd (upd (fun _ => 0) (0 : Int32).toNatClampNeg (-1)) (1 : Int32).toNatClampNeg (-1)) (2 : Int32).toNatClampNeg (-1)) (3 : Int32).toNatClampNeg (-1)))) (hco : Φ o = some (al_ G 1 go)) (hx1 : xs 1 = 8) (hx2 : xs 2 = 0) (hT : ∀ (Φ1 : Hm) (sz1 : Nat), Z p9 l e9 room_1 s9 m9 a9 w9 t9 k9 Q9 G 9 2893 [(5, .int 0), (4, .ref d), (3, .ref o), (2, .ref y), (1, .ref x), (0, .ref b)] [] Φ1 sz1 178 20844) : Z p9 l e9 room_1 s9 m9 a9 w9 t9 k9 Q9 G 9 1190 [(5, .int 0), (4, .ref d), (3, .ref o), (2, .ref y), (1, .ref x), (0, .ref b)] [] Φ sz 177 20838 := by
  refine z_aload_n B dL_law_1190 rfl 4 rfl ?_
  refine z_aload_n B dL_law_1191 rfl 5 rfl ?_
  refine z_iload B dL_law_1192 0 rfl ?_
  refine z_iconst (v := 1) B dL_law_1194 rfl ?_
  refine z_iadd B dL_law_1195 ?_
  refine z_top (st1 := [.int 1, .ref b, .ref x]) (congrArg (fun w9 : Int32 => ([.int w9, .ref b, .ref x] : List Value)) (show (0 + 1 : Int32) = 1 by decide +kernel)) ?_
  refine z_sald B hX hbn (vin rfl) dL_law_1196 ?_
  refine z_top (st1 := [.int 8, .ref x]) (congrArg (fun w9 : Int32 => ([.int w9, .ref x] : List Value)) (show xs (1 : Int32).toNatClampNeg = 8 from hx1)) ?_
  refine z_aload_n B dL_law_1197 rfl 5 rfl ?_
  refine z_iload B dL_law_1198 0 rfl ?_
  refine z_iconst (v := 2) B dL_law_1200 rfl ?_
  refine z_iadd B dL_law_1201 ?_
  refine z_top (st1 := [.int 2, .ref b, .int 8, .ref x]) (congrArg (fun w9 : Int32 => ([.int w9, .ref b, .int 8, .ref x] : List Value)) (show (0 + 2 : Int32) = 2 by decide +kernel)) ?_
  refine z_sald B hX hbn (vin rfl) dL_law_1202 ?_
  refine z_top (st1 := [.int 0, .int 8, .ref x]) (congrArg (fun w9 : Int32 => ([.int w9, .int 8, .ref x] : List Value)) (show xs (2 : Int32).toNatClampNeg = 0 from hx2)) ?_
  refine z_if_eq (tgt := 1210) B dL_law_1203 rfl (fun c_1 => ?_) (fun h9 => absurd rfl h9)
  refine z_iconst (v := 0) B dL_law_1210 rfl ?_
  refine z_aload_n B dL_law_1211 rfl 2 rfl ?_
  refine z_callSW (As := [.ref x, .int 8, .int 0, .ref o]) (rest := []) B (w_setSupport_8_0 G l Φ sz x o go hx_0 hx_3 hx_6 hx_7 hx_8 hx_9 hx_10 hx_11 hx_12 hx_14 hx_16 hx_18 hx_20 hx_22 hx_74 hx_78 hco hna (Nat.le_trans hxy (Nat.le_trans (Nat.le_add_right y 26) hyo))) (vx_cwSW 4 B.1.2.2.2.2 gL_law_L_setSupport rfl rfl rfl (by decide +kernel) ⟨Nat.le_of_ble_eq_true rfl, Nat.le_of_ble_eq_true rfl⟩) rfl rfl (Nat.le_of_ble_eq_true rfl) dL_law_1212 ⟨Nat.le_of_ble_eq_true rfl, Nat.le_of_ble_eq_true rfl⟩ (fun v1 Φ1 sz1 st1 hp1 hs1 => ?_)
  obtain ⟨rfl, fr1, g1, ho1, hg1⟩ := hp1
  replace hs1 : st1 = [.int 0] := hs1
  subst st1
  refine z_istore (lv' := [(6, .int 0), (5, .int 0), (4, .ref d), (3, .ref o), (2, .ref y), (1, .ref x), (0, .ref b)]) B dL_law_1215 (Nat.le_of_ble_eq_true rfl) rfl ?_
  refine z_aload_n B dL_law_1217 rfl 4 rfl ?_
  refine z_aload_n B dL_law_1218 rfl 6 rfl ?_
  refine z_iload B dL_law_1219 1 rfl ?_
  refine z_iconst (v := 1) B dL_law_1221 rfl ?_
  refine z_iadd B dL_law_1222 ?_
  refine z_top (st1 := [.int 1, .ref b, .ref y]) (congrArg (fun w9 : Int32 => ([.int w9, .ref b, .ref y] : List Value)) (show (0 + 1 : Int32) = 1 by decide +kernel)) ?_
  refine z_sald B hX hbn (vin rfl) dL_law_1223 ?_
  refine z_top (st1 := [.int 8, .ref y]) (congrArg (fun w9 : Int32 => ([.int w9, .ref y] : List Value)) (show xs (1 : Int32).toNatClampNeg = 8 from hx1)) ?_
  refine z_aload_n B dL_law_1224 rfl 6 rfl ?_
  refine z_iload B dL_law_1225 1 rfl ?_
  refine z_iconst (v := 2) B dL_law_1227 rfl ?_
  refine z_iadd B dL_law_1228 ?_
  refine z_top (st1 := [.int 2, .ref b, .int 8, .ref y]) (congrArg (fun w9 : Int32 => ([.int w9, .ref b, .int 8, .ref y] : List Value)) (show (0 + 2 : Int32) = 2 by decide +kernel)) ?_
  refine z_sald B hX hbn (vin rfl) dL_law_1229 ?_
  refine z_top (st1 := [.int 0, .int 8, .ref y]) (congrArg (fun w9 : Int32 => ([.int w9, .int 8, .ref y] : List Value)) (show xs (2 : Int32).toNatClampNeg = 0 from hx2)) ?_
  refine z_if_eq (tgt := 1237) B dL_law_1230 rfl (fun c_2 => ?_) (fun h9 => absurd rfl h9)
  refine z_iconst (v := 0) B dL_law_1237 rfl ?_
  have h_1 : Φ1 y = some (o_ 14 [.int 0, .ref (y + 1), .ref (y + 2), .int 0, .int 1, .int 1, .int 0, .int 0, .ref (y + 3), .ref (y + 4), .int 0, .long 0, .ref (y + 5), .int 0, .int 0, .long 0, .long 0, .long 0, .long 0, .ref (y + 6), .ref (y + 7), .int 0, .ref (y + 8), .int 0, .ref (y + 9), .ref (y + 10), .int 0, .ref (y + 11), .ref (y + 12), .ref (y + 13), .ref (y + 14), .ref (y + 15), .ref (y + 16), .int 0, .long (-1), .ref (y + 17), .ref (y + 18), .ref (y + 19), .ref (y + 20), .ref (y + 21), .ref (y + 22), .int 0, .ref (y + 23), .ref (y + 24), .int 0, .ref (y + 25), .int 0, .int 0, .int 0, .int (-1), .int 0, .int 0, .int 0, .long 0]) := ((fr1 y hxy (Nat.ne_of_lt (Nat.lt_of_lt_of_le (lt_off (x := y) (i := 0) (j := 26) rfl) hyo))).trans hy_0)
  have h_2 : Φ1 (y + 2) = some (ai_ G 307 (upd (upd (upd (upd (upd (upd (upd (upd (upd (upd (upd (upd (upd (upd (upd (upd (upd (upd (upd (upd (upd (fun _ => 0) (0 : Int32).toNatClampNeg 1) (1 : Int32).toNatClampNeg 100) (2 : Int32).toNatClampNeg 1000) (3 : Int32).toNatClampNeg 100) (4 : Int32).toNatClampNeg 20) (5 : Int32).toNatClampNeg 1000) (6 : Int32).toNatClampNeg 5000) (7 : Int32).toNatClampNeg 512) (8 : Int32).toNatClampNeg 1) (9 : Int32).toNatClampNeg 511) (10 : Int32).toNatClampNeg 1) (11 : Int32).toNatClampNeg 9) (15 : Int32).toNatClampNeg 0) (16 : Int32).toNatClampNeg 1) (17 : Int32).toNatClampNeg 2) (18 : Int32).toNatClampNeg 3) (19 : Int32).toNatClampNeg 4) (20 : Int32).toNatClampNeg 5) (21 : Int32).toNatClampNeg 6) (22 : Int32).toNatClampNeg 7) (23 : Int32).toNatClampNeg 8)) := ((fr1 (y + 2) (Nat.le_trans hxy (Nat.le_add_right y 2)) (Nat.ne_of_lt (Nat.lt_of_lt_of_le (lt_off (x := y) (i := 2) (j := 26) rfl) hyo))).trans hy_2)
  have h_3 : Φ1 (y + 3) = some (ai_ G 4 (upd (upd (upd (upd (fun _ => 0) (0 : Int32).toNatClampNeg (-1)) (1 : Int32).toNatClampNeg (-1)) (2 : Int32).toNatClampNeg (-1)) (3 : Int32).toNatClampNeg (-1))) := ((fr1 (y + 3) (Nat.le_trans hxy (Nat.le_add_right y 3)) (Nat.ne_of_lt (Nat.lt_of_lt_of_le (lt_off (x := y) (i := 3) (j := 26) rfl) hyo))).trans hy_3)
  refine z_callV (As := [.int 8, .int 0]) (rest := []) B (m_X12_setSupport_8_0 G l Φ1 sz1 y h_1 h_2 h_3 (Nat.le_trans hna (Nat.le_trans (Nat.le_add_right x 149) hxy))) (cwV 2 B.1.2.2.2.2 gL_law_X12_setSupport rfl rfl rfl (by decide +kernel) ⟨Nat.le_of_ble_eq_true rfl, Nat.le_of_ble_eq_true rfl⟩) h_1 rfl rfl rfl rfl (Nat.le_of_ble_eq_true rfl) dL_law_1238 ⟨Nat.le_of_ble_eq_true rfl, Nat.le_of_ble_eq_true rfl⟩ (fun v2 Φ2 sz2 st2 hp2 hs2 => ?_)
  obtain ⟨rfl, ⟨fs1, hy1, hk1⟩, fr2⟩ := hp2
  replace hs2 : st2 = [.int 1] := hs2
  subst st2
  refine z_istore (lv' := [(7, .int 1), (6, .int 0), (5, .int 0), (4, .ref d), (3, .ref o), (2, .ref y), (1, .ref x), (0, .ref b)]) B dL_law_1241 (Nat.le_of_ble_eq_true rfl) rfl ?_
  refine z_aload_n B dL_law_1243 rfl 5 rfl ?_
  refine z_callV (As := []) (rest := []) B (m_thrown G l Φ2 sz2 y fs1 0 hy1 hk1) (cwV 0 B.1.2.2.2.2 gL_law_X12_thrown rfl rfl rfl (by decide +kernel) ⟨Nat.le_of_ble_eq_true rfl, Nat.le_of_ble_eq_true rfl⟩) hy1 rfl rfl rfl rfl (Nat.le_of_ble_eq_true rfl) dL_law_1244 ⟨Nat.le_of_ble_eq_true rfl, Nat.le_of_ble_eq_true rfl⟩ (fun v3 Φ3 sz3 st3 hp3 hs3 => ?_)
  obtain ⟨rfl, he1⟩ := hp3
  replace hs3 : st3 = [.int 0] := hs3
  subst st3
  rw [he1]
  refine z_iload B dL_law_1247 1 rfl ?_
  refine z_icmp_eq (tgt := 1254) B dL_law_1249 rfl (fun c_3 => ?_) (fun h9 => absurd (by decide) h9)
  refine z_iload B dL_law_1254 1 rfl ?_
  refine z_if_ne (tgt := 1278) B dL_law_1256 rfl (fun h9 => absurd (by decide) h9) (fun c_4 => ?_)
  refine z_aload_n B dL_law_1259 rfl 4 rfl ?_
  refine z_iconst (v := 0) B dL_law_1260 rfl ?_
  have h_4 : Φ2 o = some (al_ G 1 g1) := ((fr2 o hyo).trans ho1)
  refine z_lald B h_4 (vin rfl) dL_law_1261 ?_
  refine z_top (st1 := [.long 1]) (congrArg (fun w9 : Int64 => ([.long w9] : List Value)) (show g1 (0 : Int32).toNatClampNeg = 1 from hg1)) ?_
  refine z_iload B dL_law_1262 0 rfl ?_
  refine z_if_eq (tgt := 1271) B dL_law_1264 rfl (fun h9 => absurd h9 (by decide)) (fun c_5 => ?_)
  refine z_lconst (v := 1) B dL_law_1267 rfl ?_
  refine z_goto (tgt := 1272) B dL_law_1268 rfl ?_
  refine z_lcmp B dL_law_1272 ?_
  refine z_top (st1 := [.int 0]) (congrArg (fun w9 : Int32 => ([.int w9] : List Value)) (show (lg_cmp 1 1 : Int32) = 0 by decide +kernel)) ?_
  refine z_if_eq (tgt := 1278) B dL_law_1273 rfl (fun c_6 => ?_) (fun h9 => absurd (by decide) h9)
  refine z_goto (tgt := 2893) B dL_law_1278 rfl ?_
  refine z_lv [2, 3, 4, 5, 6, 7] rfl ?_
  refine z_widen (k := 178) (n := 20844) (Nat.le_of_ble_eq_true rfl) (Nat.le_of_ble_eq_true rfl) ?_
  exact hT _ _

set_option maxHeartbeats 4000000 in
set_option maxRecDepth 100000 in
theorem lc_22_8_1 {p9 : Program} {e9 : Env} {s9 : State} {m9 : MethodId} {a9 : Array Value} {w9 : List Frame} {t9 : Method} {k9 : Code} {Q9 : State → Prop} {nm9 : String} (G : EnvG) (l : Launch) (hl9 : l.stackTraces = false) (B : Bd p9 s9 m9 a9 t9 k9 G code 9 RL wsL_law ret nm9) (Φ : Hm) (sz : Nat) (b : Nat) (xs : Nat → Int32) (hX : va_X b 7 xs s9 s9.heap) (hbn : b < G.2.2.2) (x y o d : Nat) (a2 : Int32) (go : Nat → Int64) (gd : Nat → UInt64) (hna : G.2.2.2 ≤ x) (hxy : x + 149 ≤ y) (hyo : y + 26 ≤ o) (hyd : y + 26 ≤ d) (hod : o ≠ d) (hx_0 : Φ x = some (o_ 13 [.ref (x + 1), .ref (x + 3), .ref (x + 24), .ref (x + 46), .ref (x + 74), .ref (x + 80), .ref (x + 132), .ref (x + 121)])) (hx_3 : Φ (x + 3) = some (o_ 3 [.ref (x + 4), .ref (x + 5), .ref (x + 6), .ref (x + 7), .int 1, .int 511])) (hy_0 : Φ y = some (o_ 14 [.int 0, .ref (y + 1), .ref (y + 2), .int 0, .int 1, .int 1, .int 0, .int 0, .ref (y + 3), .ref (y + 4), .int 0, .long 0, .ref (y + 5), .int 0, .int 0, .long 0, .long 0, .long 0, .long 0, .ref (y + 6), .ref (y + 7), .int 0, .ref (y + 8), .int 0, .ref (y + 9), .ref (y + 10), .int 0, .ref (y + 11), .ref (y + 12), .ref (y + 13), .ref (y + 14), .ref (y + 15), .ref (y + 16), .int 0, .long (-1), .ref (y + 17), .ref (y + 18), .ref (y + 19), .ref (y + 20), .ref (y + 21), .ref (y + 22), .int 0, .ref (y + 23), .ref (y + 24), .int 0, .ref (y + 25), .int 0, .int 0, .int 0, .int (-1), .int 0, .int 0, .int 0, .long 0])) (hy_2 : Φ (y + 2) = some (ai_ G 307 (upd (upd (upd (upd (upd (upd (upd (upd (upd (upd (upd (upd (upd (upd (upd (upd (upd (upd (upd (upd (upd (fun _ => 0) (0 : Int32).toNatClampNeg 1) (1 : Int32).toNatClampNeg 100) (2 : Int32).toNatClampNeg 1000) (3 : Int32).toNatClampNeg 100) (4 : Int32).toNatClampNeg 20) (5 : Int32).toNatClampNeg 1000) (6 : Int32).toNatClampNeg 5000) (7 : Int32).toNatClampNeg 512) (8 : Int32).toNatClampNeg 1) (9 : Int32).toNatClampNeg 511) (10 : Int32).toNatClampNeg 1) (11 : Int32).toNatClampNeg 9) (15 : Int32).toNatClampNeg 0) (16 : Int32).toNatClampNeg 1) (17 : Int32).toNatClampNeg 2) (18 : Int32).toNatClampNeg 3) (19 : Int32).toNatClampNeg 4) (20 : Int32).toNatClampNeg 5) (21 : Int32).toNatClampNeg 6) (22 : Int32).toNatClampNeg 7) (23 : Int32).toNatClampNeg 8))) (hco : Φ o = some (al_ G 1 go)) (hx1 : xs 1 = 8) (hx2 : xs 2 = a2) (hbz : a2 ≠ 0) (hT : ∀ (Φ1 : Hm) (sz1 : Nat), Z p9 l e9 room_1 s9 m9 a9 w9 t9 k9 Q9 G 9 2893 [(5, .int 0), (4, .ref d), (3, .ref o), (2, .ref y), (1, .ref x), (0, .ref b)] [] Φ1 sz1 178 20844) : Z p9 l e9 room_1 s9 m9 a9 w9 t9 k9 Q9 G 9 1190 [(5, .int 0), (4, .ref d), (3, .ref o), (2, .ref y), (1, .ref x), (0, .ref b)] [] Φ sz 177 20838 := by
  refine z_aload_n B dL_law_1190 rfl 4 rfl ?_
  refine z_aload_n B dL_law_1191 rfl 5 rfl ?_
  refine z_iload B dL_law_1192 0 rfl ?_
  refine z_iconst (v := 1) B dL_law_1194 rfl ?_
  refine z_iadd B dL_law_1195 ?_
  refine z_top (st1 := [.int 1, .ref b, .ref x]) (congrArg (fun w9 : Int32 => ([.int w9, .ref b, .ref x] : List Value)) (show (0 + 1 : Int32) = 1 by decide +kernel)) ?_
  refine z_sald B hX hbn (vin rfl) dL_law_1196 ?_
  refine z_top (st1 := [.int 8, .ref x]) (congrArg (fun w9 : Int32 => ([.int w9, .ref x] : List Value)) (show xs (1 : Int32).toNatClampNeg = 8 from hx1)) ?_
  refine z_aload_n B dL_law_1197 rfl 5 rfl ?_
  refine z_iload B dL_law_1198 0 rfl ?_
  refine z_iconst (v := 2) B dL_law_1200 rfl ?_
  refine z_iadd B dL_law_1201 ?_
  refine z_top (st1 := [.int 2, .ref b, .int 8, .ref x]) (congrArg (fun w9 : Int32 => ([.int w9, .ref b, .int 8, .ref x] : List Value)) (show (0 + 2 : Int32) = 2 by decide +kernel)) ?_
  refine z_sald B hX hbn (vin rfl) dL_law_1202 ?_
  refine z_top (st1 := [.int a2, .int 8, .ref x]) (congrArg (fun w9 : Int32 => ([.int w9, .int 8, .ref x] : List Value)) (show xs (2 : Int32).toNatClampNeg = a2 from hx2)) ?_
  refine z_if_eq (tgt := 1210) B dL_law_1203 rfl (fun h9 => absurd h9 hbz) (fun c_1 => ?_)
  refine z_iconst (v := 1) B dL_law_1206 rfl ?_
  refine z_goto (tgt := 1211) B dL_law_1207 rfl ?_
  refine z_aload_n B dL_law_1211 rfl 2 rfl ?_
  refine z_callSW (As := [.ref x, .int 8, .int 1, .ref o]) (rest := []) B (w_setSupport_8_1 G l Φ sz x o go hx_0 hx_3 hco hna (Nat.le_trans hxy (Nat.le_trans (Nat.le_add_right y 26) hyo))) (vx_cwSW 4 B.1.2.2.2.2 gL_law_L_setSupport rfl rfl rfl (by decide +kernel) ⟨Nat.le_of_ble_eq_true rfl, Nat.le_of_ble_eq_true rfl⟩) rfl rfl (Nat.le_of_ble_eq_true rfl) dL_law_1212 ⟨Nat.le_of_ble_eq_true rfl, Nat.le_of_ble_eq_true rfl⟩ (fun v1 Φ1 sz1 st1 hp1 hs1 => ?_)
  obtain ⟨rfl, fr1, g1, ho1, hg1⟩ := hp1
  replace hs1 : st1 = [.int 0] := hs1
  subst st1
  refine z_istore (lv' := [(6, .int 0), (5, .int 0), (4, .ref d), (3, .ref o), (2, .ref y), (1, .ref x), (0, .ref b)]) B dL_law_1215 (Nat.le_of_ble_eq_true rfl) rfl ?_
  refine z_aload_n B dL_law_1217 rfl 4 rfl ?_
  refine z_aload_n B dL_law_1218 rfl 6 rfl ?_
  refine z_iload B dL_law_1219 1 rfl ?_
  refine z_iconst (v := 1) B dL_law_1221 rfl ?_
  refine z_iadd B dL_law_1222 ?_
  refine z_top (st1 := [.int 1, .ref b, .ref y]) (congrArg (fun w9 : Int32 => ([.int w9, .ref b, .ref y] : List Value)) (show (0 + 1 : Int32) = 1 by decide +kernel)) ?_
  refine z_sald B hX hbn (vin rfl) dL_law_1223 ?_
  refine z_top (st1 := [.int 8, .ref y]) (congrArg (fun w9 : Int32 => ([.int w9, .ref y] : List Value)) (show xs (1 : Int32).toNatClampNeg = 8 from hx1)) ?_
  refine z_aload_n B dL_law_1224 rfl 6 rfl ?_
  refine z_iload B dL_law_1225 1 rfl ?_
  refine z_iconst (v := 2) B dL_law_1227 rfl ?_
  refine z_iadd B dL_law_1228 ?_
  refine z_top (st1 := [.int 2, .ref b, .int 8, .ref y]) (congrArg (fun w9 : Int32 => ([.int w9, .ref b, .int 8, .ref y] : List Value)) (show (0 + 2 : Int32) = 2 by decide +kernel)) ?_
  refine z_sald B hX hbn (vin rfl) dL_law_1229 ?_
  refine z_top (st1 := [.int a2, .int 8, .ref y]) (congrArg (fun w9 : Int32 => ([.int w9, .int 8, .ref y] : List Value)) (show xs (2 : Int32).toNatClampNeg = a2 from hx2)) ?_
  refine z_if_eq (tgt := 1237) B dL_law_1230 rfl (fun h9 => absurd h9 hbz) (fun c_2 => ?_)
  refine z_iconst (v := 1) B dL_law_1233 rfl ?_
  refine z_goto (tgt := 1238) B dL_law_1234 rfl ?_
  have h_1 : Φ1 y = some (o_ 14 [.int 0, .ref (y + 1), .ref (y + 2), .int 0, .int 1, .int 1, .int 0, .int 0, .ref (y + 3), .ref (y + 4), .int 0, .long 0, .ref (y + 5), .int 0, .int 0, .long 0, .long 0, .long 0, .long 0, .ref (y + 6), .ref (y + 7), .int 0, .ref (y + 8), .int 0, .ref (y + 9), .ref (y + 10), .int 0, .ref (y + 11), .ref (y + 12), .ref (y + 13), .ref (y + 14), .ref (y + 15), .ref (y + 16), .int 0, .long (-1), .ref (y + 17), .ref (y + 18), .ref (y + 19), .ref (y + 20), .ref (y + 21), .ref (y + 22), .int 0, .ref (y + 23), .ref (y + 24), .int 0, .ref (y + 25), .int 0, .int 0, .int 0, .int (-1), .int 0, .int 0, .int 0, .long 0]) := ((fr1 y hxy (Nat.ne_of_lt (Nat.lt_of_lt_of_le (lt_off (x := y) (i := 0) (j := 26) rfl) hyo))).trans hy_0)
  have h_2 : Φ1 (y + 2) = some (ai_ G 307 (upd (upd (upd (upd (upd (upd (upd (upd (upd (upd (upd (upd (upd (upd (upd (upd (upd (upd (upd (upd (upd (fun _ => 0) (0 : Int32).toNatClampNeg 1) (1 : Int32).toNatClampNeg 100) (2 : Int32).toNatClampNeg 1000) (3 : Int32).toNatClampNeg 100) (4 : Int32).toNatClampNeg 20) (5 : Int32).toNatClampNeg 1000) (6 : Int32).toNatClampNeg 5000) (7 : Int32).toNatClampNeg 512) (8 : Int32).toNatClampNeg 1) (9 : Int32).toNatClampNeg 511) (10 : Int32).toNatClampNeg 1) (11 : Int32).toNatClampNeg 9) (15 : Int32).toNatClampNeg 0) (16 : Int32).toNatClampNeg 1) (17 : Int32).toNatClampNeg 2) (18 : Int32).toNatClampNeg 3) (19 : Int32).toNatClampNeg 4) (20 : Int32).toNatClampNeg 5) (21 : Int32).toNatClampNeg 6) (22 : Int32).toNatClampNeg 7) (23 : Int32).toNatClampNeg 8)) := ((fr1 (y + 2) (Nat.le_trans hxy (Nat.le_add_right y 2)) (Nat.ne_of_lt (Nat.lt_of_lt_of_le (lt_off (x := y) (i := 2) (j := 26) rfl) hyo))).trans hy_2)
  refine z_callV (As := [.int 8, .int 1]) (rest := []) B (m_X12_setSupport_8_1 G l Φ1 sz1 y h_1 h_2 (Nat.le_trans hna (Nat.le_trans (Nat.le_add_right x 149) hxy))) (cwV 2 B.1.2.2.2.2 gL_law_X12_setSupport rfl rfl rfl (by decide +kernel) ⟨Nat.le_of_ble_eq_true rfl, Nat.le_of_ble_eq_true rfl⟩) h_1 rfl rfl rfl rfl (Nat.le_of_ble_eq_true rfl) dL_law_1238 ⟨Nat.le_of_ble_eq_true rfl, Nat.le_of_ble_eq_true rfl⟩ (fun v2 Φ2 sz2 st2 hp2 hs2 => ?_)
  obtain ⟨rfl, ⟨fs1, hy1, hk1⟩, fr2⟩ := hp2
  replace hs2 : st2 = [.int 1] := hs2
  subst st2
  refine z_istore (lv' := [(7, .int 1), (6, .int 0), (5, .int 0), (4, .ref d), (3, .ref o), (2, .ref y), (1, .ref x), (0, .ref b)]) B dL_law_1241 (Nat.le_of_ble_eq_true rfl) rfl ?_
  refine z_aload_n B dL_law_1243 rfl 5 rfl ?_
  refine z_callV (As := []) (rest := []) B (m_thrown G l Φ2 sz2 y fs1 0 hy1 hk1) (cwV 0 B.1.2.2.2.2 gL_law_X12_thrown rfl rfl rfl (by decide +kernel) ⟨Nat.le_of_ble_eq_true rfl, Nat.le_of_ble_eq_true rfl⟩) hy1 rfl rfl rfl rfl (Nat.le_of_ble_eq_true rfl) dL_law_1244 ⟨Nat.le_of_ble_eq_true rfl, Nat.le_of_ble_eq_true rfl⟩ (fun v3 Φ3 sz3 st3 hp3 hs3 => ?_)
  obtain ⟨rfl, he1⟩ := hp3
  replace hs3 : st3 = [.int 0] := hs3
  subst st3
  rw [he1]
  refine z_iload B dL_law_1247 1 rfl ?_
  refine z_icmp_eq (tgt := 1254) B dL_law_1249 rfl (fun c_3 => ?_) (fun h9 => absurd (by decide) h9)
  refine z_iload B dL_law_1254 1 rfl ?_
  refine z_if_ne (tgt := 1278) B dL_law_1256 rfl (fun h9 => absurd (by decide) h9) (fun c_4 => ?_)
  refine z_aload_n B dL_law_1259 rfl 4 rfl ?_
  refine z_iconst (v := 0) B dL_law_1260 rfl ?_
  have h_3 : Φ2 o = some (al_ G 1 g1) := ((fr2 o hyo).trans ho1)
  refine z_lald B h_3 (vin rfl) dL_law_1261 ?_
  refine z_top (st1 := [.long 1]) (congrArg (fun w9 : Int64 => ([.long w9] : List Value)) (show g1 (0 : Int32).toNatClampNeg = 1 from hg1)) ?_
  refine z_iload B dL_law_1262 0 rfl ?_
  refine z_if_eq (tgt := 1271) B dL_law_1264 rfl (fun h9 => absurd h9 (by decide)) (fun c_5 => ?_)
  refine z_lconst (v := 1) B dL_law_1267 rfl ?_
  refine z_goto (tgt := 1272) B dL_law_1268 rfl ?_
  refine z_lcmp B dL_law_1272 ?_
  refine z_top (st1 := [.int 0]) (congrArg (fun w9 : Int32 => ([.int w9] : List Value)) (show (lg_cmp 1 1 : Int32) = 0 by decide +kernel)) ?_
  refine z_if_eq (tgt := 1278) B dL_law_1273 rfl (fun c_6 => ?_) (fun h9 => absurd (by decide) h9)
  refine z_goto (tgt := 2893) B dL_law_1278 rfl ?_
  refine z_lv [2, 3, 4, 5, 6, 7] rfl ?_
  refine z_widen (k := 178) (n := 20844) (Nat.le_of_ble_eq_true rfl) (Nat.le_of_ble_eq_true rfl) ?_
  exact hT _ _

set_option maxHeartbeats 4000000 in
set_option maxRecDepth 100000 in
theorem lc_22_x0 {p9 : Program} {e9 : Env} {s9 : State} {m9 : MethodId} {a9 : Array Value} {w9 : List Frame} {t9 : Method} {k9 : Code} {Q9 : State → Prop} {nm9 : String} (G : EnvG) (l : Launch) (hl9 : l.stackTraces = false) (B : Bd p9 s9 m9 a9 t9 k9 G code 9 RL wsL_law ret nm9) (Φ : Hm) (sz : Nat) (b : Nat) (xs : Nat → Int32) (hX : va_X b 7 xs s9 s9.heap) (hbn : b < G.2.2.2) (x y o d : Nat) (a1 : Int32) (go : Nat → Int64) (gd : Nat → UInt64) (hna : G.2.2.2 ≤ x) (hxy : x + 149 ≤ y) (hyo : y + 26 ≤ o) (hyd : y + 26 ≤ d) (hod : o ≠ d) (hx_0 : Φ x = some (o_ 13 [.ref (x + 1), .ref (x + 3), .ref (x + 24), .ref (x + 46), .ref (x + 74), .ref (x + 80), .ref (x + 132), .ref (x + 121)])) (hy_0 : Φ y = some (o_ 14 [.int 0, .ref (y + 1), .ref (y + 2), .int 0, .int 1, .int 1, .int 0, .int 0, .ref (y + 3), .ref (y + 4), .int 0, .long 0, .ref (y + 5), .int 0, .int 0, .long 0, .long 0, .long 0, .long 0, .ref (y + 6), .ref (y + 7), .int 0, .ref (y + 8), .int 0, .ref (y + 9), .ref (y + 10), .int 0, .ref (y + 11), .ref (y + 12), .ref (y + 13), .ref (y + 14), .ref (y + 15), .ref (y + 16), .int 0, .long (-1), .ref (y + 17), .ref (y + 18), .ref (y + 19), .ref (y + 20), .ref (y + 21), .ref (y + 22), .int 0, .ref (y + 23), .ref (y + 24), .int 0, .ref (y + 25), .int 0, .int 0, .int 0, .int (-1), .int 0, .int 0, .int 0, .long 0])) (hx1 : xs 1 = a1) (hx2 : xs 2 = 0) (Fha : ¬ (¬ a1 < 0 ∧ a1 < 9)) (Mhp : ¬ inP a1.toInt64 0 8) (hT : ∀ (Φ1 : Hm) (sz1 : Nat), Z p9 l e9 room_1 s9 m9 a9 w9 t9 k9 Q9 G 9 2893 [(5, .int 0), (4, .ref d), (3, .ref o), (2, .ref y), (1, .ref x), (0, .ref b)] [] Φ1 sz1 178 20844) : Z p9 l e9 room_1 s9 m9 a9 w9 t9 k9 Q9 G 9 1190 [(5, .int 0), (4, .ref d), (3, .ref o), (2, .ref y), (1, .ref x), (0, .ref b)] [] Φ sz 177 20838 := by
  refine z_aload_n B dL_law_1190 rfl 4 rfl ?_
  refine z_aload_n B dL_law_1191 rfl 5 rfl ?_
  refine z_iload B dL_law_1192 0 rfl ?_
  refine z_iconst (v := 1) B dL_law_1194 rfl ?_
  refine z_iadd B dL_law_1195 ?_
  refine z_top (st1 := [.int 1, .ref b, .ref x]) (congrArg (fun w9 : Int32 => ([.int w9, .ref b, .ref x] : List Value)) (show (0 + 1 : Int32) = 1 by decide +kernel)) ?_
  refine z_sald B hX hbn (vin rfl) dL_law_1196 ?_
  refine z_top (st1 := [.int a1, .ref x]) (congrArg (fun w9 : Int32 => ([.int w9, .ref x] : List Value)) (show xs (1 : Int32).toNatClampNeg = a1 from hx1)) ?_
  refine z_aload_n B dL_law_1197 rfl 5 rfl ?_
  refine z_iload B dL_law_1198 0 rfl ?_
  refine z_iconst (v := 2) B dL_law_1200 rfl ?_
  refine z_iadd B dL_law_1201 ?_
  refine z_top (st1 := [.int 2, .ref b, .int a1, .ref x]) (congrArg (fun w9 : Int32 => ([.int w9, .ref b, .int a1, .ref x] : List Value)) (show (0 + 2 : Int32) = 2 by decide +kernel)) ?_
  refine z_sald B hX hbn (vin rfl) dL_law_1202 ?_
  refine z_top (st1 := [.int 0, .int a1, .ref x]) (congrArg (fun w9 : Int32 => ([.int w9, .int a1, .ref x] : List Value)) (show xs (2 : Int32).toNatClampNeg = 0 from hx2)) ?_
  refine z_if_eq (tgt := 1210) B dL_law_1203 rfl (fun c_1 => ?_) (fun h9 => absurd rfl h9)
  refine z_iconst (v := 0) B dL_law_1210 rfl ?_
  refine z_aload_n B dL_law_1211 rfl 2 rfl ?_
  refine z_callSW (As := [.ref x, .int a1, .int 0, .ref o]) (rest := []) B (w_setSupport_x G l hl9 Φ sz x o a1 0 hx_0 Fha) (vx_cwSW 4 B.1.2.2.2.2 gL_law_L_setSupport rfl rfl rfl (by decide +kernel) ⟨Nat.le_of_ble_eq_true rfl, Nat.le_of_ble_eq_true rfl⟩) rfl rfl (Nat.le_of_ble_eq_true rfl) dL_law_1212 ⟨Nat.le_of_ble_eq_true rfl, Nat.le_of_ble_eq_true rfl⟩ (fun v1 Φ1 sz1 st1 hp1 hs1 => ?_)
  obtain ⟨rfl, he1⟩ := hp1
  replace hs1 : st1 = [.int 1] := hs1
  subst st1
  rw [he1]
  refine z_istore (lv' := [(6, .int 1), (5, .int 0), (4, .ref d), (3, .ref o), (2, .ref y), (1, .ref x), (0, .ref b)]) B dL_law_1215 (Nat.le_of_ble_eq_true rfl) rfl ?_
  refine z_aload_n B dL_law_1217 rfl 4 rfl ?_
  refine z_aload_n B dL_law_1218 rfl 6 rfl ?_
  refine z_iload B dL_law_1219 1 rfl ?_
  refine z_iconst (v := 1) B dL_law_1221 rfl ?_
  refine z_iadd B dL_law_1222 ?_
  refine z_top (st1 := [.int 1, .ref b, .ref y]) (congrArg (fun w9 : Int32 => ([.int w9, .ref b, .ref y] : List Value)) (show (0 + 1 : Int32) = 1 by decide +kernel)) ?_
  refine z_sald B hX hbn (vin rfl) dL_law_1223 ?_
  refine z_top (st1 := [.int a1, .ref y]) (congrArg (fun w9 : Int32 => ([.int w9, .ref y] : List Value)) (show xs (1 : Int32).toNatClampNeg = a1 from hx1)) ?_
  refine z_aload_n B dL_law_1224 rfl 6 rfl ?_
  refine z_iload B dL_law_1225 1 rfl ?_
  refine z_iconst (v := 2) B dL_law_1227 rfl ?_
  refine z_iadd B dL_law_1228 ?_
  refine z_top (st1 := [.int 2, .ref b, .int a1, .ref y]) (congrArg (fun w9 : Int32 => ([.int w9, .ref b, .int a1, .ref y] : List Value)) (show (0 + 2 : Int32) = 2 by decide +kernel)) ?_
  refine z_sald B hX hbn (vin rfl) dL_law_1229 ?_
  refine z_top (st1 := [.int 0, .int a1, .ref y]) (congrArg (fun w9 : Int32 => ([.int w9, .int a1, .ref y] : List Value)) (show xs (2 : Int32).toNatClampNeg = 0 from hx2)) ?_
  refine z_if_eq (tgt := 1237) B dL_law_1230 rfl (fun c_2 => ?_) (fun h9 => absurd rfl h9)
  refine z_iconst (v := 0) B dL_law_1237 rfl ?_
  refine z_callV (As := [.int a1, .int 0]) (rest := []) B (m_X12_setSupport_x G l Φ sz1 y a1 0 hy_0 (Nat.le_trans hna (Nat.le_trans (Nat.le_add_right x 149) hxy)) Mhp) (cwV 2 B.1.2.2.2.2 gL_law_X12_setSupport rfl rfl rfl (by decide +kernel) ⟨Nat.le_of_ble_eq_true rfl, Nat.le_of_ble_eq_true rfl⟩) hy_0 rfl rfl rfl rfl (Nat.le_of_ble_eq_true rfl) dL_law_1238 ⟨Nat.le_of_ble_eq_true rfl, Nat.le_of_ble_eq_true rfl⟩ (fun v2 Φ2 sz2 st2 hp2 hs2 => ?_)
  obtain ⟨rfl, ⟨fs1, hy1, hk1⟩, fr1⟩ := hp2
  replace hs2 : st2 = [.int 0] := hs2
  subst st2
  refine z_istore (lv' := [(7, .int 0), (6, .int 1), (5, .int 0), (4, .ref d), (3, .ref o), (2, .ref y), (1, .ref x), (0, .ref b)]) B dL_law_1241 (Nat.le_of_ble_eq_true rfl) rfl ?_
  refine z_aload_n B dL_law_1243 rfl 5 rfl ?_
  refine z_callV (As := []) (rest := []) B (m_thrown G l Φ2 sz2 y fs1 1 hy1 hk1) (cwV 0 B.1.2.2.2.2 gL_law_X12_thrown rfl rfl rfl (by decide +kernel) ⟨Nat.le_of_ble_eq_true rfl, Nat.le_of_ble_eq_true rfl⟩) hy1 rfl rfl rfl rfl (Nat.le_of_ble_eq_true rfl) dL_law_1244 ⟨Nat.le_of_ble_eq_true rfl, Nat.le_of_ble_eq_true rfl⟩ (fun v3 Φ3 sz3 st3 hp3 hs3 => ?_)
  obtain ⟨rfl, he2⟩ := hp3
  replace hs3 : st3 = [.int 1] := hs3
  subst st3
  rw [he2]
  refine z_iload B dL_law_1247 1 rfl ?_
  refine z_icmp_eq (tgt := 1254) B dL_law_1249 rfl (fun c_3 => ?_) (fun h9 => absurd (by decide) h9)
  refine z_iload B dL_law_1254 1 rfl ?_
  refine z_if_ne (tgt := 1278) B dL_law_1256 rfl (fun c_4 => ?_) (fun h9 => absurd h9 (by decide))
  refine z_goto (tgt := 2893) B dL_law_1278 rfl ?_
  refine z_lv [2, 3, 4, 5, 6, 7] rfl ?_
  exact hT _ _

set_option maxHeartbeats 4000000 in
set_option maxRecDepth 100000 in
theorem lc_22_x1 {p9 : Program} {e9 : Env} {s9 : State} {m9 : MethodId} {a9 : Array Value} {w9 : List Frame} {t9 : Method} {k9 : Code} {Q9 : State → Prop} {nm9 : String} (G : EnvG) (l : Launch) (hl9 : l.stackTraces = false) (B : Bd p9 s9 m9 a9 t9 k9 G code 9 RL wsL_law ret nm9) (Φ : Hm) (sz : Nat) (b : Nat) (xs : Nat → Int32) (hX : va_X b 7 xs s9 s9.heap) (hbn : b < G.2.2.2) (x y o d : Nat) (a1 : Int32) (a2 : Int32) (go : Nat → Int64) (gd : Nat → UInt64) (hna : G.2.2.2 ≤ x) (hxy : x + 149 ≤ y) (hyo : y + 26 ≤ o) (hyd : y + 26 ≤ d) (hod : o ≠ d) (hx_0 : Φ x = some (o_ 13 [.ref (x + 1), .ref (x + 3), .ref (x + 24), .ref (x + 46), .ref (x + 74), .ref (x + 80), .ref (x + 132), .ref (x + 121)])) (hy_0 : Φ y = some (o_ 14 [.int 0, .ref (y + 1), .ref (y + 2), .int 0, .int 1, .int 1, .int 0, .int 0, .ref (y + 3), .ref (y + 4), .int 0, .long 0, .ref (y + 5), .int 0, .int 0, .long 0, .long 0, .long 0, .long 0, .ref (y + 6), .ref (y + 7), .int 0, .ref (y + 8), .int 0, .ref (y + 9), .ref (y + 10), .int 0, .ref (y + 11), .ref (y + 12), .ref (y + 13), .ref (y + 14), .ref (y + 15), .ref (y + 16), .int 0, .long (-1), .ref (y + 17), .ref (y + 18), .ref (y + 19), .ref (y + 20), .ref (y + 21), .ref (y + 22), .int 0, .ref (y + 23), .ref (y + 24), .int 0, .ref (y + 25), .int 0, .int 0, .int 0, .int (-1), .int 0, .int 0, .int 0, .long 0])) (hx1 : xs 1 = a1) (hx2 : xs 2 = a2) (hbz : a2 ≠ 0) (Fha : ¬ (¬ a1 < 0 ∧ a1 < 9)) (Mhp : ¬ inP a1.toInt64 0 8) (hT : ∀ (Φ1 : Hm) (sz1 : Nat), Z p9 l e9 room_1 s9 m9 a9 w9 t9 k9 Q9 G 9 2893 [(5, .int 0), (4, .ref d), (3, .ref o), (2, .ref y), (1, .ref x), (0, .ref b)] [] Φ1 sz1 178 20844) : Z p9 l e9 room_1 s9 m9 a9 w9 t9 k9 Q9 G 9 1190 [(5, .int 0), (4, .ref d), (3, .ref o), (2, .ref y), (1, .ref x), (0, .ref b)] [] Φ sz 177 20838 := by
  refine z_aload_n B dL_law_1190 rfl 4 rfl ?_
  refine z_aload_n B dL_law_1191 rfl 5 rfl ?_
  refine z_iload B dL_law_1192 0 rfl ?_
  refine z_iconst (v := 1) B dL_law_1194 rfl ?_
  refine z_iadd B dL_law_1195 ?_
  refine z_top (st1 := [.int 1, .ref b, .ref x]) (congrArg (fun w9 : Int32 => ([.int w9, .ref b, .ref x] : List Value)) (show (0 + 1 : Int32) = 1 by decide +kernel)) ?_
  refine z_sald B hX hbn (vin rfl) dL_law_1196 ?_
  refine z_top (st1 := [.int a1, .ref x]) (congrArg (fun w9 : Int32 => ([.int w9, .ref x] : List Value)) (show xs (1 : Int32).toNatClampNeg = a1 from hx1)) ?_
  refine z_aload_n B dL_law_1197 rfl 5 rfl ?_
  refine z_iload B dL_law_1198 0 rfl ?_
  refine z_iconst (v := 2) B dL_law_1200 rfl ?_
  refine z_iadd B dL_law_1201 ?_
  refine z_top (st1 := [.int 2, .ref b, .int a1, .ref x]) (congrArg (fun w9 : Int32 => ([.int w9, .ref b, .int a1, .ref x] : List Value)) (show (0 + 2 : Int32) = 2 by decide +kernel)) ?_
  refine z_sald B hX hbn (vin rfl) dL_law_1202 ?_
  refine z_top (st1 := [.int a2, .int a1, .ref x]) (congrArg (fun w9 : Int32 => ([.int w9, .int a1, .ref x] : List Value)) (show xs (2 : Int32).toNatClampNeg = a2 from hx2)) ?_
  refine z_if_eq (tgt := 1210) B dL_law_1203 rfl (fun h9 => absurd h9 hbz) (fun c_1 => ?_)
  refine z_iconst (v := 1) B dL_law_1206 rfl ?_
  refine z_goto (tgt := 1211) B dL_law_1207 rfl ?_
  refine z_aload_n B dL_law_1211 rfl 2 rfl ?_
  refine z_callSW (As := [.ref x, .int a1, .int 1, .ref o]) (rest := []) B (w_setSupport_x G l hl9 Φ sz x o a1 1 hx_0 Fha) (vx_cwSW 4 B.1.2.2.2.2 gL_law_L_setSupport rfl rfl rfl (by decide +kernel) ⟨Nat.le_of_ble_eq_true rfl, Nat.le_of_ble_eq_true rfl⟩) rfl rfl (Nat.le_of_ble_eq_true rfl) dL_law_1212 ⟨Nat.le_of_ble_eq_true rfl, Nat.le_of_ble_eq_true rfl⟩ (fun v1 Φ1 sz1 st1 hp1 hs1 => ?_)
  obtain ⟨rfl, he1⟩ := hp1
  replace hs1 : st1 = [.int 1] := hs1
  subst st1
  rw [he1]
  refine z_istore (lv' := [(6, .int 1), (5, .int 0), (4, .ref d), (3, .ref o), (2, .ref y), (1, .ref x), (0, .ref b)]) B dL_law_1215 (Nat.le_of_ble_eq_true rfl) rfl ?_
  refine z_aload_n B dL_law_1217 rfl 4 rfl ?_
  refine z_aload_n B dL_law_1218 rfl 6 rfl ?_
  refine z_iload B dL_law_1219 1 rfl ?_
  refine z_iconst (v := 1) B dL_law_1221 rfl ?_
  refine z_iadd B dL_law_1222 ?_
  refine z_top (st1 := [.int 1, .ref b, .ref y]) (congrArg (fun w9 : Int32 => ([.int w9, .ref b, .ref y] : List Value)) (show (0 + 1 : Int32) = 1 by decide +kernel)) ?_
  refine z_sald B hX hbn (vin rfl) dL_law_1223 ?_
  refine z_top (st1 := [.int a1, .ref y]) (congrArg (fun w9 : Int32 => ([.int w9, .ref y] : List Value)) (show xs (1 : Int32).toNatClampNeg = a1 from hx1)) ?_
  refine z_aload_n B dL_law_1224 rfl 6 rfl ?_
  refine z_iload B dL_law_1225 1 rfl ?_
  refine z_iconst (v := 2) B dL_law_1227 rfl ?_
  refine z_iadd B dL_law_1228 ?_
  refine z_top (st1 := [.int 2, .ref b, .int a1, .ref y]) (congrArg (fun w9 : Int32 => ([.int w9, .ref b, .int a1, .ref y] : List Value)) (show (0 + 2 : Int32) = 2 by decide +kernel)) ?_
  refine z_sald B hX hbn (vin rfl) dL_law_1229 ?_
  refine z_top (st1 := [.int a2, .int a1, .ref y]) (congrArg (fun w9 : Int32 => ([.int w9, .int a1, .ref y] : List Value)) (show xs (2 : Int32).toNatClampNeg = a2 from hx2)) ?_
  refine z_if_eq (tgt := 1237) B dL_law_1230 rfl (fun h9 => absurd h9 hbz) (fun c_2 => ?_)
  refine z_iconst (v := 1) B dL_law_1233 rfl ?_
  refine z_goto (tgt := 1238) B dL_law_1234 rfl ?_
  refine z_callV (As := [.int a1, .int 1]) (rest := []) B (m_X12_setSupport_x G l Φ sz1 y a1 1 hy_0 (Nat.le_trans hna (Nat.le_trans (Nat.le_add_right x 149) hxy)) Mhp) (cwV 2 B.1.2.2.2.2 gL_law_X12_setSupport rfl rfl rfl (by decide +kernel) ⟨Nat.le_of_ble_eq_true rfl, Nat.le_of_ble_eq_true rfl⟩) hy_0 rfl rfl rfl rfl (Nat.le_of_ble_eq_true rfl) dL_law_1238 ⟨Nat.le_of_ble_eq_true rfl, Nat.le_of_ble_eq_true rfl⟩ (fun v2 Φ2 sz2 st2 hp2 hs2 => ?_)
  obtain ⟨rfl, ⟨fs1, hy1, hk1⟩, fr1⟩ := hp2
  replace hs2 : st2 = [.int 0] := hs2
  subst st2
  refine z_istore (lv' := [(7, .int 0), (6, .int 1), (5, .int 0), (4, .ref d), (3, .ref o), (2, .ref y), (1, .ref x), (0, .ref b)]) B dL_law_1241 (Nat.le_of_ble_eq_true rfl) rfl ?_
  refine z_aload_n B dL_law_1243 rfl 5 rfl ?_
  refine z_callV (As := []) (rest := []) B (m_thrown G l Φ2 sz2 y fs1 1 hy1 hk1) (cwV 0 B.1.2.2.2.2 gL_law_X12_thrown rfl rfl rfl (by decide +kernel) ⟨Nat.le_of_ble_eq_true rfl, Nat.le_of_ble_eq_true rfl⟩) hy1 rfl rfl rfl rfl (Nat.le_of_ble_eq_true rfl) dL_law_1244 ⟨Nat.le_of_ble_eq_true rfl, Nat.le_of_ble_eq_true rfl⟩ (fun v3 Φ3 sz3 st3 hp3 hs3 => ?_)
  obtain ⟨rfl, he2⟩ := hp3
  replace hs3 : st3 = [.int 1] := hs3
  subst st3
  rw [he2]
  refine z_iload B dL_law_1247 1 rfl ?_
  refine z_icmp_eq (tgt := 1254) B dL_law_1249 rfl (fun c_3 => ?_) (fun h9 => absurd (by decide) h9)
  refine z_iload B dL_law_1254 1 rfl ?_
  refine z_if_ne (tgt := 1278) B dL_law_1256 rfl (fun c_4 => ?_) (fun h9 => absurd h9 (by decide))
  refine z_goto (tgt := 2893) B dL_law_1278 rfl ?_
  refine z_lv [2, 3, 4, 5, 6, 7] rfl ?_
  exact hT _ _

set_option maxHeartbeats 4000000 in
set_option maxRecDepth 100000 in
theorem lc_33 {p9 : Program} {e9 : Env} {s9 : State} {m9 : MethodId} {a9 : Array Value} {w9 : List Frame} {t9 : Method} {k9 : Code} {Q9 : State → Prop} {nm9 : String} (G : EnvG) (l : Launch) (hl9 : l.stackTraces = false) (B : Bd p9 s9 m9 a9 t9 k9 G code 9 RL wsL_law ret nm9) (Φ : Hm) (sz : Nat) (b : Nat) (xs : Nat → Int32) (hX : va_X b 7 xs s9 s9.heap) (hbn : b < G.2.2.2) (x y o d : Nat) (a1 : Int32) (go : Nat → Int64) (gd : Nat → UInt64) (hna : G.2.2.2 ≤ x) (hxy : x + 149 ≤ y) (hyo : y + 26 ≤ o) (hyd : y + 26 ≤ d) (hod : o ≠ d) (hx_0 : Φ x = some (o_ 13 [.ref (x + 1), .ref (x + 3), .ref (x + 24), .ref (x + 46), .ref (x + 74), .ref (x + 80), .ref (x + 132), .ref (x + 121)])) (hx_46 : Φ (x + 46) = some (o_ 9 [.ref (x + 47), .int 0, .int 0])) (hy_0 : Φ y = some (o_ 14 [.int 0, .ref (y + 1), .ref (y + 2), .int 0, .int 1, .int 1, .int 0, .int 0, .ref (y + 3), .ref (y + 4), .int 0, .long 0, .ref (y + 5), .int 0, .int 0, .long 0, .long 0, .long 0, .long 0, .ref (y + 6), .ref (y + 7), .int 0, .ref (y + 8), .int 0, .ref (y + 9), .ref (y + 10), .int 0, .ref (y + 11), .ref (y + 12), .ref (y + 13), .ref (y + 14), .ref (y + 15), .ref (y + 16), .int 0, .long (-1), .ref (y + 17), .ref (y + 18), .ref (y + 19), .ref (y + 20), .ref (y + 21), .ref (y + 22), .int 0, .ref (y + 23), .ref (y + 24), .int 0, .ref (y + 25), .int 0, .int 0, .int 0, .int (-1), .int 0, .int 0, .int 0, .long 0])) (hx1 : xs 1 = a1) (Mhp : ¬ inP a1.toInt64 0 (-1)) (hT : ∀ (Φ1 : Hm) (sz1 : Nat), Z p9 l e9 room_1 s9 m9 a9 w9 t9 k9 Q9 G 9 2893 [(5, .int 0), (4, .ref d), (3, .ref o), (2, .ref y), (1, .ref x), (0, .ref b)] [] Φ1 sz1 178 20844) : Z p9 l e9 room_1 s9 m9 a9 w9 t9 k9 Q9 G 9 1464 [(5, .int 0), (4, .ref d), (3, .ref o), (2, .ref y), (1, .ref x), (0, .ref b)] [] Φ sz 177 20838 := by
  refine z_aload_n B dL_law_1464 rfl 4 rfl ?_
  refine z_aload_n B dL_law_1465 rfl 5 rfl ?_
  refine z_iload B dL_law_1466 0 rfl ?_
  refine z_iconst (v := 1) B dL_law_1468 rfl ?_
  refine z_iadd B dL_law_1469 ?_
  refine z_top (st1 := [.int 1, .ref b, .ref x]) (congrArg (fun w9 : Int32 => ([.int w9, .ref b, .ref x] : List Value)) (show (0 + 1 : Int32) = 1 by decide +kernel)) ?_
  refine z_sald B hX hbn (vin rfl) dL_law_1470 ?_
  refine z_top (st1 := [.int a1, .ref x]) (congrArg (fun w9 : Int32 => ([.int w9, .ref x] : List Value)) (show xs (1 : Int32).toNatClampNeg = a1 from hx1)) ?_
  refine z_aload_n B dL_law_1471 rfl 2 rfl ?_
  refine z_callSW (As := [.ref x, .int a1, .ref o]) (rest := []) B (w_messageLength_x G l hl9 Φ sz x o a1 hx_0 hx_46) (vx_cwSW 3 B.1.2.2.2.2 gL_law_L_messageLength rfl rfl rfl (by decide +kernel) ⟨Nat.le_of_ble_eq_true rfl, Nat.le_of_ble_eq_true rfl⟩) rfl rfl (Nat.le_of_ble_eq_true rfl) dL_law_1472 ⟨Nat.le_of_ble_eq_true rfl, Nat.le_of_ble_eq_true rfl⟩ (fun v1 Φ1 sz1 st1 hp1 hs1 => ?_)
  obtain ⟨rfl, he1⟩ := hp1
  replace hs1 : st1 = [.int 1] := hs1
  subst st1
  rw [he1]
  refine z_istore (lv' := [(6, .int 1), (5, .int 0), (4, .ref d), (3, .ref o), (2, .ref y), (1, .ref x), (0, .ref b)]) B dL_law_1475 (Nat.le_of_ble_eq_true rfl) rfl ?_
  refine z_aload_n B dL_law_1477 rfl 4 rfl ?_
  refine z_aload_n B dL_law_1478 rfl 6 rfl ?_
  refine z_iload B dL_law_1479 1 rfl ?_
  refine z_iconst (v := 1) B dL_law_1481 rfl ?_
  refine z_iadd B dL_law_1482 ?_
  refine z_top (st1 := [.int 1, .ref b, .ref y]) (congrArg (fun w9 : Int32 => ([.int w9, .ref b, .ref y] : List Value)) (show (0 + 1 : Int32) = 1 by decide +kernel)) ?_
  refine z_sald B hX hbn (vin rfl) dL_law_1483 ?_
  refine z_top (st1 := [.int a1, .ref y]) (congrArg (fun w9 : Int32 => ([.int w9, .ref y] : List Value)) (show xs (1 : Int32).toNatClampNeg = a1 from hx1)) ?_
  refine z_callV (As := [.int a1]) (rest := []) B (m_X12_messageLength_x G l Φ sz1 y a1 hy_0 (Nat.le_trans hna (Nat.le_trans (Nat.le_add_right x 149) hxy)) Mhp) (cwV 1 B.1.2.2.2.2 gL_law_X12_messageLength rfl rfl rfl (by decide +kernel) ⟨Nat.le_of_ble_eq_true rfl, Nat.le_of_ble_eq_true rfl⟩) hy_0 rfl rfl rfl rfl (Nat.le_of_ble_eq_true rfl) dL_law_1484 ⟨Nat.le_of_ble_eq_true rfl, Nat.le_of_ble_eq_true rfl⟩ (fun v2 Φ2 sz2 st2 hp2 hs2 => ?_)
  obtain ⟨rfl, ⟨fs1, hy1, hk1⟩, fr1⟩ := hp2
  replace hs2 : st2 = [.int 0] := hs2
  subst st2
  refine z_istore (lv' := [(7, .int 0), (6, .int 1), (5, .int 0), (4, .ref d), (3, .ref o), (2, .ref y), (1, .ref x), (0, .ref b)]) B dL_law_1487 (Nat.le_of_ble_eq_true rfl) rfl ?_
  refine z_aload_n B dL_law_1489 rfl 5 rfl ?_
  refine z_callV (As := []) (rest := []) B (m_thrown G l Φ2 sz2 y fs1 1 hy1 hk1) (cwV 0 B.1.2.2.2.2 gL_law_X12_thrown rfl rfl rfl (by decide +kernel) ⟨Nat.le_of_ble_eq_true rfl, Nat.le_of_ble_eq_true rfl⟩) hy1 rfl rfl rfl rfl (Nat.le_of_ble_eq_true rfl) dL_law_1490 ⟨Nat.le_of_ble_eq_true rfl, Nat.le_of_ble_eq_true rfl⟩ (fun v3 Φ3 sz3 st3 hp3 hs3 => ?_)
  obtain ⟨rfl, he2⟩ := hp3
  replace hs3 : st3 = [.int 1] := hs3
  subst st3
  rw [he2]
  refine z_iload B dL_law_1493 1 rfl ?_
  refine z_icmp_eq (tgt := 1500) B dL_law_1495 rfl (fun c_1 => ?_) (fun h9 => absurd (by decide) h9)
  refine z_iload B dL_law_1500 1 rfl ?_
  refine z_if_ne (tgt := 1517) B dL_law_1502 rfl (fun c_2 => ?_) (fun h9 => absurd h9 (by decide))
  refine z_goto (tgt := 2893) B dL_law_1517 rfl ?_
  refine z_lv [2, 3, 4, 5, 6, 7] rfl ?_
  exact hT _ _

set_option maxHeartbeats 4000000 in
set_option maxRecDepth 100000 in
theorem lc_34 {p9 : Program} {e9 : Env} {s9 : State} {m9 : MethodId} {a9 : Array Value} {w9 : List Frame} {t9 : Method} {k9 : Code} {Q9 : State → Prop} {nm9 : String} (G : EnvG) (l : Launch) (hl9 : l.stackTraces = false) (B : Bd p9 s9 m9 a9 t9 k9 G code 9 RL wsL_law ret nm9) (Φ : Hm) (sz : Nat) (b : Nat) (xs : Nat → Int32) (hX : va_X b 7 xs s9 s9.heap) (hbn : b < G.2.2.2) (x y o d : Nat) (a1 : Int32) (a2 : Int32) (go : Nat → Int64) (gd : Nat → UInt64) (hna : G.2.2.2 ≤ x) (hxy : x + 149 ≤ y) (hyo : y + 26 ≤ o) (hyd : y + 26 ≤ d) (hod : o ≠ d) (hx_0 : Φ x = some (o_ 13 [.ref (x + 1), .ref (x + 3), .ref (x + 24), .ref (x + 46), .ref (x + 74), .ref (x + 80), .ref (x + 132), .ref (x + 121)])) (hx_46 : Φ (x + 46) = some (o_ 9 [.ref (x + 47), .int 0, .int 0])) (hy_0 : Φ y = some (o_ 14 [.int 0, .ref (y + 1), .ref (y + 2), .int 0, .int 1, .int 1, .int 0, .int 0, .ref (y + 3), .ref (y + 4), .int 0, .long 0, .ref (y + 5), .int 0, .int 0, .long 0, .long 0, .long 0, .long 0, .ref (y + 6), .ref (y + 7), .int 0, .ref (y + 8), .int 0, .ref (y + 9), .ref (y + 10), .int 0, .ref (y + 11), .ref (y + 12), .ref (y + 13), .ref (y + 14), .ref (y + 15), .ref (y + 16), .int 0, .long (-1), .ref (y + 17), .ref (y + 18), .ref (y + 19), .ref (y + 20), .ref (y + 21), .ref (y + 22), .int 0, .ref (y + 23), .ref (y + 24), .int 0, .ref (y + 25), .int 0, .int 0, .int 0, .int (-1), .int 0, .int 0, .int 0, .long 0])) (hx1 : xs 1 = a1) (hx2 : xs 2 = a2) (Mhp : ¬ inP a1.toInt64 0 (-1)) (hT : ∀ (Φ1 : Hm) (sz1 : Nat), Z p9 l e9 room_1 s9 m9 a9 w9 t9 k9 Q9 G 9 2893 [(5, .int 0), (4, .ref d), (3, .ref o), (2, .ref y), (1, .ref x), (0, .ref b)] [] Φ1 sz1 178 20844) : Z p9 l e9 room_1 s9 m9 a9 w9 t9 k9 Q9 G 9 1520 [(5, .int 0), (4, .ref d), (3, .ref o), (2, .ref y), (1, .ref x), (0, .ref b)] [] Φ sz 177 20838 := by
  refine z_aload_n B dL_law_1520 rfl 4 rfl ?_
  refine z_aload_n B dL_law_1521 rfl 5 rfl ?_
  refine z_iload B dL_law_1522 0 rfl ?_
  refine z_iconst (v := 1) B dL_law_1524 rfl ?_
  refine z_iadd B dL_law_1525 ?_
  refine z_top (st1 := [.int 1, .ref b, .ref x]) (congrArg (fun w9 : Int32 => ([.int w9, .ref b, .ref x] : List Value)) (show (0 + 1 : Int32) = 1 by decide +kernel)) ?_
  refine z_sald B hX hbn (vin rfl) dL_law_1526 ?_
  refine z_top (st1 := [.int a1, .ref x]) (congrArg (fun w9 : Int32 => ([.int w9, .ref x] : List Value)) (show xs (1 : Int32).toNatClampNeg = a1 from hx1)) ?_
  refine z_aload_n B dL_law_1527 rfl 5 rfl ?_
  refine z_iload B dL_law_1528 0 rfl ?_
  refine z_iconst (v := 2) B dL_law_1530 rfl ?_
  refine z_iadd B dL_law_1531 ?_
  refine z_top (st1 := [.int 2, .ref b, .int a1, .ref x]) (congrArg (fun w9 : Int32 => ([.int w9, .ref b, .int a1, .ref x] : List Value)) (show (0 + 2 : Int32) = 2 by decide +kernel)) ?_
  refine z_sald B hX hbn (vin rfl) dL_law_1532 ?_
  refine z_top (st1 := [.int a2, .int a1, .ref x]) (congrArg (fun w9 : Int32 => ([.int w9, .int a1, .ref x] : List Value)) (show xs (2 : Int32).toNatClampNeg = a2 from hx2)) ?_
  refine z_aload_n B dL_law_1533 rfl 2 rfl ?_
  refine z_callSW (As := [.ref x, .int a1, .int a2, .ref o]) (rest := []) B (w_messageByte_x G l hl9 Φ sz x o a1 a2 hx_0 hx_46) (vx_cwSW 4 B.1.2.2.2.2 gL_law_L_messageByte rfl rfl rfl (by decide +kernel) ⟨Nat.le_of_ble_eq_true rfl, Nat.le_of_ble_eq_true rfl⟩) rfl rfl (Nat.le_of_ble_eq_true rfl) dL_law_1534 ⟨Nat.le_of_ble_eq_true rfl, Nat.le_of_ble_eq_true rfl⟩ (fun v1 Φ1 sz1 st1 hp1 hs1 => ?_)
  obtain ⟨rfl, he1⟩ := hp1
  replace hs1 : st1 = [.int 1] := hs1
  subst st1
  rw [he1]
  refine z_istore (lv' := [(6, .int 1), (5, .int 0), (4, .ref d), (3, .ref o), (2, .ref y), (1, .ref x), (0, .ref b)]) B dL_law_1537 (Nat.le_of_ble_eq_true rfl) rfl ?_
  refine z_aload_n B dL_law_1539 rfl 4 rfl ?_
  refine z_aload_n B dL_law_1540 rfl 6 rfl ?_
  refine z_iload B dL_law_1541 1 rfl ?_
  refine z_iconst (v := 1) B dL_law_1543 rfl ?_
  refine z_iadd B dL_law_1544 ?_
  refine z_top (st1 := [.int 1, .ref b, .ref y]) (congrArg (fun w9 : Int32 => ([.int w9, .ref b, .ref y] : List Value)) (show (0 + 1 : Int32) = 1 by decide +kernel)) ?_
  refine z_sald B hX hbn (vin rfl) dL_law_1545 ?_
  refine z_top (st1 := [.int a1, .ref y]) (congrArg (fun w9 : Int32 => ([.int w9, .ref y] : List Value)) (show xs (1 : Int32).toNatClampNeg = a1 from hx1)) ?_
  refine z_aload_n B dL_law_1546 rfl 6 rfl ?_
  refine z_iload B dL_law_1547 1 rfl ?_
  refine z_iconst (v := 2) B dL_law_1549 rfl ?_
  refine z_iadd B dL_law_1550 ?_
  refine z_top (st1 := [.int 2, .ref b, .int a1, .ref y]) (congrArg (fun w9 : Int32 => ([.int w9, .ref b, .int a1, .ref y] : List Value)) (show (0 + 2 : Int32) = 2 by decide +kernel)) ?_
  refine z_sald B hX hbn (vin rfl) dL_law_1551 ?_
  refine z_top (st1 := [.int a2, .int a1, .ref y]) (congrArg (fun w9 : Int32 => ([.int w9, .int a1, .ref y] : List Value)) (show xs (2 : Int32).toNatClampNeg = a2 from hx2)) ?_
  refine z_callV (As := [.int a1, .int a2]) (rest := []) B (m_X12_messageByte_x G l Φ sz1 y a1 a2 hy_0 (Nat.le_trans hna (Nat.le_trans (Nat.le_add_right x 149) hxy)) Mhp) (cwV 2 B.1.2.2.2.2 gL_law_X12_messageByte rfl rfl rfl (by decide +kernel) ⟨Nat.le_of_ble_eq_true rfl, Nat.le_of_ble_eq_true rfl⟩) hy_0 rfl rfl rfl rfl (Nat.le_of_ble_eq_true rfl) dL_law_1552 ⟨Nat.le_of_ble_eq_true rfl, Nat.le_of_ble_eq_true rfl⟩ (fun v2 Φ2 sz2 st2 hp2 hs2 => ?_)
  obtain ⟨rfl, ⟨fs1, hy1, hk1⟩, fr1⟩ := hp2
  replace hs2 : st2 = [.int 0] := hs2
  subst st2
  refine z_istore (lv' := [(7, .int 0), (6, .int 1), (5, .int 0), (4, .ref d), (3, .ref o), (2, .ref y), (1, .ref x), (0, .ref b)]) B dL_law_1555 (Nat.le_of_ble_eq_true rfl) rfl ?_
  refine z_aload_n B dL_law_1557 rfl 5 rfl ?_
  refine z_callV (As := []) (rest := []) B (m_thrown G l Φ2 sz2 y fs1 1 hy1 hk1) (cwV 0 B.1.2.2.2.2 gL_law_X12_thrown rfl rfl rfl (by decide +kernel) ⟨Nat.le_of_ble_eq_true rfl, Nat.le_of_ble_eq_true rfl⟩) hy1 rfl rfl rfl rfl (Nat.le_of_ble_eq_true rfl) dL_law_1558 ⟨Nat.le_of_ble_eq_true rfl, Nat.le_of_ble_eq_true rfl⟩ (fun v3 Φ3 sz3 st3 hp3 hs3 => ?_)
  obtain ⟨rfl, he2⟩ := hp3
  replace hs3 : st3 = [.int 1] := hs3
  subst st3
  rw [he2]
  refine z_iload B dL_law_1561 1 rfl ?_
  refine z_icmp_eq (tgt := 1568) B dL_law_1563 rfl (fun c_1 => ?_) (fun h9 => absurd (by decide) h9)
  refine z_iload B dL_law_1568 1 rfl ?_
  refine z_if_ne (tgt := 1585) B dL_law_1570 rfl (fun c_2 => ?_) (fun h9 => absurd h9 (by decide))
  refine z_goto (tgt := 2893) B dL_law_1585 rfl ?_
  refine z_lv [2, 3, 4, 5, 6, 7] rfl ?_
  exact hT _ _

set_option maxHeartbeats 4000000 in
set_option maxRecDepth 100000 in
theorem lc_35 {p9 : Program} {e9 : Env} {s9 : State} {m9 : MethodId} {a9 : Array Value} {w9 : List Frame} {t9 : Method} {k9 : Code} {Q9 : State → Prop} {nm9 : String} (G : EnvG) (l : Launch) (hl9 : l.stackTraces = false) (B : Bd p9 s9 m9 a9 t9 k9 G code 9 RL wsL_law ret nm9) (Φ : Hm) (sz : Nat) (b : Nat) (xs : Nat → Int32) (hX : va_X b 7 xs s9 s9.heap) (hbn : b < G.2.2.2) (x y o d : Nat) (a1 : Int32) (go : Nat → Int64) (gd : Nat → UInt64) (hna : G.2.2.2 ≤ x) (hxy : x + 149 ≤ y) (hyo : y + 26 ≤ o) (hyd : y + 26 ≤ d) (hod : o ≠ d) (hx_0 : Φ x = some (o_ 13 [.ref (x + 1), .ref (x + 3), .ref (x + 24), .ref (x + 46), .ref (x + 74), .ref (x + 80), .ref (x + 132), .ref (x + 121)])) (hx_46 : Φ (x + 46) = some (o_ 9 [.ref (x + 47), .int 0, .int 0])) (hy_0 : Φ y = some (o_ 14 [.int 0, .ref (y + 1), .ref (y + 2), .int 0, .int 1, .int 1, .int 0, .int 0, .ref (y + 3), .ref (y + 4), .int 0, .long 0, .ref (y + 5), .int 0, .int 0, .long 0, .long 0, .long 0, .long 0, .ref (y + 6), .ref (y + 7), .int 0, .ref (y + 8), .int 0, .ref (y + 9), .ref (y + 10), .int 0, .ref (y + 11), .ref (y + 12), .ref (y + 13), .ref (y + 14), .ref (y + 15), .ref (y + 16), .int 0, .long (-1), .ref (y + 17), .ref (y + 18), .ref (y + 19), .ref (y + 20), .ref (y + 21), .ref (y + 22), .int 0, .ref (y + 23), .ref (y + 24), .int 0, .ref (y + 25), .int 0, .int 0, .int 0, .int (-1), .int 0, .int 0, .int 0, .long 0])) (hx1 : xs 1 = a1) (Mhp : ¬ inP a1.toInt64 0 (-1)) (hT : ∀ (Φ1 : Hm) (sz1 : Nat), Z p9 l e9 room_1 s9 m9 a9 w9 t9 k9 Q9 G 9 2893 [(5, .int 0), (4, .ref d), (3, .ref o), (2, .ref y), (1, .ref x), (0, .ref b)] [] Φ1 sz1 178 20844) : Z p9 l e9 room_1 s9 m9 a9 w9 t9 k9 Q9 G 9 1588 [(5, .int 0), (4, .ref d), (3, .ref o), (2, .ref y), (1, .ref x), (0, .ref b)] [] Φ sz 177 20838 := by
  refine z_aload_n B dL_law_1588 rfl 4 rfl ?_
  refine z_aload_n B dL_law_1589 rfl 5 rfl ?_
  refine z_iload B dL_law_1590 0 rfl ?_
  refine z_iconst (v := 1) B dL_law_1592 rfl ?_
  refine z_iadd B dL_law_1593 ?_
  refine z_top (st1 := [.int 1, .ref b, .ref x]) (congrArg (fun w9 : Int32 => ([.int w9, .ref b, .ref x] : List Value)) (show (0 + 1 : Int32) = 1 by decide +kernel)) ?_
  refine z_sald B hX hbn (vin rfl) dL_law_1594 ?_
  refine z_top (st1 := [.int a1, .ref x]) (congrArg (fun w9 : Int32 => ([.int w9, .ref x] : List Value)) (show xs (1 : Int32).toNatClampNeg = a1 from hx1)) ?_
  refine z_aload_n B dL_law_1595 rfl 2 rfl ?_
  refine z_callSW (As := [.ref x, .int a1, .ref o]) (rest := []) B (w_deliver_x G l hl9 Φ sz x o a1 hx_0 hx_46) (vx_cwSW 3 B.1.2.2.2.2 gL_law_L_deliver rfl rfl rfl (by decide +kernel) ⟨Nat.le_of_ble_eq_true rfl, Nat.le_of_ble_eq_true rfl⟩) rfl rfl (Nat.le_of_ble_eq_true rfl) dL_law_1596 ⟨Nat.le_of_ble_eq_true rfl, Nat.le_of_ble_eq_true rfl⟩ (fun v1 Φ1 sz1 st1 hp1 hs1 => ?_)
  obtain ⟨rfl, he1⟩ := hp1
  replace hs1 : st1 = [.int 1] := hs1
  subst st1
  rw [he1]
  refine z_istore (lv' := [(6, .int 1), (5, .int 0), (4, .ref d), (3, .ref o), (2, .ref y), (1, .ref x), (0, .ref b)]) B dL_law_1599 (Nat.le_of_ble_eq_true rfl) rfl ?_
  refine z_aload_n B dL_law_1601 rfl 4 rfl ?_
  refine z_aload_n B dL_law_1602 rfl 6 rfl ?_
  refine z_iload B dL_law_1603 1 rfl ?_
  refine z_iconst (v := 1) B dL_law_1605 rfl ?_
  refine z_iadd B dL_law_1606 ?_
  refine z_top (st1 := [.int 1, .ref b, .ref y]) (congrArg (fun w9 : Int32 => ([.int w9, .ref b, .ref y] : List Value)) (show (0 + 1 : Int32) = 1 by decide +kernel)) ?_
  refine z_sald B hX hbn (vin rfl) dL_law_1607 ?_
  refine z_top (st1 := [.int a1, .ref y]) (congrArg (fun w9 : Int32 => ([.int w9, .ref y] : List Value)) (show xs (1 : Int32).toNatClampNeg = a1 from hx1)) ?_
  refine z_callV (As := [.int a1]) (rest := []) B (m_X12_deliver_x G l Φ sz1 y a1 hy_0 (Nat.le_trans hna (Nat.le_trans (Nat.le_add_right x 149) hxy)) Mhp) (cwV 1 B.1.2.2.2.2 gL_law_X12_deliver rfl rfl rfl (by decide +kernel) ⟨Nat.le_of_ble_eq_true rfl, Nat.le_of_ble_eq_true rfl⟩) hy_0 rfl rfl rfl rfl (Nat.le_of_ble_eq_true rfl) dL_law_1608 ⟨Nat.le_of_ble_eq_true rfl, Nat.le_of_ble_eq_true rfl⟩ (fun v2 Φ2 sz2 st2 hp2 hs2 => ?_)
  obtain ⟨rfl, ⟨fs1, hy1, hk1⟩, fr1⟩ := hp2
  replace hs2 : st2 = [.int 0] := hs2
  subst st2
  refine z_istore (lv' := [(7, .int 0), (6, .int 1), (5, .int 0), (4, .ref d), (3, .ref o), (2, .ref y), (1, .ref x), (0, .ref b)]) B dL_law_1611 (Nat.le_of_ble_eq_true rfl) rfl ?_
  refine z_aload_n B dL_law_1613 rfl 5 rfl ?_
  refine z_callV (As := []) (rest := []) B (m_thrown G l Φ2 sz2 y fs1 1 hy1 hk1) (cwV 0 B.1.2.2.2.2 gL_law_X12_thrown rfl rfl rfl (by decide +kernel) ⟨Nat.le_of_ble_eq_true rfl, Nat.le_of_ble_eq_true rfl⟩) hy1 rfl rfl rfl rfl (Nat.le_of_ble_eq_true rfl) dL_law_1614 ⟨Nat.le_of_ble_eq_true rfl, Nat.le_of_ble_eq_true rfl⟩ (fun v3 Φ3 sz3 st3 hp3 hs3 => ?_)
  obtain ⟨rfl, he2⟩ := hp3
  replace hs3 : st3 = [.int 1] := hs3
  subst st3
  rw [he2]
  refine z_iload B dL_law_1617 1 rfl ?_
  refine z_icmp_eq (tgt := 1624) B dL_law_1619 rfl (fun c_1 => ?_) (fun h9 => absurd (by decide) h9)
  refine z_iload B dL_law_1624 1 rfl ?_
  refine z_if_ne (tgt := 1641) B dL_law_1626 rfl (fun c_2 => ?_) (fun h9 => absurd h9 (by decide))
  refine z_goto (tgt := 2893) B dL_law_1641 rfl ?_
  refine z_lv [2, 3, 4, 5, 6, 7] rfl ?_
  exact hT _ _

set_option maxHeartbeats 4000000 in
set_option maxRecDepth 100000 in
theorem lc_37 {p9 : Program} {e9 : Env} {s9 : State} {m9 : MethodId} {a9 : Array Value} {w9 : List Frame} {t9 : Method} {k9 : Code} {Q9 : State → Prop} {nm9 : String} (G : EnvG) (l : Launch) (hl9 : l.stackTraces = false) (B : Bd p9 s9 m9 a9 t9 k9 G code 9 RL wsL_law ret nm9) (Φ : Hm) (sz : Nat) (b : Nat) (xs : Nat → Int32) (hX : va_X b 7 xs s9 s9.heap) (hbn : b < G.2.2.2) (x y o d : Nat) (a1 : Int32) (go : Nat → Int64) (gd : Nat → UInt64) (hna : G.2.2.2 ≤ x) (hxy : x + 149 ≤ y) (hyo : y + 26 ≤ o) (hyd : y + 26 ≤ d) (hod : o ≠ d) (hx_0 : Φ x = some (o_ 13 [.ref (x + 1), .ref (x + 3), .ref (x + 24), .ref (x + 46), .ref (x + 74), .ref (x + 80), .ref (x + 132), .ref (x + 121)])) (hx_46 : Φ (x + 46) = some (o_ 9 [.ref (x + 47), .int 0, .int 0])) (hy_0 : Φ y = some (o_ 14 [.int 0, .ref (y + 1), .ref (y + 2), .int 0, .int 1, .int 1, .int 0, .int 0, .ref (y + 3), .ref (y + 4), .int 0, .long 0, .ref (y + 5), .int 0, .int 0, .long 0, .long 0, .long 0, .long 0, .ref (y + 6), .ref (y + 7), .int 0, .ref (y + 8), .int 0, .ref (y + 9), .ref (y + 10), .int 0, .ref (y + 11), .ref (y + 12), .ref (y + 13), .ref (y + 14), .ref (y + 15), .ref (y + 16), .int 0, .long (-1), .ref (y + 17), .ref (y + 18), .ref (y + 19), .ref (y + 20), .ref (y + 21), .ref (y + 22), .int 0, .ref (y + 23), .ref (y + 24), .int 0, .ref (y + 25), .int 0, .int 0, .int 0, .int (-1), .int 0, .int 0, .int 0, .long 0])) (hx1 : xs 1 = a1) (Mhp : ¬ inP a1.toInt64 0 (-1)) (hT : ∀ (Φ1 : Hm) (sz1 : Nat), Z p9 l e9 room_1 s9 m9 a9 w9 t9 k9 Q9 G 9 2893 [(5, .int 0), (4, .ref d), (3, .ref o), (2, .ref y), (1, .ref x), (0, .ref b)] [] Φ1 sz1 178 20844) : Z p9 l e9 room_1 s9 m9 a9 w9 t9 k9 Q9 G 9 1657 [(5, .int 0), (4, .ref d), (3, .ref o), (2, .ref y), (1, .ref x), (0, .ref b)] [] Φ sz 177 20838 := by
  refine z_aload_n B dL_law_1657 rfl 4 rfl ?_
  refine z_aload_n B dL_law_1658 rfl 5 rfl ?_
  refine z_iload B dL_law_1659 0 rfl ?_
  refine z_iconst (v := 1) B dL_law_1661 rfl ?_
  refine z_iadd B dL_law_1662 ?_
  refine z_top (st1 := [.int 1, .ref b, .ref x]) (congrArg (fun w9 : Int32 => ([.int w9, .ref b, .ref x] : List Value)) (show (0 + 1 : Int32) = 1 by decide +kernel)) ?_
  refine z_sald B hX hbn (vin rfl) dL_law_1663 ?_
  refine z_top (st1 := [.int a1, .ref x]) (congrArg (fun w9 : Int32 => ([.int w9, .ref x] : List Value)) (show xs (1 : Int32).toNatClampNeg = a1 from hx1)) ?_
  refine z_aload_n B dL_law_1664 rfl 2 rfl ?_
  refine z_callSW (As := [.ref x, .int a1, .ref o]) (rest := []) B (w_lose_x G l hl9 Φ sz x o a1 hx_0 hx_46) (vx_cwSW 3 B.1.2.2.2.2 gL_law_L_lose rfl rfl rfl (by decide +kernel) ⟨Nat.le_of_ble_eq_true rfl, Nat.le_of_ble_eq_true rfl⟩) rfl rfl (Nat.le_of_ble_eq_true rfl) dL_law_1665 ⟨Nat.le_of_ble_eq_true rfl, Nat.le_of_ble_eq_true rfl⟩ (fun v1 Φ1 sz1 st1 hp1 hs1 => ?_)
  obtain ⟨rfl, he1⟩ := hp1
  replace hs1 : st1 = [.int 1] := hs1
  subst st1
  rw [he1]
  refine z_istore (lv' := [(6, .int 1), (5, .int 0), (4, .ref d), (3, .ref o), (2, .ref y), (1, .ref x), (0, .ref b)]) B dL_law_1668 (Nat.le_of_ble_eq_true rfl) rfl ?_
  refine z_aload_n B dL_law_1670 rfl 4 rfl ?_
  refine z_aload_n B dL_law_1671 rfl 6 rfl ?_
  refine z_iload B dL_law_1672 1 rfl ?_
  refine z_iconst (v := 1) B dL_law_1674 rfl ?_
  refine z_iadd B dL_law_1675 ?_
  refine z_top (st1 := [.int 1, .ref b, .ref y]) (congrArg (fun w9 : Int32 => ([.int w9, .ref b, .ref y] : List Value)) (show (0 + 1 : Int32) = 1 by decide +kernel)) ?_
  refine z_sald B hX hbn (vin rfl) dL_law_1676 ?_
  refine z_top (st1 := [.int a1, .ref y]) (congrArg (fun w9 : Int32 => ([.int w9, .ref y] : List Value)) (show xs (1 : Int32).toNatClampNeg = a1 from hx1)) ?_
  refine z_callV (As := [.int a1]) (rest := []) B (m_X12_lose_x G l Φ sz1 y a1 hy_0 (Nat.le_trans hna (Nat.le_trans (Nat.le_add_right x 149) hxy)) Mhp) (cwV 1 B.1.2.2.2.2 gL_law_X12_lose rfl rfl rfl (by decide +kernel) ⟨Nat.le_of_ble_eq_true rfl, Nat.le_of_ble_eq_true rfl⟩) hy_0 rfl rfl rfl rfl (Nat.le_of_ble_eq_true rfl) dL_law_1677 ⟨Nat.le_of_ble_eq_true rfl, Nat.le_of_ble_eq_true rfl⟩ (fun v2 Φ2 sz2 st2 hp2 hs2 => ?_)
  obtain ⟨rfl, ⟨fs1, hy1, hk1⟩, fr1⟩ := hp2
  replace hs2 : st2 = [.int 0] := hs2
  subst st2
  refine z_istore (lv' := [(7, .int 0), (6, .int 1), (5, .int 0), (4, .ref d), (3, .ref o), (2, .ref y), (1, .ref x), (0, .ref b)]) B dL_law_1680 (Nat.le_of_ble_eq_true rfl) rfl ?_
  refine z_aload_n B dL_law_1682 rfl 5 rfl ?_
  refine z_callV (As := []) (rest := []) B (m_thrown G l Φ2 sz2 y fs1 1 hy1 hk1) (cwV 0 B.1.2.2.2.2 gL_law_X12_thrown rfl rfl rfl (by decide +kernel) ⟨Nat.le_of_ble_eq_true rfl, Nat.le_of_ble_eq_true rfl⟩) hy1 rfl rfl rfl rfl (Nat.le_of_ble_eq_true rfl) dL_law_1683 ⟨Nat.le_of_ble_eq_true rfl, Nat.le_of_ble_eq_true rfl⟩ (fun v3 Φ3 sz3 st3 hp3 hs3 => ?_)
  obtain ⟨rfl, he2⟩ := hp3
  replace hs3 : st3 = [.int 1] := hs3
  subst st3
  rw [he2]
  refine z_iload B dL_law_1686 1 rfl ?_
  refine z_icmp_eq (tgt := 1693) B dL_law_1688 rfl (fun c_1 => ?_) (fun h9 => absurd (by decide) h9)
  refine z_iload B dL_law_1693 1 rfl ?_
  refine z_if_ne (tgt := 1710) B dL_law_1695 rfl (fun c_2 => ?_) (fun h9 => absurd h9 (by decide))
  refine z_goto (tgt := 2893) B dL_law_1710 rfl ?_
  refine z_lv [2, 3, 4, 5, 6, 7] rfl ?_
  exact hT _ _

set_option maxHeartbeats 4000000 in
set_option maxRecDepth 100000 in
theorem lc_38 {p9 : Program} {e9 : Env} {s9 : State} {m9 : MethodId} {a9 : Array Value} {w9 : List Frame} {t9 : Method} {k9 : Code} {Q9 : State → Prop} {nm9 : String} (G : EnvG) (l : Launch) (hl9 : l.stackTraces = false) (B : Bd p9 s9 m9 a9 t9 k9 G code 9 RL wsL_law ret nm9) (Φ : Hm) (sz : Nat) (b : Nat) (xs : Nat → Int32) (hX : va_X b 7 xs s9 s9.heap) (hbn : b < G.2.2.2) (x y o d : Nat) (a1 : Int32) (go : Nat → Int64) (gd : Nat → UInt64) (hna : G.2.2.2 ≤ x) (hxy : x + 149 ≤ y) (hyo : y + 26 ≤ o) (hyd : y + 26 ≤ d) (hod : o ≠ d) (hx_0 : Φ x = some (o_ 13 [.ref (x + 1), .ref (x + 3), .ref (x + 24), .ref (x + 46), .ref (x + 74), .ref (x + 80), .ref (x + 132), .ref (x + 121)])) (hx_46 : Φ (x + 46) = some (o_ 9 [.ref (x + 47), .int 0, .int 0])) (hy_0 : Φ y = some (o_ 14 [.int 0, .ref (y + 1), .ref (y + 2), .int 0, .int 1, .int 1, .int 0, .int 0, .ref (y + 3), .ref (y + 4), .int 0, .long 0, .ref (y + 5), .int 0, .int 0, .long 0, .long 0, .long 0, .long 0, .ref (y + 6), .ref (y + 7), .int 0, .ref (y + 8), .int 0, .ref (y + 9), .ref (y + 10), .int 0, .ref (y + 11), .ref (y + 12), .ref (y + 13), .ref (y + 14), .ref (y + 15), .ref (y + 16), .int 0, .long (-1), .ref (y + 17), .ref (y + 18), .ref (y + 19), .ref (y + 20), .ref (y + 21), .ref (y + 22), .int 0, .ref (y + 23), .ref (y + 24), .int 0, .ref (y + 25), .int 0, .int 0, .int 0, .int (-1), .int 0, .int 0, .int 0, .long 0])) (hx1 : xs 1 = a1) (Mhp : ¬ inP a1.toInt64 0 (-1)) (hT : ∀ (Φ1 : Hm) (sz1 : Nat), Z p9 l e9 room_1 s9 m9 a9 w9 t9 k9 Q9 G 9 2893 [(5, .int 0), (4, .ref d), (3, .ref o), (2, .ref y), (1, .ref x), (0, .ref b)] [] Φ1 sz1 178 20844) : Z p9 l e9 room_1 s9 m9 a9 w9 t9 k9 Q9 G 9 1713 [(5, .int 0), (4, .ref d), (3, .ref o), (2, .ref y), (1, .ref x), (0, .ref b)] [] Φ sz 177 20838 := by
  refine z_aload_n B dL_law_1713 rfl 4 rfl ?_
  refine z_aload_n B dL_law_1714 rfl 5 rfl ?_
  refine z_iload B dL_law_1715 0 rfl ?_
  refine z_iconst (v := 1) B dL_law_1717 rfl ?_
  refine z_iadd B dL_law_1718 ?_
  refine z_top (st1 := [.int 1, .ref b, .ref x]) (congrArg (fun w9 : Int32 => ([.int w9, .ref b, .ref x] : List Value)) (show (0 + 1 : Int32) = 1 by decide +kernel)) ?_
  refine z_sald B hX hbn (vin rfl) dL_law_1719 ?_
  refine z_top (st1 := [.int a1, .ref x]) (congrArg (fun w9 : Int32 => ([.int w9, .ref x] : List Value)) (show xs (1 : Int32).toNatClampNeg = a1 from hx1)) ?_
  refine z_aload_n B dL_law_1720 rfl 2 rfl ?_
  refine z_callSW (As := [.ref x, .int a1, .ref o]) (rest := []) B (w_duplicate_x G l hl9 Φ sz x o a1 hx_0 hx_46) (vx_cwSW 3 B.1.2.2.2.2 gL_law_L_duplicate rfl rfl rfl (by decide +kernel) ⟨Nat.le_of_ble_eq_true rfl, Nat.le_of_ble_eq_true rfl⟩) rfl rfl (Nat.le_of_ble_eq_true rfl) dL_law_1721 ⟨Nat.le_of_ble_eq_true rfl, Nat.le_of_ble_eq_true rfl⟩ (fun v1 Φ1 sz1 st1 hp1 hs1 => ?_)
  obtain ⟨rfl, he1⟩ := hp1
  replace hs1 : st1 = [.int 1] := hs1
  subst st1
  rw [he1]
  refine z_istore (lv' := [(6, .int 1), (5, .int 0), (4, .ref d), (3, .ref o), (2, .ref y), (1, .ref x), (0, .ref b)]) B dL_law_1724 (Nat.le_of_ble_eq_true rfl) rfl ?_
  refine z_aload_n B dL_law_1726 rfl 4 rfl ?_
  refine z_aload_n B dL_law_1727 rfl 6 rfl ?_
  refine z_iload B dL_law_1728 1 rfl ?_
  refine z_iconst (v := 1) B dL_law_1730 rfl ?_
  refine z_iadd B dL_law_1731 ?_
  refine z_top (st1 := [.int 1, .ref b, .ref y]) (congrArg (fun w9 : Int32 => ([.int w9, .ref b, .ref y] : List Value)) (show (0 + 1 : Int32) = 1 by decide +kernel)) ?_
  refine z_sald B hX hbn (vin rfl) dL_law_1732 ?_
  refine z_top (st1 := [.int a1, .ref y]) (congrArg (fun w9 : Int32 => ([.int w9, .ref y] : List Value)) (show xs (1 : Int32).toNatClampNeg = a1 from hx1)) ?_
  refine z_callV (As := [.int a1]) (rest := []) B (m_X12_duplicate_x G l Φ sz1 y a1 hy_0 (Nat.le_trans hna (Nat.le_trans (Nat.le_add_right x 149) hxy)) Mhp) (cwV 1 B.1.2.2.2.2 gL_law_X12_duplicate rfl rfl rfl (by decide +kernel) ⟨Nat.le_of_ble_eq_true rfl, Nat.le_of_ble_eq_true rfl⟩) hy_0 rfl rfl rfl rfl (Nat.le_of_ble_eq_true rfl) dL_law_1733 ⟨Nat.le_of_ble_eq_true rfl, Nat.le_of_ble_eq_true rfl⟩ (fun v2 Φ2 sz2 st2 hp2 hs2 => ?_)
  obtain ⟨rfl, ⟨fs1, hy1, hk1⟩, fr1⟩ := hp2
  replace hs2 : st2 = [.int 0] := hs2
  subst st2
  refine z_istore (lv' := [(7, .int 0), (6, .int 1), (5, .int 0), (4, .ref d), (3, .ref o), (2, .ref y), (1, .ref x), (0, .ref b)]) B dL_law_1736 (Nat.le_of_ble_eq_true rfl) rfl ?_
  refine z_aload_n B dL_law_1738 rfl 5 rfl ?_
  refine z_callV (As := []) (rest := []) B (m_thrown G l Φ2 sz2 y fs1 1 hy1 hk1) (cwV 0 B.1.2.2.2.2 gL_law_X12_thrown rfl rfl rfl (by decide +kernel) ⟨Nat.le_of_ble_eq_true rfl, Nat.le_of_ble_eq_true rfl⟩) hy1 rfl rfl rfl rfl (Nat.le_of_ble_eq_true rfl) dL_law_1739 ⟨Nat.le_of_ble_eq_true rfl, Nat.le_of_ble_eq_true rfl⟩ (fun v3 Φ3 sz3 st3 hp3 hs3 => ?_)
  obtain ⟨rfl, he2⟩ := hp3
  replace hs3 : st3 = [.int 1] := hs3
  subst st3
  rw [he2]
  refine z_iload B dL_law_1742 1 rfl ?_
  refine z_icmp_eq (tgt := 1749) B dL_law_1744 rfl (fun c_1 => ?_) (fun h9 => absurd (by decide) h9)
  refine z_iload B dL_law_1749 1 rfl ?_
  refine z_if_ne (tgt := 1773) B dL_law_1751 rfl (fun c_2 => ?_) (fun h9 => absurd h9 (by decide))
  refine z_goto (tgt := 2893) B dL_law_1773 rfl ?_
  refine z_lv [2, 3, 4, 5, 6, 7] rfl ?_
  exact hT _ _

set_option maxHeartbeats 4000000 in
set_option maxRecDepth 100000 in
theorem lc_39 {p9 : Program} {e9 : Env} {s9 : State} {m9 : MethodId} {a9 : Array Value} {w9 : List Frame} {t9 : Method} {k9 : Code} {Q9 : State → Prop} {nm9 : String} (G : EnvG) (l : Launch) (hl9 : l.stackTraces = false) (B : Bd p9 s9 m9 a9 t9 k9 G code 9 RL wsL_law ret nm9) (Φ : Hm) (sz : Nat) (b : Nat) (xs : Nat → Int32) (hX : va_X b 7 xs s9 s9.heap) (hbn : b < G.2.2.2) (x y o d : Nat) (a1 : Int32) (a2 : Int32) (go : Nat → Int64) (gd : Nat → UInt64) (hna : G.2.2.2 ≤ x) (hxy : x + 149 ≤ y) (hyo : y + 26 ≤ o) (hyd : y + 26 ≤ d) (hod : o ≠ d) (hx_0 : Φ x = some (o_ 13 [.ref (x + 1), .ref (x + 3), .ref (x + 24), .ref (x + 46), .ref (x + 74), .ref (x + 80), .ref (x + 132), .ref (x + 121)])) (hx_46 : Φ (x + 46) = some (o_ 9 [.ref (x + 47), .int 0, .int 0])) (hy_0 : Φ y = some (o_ 14 [.int 0, .ref (y + 1), .ref (y + 2), .int 0, .int 1, .int 1, .int 0, .int 0, .ref (y + 3), .ref (y + 4), .int 0, .long 0, .ref (y + 5), .int 0, .int 0, .long 0, .long 0, .long 0, .long 0, .ref (y + 6), .ref (y + 7), .int 0, .ref (y + 8), .int 0, .ref (y + 9), .ref (y + 10), .int 0, .ref (y + 11), .ref (y + 12), .ref (y + 13), .ref (y + 14), .ref (y + 15), .ref (y + 16), .int 0, .long (-1), .ref (y + 17), .ref (y + 18), .ref (y + 19), .ref (y + 20), .ref (y + 21), .ref (y + 22), .int 0, .ref (y + 23), .ref (y + 24), .int 0, .ref (y + 25), .int 0, .int 0, .int 0, .int (-1), .int 0, .int 0, .int 0, .long 0])) (hx1 : xs 1 = a1) (hx2 : xs 2 = a2) (Mhp : ¬ inP a1.toInt64 0 (-1)) (hT : ∀ (Φ1 : Hm) (sz1 : Nat), Z p9 l e9 room_1 s9 m9 a9 w9 t9 k9 Q9 G 9 2893 [(5, .int 0), (4, .ref d), (3, .ref o), (2, .ref y), (1, .ref x), (0, .ref b)] [] Φ1 sz1 178 20844) : Z p9 l e9 room_1 s9 m9 a9 w9 t9 k9 Q9 G 9 1776 [(5, .int 0), (4, .ref d), (3, .ref o), (2, .ref y), (1, .ref x), (0, .ref b)] [] Φ sz 177 20838 := by
  refine z_aload_n B dL_law_1776 rfl 4 rfl ?_
  refine z_aload_n B dL_law_1777 rfl 5 rfl ?_
  refine z_iload B dL_law_1778 0 rfl ?_
  refine z_iconst (v := 1) B dL_law_1780 rfl ?_
  refine z_iadd B dL_law_1781 ?_
  refine z_top (st1 := [.int 1, .ref b, .ref x]) (congrArg (fun w9 : Int32 => ([.int w9, .ref b, .ref x] : List Value)) (show (0 + 1 : Int32) = 1 by decide +kernel)) ?_
  refine z_sald B hX hbn (vin rfl) dL_law_1782 ?_
  refine z_top (st1 := [.int a1, .ref x]) (congrArg (fun w9 : Int32 => ([.int w9, .ref x] : List Value)) (show xs (1 : Int32).toNatClampNeg = a1 from hx1)) ?_
  refine z_aload_n B dL_law_1783 rfl 5 rfl ?_
  refine z_iload B dL_law_1784 0 rfl ?_
  refine z_iconst (v := 2) B dL_law_1786 rfl ?_
  refine z_iadd B dL_law_1787 ?_
  refine z_top (st1 := [.int 2, .ref b, .int a1, .ref x]) (congrArg (fun w9 : Int32 => ([.int w9, .ref b, .int a1, .ref x] : List Value)) (show (0 + 2 : Int32) = 2 by decide +kernel)) ?_
  refine z_sald B hX hbn (vin rfl) dL_law_1788 ?_
  refine z_top (st1 := [.int a2, .int a1, .ref x]) (congrArg (fun w9 : Int32 => ([.int w9, .int a1, .ref x] : List Value)) (show xs (2 : Int32).toNatClampNeg = a2 from hx2)) ?_
  refine z_aload_n B dL_law_1789 rfl 2 rfl ?_
  refine z_callSW (As := [.ref x, .int a1, .int a2, .ref o]) (rest := []) B (w_exchange_x G l hl9 Φ sz x o a1 a2 hx_0 hx_46) (vx_cwSW 4 B.1.2.2.2.2 gL_law_L_exchange rfl rfl rfl (by decide +kernel) ⟨Nat.le_of_ble_eq_true rfl, Nat.le_of_ble_eq_true rfl⟩) rfl rfl (Nat.le_of_ble_eq_true rfl) dL_law_1790 ⟨Nat.le_of_ble_eq_true rfl, Nat.le_of_ble_eq_true rfl⟩ (fun v1 Φ1 sz1 st1 hp1 hs1 => ?_)
  obtain ⟨rfl, he1⟩ := hp1
  replace hs1 : st1 = [.int 1] := hs1
  subst st1
  rw [he1]
  refine z_istore (lv' := [(6, .int 1), (5, .int 0), (4, .ref d), (3, .ref o), (2, .ref y), (1, .ref x), (0, .ref b)]) B dL_law_1793 (Nat.le_of_ble_eq_true rfl) rfl ?_
  refine z_aload_n B dL_law_1795 rfl 4 rfl ?_
  refine z_aload_n B dL_law_1796 rfl 6 rfl ?_
  refine z_iload B dL_law_1797 1 rfl ?_
  refine z_iconst (v := 1) B dL_law_1799 rfl ?_
  refine z_iadd B dL_law_1800 ?_
  refine z_top (st1 := [.int 1, .ref b, .ref y]) (congrArg (fun w9 : Int32 => ([.int w9, .ref b, .ref y] : List Value)) (show (0 + 1 : Int32) = 1 by decide +kernel)) ?_
  refine z_sald B hX hbn (vin rfl) dL_law_1801 ?_
  refine z_top (st1 := [.int a1, .ref y]) (congrArg (fun w9 : Int32 => ([.int w9, .ref y] : List Value)) (show xs (1 : Int32).toNatClampNeg = a1 from hx1)) ?_
  refine z_aload_n B dL_law_1802 rfl 6 rfl ?_
  refine z_iload B dL_law_1803 1 rfl ?_
  refine z_iconst (v := 2) B dL_law_1805 rfl ?_
  refine z_iadd B dL_law_1806 ?_
  refine z_top (st1 := [.int 2, .ref b, .int a1, .ref y]) (congrArg (fun w9 : Int32 => ([.int w9, .ref b, .int a1, .ref y] : List Value)) (show (0 + 2 : Int32) = 2 by decide +kernel)) ?_
  refine z_sald B hX hbn (vin rfl) dL_law_1807 ?_
  refine z_top (st1 := [.int a2, .int a1, .ref y]) (congrArg (fun w9 : Int32 => ([.int w9, .int a1, .ref y] : List Value)) (show xs (2 : Int32).toNatClampNeg = a2 from hx2)) ?_
  refine z_callV (As := [.int a1, .int a2]) (rest := []) B (m_X12_exchange_x G l Φ sz1 y a1 a2 hy_0 (Nat.le_trans hna (Nat.le_trans (Nat.le_add_right x 149) hxy)) Mhp) (cwV 2 B.1.2.2.2.2 gL_law_X12_exchange rfl rfl rfl (by decide +kernel) ⟨Nat.le_of_ble_eq_true rfl, Nat.le_of_ble_eq_true rfl⟩) hy_0 rfl rfl rfl rfl (Nat.le_of_ble_eq_true rfl) dL_law_1808 ⟨Nat.le_of_ble_eq_true rfl, Nat.le_of_ble_eq_true rfl⟩ (fun v2 Φ2 sz2 st2 hp2 hs2 => ?_)
  obtain ⟨rfl, ⟨fs1, hy1, hk1⟩, fr1⟩ := hp2
  replace hs2 : st2 = [.int 0] := hs2
  subst st2
  refine z_istore (lv' := [(7, .int 0), (6, .int 1), (5, .int 0), (4, .ref d), (3, .ref o), (2, .ref y), (1, .ref x), (0, .ref b)]) B dL_law_1811 (Nat.le_of_ble_eq_true rfl) rfl ?_
  refine z_aload_n B dL_law_1813 rfl 5 rfl ?_
  refine z_callV (As := []) (rest := []) B (m_thrown G l Φ2 sz2 y fs1 1 hy1 hk1) (cwV 0 B.1.2.2.2.2 gL_law_X12_thrown rfl rfl rfl (by decide +kernel) ⟨Nat.le_of_ble_eq_true rfl, Nat.le_of_ble_eq_true rfl⟩) hy1 rfl rfl rfl rfl (Nat.le_of_ble_eq_true rfl) dL_law_1814 ⟨Nat.le_of_ble_eq_true rfl, Nat.le_of_ble_eq_true rfl⟩ (fun v3 Φ3 sz3 st3 hp3 hs3 => ?_)
  obtain ⟨rfl, he2⟩ := hp3
  replace hs3 : st3 = [.int 1] := hs3
  subst st3
  rw [he2]
  refine z_iload B dL_law_1817 1 rfl ?_
  refine z_icmp_eq (tgt := 1824) B dL_law_1819 rfl (fun c_1 => ?_) (fun h9 => absurd (by decide) h9)
  refine z_iload B dL_law_1824 1 rfl ?_
  refine z_if_ne (tgt := 1848) B dL_law_1826 rfl (fun c_2 => ?_) (fun h9 => absurd h9 (by decide))
  refine z_goto (tgt := 2893) B dL_law_1848 rfl ?_
  refine z_lv [2, 3, 4, 5, 6, 7] rfl ?_
  exact hT _ _

set_option maxHeartbeats 4000000 in
set_option maxRecDepth 100000 in
theorem lc_48 {p9 : Program} {e9 : Env} {s9 : State} {m9 : MethodId} {a9 : Array Value} {w9 : List Frame} {t9 : Method} {k9 : Code} {Q9 : State → Prop} {nm9 : String} (G : EnvG) (l : Launch) (hl9 : l.stackTraces = false) (B : Bd p9 s9 m9 a9 t9 k9 G code 9 RL wsL_law ret nm9) (Φ : Hm) (sz : Nat) (b : Nat) (xs : Nat → Int32) (hX : va_X b 7 xs s9 s9.heap) (hbn : b < G.2.2.2) (x y o d : Nat) (a1 : Int32) (a2 : Int32) (go : Nat → Int64) (gd : Nat → UInt64) (hna : G.2.2.2 ≤ x) (hxy : x + 149 ≤ y) (hyo : y + 26 ≤ o) (hyd : y + 26 ≤ d) (hod : o ≠ d) (hx_0 : Φ x = some (o_ 13 [.ref (x + 1), .ref (x + 3), .ref (x + 24), .ref (x + 46), .ref (x + 74), .ref (x + 80), .ref (x + 132), .ref (x + 121)])) (hx_121 : Φ (x + 121) = some (o_ 11 [.ref (x + 122), .ref (x + 123), .ref (x + 126), .ref (x + 129), .int 0])) (hy_0 : Φ y = some (o_ 14 [.int 0, .ref (y + 1), .ref (y + 2), .int 0, .int 1, .int 1, .int 0, .int 0, .ref (y + 3), .ref (y + 4), .int 0, .long 0, .ref (y + 5), .int 0, .int 0, .long 0, .long 0, .long 0, .long 0, .ref (y + 6), .ref (y + 7), .int 0, .ref (y + 8), .int 0, .ref (y + 9), .ref (y + 10), .int 0, .ref (y + 11), .ref (y + 12), .ref (y + 13), .ref (y + 14), .ref (y + 15), .ref (y + 16), .int 0, .long (-1), .ref (y + 17), .ref (y + 18), .ref (y + 19), .ref (y + 20), .ref (y + 21), .ref (y + 22), .int 0, .ref (y + 23), .ref (y + 24), .int 0, .ref (y + 25), .int 0, .int 0, .int 0, .int (-1), .int 0, .int 0, .int 0, .long 0])) (hx1 : xs 1 = a1) (hx2 : xs 2 = a2) (Mhp : ¬ inP a1.toInt64 0 (-1)) (hT : ∀ (Φ1 : Hm) (sz1 : Nat), Z p9 l e9 room_1 s9 m9 a9 w9 t9 k9 Q9 G 9 2893 [(5, .int 0), (4, .ref d), (3, .ref o), (2, .ref y), (1, .ref x), (0, .ref b)] [] Φ1 sz1 178 20844) : Z p9 l e9 room_1 s9 m9 a9 w9 t9 k9 Q9 G 9 2093 [(5, .int 0), (4, .ref d), (3, .ref o), (2, .ref y), (1, .ref x), (0, .ref b)] [] Φ sz 177 20838 := by
  refine z_aload_n B dL_law_2093 rfl 4 rfl ?_
  refine z_aload_n B dL_law_2094 rfl 5 rfl ?_
  refine z_iload B dL_law_2095 0 rfl ?_
  refine z_iconst (v := 1) B dL_law_2097 rfl ?_
  refine z_iadd B dL_law_2098 ?_
  refine z_top (st1 := [.int 1, .ref b, .ref x]) (congrArg (fun w9 : Int32 => ([.int w9, .ref b, .ref x] : List Value)) (show (0 + 1 : Int32) = 1 by decide +kernel)) ?_
  refine z_sald B hX hbn (vin rfl) dL_law_2099 ?_
  refine z_top (st1 := [.int a1, .ref x]) (congrArg (fun w9 : Int32 => ([.int w9, .ref x] : List Value)) (show xs (1 : Int32).toNatClampNeg = a1 from hx1)) ?_
  refine z_aload_n B dL_law_2100 rfl 5 rfl ?_
  refine z_iload B dL_law_2101 0 rfl ?_
  refine z_iconst (v := 2) B dL_law_2103 rfl ?_
  refine z_iadd B dL_law_2104 ?_
  refine z_top (st1 := [.int 2, .ref b, .int a1, .ref x]) (congrArg (fun w9 : Int32 => ([.int w9, .ref b, .int a1, .ref x] : List Value)) (show (0 + 2 : Int32) = 2 by decide +kernel)) ?_
  refine z_sald B hX hbn (vin rfl) dL_law_2105 ?_
  refine z_top (st1 := [.int a2, .int a1, .ref x]) (congrArg (fun w9 : Int32 => ([.int w9, .int a1, .ref x] : List Value)) (show xs (2 : Int32).toNatClampNeg = a2 from hx2)) ?_
  refine z_aload_n B dL_law_2106 rfl 2 rfl ?_
  refine z_callSW (As := [.ref x, .int a1, .int a2, .ref o]) (rest := []) B (w_key_x G l hl9 Φ sz x o a1 a2 hx_0 hx_121) (vx_cwSW 4 B.1.2.2.2.2 gL_law_L_key rfl rfl rfl (by decide +kernel) ⟨Nat.le_of_ble_eq_true rfl, Nat.le_of_ble_eq_true rfl⟩) rfl rfl (Nat.le_of_ble_eq_true rfl) dL_law_2107 ⟨Nat.le_of_ble_eq_true rfl, Nat.le_of_ble_eq_true rfl⟩ (fun v1 Φ1 sz1 st1 hp1 hs1 => ?_)
  obtain ⟨rfl, he1⟩ := hp1
  replace hs1 : st1 = [.int 1] := hs1
  subst st1
  rw [he1]
  refine z_istore (lv' := [(6, .int 1), (5, .int 0), (4, .ref d), (3, .ref o), (2, .ref y), (1, .ref x), (0, .ref b)]) B dL_law_2110 (Nat.le_of_ble_eq_true rfl) rfl ?_
  refine z_aload_n B dL_law_2112 rfl 4 rfl ?_
  refine z_aload_n B dL_law_2113 rfl 6 rfl ?_
  refine z_iload B dL_law_2114 1 rfl ?_
  refine z_iconst (v := 1) B dL_law_2116 rfl ?_
  refine z_iadd B dL_law_2117 ?_
  refine z_top (st1 := [.int 1, .ref b, .ref y]) (congrArg (fun w9 : Int32 => ([.int w9, .ref b, .ref y] : List Value)) (show (0 + 1 : Int32) = 1 by decide +kernel)) ?_
  refine z_sald B hX hbn (vin rfl) dL_law_2118 ?_
  refine z_top (st1 := [.int a1, .ref y]) (congrArg (fun w9 : Int32 => ([.int w9, .ref y] : List Value)) (show xs (1 : Int32).toNatClampNeg = a1 from hx1)) ?_
  refine z_aload_n B dL_law_2119 rfl 6 rfl ?_
  refine z_iload B dL_law_2120 1 rfl ?_
  refine z_iconst (v := 2) B dL_law_2122 rfl ?_
  refine z_iadd B dL_law_2123 ?_
  refine z_top (st1 := [.int 2, .ref b, .int a1, .ref y]) (congrArg (fun w9 : Int32 => ([.int w9, .ref b, .int a1, .ref y] : List Value)) (show (0 + 2 : Int32) = 2 by decide +kernel)) ?_
  refine z_sald B hX hbn (vin rfl) dL_law_2124 ?_
  refine z_top (st1 := [.int a2, .int a1, .ref y]) (congrArg (fun w9 : Int32 => ([.int w9, .int a1, .ref y] : List Value)) (show xs (2 : Int32).toNatClampNeg = a2 from hx2)) ?_
  refine z_callV (As := [.int a1, .int a2]) (rest := []) B (m_X12_key_x G l Φ sz1 y a1 a2 hy_0 (Nat.le_trans hna (Nat.le_trans (Nat.le_add_right x 149) hxy)) Mhp) (cwV 2 B.1.2.2.2.2 gL_law_X12_key rfl rfl rfl (by decide +kernel) ⟨Nat.le_of_ble_eq_true rfl, Nat.le_of_ble_eq_true rfl⟩) hy_0 rfl rfl rfl rfl (Nat.le_of_ble_eq_true rfl) dL_law_2125 ⟨Nat.le_of_ble_eq_true rfl, Nat.le_of_ble_eq_true rfl⟩ (fun v2 Φ2 sz2 st2 hp2 hs2 => ?_)
  obtain ⟨rfl, ⟨fs1, hy1, hk1⟩, fr1⟩ := hp2
  replace hs2 : st2 = [.int 0] := hs2
  subst st2
  refine z_istore (lv' := [(7, .int 0), (6, .int 1), (5, .int 0), (4, .ref d), (3, .ref o), (2, .ref y), (1, .ref x), (0, .ref b)]) B dL_law_2128 (Nat.le_of_ble_eq_true rfl) rfl ?_
  refine z_aload_n B dL_law_2130 rfl 5 rfl ?_
  refine z_callV (As := []) (rest := []) B (m_thrown G l Φ2 sz2 y fs1 1 hy1 hk1) (cwV 0 B.1.2.2.2.2 gL_law_X12_thrown rfl rfl rfl (by decide +kernel) ⟨Nat.le_of_ble_eq_true rfl, Nat.le_of_ble_eq_true rfl⟩) hy1 rfl rfl rfl rfl (Nat.le_of_ble_eq_true rfl) dL_law_2131 ⟨Nat.le_of_ble_eq_true rfl, Nat.le_of_ble_eq_true rfl⟩ (fun v3 Φ3 sz3 st3 hp3 hs3 => ?_)
  obtain ⟨rfl, he2⟩ := hp3
  replace hs3 : st3 = [.int 1] := hs3
  subst st3
  rw [he2]
  refine z_iload B dL_law_2134 1 rfl ?_
  refine z_icmp_eq (tgt := 2141) B dL_law_2136 rfl (fun c_1 => ?_) (fun h9 => absurd (by decide) h9)
  refine z_iload B dL_law_2141 1 rfl ?_
  refine z_if_ne (tgt := 2158) B dL_law_2143 rfl (fun c_2 => ?_) (fun h9 => absurd h9 (by decide))
  refine z_goto (tgt := 2893) B dL_law_2158 rfl ?_
  refine z_lv [2, 3, 4, 5, 6, 7] rfl ?_
  exact hT _ _

set_option maxHeartbeats 4000000 in
set_option maxRecDepth 100000 in
theorem lc_50 {p9 : Program} {e9 : Env} {s9 : State} {m9 : MethodId} {a9 : Array Value} {w9 : List Frame} {t9 : Method} {k9 : Code} {Q9 : State → Prop} {nm9 : String} (G : EnvG) (l : Launch) (hl9 : l.stackTraces = false) (B : Bd p9 s9 m9 a9 t9 k9 G code 9 RL wsL_law ret nm9) (Φ : Hm) (sz : Nat) (b : Nat) (xs : Nat → Int32) (hX : va_X b 7 xs s9 s9.heap) (hbn : b < G.2.2.2) (x y o d : Nat) (a1 : Int32) (a2 : Int32) (go : Nat → Int64) (gd : Nat → UInt64) (hna : G.2.2.2 ≤ x) (hxy : x + 149 ≤ y) (hyo : y + 26 ≤ o) (hyd : y + 26 ≤ d) (hod : o ≠ d) (hx_0 : Φ x = some (o_ 13 [.ref (x + 1), .ref (x + 3), .ref (x + 24), .ref (x + 46), .ref (x + 74), .ref (x + 80), .ref (x + 132), .ref (x + 121)])) (hx_121 : Φ (x + 121) = some (o_ 11 [.ref (x + 122), .ref (x + 123), .ref (x + 126), .ref (x + 129), .int 0])) (hy_0 : Φ y = some (o_ 14 [.int 0, .ref (y + 1), .ref (y + 2), .int 0, .int 1, .int 1, .int 0, .int 0, .ref (y + 3), .ref (y + 4), .int 0, .long 0, .ref (y + 5), .int 0, .int 0, .long 0, .long 0, .long 0, .long 0, .ref (y + 6), .ref (y + 7), .int 0, .ref (y + 8), .int 0, .ref (y + 9), .ref (y + 10), .int 0, .ref (y + 11), .ref (y + 12), .ref (y + 13), .ref (y + 14), .ref (y + 15), .ref (y + 16), .int 0, .long (-1), .ref (y + 17), .ref (y + 18), .ref (y + 19), .ref (y + 20), .ref (y + 21), .ref (y + 22), .int 0, .ref (y + 23), .ref (y + 24), .int 0, .ref (y + 25), .int 0, .int 0, .int 0, .int (-1), .int 0, .int 0, .int 0, .long 0])) (hx1 : xs 1 = a1) (hx2 : xs 2 = a2) (Mhp : ¬ inP a1.toInt64 0 (-1)) (hT : ∀ (Φ1 : Hm) (sz1 : Nat), Z p9 l e9 room_1 s9 m9 a9 w9 t9 k9 Q9 G 9 2893 [(5, .int 0), (4, .ref d), (3, .ref o), (2, .ref y), (1, .ref x), (0, .ref b)] [] Φ1 sz1 178 20844) : Z p9 l e9 room_1 s9 m9 a9 w9 t9 k9 Q9 G 9 2222 [(5, .int 0), (4, .ref d), (3, .ref o), (2, .ref y), (1, .ref x), (0, .ref b)] [] Φ sz 177 20838 := by
  refine z_aload_n B dL_law_2222 rfl 4 rfl ?_
  refine z_aload_n B dL_law_2223 rfl 5 rfl ?_
  refine z_iload B dL_law_2224 0 rfl ?_
  refine z_iconst (v := 1) B dL_law_2226 rfl ?_
  refine z_iadd B dL_law_2227 ?_
  refine z_top (st1 := [.int 1, .ref b, .ref x]) (congrArg (fun w9 : Int32 => ([.int w9, .ref b, .ref x] : List Value)) (show (0 + 1 : Int32) = 1 by decide +kernel)) ?_
  refine z_sald B hX hbn (vin rfl) dL_law_2228 ?_
  refine z_top (st1 := [.int a1, .ref x]) (congrArg (fun w9 : Int32 => ([.int w9, .ref x] : List Value)) (show xs (1 : Int32).toNatClampNeg = a1 from hx1)) ?_
  refine z_aload_n B dL_law_2229 rfl 5 rfl ?_
  refine z_iload B dL_law_2230 0 rfl ?_
  refine z_iconst (v := 2) B dL_law_2232 rfl ?_
  refine z_iadd B dL_law_2233 ?_
  refine z_top (st1 := [.int 2, .ref b, .int a1, .ref x]) (congrArg (fun w9 : Int32 => ([.int w9, .ref b, .int a1, .ref x] : List Value)) (show (0 + 2 : Int32) = 2 by decide +kernel)) ?_
  refine z_sald B hX hbn (vin rfl) dL_law_2234 ?_
  refine z_top (st1 := [.int a2, .int a1, .ref x]) (congrArg (fun w9 : Int32 => ([.int w9, .int a1, .ref x] : List Value)) (show xs (2 : Int32).toNatClampNeg = a2 from hx2)) ?_
  refine z_aload_n B dL_law_2235 rfl 2 rfl ?_
  refine z_callSW (As := [.ref x, .int a1, .int a2, .ref o]) (rest := []) B (w_raw_x G l hl9 Φ sz x o a1 a2 hx_0 hx_121) (vx_cwSW 4 B.1.2.2.2.2 gL_law_L_raw rfl rfl rfl (by decide +kernel) ⟨Nat.le_of_ble_eq_true rfl, Nat.le_of_ble_eq_true rfl⟩) rfl rfl (Nat.le_of_ble_eq_true rfl) dL_law_2236 ⟨Nat.le_of_ble_eq_true rfl, Nat.le_of_ble_eq_true rfl⟩ (fun v1 Φ1 sz1 st1 hp1 hs1 => ?_)
  obtain ⟨rfl, he1⟩ := hp1
  replace hs1 : st1 = [.int 1] := hs1
  subst st1
  rw [he1]
  refine z_istore (lv' := [(6, .int 1), (5, .int 0), (4, .ref d), (3, .ref o), (2, .ref y), (1, .ref x), (0, .ref b)]) B dL_law_2239 (Nat.le_of_ble_eq_true rfl) rfl ?_
  refine z_aload_n B dL_law_2241 rfl 4 rfl ?_
  refine z_aload_n B dL_law_2242 rfl 6 rfl ?_
  refine z_iload B dL_law_2243 1 rfl ?_
  refine z_iconst (v := 1) B dL_law_2245 rfl ?_
  refine z_iadd B dL_law_2246 ?_
  refine z_top (st1 := [.int 1, .ref b, .ref y]) (congrArg (fun w9 : Int32 => ([.int w9, .ref b, .ref y] : List Value)) (show (0 + 1 : Int32) = 1 by decide +kernel)) ?_
  refine z_sald B hX hbn (vin rfl) dL_law_2247 ?_
  refine z_top (st1 := [.int a1, .ref y]) (congrArg (fun w9 : Int32 => ([.int w9, .ref y] : List Value)) (show xs (1 : Int32).toNatClampNeg = a1 from hx1)) ?_
  refine z_aload_n B dL_law_2248 rfl 6 rfl ?_
  refine z_iload B dL_law_2249 1 rfl ?_
  refine z_iconst (v := 2) B dL_law_2251 rfl ?_
  refine z_iadd B dL_law_2252 ?_
  refine z_top (st1 := [.int 2, .ref b, .int a1, .ref y]) (congrArg (fun w9 : Int32 => ([.int w9, .ref b, .int a1, .ref y] : List Value)) (show (0 + 2 : Int32) = 2 by decide +kernel)) ?_
  refine z_sald B hX hbn (vin rfl) dL_law_2253 ?_
  refine z_top (st1 := [.int a2, .int a1, .ref y]) (congrArg (fun w9 : Int32 => ([.int w9, .int a1, .ref y] : List Value)) (show xs (2 : Int32).toNatClampNeg = a2 from hx2)) ?_
  refine z_callV (As := [.int a1, .int a2]) (rest := []) B (m_X12_raw_x G l Φ sz1 y a1 a2 hy_0 (Nat.le_trans hna (Nat.le_trans (Nat.le_add_right x 149) hxy)) Mhp) (cwV 2 B.1.2.2.2.2 gL_law_X12_raw rfl rfl rfl (by decide +kernel) ⟨Nat.le_of_ble_eq_true rfl, Nat.le_of_ble_eq_true rfl⟩) hy_0 rfl rfl rfl rfl (Nat.le_of_ble_eq_true rfl) dL_law_2254 ⟨Nat.le_of_ble_eq_true rfl, Nat.le_of_ble_eq_true rfl⟩ (fun v2 Φ2 sz2 st2 hp2 hs2 => ?_)
  obtain ⟨rfl, ⟨fs1, hy1, hk1⟩, fr1⟩ := hp2
  replace hs2 : st2 = [.long 0] := hs2
  subst st2
  refine z_lstore (lv' := [(7, .long 0), (6, .int 1), (5, .int 0), (4, .ref d), (3, .ref o), (2, .ref y), (1, .ref x), (0, .ref b)]) B dL_law_2257 (Nat.le_of_ble_eq_true rfl) rfl ?_
  refine z_aload_n B dL_law_2259 rfl 5 rfl ?_
  refine z_callV (As := []) (rest := []) B (m_thrown G l Φ2 sz2 y fs1 1 hy1 hk1) (cwV 0 B.1.2.2.2.2 gL_law_X12_thrown rfl rfl rfl (by decide +kernel) ⟨Nat.le_of_ble_eq_true rfl, Nat.le_of_ble_eq_true rfl⟩) hy1 rfl rfl rfl rfl (Nat.le_of_ble_eq_true rfl) dL_law_2260 ⟨Nat.le_of_ble_eq_true rfl, Nat.le_of_ble_eq_true rfl⟩ (fun v3 Φ3 sz3 st3 hp3 hs3 => ?_)
  obtain ⟨rfl, he2⟩ := hp3
  replace hs3 : st3 = [.int 1] := hs3
  subst st3
  rw [he2]
  refine z_iload B dL_law_2263 1 rfl ?_
  refine z_icmp_eq (tgt := 2270) B dL_law_2265 rfl (fun c_1 => ?_) (fun h9 => absurd (by decide) h9)
  refine z_iload B dL_law_2270 1 rfl ?_
  refine z_if_ne (tgt := 2286) B dL_law_2272 rfl (fun c_2 => ?_) (fun h9 => absurd h9 (by decide))
  refine z_goto (tgt := 2893) B dL_law_2286 rfl ?_
  refine z_lv [2, 3, 4, 5, 6, 7] rfl ?_
  exact hT _ _

set_option maxHeartbeats 4000000 in
set_option maxRecDepth 100000 in
theorem lc_51 {p9 : Program} {e9 : Env} {s9 : State} {m9 : MethodId} {a9 : Array Value} {w9 : List Frame} {t9 : Method} {k9 : Code} {Q9 : State → Prop} {nm9 : String} (G : EnvG) (l : Launch) (hl9 : l.stackTraces = false) (B : Bd p9 s9 m9 a9 t9 k9 G code 9 RL wsL_law ret nm9) (Φ : Hm) (sz : Nat) (b : Nat) (xs : Nat → Int32) (hX : va_X b 7 xs s9 s9.heap) (hbn : b < G.2.2.2) (x y o d : Nat) (a1 : Int32) (a2 : Int32) (go : Nat → Int64) (gd : Nat → UInt64) (hna : G.2.2.2 ≤ x) (hxy : x + 149 ≤ y) (hyo : y + 26 ≤ o) (hyd : y + 26 ≤ d) (hod : o ≠ d) (hx_0 : Φ x = some (o_ 13 [.ref (x + 1), .ref (x + 3), .ref (x + 24), .ref (x + 46), .ref (x + 74), .ref (x + 80), .ref (x + 132), .ref (x + 121)])) (hx_121 : Φ (x + 121) = some (o_ 11 [.ref (x + 122), .ref (x + 123), .ref (x + 126), .ref (x + 129), .int 0])) (hy_0 : Φ y = some (o_ 14 [.int 0, .ref (y + 1), .ref (y + 2), .int 0, .int 1, .int 1, .int 0, .int 0, .ref (y + 3), .ref (y + 4), .int 0, .long 0, .ref (y + 5), .int 0, .int 0, .long 0, .long 0, .long 0, .long 0, .ref (y + 6), .ref (y + 7), .int 0, .ref (y + 8), .int 0, .ref (y + 9), .ref (y + 10), .int 0, .ref (y + 11), .ref (y + 12), .ref (y + 13), .ref (y + 14), .ref (y + 15), .ref (y + 16), .int 0, .long (-1), .ref (y + 17), .ref (y + 18), .ref (y + 19), .ref (y + 20), .ref (y + 21), .ref (y + 22), .int 0, .ref (y + 23), .ref (y + 24), .int 0, .ref (y + 25), .int 0, .int 0, .int 0, .int (-1), .int 0, .int 0, .int 0, .long 0])) (hx1 : xs 1 = a1) (hx2 : xs 2 = a2) (Mhp : ¬ inP a1.toInt64 0 (-1)) (hT : ∀ (Φ1 : Hm) (sz1 : Nat), Z p9 l e9 room_1 s9 m9 a9 w9 t9 k9 Q9 G 9 2893 [(5, .int 0), (4, .ref d), (3, .ref o), (2, .ref y), (1, .ref x), (0, .ref b)] [] Φ1 sz1 178 20844) : Z p9 l e9 room_1 s9 m9 a9 w9 t9 k9 Q9 G 9 2289 [(5, .int 0), (4, .ref d), (3, .ref o), (2, .ref y), (1, .ref x), (0, .ref b)] [] Φ sz 177 20838 := by
  refine z_aload_n B dL_law_2289 rfl 4 rfl ?_
  refine z_aload_n B dL_law_2290 rfl 5 rfl ?_
  refine z_iload B dL_law_2291 0 rfl ?_
  refine z_iconst (v := 1) B dL_law_2293 rfl ?_
  refine z_iadd B dL_law_2294 ?_
  refine z_top (st1 := [.int 1, .ref b, .ref x]) (congrArg (fun w9 : Int32 => ([.int w9, .ref b, .ref x] : List Value)) (show (0 + 1 : Int32) = 1 by decide +kernel)) ?_
  refine z_sald B hX hbn (vin rfl) dL_law_2295 ?_
  refine z_top (st1 := [.int a1, .ref x]) (congrArg (fun w9 : Int32 => ([.int w9, .ref x] : List Value)) (show xs (1 : Int32).toNatClampNeg = a1 from hx1)) ?_
  refine z_aload_n B dL_law_2296 rfl 5 rfl ?_
  refine z_iload B dL_law_2297 0 rfl ?_
  refine z_iconst (v := 2) B dL_law_2299 rfl ?_
  refine z_iadd B dL_law_2300 ?_
  refine z_top (st1 := [.int 2, .ref b, .int a1, .ref x]) (congrArg (fun w9 : Int32 => ([.int w9, .ref b, .int a1, .ref x] : List Value)) (show (0 + 2 : Int32) = 2 by decide +kernel)) ?_
  refine z_sald B hX hbn (vin rfl) dL_law_2301 ?_
  refine z_top (st1 := [.int a2, .int a1, .ref x]) (congrArg (fun w9 : Int32 => ([.int w9, .int a1, .ref x] : List Value)) (show xs (2 : Int32).toNatClampNeg = a2 from hx2)) ?_
  refine z_aload_n B dL_law_2302 rfl 2 rfl ?_
  refine z_callSW (As := [.ref x, .int a1, .int a2, .ref o]) (rest := []) B (w_estimate_x G l hl9 Φ sz x o a1 a2 hx_0 hx_121) (vx_cwSW 4 B.1.2.2.2.2 gL_law_L_estimate rfl rfl rfl (by decide +kernel) ⟨Nat.le_of_ble_eq_true rfl, Nat.le_of_ble_eq_true rfl⟩) rfl rfl (Nat.le_of_ble_eq_true rfl) dL_law_2303 ⟨Nat.le_of_ble_eq_true rfl, Nat.le_of_ble_eq_true rfl⟩ (fun v1 Φ1 sz1 st1 hp1 hs1 => ?_)
  obtain ⟨rfl, he1⟩ := hp1
  replace hs1 : st1 = [.int 1] := hs1
  subst st1
  rw [he1]
  refine z_istore (lv' := [(6, .int 1), (5, .int 0), (4, .ref d), (3, .ref o), (2, .ref y), (1, .ref x), (0, .ref b)]) B dL_law_2306 (Nat.le_of_ble_eq_true rfl) rfl ?_
  refine z_aload_n B dL_law_2308 rfl 4 rfl ?_
  refine z_aload_n B dL_law_2309 rfl 6 rfl ?_
  refine z_iload B dL_law_2310 1 rfl ?_
  refine z_iconst (v := 1) B dL_law_2312 rfl ?_
  refine z_iadd B dL_law_2313 ?_
  refine z_top (st1 := [.int 1, .ref b, .ref y]) (congrArg (fun w9 : Int32 => ([.int w9, .ref b, .ref y] : List Value)) (show (0 + 1 : Int32) = 1 by decide +kernel)) ?_
  refine z_sald B hX hbn (vin rfl) dL_law_2314 ?_
  refine z_top (st1 := [.int a1, .ref y]) (congrArg (fun w9 : Int32 => ([.int w9, .ref y] : List Value)) (show xs (1 : Int32).toNatClampNeg = a1 from hx1)) ?_
  refine z_aload_n B dL_law_2315 rfl 6 rfl ?_
  refine z_iload B dL_law_2316 1 rfl ?_
  refine z_iconst (v := 2) B dL_law_2318 rfl ?_
  refine z_iadd B dL_law_2319 ?_
  refine z_top (st1 := [.int 2, .ref b, .int a1, .ref y]) (congrArg (fun w9 : Int32 => ([.int w9, .ref b, .int a1, .ref y] : List Value)) (show (0 + 2 : Int32) = 2 by decide +kernel)) ?_
  refine z_sald B hX hbn (vin rfl) dL_law_2320 ?_
  refine z_top (st1 := [.int a2, .int a1, .ref y]) (congrArg (fun w9 : Int32 => ([.int w9, .int a1, .ref y] : List Value)) (show xs (2 : Int32).toNatClampNeg = a2 from hx2)) ?_
  refine z_callV (As := [.int a1, .int a2]) (rest := []) B (m_X12_estimate_x G l Φ sz1 y a1 a2 hy_0 (Nat.le_trans hna (Nat.le_trans (Nat.le_add_right x 149) hxy)) Mhp) (cwV 2 B.1.2.2.2.2 gL_law_X12_estimate rfl rfl rfl (by decide +kernel) ⟨Nat.le_of_ble_eq_true rfl, Nat.le_of_ble_eq_true rfl⟩) hy_0 rfl rfl rfl rfl (Nat.le_of_ble_eq_true rfl) dL_law_2321 ⟨Nat.le_of_ble_eq_true rfl, Nat.le_of_ble_eq_true rfl⟩ (fun v2 Φ2 sz2 st2 hp2 hs2 => ?_)
  obtain ⟨rfl, ⟨fs1, hy1, hk1⟩, fr1⟩ := hp2
  replace hs2 : st2 = [.long 0] := hs2
  subst st2
  refine z_lstore (lv' := [(7, .long 0), (6, .int 1), (5, .int 0), (4, .ref d), (3, .ref o), (2, .ref y), (1, .ref x), (0, .ref b)]) B dL_law_2324 (Nat.le_of_ble_eq_true rfl) rfl ?_
  refine z_aload_n B dL_law_2326 rfl 5 rfl ?_
  refine z_callV (As := []) (rest := []) B (m_thrown G l Φ2 sz2 y fs1 1 hy1 hk1) (cwV 0 B.1.2.2.2.2 gL_law_X12_thrown rfl rfl rfl (by decide +kernel) ⟨Nat.le_of_ble_eq_true rfl, Nat.le_of_ble_eq_true rfl⟩) hy1 rfl rfl rfl rfl (Nat.le_of_ble_eq_true rfl) dL_law_2327 ⟨Nat.le_of_ble_eq_true rfl, Nat.le_of_ble_eq_true rfl⟩ (fun v3 Φ3 sz3 st3 hp3 hs3 => ?_)
  obtain ⟨rfl, he2⟩ := hp3
  replace hs3 : st3 = [.int 1] := hs3
  subst st3
  rw [he2]
  refine z_iload B dL_law_2330 1 rfl ?_
  refine z_icmp_eq (tgt := 2337) B dL_law_2332 rfl (fun c_1 => ?_) (fun h9 => absurd (by decide) h9)
  refine z_iload B dL_law_2337 1 rfl ?_
  refine z_if_ne (tgt := 2353) B dL_law_2339 rfl (fun c_2 => ?_) (fun h9 => absurd h9 (by decide))
  refine z_goto (tgt := 2893) B dL_law_2353 rfl ?_
  refine z_lv [2, 3, 4, 5, 6, 7] rfl ?_
  exact hT _ _

set_option maxHeartbeats 4000000 in
set_option maxRecDepth 100000 in
theorem lc_52 {p9 : Program} {e9 : Env} {s9 : State} {m9 : MethodId} {a9 : Array Value} {w9 : List Frame} {t9 : Method} {k9 : Code} {Q9 : State → Prop} {nm9 : String} (G : EnvG) (l : Launch) (hl9 : l.stackTraces = false) (B : Bd p9 s9 m9 a9 t9 k9 G code 9 RL wsL_law ret nm9) (Φ : Hm) (sz : Nat) (b : Nat) (xs : Nat → Int32) (hX : va_X b 7 xs s9 s9.heap) (hbn : b < G.2.2.2) (x y o d : Nat) (a1 : Int32) (a2 : Int32) (go : Nat → Int64) (gd : Nat → UInt64) (hna : G.2.2.2 ≤ x) (hxy : x + 149 ≤ y) (hyo : y + 26 ≤ o) (hyd : y + 26 ≤ d) (hod : o ≠ d) (hx_0 : Φ x = some (o_ 13 [.ref (x + 1), .ref (x + 3), .ref (x + 24), .ref (x + 46), .ref (x + 74), .ref (x + 80), .ref (x + 132), .ref (x + 121)])) (hx_121 : Φ (x + 121) = some (o_ 11 [.ref (x + 122), .ref (x + 123), .ref (x + 126), .ref (x + 129), .int 0])) (hy_0 : Φ y = some (o_ 14 [.int 0, .ref (y + 1), .ref (y + 2), .int 0, .int 1, .int 1, .int 0, .int 0, .ref (y + 3), .ref (y + 4), .int 0, .long 0, .ref (y + 5), .int 0, .int 0, .long 0, .long 0, .long 0, .long 0, .ref (y + 6), .ref (y + 7), .int 0, .ref (y + 8), .int 0, .ref (y + 9), .ref (y + 10), .int 0, .ref (y + 11), .ref (y + 12), .ref (y + 13), .ref (y + 14), .ref (y + 15), .ref (y + 16), .int 0, .long (-1), .ref (y + 17), .ref (y + 18), .ref (y + 19), .ref (y + 20), .ref (y + 21), .ref (y + 22), .int 0, .ref (y + 23), .ref (y + 24), .int 0, .ref (y + 25), .int 0, .int 0, .int 0, .int (-1), .int 0, .int 0, .int 0, .long 0])) (hx1 : xs 1 = a1) (hx2 : xs 2 = a2) (Mhp : ¬ inP a1.toInt64 0 (-1)) (hT : ∀ (Φ1 : Hm) (sz1 : Nat), Z p9 l e9 room_1 s9 m9 a9 w9 t9 k9 Q9 G 9 2893 [(5, .int 0), (4, .ref d), (3, .ref o), (2, .ref y), (1, .ref x), (0, .ref b)] [] Φ1 sz1 178 20844) : Z p9 l e9 room_1 s9 m9 a9 w9 t9 k9 Q9 G 9 2356 [(5, .int 0), (4, .ref d), (3, .ref o), (2, .ref y), (1, .ref x), (0, .ref b)] [] Φ sz 177 20838 := by
  refine z_aload_n B dL_law_2356 rfl 4 rfl ?_
  refine z_aload_n B dL_law_2357 rfl 5 rfl ?_
  refine z_iload B dL_law_2358 0 rfl ?_
  refine z_iconst (v := 1) B dL_law_2360 rfl ?_
  refine z_iadd B dL_law_2361 ?_
  refine z_top (st1 := [.int 1, .ref b, .ref x]) (congrArg (fun w9 : Int32 => ([.int w9, .ref b, .ref x] : List Value)) (show (0 + 1 : Int32) = 1 by decide +kernel)) ?_
  refine z_sald B hX hbn (vin rfl) dL_law_2362 ?_
  refine z_top (st1 := [.int a1, .ref x]) (congrArg (fun w9 : Int32 => ([.int w9, .ref x] : List Value)) (show xs (1 : Int32).toNatClampNeg = a1 from hx1)) ?_
  refine z_aload_n B dL_law_2363 rfl 5 rfl ?_
  refine z_iload B dL_law_2364 0 rfl ?_
  refine z_iconst (v := 2) B dL_law_2366 rfl ?_
  refine z_iadd B dL_law_2367 ?_
  refine z_top (st1 := [.int 2, .ref b, .int a1, .ref x]) (congrArg (fun w9 : Int32 => ([.int w9, .ref b, .int a1, .ref x] : List Value)) (show (0 + 2 : Int32) = 2 by decide +kernel)) ?_
  refine z_sald B hX hbn (vin rfl) dL_law_2368 ?_
  refine z_top (st1 := [.int a2, .int a1, .ref x]) (congrArg (fun w9 : Int32 => ([.int w9, .int a1, .ref x] : List Value)) (show xs (2 : Int32).toNatClampNeg = a2 from hx2)) ?_
  refine z_aload B dL_law_2369 1 rfl ?_
  refine z_callSW (As := [.ref x, .int a1, .int a2, .ref d]) (rest := []) B (w_lower_x G l hl9 Φ sz x d a1 a2 hx_0 hx_121) (vx_cwSW 4 B.1.2.2.2.2 gL_law_L_lower rfl rfl rfl (by decide +kernel) ⟨Nat.le_of_ble_eq_true rfl, Nat.le_of_ble_eq_true rfl⟩) rfl rfl (Nat.le_of_ble_eq_true rfl) dL_law_2371 ⟨Nat.le_of_ble_eq_true rfl, Nat.le_of_ble_eq_true rfl⟩ (fun v1 Φ1 sz1 st1 hp1 hs1 => ?_)
  obtain ⟨rfl, he1⟩ := hp1
  replace hs1 : st1 = [.int 1] := hs1
  subst st1
  rw [he1]
  refine z_istore (lv' := [(6, .int 1), (5, .int 0), (4, .ref d), (3, .ref o), (2, .ref y), (1, .ref x), (0, .ref b)]) B dL_law_2374 (Nat.le_of_ble_eq_true rfl) rfl ?_
  refine z_aload_n B dL_law_2376 rfl 4 rfl ?_
  refine z_aload_n B dL_law_2377 rfl 6 rfl ?_
  refine z_iload B dL_law_2378 1 rfl ?_
  refine z_iconst (v := 1) B dL_law_2380 rfl ?_
  refine z_iadd B dL_law_2381 ?_
  refine z_top (st1 := [.int 1, .ref b, .ref y]) (congrArg (fun w9 : Int32 => ([.int w9, .ref b, .ref y] : List Value)) (show (0 + 1 : Int32) = 1 by decide +kernel)) ?_
  refine z_sald B hX hbn (vin rfl) dL_law_2382 ?_
  refine z_top (st1 := [.int a1, .ref y]) (congrArg (fun w9 : Int32 => ([.int w9, .ref y] : List Value)) (show xs (1 : Int32).toNatClampNeg = a1 from hx1)) ?_
  refine z_aload_n B dL_law_2383 rfl 6 rfl ?_
  refine z_iload B dL_law_2384 1 rfl ?_
  refine z_iconst (v := 2) B dL_law_2386 rfl ?_
  refine z_iadd B dL_law_2387 ?_
  refine z_top (st1 := [.int 2, .ref b, .int a1, .ref y]) (congrArg (fun w9 : Int32 => ([.int w9, .ref b, .int a1, .ref y] : List Value)) (show (0 + 2 : Int32) = 2 by decide +kernel)) ?_
  refine z_sald B hX hbn (vin rfl) dL_law_2388 ?_
  refine z_top (st1 := [.int a2, .int a1, .ref y]) (congrArg (fun w9 : Int32 => ([.int w9, .int a1, .ref y] : List Value)) (show xs (2 : Int32).toNatClampNeg = a2 from hx2)) ?_
  refine z_callV (As := [.int a1, .int a2]) (rest := []) B (m_X12_lower_x G l Φ sz1 y a1 a2 hy_0 (Nat.le_trans hna (Nat.le_trans (Nat.le_add_right x 149) hxy)) Mhp) (cwV 2 B.1.2.2.2.2 gL_law_X12_lower rfl rfl rfl (by decide +kernel) ⟨Nat.le_of_ble_eq_true rfl, Nat.le_of_ble_eq_true rfl⟩) hy_0 rfl rfl rfl rfl (Nat.le_of_ble_eq_true rfl) dL_law_2389 ⟨Nat.le_of_ble_eq_true rfl, Nat.le_of_ble_eq_true rfl⟩ (fun v2 Φ2 sz2 st2 hp2 hs2 => ?_)
  obtain ⟨rfl, ⟨fs1, hy1, hk1⟩, fr1⟩ := hp2
  replace hs2 : st2 = [.double FP.dconst0] := hs2
  subst st2
  refine z_dstore (lv' := [(7, .double FP.dconst0), (6, .int 1), (5, .int 0), (4, .ref d), (3, .ref o), (2, .ref y), (1, .ref x), (0, .ref b)]) B dL_law_2392 (Nat.le_of_ble_eq_true rfl) rfl ?_
  refine z_aload_n B dL_law_2394 rfl 5 rfl ?_
  refine z_callV (As := []) (rest := []) B (m_thrown G l Φ2 sz2 y fs1 1 hy1 hk1) (cwV 0 B.1.2.2.2.2 gL_law_X12_thrown rfl rfl rfl (by decide +kernel) ⟨Nat.le_of_ble_eq_true rfl, Nat.le_of_ble_eq_true rfl⟩) hy1 rfl rfl rfl rfl (Nat.le_of_ble_eq_true rfl) dL_law_2395 ⟨Nat.le_of_ble_eq_true rfl, Nat.le_of_ble_eq_true rfl⟩ (fun v3 Φ3 sz3 st3 hp3 hs3 => ?_)
  obtain ⟨rfl, he2⟩ := hp3
  replace hs3 : st3 = [.int 1] := hs3
  subst st3
  rw [he2]
  refine z_iload B dL_law_2398 1 rfl ?_
  refine z_icmp_eq (tgt := 2405) B dL_law_2400 rfl (fun c_1 => ?_) (fun h9 => absurd (by decide) h9)
  refine z_iload B dL_law_2405 1 rfl ?_
  refine z_if_ne (tgt := 2442) B dL_law_2407 rfl (fun c_2 => ?_) (fun h9 => absurd h9 (by decide))
  refine z_goto (tgt := 2893) B dL_law_2442 rfl ?_
  refine z_lv [2, 3, 4, 5, 6, 7] rfl ?_
  exact hT _ _

set_option maxHeartbeats 4000000 in
set_option maxRecDepth 100000 in
theorem lc_53 {p9 : Program} {e9 : Env} {s9 : State} {m9 : MethodId} {a9 : Array Value} {w9 : List Frame} {t9 : Method} {k9 : Code} {Q9 : State → Prop} {nm9 : String} (G : EnvG) (l : Launch) (hl9 : l.stackTraces = false) (B : Bd p9 s9 m9 a9 t9 k9 G code 9 RL wsL_law ret nm9) (Φ : Hm) (sz : Nat) (b : Nat) (xs : Nat → Int32) (hX : va_X b 7 xs s9 s9.heap) (hbn : b < G.2.2.2) (x y o d : Nat) (a1 : Int32) (a2 : Int32) (go : Nat → Int64) (gd : Nat → UInt64) (hna : G.2.2.2 ≤ x) (hxy : x + 149 ≤ y) (hyo : y + 26 ≤ o) (hyd : y + 26 ≤ d) (hod : o ≠ d) (hx_0 : Φ x = some (o_ 13 [.ref (x + 1), .ref (x + 3), .ref (x + 24), .ref (x + 46), .ref (x + 74), .ref (x + 80), .ref (x + 132), .ref (x + 121)])) (hx_121 : Φ (x + 121) = some (o_ 11 [.ref (x + 122), .ref (x + 123), .ref (x + 126), .ref (x + 129), .int 0])) (hy_0 : Φ y = some (o_ 14 [.int 0, .ref (y + 1), .ref (y + 2), .int 0, .int 1, .int 1, .int 0, .int 0, .ref (y + 3), .ref (y + 4), .int 0, .long 0, .ref (y + 5), .int 0, .int 0, .long 0, .long 0, .long 0, .long 0, .ref (y + 6), .ref (y + 7), .int 0, .ref (y + 8), .int 0, .ref (y + 9), .ref (y + 10), .int 0, .ref (y + 11), .ref (y + 12), .ref (y + 13), .ref (y + 14), .ref (y + 15), .ref (y + 16), .int 0, .long (-1), .ref (y + 17), .ref (y + 18), .ref (y + 19), .ref (y + 20), .ref (y + 21), .ref (y + 22), .int 0, .ref (y + 23), .ref (y + 24), .int 0, .ref (y + 25), .int 0, .int 0, .int 0, .int (-1), .int 0, .int 0, .int 0, .long 0])) (hx1 : xs 1 = a1) (hx2 : xs 2 = a2) (Mhp : ¬ inP a1.toInt64 0 (-1)) (hT : ∀ (Φ1 : Hm) (sz1 : Nat), Z p9 l e9 room_1 s9 m9 a9 w9 t9 k9 Q9 G 9 2893 [(5, .int 0), (4, .ref d), (3, .ref o), (2, .ref y), (1, .ref x), (0, .ref b)] [] Φ1 sz1 178 20844) : Z p9 l e9 room_1 s9 m9 a9 w9 t9 k9 Q9 G 9 2445 [(5, .int 0), (4, .ref d), (3, .ref o), (2, .ref y), (1, .ref x), (0, .ref b)] [] Φ sz 177 20838 := by
  refine z_aload_n B dL_law_2445 rfl 4 rfl ?_
  refine z_aload_n B dL_law_2446 rfl 5 rfl ?_
  refine z_iload B dL_law_2447 0 rfl ?_
  refine z_iconst (v := 1) B dL_law_2449 rfl ?_
  refine z_iadd B dL_law_2450 ?_
  refine z_top (st1 := [.int 1, .ref b, .ref x]) (congrArg (fun w9 : Int32 => ([.int w9, .ref b, .ref x] : List Value)) (show (0 + 1 : Int32) = 1 by decide +kernel)) ?_
  refine z_sald B hX hbn (vin rfl) dL_law_2451 ?_
  refine z_top (st1 := [.int a1, .ref x]) (congrArg (fun w9 : Int32 => ([.int w9, .ref x] : List Value)) (show xs (1 : Int32).toNatClampNeg = a1 from hx1)) ?_
  refine z_aload_n B dL_law_2452 rfl 5 rfl ?_
  refine z_iload B dL_law_2453 0 rfl ?_
  refine z_iconst (v := 2) B dL_law_2455 rfl ?_
  refine z_iadd B dL_law_2456 ?_
  refine z_top (st1 := [.int 2, .ref b, .int a1, .ref x]) (congrArg (fun w9 : Int32 => ([.int w9, .ref b, .int a1, .ref x] : List Value)) (show (0 + 2 : Int32) = 2 by decide +kernel)) ?_
  refine z_sald B hX hbn (vin rfl) dL_law_2457 ?_
  refine z_top (st1 := [.int a2, .int a1, .ref x]) (congrArg (fun w9 : Int32 => ([.int w9, .int a1, .ref x] : List Value)) (show xs (2 : Int32).toNatClampNeg = a2 from hx2)) ?_
  refine z_aload B dL_law_2458 1 rfl ?_
  refine z_callSW (As := [.ref x, .int a1, .int a2, .ref d]) (rest := []) B (w_upper_x G l hl9 Φ sz x d a1 a2 hx_0 hx_121) (vx_cwSW 4 B.1.2.2.2.2 gL_law_L_upper rfl rfl rfl (by decide +kernel) ⟨Nat.le_of_ble_eq_true rfl, Nat.le_of_ble_eq_true rfl⟩) rfl rfl (Nat.le_of_ble_eq_true rfl) dL_law_2460 ⟨Nat.le_of_ble_eq_true rfl, Nat.le_of_ble_eq_true rfl⟩ (fun v1 Φ1 sz1 st1 hp1 hs1 => ?_)
  obtain ⟨rfl, he1⟩ := hp1
  replace hs1 : st1 = [.int 1] := hs1
  subst st1
  rw [he1]
  refine z_istore (lv' := [(6, .int 1), (5, .int 0), (4, .ref d), (3, .ref o), (2, .ref y), (1, .ref x), (0, .ref b)]) B dL_law_2463 (Nat.le_of_ble_eq_true rfl) rfl ?_
  refine z_aload_n B dL_law_2465 rfl 4 rfl ?_
  refine z_aload_n B dL_law_2466 rfl 6 rfl ?_
  refine z_iload B dL_law_2467 1 rfl ?_
  refine z_iconst (v := 1) B dL_law_2469 rfl ?_
  refine z_iadd B dL_law_2470 ?_
  refine z_top (st1 := [.int 1, .ref b, .ref y]) (congrArg (fun w9 : Int32 => ([.int w9, .ref b, .ref y] : List Value)) (show (0 + 1 : Int32) = 1 by decide +kernel)) ?_
  refine z_sald B hX hbn (vin rfl) dL_law_2471 ?_
  refine z_top (st1 := [.int a1, .ref y]) (congrArg (fun w9 : Int32 => ([.int w9, .ref y] : List Value)) (show xs (1 : Int32).toNatClampNeg = a1 from hx1)) ?_
  refine z_aload_n B dL_law_2472 rfl 6 rfl ?_
  refine z_iload B dL_law_2473 1 rfl ?_
  refine z_iconst (v := 2) B dL_law_2475 rfl ?_
  refine z_iadd B dL_law_2476 ?_
  refine z_top (st1 := [.int 2, .ref b, .int a1, .ref y]) (congrArg (fun w9 : Int32 => ([.int w9, .ref b, .int a1, .ref y] : List Value)) (show (0 + 2 : Int32) = 2 by decide +kernel)) ?_
  refine z_sald B hX hbn (vin rfl) dL_law_2477 ?_
  refine z_top (st1 := [.int a2, .int a1, .ref y]) (congrArg (fun w9 : Int32 => ([.int w9, .int a1, .ref y] : List Value)) (show xs (2 : Int32).toNatClampNeg = a2 from hx2)) ?_
  refine z_callV (As := [.int a1, .int a2]) (rest := []) B (m_X12_upper_x G l Φ sz1 y a1 a2 hy_0 (Nat.le_trans hna (Nat.le_trans (Nat.le_add_right x 149) hxy)) Mhp) (cwV 2 B.1.2.2.2.2 gL_law_X12_upper rfl rfl rfl (by decide +kernel) ⟨Nat.le_of_ble_eq_true rfl, Nat.le_of_ble_eq_true rfl⟩) hy_0 rfl rfl rfl rfl (Nat.le_of_ble_eq_true rfl) dL_law_2478 ⟨Nat.le_of_ble_eq_true rfl, Nat.le_of_ble_eq_true rfl⟩ (fun v2 Φ2 sz2 st2 hp2 hs2 => ?_)
  obtain ⟨rfl, ⟨fs1, hy1, hk1⟩, fr1⟩ := hp2
  replace hs2 : st2 = [.double FP.dconst0] := hs2
  subst st2
  refine z_dstore (lv' := [(7, .double FP.dconst0), (6, .int 1), (5, .int 0), (4, .ref d), (3, .ref o), (2, .ref y), (1, .ref x), (0, .ref b)]) B dL_law_2481 (Nat.le_of_ble_eq_true rfl) rfl ?_
  refine z_aload_n B dL_law_2483 rfl 5 rfl ?_
  refine z_callV (As := []) (rest := []) B (m_thrown G l Φ2 sz2 y fs1 1 hy1 hk1) (cwV 0 B.1.2.2.2.2 gL_law_X12_thrown rfl rfl rfl (by decide +kernel) ⟨Nat.le_of_ble_eq_true rfl, Nat.le_of_ble_eq_true rfl⟩) hy1 rfl rfl rfl rfl (Nat.le_of_ble_eq_true rfl) dL_law_2484 ⟨Nat.le_of_ble_eq_true rfl, Nat.le_of_ble_eq_true rfl⟩ (fun v3 Φ3 sz3 st3 hp3 hs3 => ?_)
  obtain ⟨rfl, he2⟩ := hp3
  replace hs3 : st3 = [.int 1] := hs3
  subst st3
  rw [he2]
  refine z_iload B dL_law_2487 1 rfl ?_
  refine z_icmp_eq (tgt := 2494) B dL_law_2489 rfl (fun c_1 => ?_) (fun h9 => absurd (by decide) h9)
  refine z_iload B dL_law_2494 1 rfl ?_
  refine z_if_ne (tgt := 2531) B dL_law_2496 rfl (fun c_2 => ?_) (fun h9 => absurd h9 (by decide))
  refine z_goto (tgt := 2893) B dL_law_2531 rfl ?_
  refine z_lv [2, 3, 4, 5, 6, 7] rfl ?_
  exact hT _ _

set_option maxHeartbeats 4000000 in
set_option maxRecDepth 100000 in
theorem lc_42_0 {p9 : Program} {e9 : Env} {s9 : State} {m9 : MethodId} {a9 : Array Value} {w9 : List Frame} {t9 : Method} {k9 : Code} {Q9 : State → Prop} {nm9 : String} (G : EnvG) (l : Launch) (hl9 : l.stackTraces = false) (B : Bd p9 s9 m9 a9 t9 k9 G code 9 RL wsL_law ret nm9) (Φ : Hm) (sz : Nat) (b : Nat) (xs : Nat → Int32) (hX : va_X b 7 xs s9 s9.heap) (hbn : b < G.2.2.2) (x y o d : Nat)  (go : Nat → Int64) (gd : Nat → UInt64) (hna : G.2.2.2 ≤ x) (hxy : x + 149 ≤ y) (hyo : y + 26 ≤ o) (hyd : y + 26 ≤ d) (hod : o ≠ d) (hx_0 : Φ x = some (o_ 13 [.ref (x + 1), .ref (x + 3), .ref (x + 24), .ref (x + 46), .ref (x + 74), .ref (x + 80), .ref (x + 132), .ref (x + 121)])) (hx_80 : Φ (x + 80) = some (o_ 4 [.ref (x + 3), .ref (x + 74), .ref (x + 81), .ref (x + 95), .int 0, .int 1, .int 1, .int 0, .int 0, .int 0, .long 0, .long 0, .long 0])) (hx_132 : Φ (x + 132) = some (o_ 2 [.ref (x + 3), .ref (x + 121), .ref (x + 133), .ref (x + 134), .ref (x + 135), .ref (x + 137), .ref (x + 138), .ref (x + 139), .ref (x + 140), .int 0, .int 0, .int 0])) (hx_133 : Φ (x + 133) = some (aq_ G 4 4 (va_up (va_up (va_up (va_up (fun _ => none) (0 : Int32).toNatClampNeg (some (x + 141))) (1 : Int32).toNatClampNeg (some (x + 143))) (2 : Int32).toNatClampNeg (some (x + 145))) (3 : Int32).toNatClampNeg (some (x + 147))))) (hx_141 : Φ (x + 141) = some (o_ 12 [.ref (x + 142), .int 0, .int 0, .int 0])) (hy_0 : Φ y = some (o_ 14 [.int 0, .ref (y + 1), .ref (y + 2), .int 0, .int 1, .int 1, .int 0, .int 0, .ref (y + 3), .ref (y + 4), .int 0, .long 0, .ref (y + 5), .int 0, .int 0, .long 0, .long 0, .long 0, .long 0, .ref (y + 6), .ref (y + 7), .int 0, .ref (y + 8), .int 0, .ref (y + 9), .ref (y + 10), .int 0, .ref (y + 11), .ref (y + 12), .ref (y + 13), .ref (y + 14), .ref (y + 15), .ref (y + 16), .int 0, .long (-1), .ref (y + 17), .ref (y + 18), .ref (y + 19), .ref (y + 20), .ref (y + 21), .ref (y + 22), .int 0, .ref (y + 23), .ref (y + 24), .int 0, .ref (y + 25), .int 0, .int 0, .int 0, .int (-1), .int 0, .int 0, .int 0, .long 0])) (hy_12 : Φ (y + 12) = some (ai_ G 4 (upd (upd (upd (upd (fun _ => 0) (0 : Int32).toNatClampNeg 0) (1 : Int32).toNatClampNeg 0) (2 : Int32).toNatClampNeg 0) (3 : Int32).toNatClampNeg 0))) (hco : Φ o = some (al_ G 1 go)) (hx1 : xs 1 = 0) (hT : ∀ (Φ1 : Hm) (sz1 : Nat), Z p9 l e9 room_1 s9 m9 a9 w9 t9 k9 Q9 G 9 2893 [(5, .int 0), (4, .ref d), (3, .ref o), (2, .ref y), (1, .ref x), (0, .ref b)] [] Φ1 sz1 178 20844) : Z p9 l e9 room_1 s9 m9 a9 w9 t9 k9 Q9 G 9 1877 [(5, .int 0), (4, .ref d), (3, .ref o), (2, .ref y), (1, .ref x), (0, .ref b)] [] Φ sz 177 20838 := by
  refine z_aload_n B dL_law_1877 rfl 4 rfl ?_
  refine z_aload_n B dL_law_1878 rfl 5 rfl ?_
  refine z_iload B dL_law_1879 0 rfl ?_
  refine z_iconst (v := 1) B dL_law_1881 rfl ?_
  refine z_iadd B dL_law_1882 ?_
  refine z_top (st1 := [.int 1, .ref b, .ref x]) (congrArg (fun w9 : Int32 => ([.int w9, .ref b, .ref x] : List Value)) (show (0 + 1 : Int32) = 1 by decide +kernel)) ?_
  refine z_sald B hX hbn (vin rfl) dL_law_1883 ?_
  refine z_top (st1 := [.int 0, .ref x]) (congrArg (fun w9 : Int32 => ([.int w9, .ref x] : List Value)) (show xs (1 : Int32).toNatClampNeg = 0 from hx1)) ?_
  refine z_aload_n B dL_law_1884 rfl 2 rfl ?_
  refine z_callSW (As := [.ref x, .int 0, .ref o]) (rest := []) B (w_templateAge_0 G l Φ sz x o go hx_0 hx_80 hx_132 hx_133 hx_141 hco hna (Nat.le_trans hxy (Nat.le_trans (Nat.le_add_right y 26) hyo))) (vx_cwSW 3 B.1.2.2.2.2 gL_law_L_templateAge rfl rfl rfl (by decide +kernel) ⟨Nat.le_of_ble_eq_true rfl, Nat.le_of_ble_eq_true rfl⟩) rfl rfl (Nat.le_of_ble_eq_true rfl) dL_law_1885 ⟨Nat.le_of_ble_eq_true rfl, Nat.le_of_ble_eq_true rfl⟩ (fun v1 Φ1 sz1 st1 hp1 hs1 => ?_)
  obtain ⟨rfl, fr1, g1, ho1, hg1⟩ := hp1
  replace hs1 : st1 = [.int 0] := hs1
  subst st1
  refine z_istore (lv' := [(6, .int 0), (5, .int 0), (4, .ref d), (3, .ref o), (2, .ref y), (1, .ref x), (0, .ref b)]) B dL_law_1888 (Nat.le_of_ble_eq_true rfl) rfl ?_
  refine z_aload_n B dL_law_1890 rfl 4 rfl ?_
  refine z_aload_n B dL_law_1891 rfl 6 rfl ?_
  refine z_iload B dL_law_1892 1 rfl ?_
  refine z_iconst (v := 1) B dL_law_1894 rfl ?_
  refine z_iadd B dL_law_1895 ?_
  refine z_top (st1 := [.int 1, .ref b, .ref y]) (congrArg (fun w9 : Int32 => ([.int w9, .ref b, .ref y] : List Value)) (show (0 + 1 : Int32) = 1 by decide +kernel)) ?_
  refine z_sald B hX hbn (vin rfl) dL_law_1896 ?_
  refine z_top (st1 := [.int 0, .ref y]) (congrArg (fun w9 : Int32 => ([.int w9, .ref y] : List Value)) (show xs (1 : Int32).toNatClampNeg = 0 from hx1)) ?_
  have h_1 : Φ1 y = some (o_ 14 [.int 0, .ref (y + 1), .ref (y + 2), .int 0, .int 1, .int 1, .int 0, .int 0, .ref (y + 3), .ref (y + 4), .int 0, .long 0, .ref (y + 5), .int 0, .int 0, .long 0, .long 0, .long 0, .long 0, .ref (y + 6), .ref (y + 7), .int 0, .ref (y + 8), .int 0, .ref (y + 9), .ref (y + 10), .int 0, .ref (y + 11), .ref (y + 12), .ref (y + 13), .ref (y + 14), .ref (y + 15), .ref (y + 16), .int 0, .long (-1), .ref (y + 17), .ref (y + 18), .ref (y + 19), .ref (y + 20), .ref (y + 21), .ref (y + 22), .int 0, .ref (y + 23), .ref (y + 24), .int 0, .ref (y + 25), .int 0, .int 0, .int 0, .int (-1), .int 0, .int 0, .int 0, .long 0]) := ((fr1 y hxy (Nat.ne_of_lt (Nat.lt_of_lt_of_le (lt_off (x := y) (i := 0) (j := 26) rfl) hyo))).trans hy_0)
  have h_2 : Φ1 (y + 12) = some (ai_ G 4 (upd (upd (upd (upd (fun _ => 0) (0 : Int32).toNatClampNeg 0) (1 : Int32).toNatClampNeg 0) (2 : Int32).toNatClampNeg 0) (3 : Int32).toNatClampNeg 0)) := ((fr1 (y + 12) (Nat.le_trans hxy (Nat.le_add_right y 12)) (Nat.ne_of_lt (Nat.lt_of_lt_of_le (lt_off (x := y) (i := 12) (j := 26) rfl) hyo))).trans hy_12)
  refine z_callV (As := [.int 0]) (rest := []) B (m_X12_templateAge_0 G l Φ1 sz1 y h_1 h_2 (Nat.le_trans hna (Nat.le_trans (Nat.le_add_right x 149) hxy))) (cwV 1 B.1.2.2.2.2 gL_law_X12_templateAge rfl rfl rfl (by decide +kernel) ⟨Nat.le_of_ble_eq_true rfl, Nat.le_of_ble_eq_true rfl⟩) h_1 rfl rfl rfl rfl (Nat.le_of_ble_eq_true rfl) dL_law_1897 ⟨Nat.le_of_ble_eq_true rfl, Nat.le_of_ble_eq_true rfl⟩ (fun v2 Φ2 sz2 st2 hp2 hs2 => ?_)
  obtain ⟨rfl, ⟨fs1, hy1, hk1⟩, fr2⟩ := hp2
  replace hs2 : st2 = [.int (-1)] := hs2
  subst st2
  refine z_istore (lv' := [(7, .int (-1)), (6, .int 0), (5, .int 0), (4, .ref d), (3, .ref o), (2, .ref y), (1, .ref x), (0, .ref b)]) B dL_law_1900 (Nat.le_of_ble_eq_true rfl) rfl ?_
  refine z_aload_n B dL_law_1902 rfl 5 rfl ?_
  refine z_callV (As := []) (rest := []) B (m_thrown G l Φ2 sz2 y fs1 0 hy1 hk1) (cwV 0 B.1.2.2.2.2 gL_law_X12_thrown rfl rfl rfl (by decide +kernel) ⟨Nat.le_of_ble_eq_true rfl, Nat.le_of_ble_eq_true rfl⟩) hy1 rfl rfl rfl rfl (Nat.le_of_ble_eq_true rfl) dL_law_1903 ⟨Nat.le_of_ble_eq_true rfl, Nat.le_of_ble_eq_true rfl⟩ (fun v3 Φ3 sz3 st3 hp3 hs3 => ?_)
  obtain ⟨rfl, he1⟩ := hp3
  replace hs3 : st3 = [.int 0] := hs3
  subst st3
  rw [he1]
  refine z_iload B dL_law_1906 1 rfl ?_
  refine z_icmp_eq (tgt := 1913) B dL_law_1908 rfl (fun c_1 => ?_) (fun h9 => absurd (by decide) h9)
  refine z_iload B dL_law_1913 1 rfl ?_
  refine z_if_ne (tgt := 1930) B dL_law_1915 rfl (fun h9 => absurd (by decide) h9) (fun c_2 => ?_)
  refine z_aload_n B dL_law_1918 rfl 4 rfl ?_
  refine z_iconst (v := 0) B dL_law_1919 rfl ?_
  have h_3 : Φ2 o = some (al_ G 1 g1) := ((fr2 o hyo).trans ho1)
  refine z_lald B h_3 (vin rfl) dL_law_1920 ?_
  refine z_top (st1 := [.long (-1)]) (congrArg (fun w9 : Int64 => ([.long w9] : List Value)) (show g1 (0 : Int32).toNatClampNeg = (-1) from hg1)) ?_
  refine z_iload B dL_law_1921 0 rfl ?_
  refine z_i2l (v := (-1)) B dL_law_1923 (by decide +kernel) ?_
  refine z_lcmp B dL_law_1924 ?_
  refine z_top (st1 := [.int 0]) (congrArg (fun w9 : Int32 => ([.int w9] : List Value)) (show (lg_cmp (-1) (-1) : Int32) = 0 by decide +kernel)) ?_
  refine z_if_eq (tgt := 1930) B dL_law_1925 rfl (fun c_3 => ?_) (fun h9 => absurd (by decide) h9)
  refine z_goto (tgt := 2893) B dL_law_1930 rfl ?_
  refine z_lv [2, 3, 4, 5, 6, 7] rfl ?_
  refine z_widen (k := 178) (n := 20844) (Nat.le_of_ble_eq_true rfl) (Nat.le_of_ble_eq_true rfl) ?_
  exact hT _ _

set_option maxHeartbeats 4000000 in
set_option maxRecDepth 100000 in
theorem lc_42_1 {p9 : Program} {e9 : Env} {s9 : State} {m9 : MethodId} {a9 : Array Value} {w9 : List Frame} {t9 : Method} {k9 : Code} {Q9 : State → Prop} {nm9 : String} (G : EnvG) (l : Launch) (hl9 : l.stackTraces = false) (B : Bd p9 s9 m9 a9 t9 k9 G code 9 RL wsL_law ret nm9) (Φ : Hm) (sz : Nat) (b : Nat) (xs : Nat → Int32) (hX : va_X b 7 xs s9 s9.heap) (hbn : b < G.2.2.2) (x y o d : Nat)  (go : Nat → Int64) (gd : Nat → UInt64) (hna : G.2.2.2 ≤ x) (hxy : x + 149 ≤ y) (hyo : y + 26 ≤ o) (hyd : y + 26 ≤ d) (hod : o ≠ d) (hx_0 : Φ x = some (o_ 13 [.ref (x + 1), .ref (x + 3), .ref (x + 24), .ref (x + 46), .ref (x + 74), .ref (x + 80), .ref (x + 132), .ref (x + 121)])) (hx_80 : Φ (x + 80) = some (o_ 4 [.ref (x + 3), .ref (x + 74), .ref (x + 81), .ref (x + 95), .int 0, .int 1, .int 1, .int 0, .int 0, .int 0, .long 0, .long 0, .long 0])) (hx_132 : Φ (x + 132) = some (o_ 2 [.ref (x + 3), .ref (x + 121), .ref (x + 133), .ref (x + 134), .ref (x + 135), .ref (x + 137), .ref (x + 138), .ref (x + 139), .ref (x + 140), .int 0, .int 0, .int 0])) (hx_133 : Φ (x + 133) = some (aq_ G 4 4 (va_up (va_up (va_up (va_up (fun _ => none) (0 : Int32).toNatClampNeg (some (x + 141))) (1 : Int32).toNatClampNeg (some (x + 143))) (2 : Int32).toNatClampNeg (some (x + 145))) (3 : Int32).toNatClampNeg (some (x + 147))))) (hx_143 : Φ (x + 143) = some (o_ 12 [.ref (x + 144), .int 0, .int 0, .int 0])) (hy_0 : Φ y = some (o_ 14 [.int 0, .ref (y + 1), .ref (y + 2), .int 0, .int 1, .int 1, .int 0, .int 0, .ref (y + 3), .ref (y + 4), .int 0, .long 0, .ref (y + 5), .int 0, .int 0, .long 0, .long 0, .long 0, .long 0, .ref (y + 6), .ref (y + 7), .int 0, .ref (y + 8), .int 0, .ref (y + 9), .ref (y + 10), .int 0, .ref (y + 11), .ref (y + 12), .ref (y + 13), .ref (y + 14), .ref (y + 15), .ref (y + 16), .int 0, .long (-1), .ref (y + 17), .ref (y + 18), .ref (y + 19), .ref (y + 20), .ref (y + 21), .ref (y + 22), .int 0, .ref (y + 23), .ref (y + 24), .int 0, .ref (y + 25), .int 0, .int 0, .int 0, .int (-1), .int 0, .int 0, .int 0, .long 0])) (hy_12 : Φ (y + 12) = some (ai_ G 4 (upd (upd (upd (upd (fun _ => 0) (0 : Int32).toNatClampNeg 0) (1 : Int32).toNatClampNeg 0) (2 : Int32).toNatClampNeg 0) (3 : Int32).toNatClampNeg 0))) (hco : Φ o = some (al_ G 1 go)) (hx1 : xs 1 = 1) (hT : ∀ (Φ1 : Hm) (sz1 : Nat), Z p9 l e9 room_1 s9 m9 a9 w9 t9 k9 Q9 G 9 2893 [(5, .int 0), (4, .ref d), (3, .ref o), (2, .ref y), (1, .ref x), (0, .ref b)] [] Φ1 sz1 178 20844) : Z p9 l e9 room_1 s9 m9 a9 w9 t9 k9 Q9 G 9 1877 [(5, .int 0), (4, .ref d), (3, .ref o), (2, .ref y), (1, .ref x), (0, .ref b)] [] Φ sz 177 20838 := by
  refine z_aload_n B dL_law_1877 rfl 4 rfl ?_
  refine z_aload_n B dL_law_1878 rfl 5 rfl ?_
  refine z_iload B dL_law_1879 0 rfl ?_
  refine z_iconst (v := 1) B dL_law_1881 rfl ?_
  refine z_iadd B dL_law_1882 ?_
  refine z_top (st1 := [.int 1, .ref b, .ref x]) (congrArg (fun w9 : Int32 => ([.int w9, .ref b, .ref x] : List Value)) (show (0 + 1 : Int32) = 1 by decide +kernel)) ?_
  refine z_sald B hX hbn (vin rfl) dL_law_1883 ?_
  refine z_top (st1 := [.int 1, .ref x]) (congrArg (fun w9 : Int32 => ([.int w9, .ref x] : List Value)) (show xs (1 : Int32).toNatClampNeg = 1 from hx1)) ?_
  refine z_aload_n B dL_law_1884 rfl 2 rfl ?_
  refine z_callSW (As := [.ref x, .int 1, .ref o]) (rest := []) B (w_templateAge_1 G l Φ sz x o go hx_0 hx_80 hx_132 hx_133 hx_143 hco hna (Nat.le_trans hxy (Nat.le_trans (Nat.le_add_right y 26) hyo))) (vx_cwSW 3 B.1.2.2.2.2 gL_law_L_templateAge rfl rfl rfl (by decide +kernel) ⟨Nat.le_of_ble_eq_true rfl, Nat.le_of_ble_eq_true rfl⟩) rfl rfl (Nat.le_of_ble_eq_true rfl) dL_law_1885 ⟨Nat.le_of_ble_eq_true rfl, Nat.le_of_ble_eq_true rfl⟩ (fun v1 Φ1 sz1 st1 hp1 hs1 => ?_)
  obtain ⟨rfl, fr1, g1, ho1, hg1⟩ := hp1
  replace hs1 : st1 = [.int 0] := hs1
  subst st1
  refine z_istore (lv' := [(6, .int 0), (5, .int 0), (4, .ref d), (3, .ref o), (2, .ref y), (1, .ref x), (0, .ref b)]) B dL_law_1888 (Nat.le_of_ble_eq_true rfl) rfl ?_
  refine z_aload_n B dL_law_1890 rfl 4 rfl ?_
  refine z_aload_n B dL_law_1891 rfl 6 rfl ?_
  refine z_iload B dL_law_1892 1 rfl ?_
  refine z_iconst (v := 1) B dL_law_1894 rfl ?_
  refine z_iadd B dL_law_1895 ?_
  refine z_top (st1 := [.int 1, .ref b, .ref y]) (congrArg (fun w9 : Int32 => ([.int w9, .ref b, .ref y] : List Value)) (show (0 + 1 : Int32) = 1 by decide +kernel)) ?_
  refine z_sald B hX hbn (vin rfl) dL_law_1896 ?_
  refine z_top (st1 := [.int 1, .ref y]) (congrArg (fun w9 : Int32 => ([.int w9, .ref y] : List Value)) (show xs (1 : Int32).toNatClampNeg = 1 from hx1)) ?_
  have h_1 : Φ1 y = some (o_ 14 [.int 0, .ref (y + 1), .ref (y + 2), .int 0, .int 1, .int 1, .int 0, .int 0, .ref (y + 3), .ref (y + 4), .int 0, .long 0, .ref (y + 5), .int 0, .int 0, .long 0, .long 0, .long 0, .long 0, .ref (y + 6), .ref (y + 7), .int 0, .ref (y + 8), .int 0, .ref (y + 9), .ref (y + 10), .int 0, .ref (y + 11), .ref (y + 12), .ref (y + 13), .ref (y + 14), .ref (y + 15), .ref (y + 16), .int 0, .long (-1), .ref (y + 17), .ref (y + 18), .ref (y + 19), .ref (y + 20), .ref (y + 21), .ref (y + 22), .int 0, .ref (y + 23), .ref (y + 24), .int 0, .ref (y + 25), .int 0, .int 0, .int 0, .int (-1), .int 0, .int 0, .int 0, .long 0]) := ((fr1 y hxy (Nat.ne_of_lt (Nat.lt_of_lt_of_le (lt_off (x := y) (i := 0) (j := 26) rfl) hyo))).trans hy_0)
  have h_2 : Φ1 (y + 12) = some (ai_ G 4 (upd (upd (upd (upd (fun _ => 0) (0 : Int32).toNatClampNeg 0) (1 : Int32).toNatClampNeg 0) (2 : Int32).toNatClampNeg 0) (3 : Int32).toNatClampNeg 0)) := ((fr1 (y + 12) (Nat.le_trans hxy (Nat.le_add_right y 12)) (Nat.ne_of_lt (Nat.lt_of_lt_of_le (lt_off (x := y) (i := 12) (j := 26) rfl) hyo))).trans hy_12)
  refine z_callV (As := [.int 1]) (rest := []) B (m_X12_templateAge_1 G l Φ1 sz1 y h_1 h_2 (Nat.le_trans hna (Nat.le_trans (Nat.le_add_right x 149) hxy))) (cwV 1 B.1.2.2.2.2 gL_law_X12_templateAge rfl rfl rfl (by decide +kernel) ⟨Nat.le_of_ble_eq_true rfl, Nat.le_of_ble_eq_true rfl⟩) h_1 rfl rfl rfl rfl (Nat.le_of_ble_eq_true rfl) dL_law_1897 ⟨Nat.le_of_ble_eq_true rfl, Nat.le_of_ble_eq_true rfl⟩ (fun v2 Φ2 sz2 st2 hp2 hs2 => ?_)
  obtain ⟨rfl, ⟨fs1, hy1, hk1⟩, fr2⟩ := hp2
  replace hs2 : st2 = [.int (-1)] := hs2
  subst st2
  refine z_istore (lv' := [(7, .int (-1)), (6, .int 0), (5, .int 0), (4, .ref d), (3, .ref o), (2, .ref y), (1, .ref x), (0, .ref b)]) B dL_law_1900 (Nat.le_of_ble_eq_true rfl) rfl ?_
  refine z_aload_n B dL_law_1902 rfl 5 rfl ?_
  refine z_callV (As := []) (rest := []) B (m_thrown G l Φ2 sz2 y fs1 0 hy1 hk1) (cwV 0 B.1.2.2.2.2 gL_law_X12_thrown rfl rfl rfl (by decide +kernel) ⟨Nat.le_of_ble_eq_true rfl, Nat.le_of_ble_eq_true rfl⟩) hy1 rfl rfl rfl rfl (Nat.le_of_ble_eq_true rfl) dL_law_1903 ⟨Nat.le_of_ble_eq_true rfl, Nat.le_of_ble_eq_true rfl⟩ (fun v3 Φ3 sz3 st3 hp3 hs3 => ?_)
  obtain ⟨rfl, he1⟩ := hp3
  replace hs3 : st3 = [.int 0] := hs3
  subst st3
  rw [he1]
  refine z_iload B dL_law_1906 1 rfl ?_
  refine z_icmp_eq (tgt := 1913) B dL_law_1908 rfl (fun c_1 => ?_) (fun h9 => absurd (by decide) h9)
  refine z_iload B dL_law_1913 1 rfl ?_
  refine z_if_ne (tgt := 1930) B dL_law_1915 rfl (fun h9 => absurd (by decide) h9) (fun c_2 => ?_)
  refine z_aload_n B dL_law_1918 rfl 4 rfl ?_
  refine z_iconst (v := 0) B dL_law_1919 rfl ?_
  have h_3 : Φ2 o = some (al_ G 1 g1) := ((fr2 o hyo).trans ho1)
  refine z_lald B h_3 (vin rfl) dL_law_1920 ?_
  refine z_top (st1 := [.long (-1)]) (congrArg (fun w9 : Int64 => ([.long w9] : List Value)) (show g1 (0 : Int32).toNatClampNeg = (-1) from hg1)) ?_
  refine z_iload B dL_law_1921 0 rfl ?_
  refine z_i2l (v := (-1)) B dL_law_1923 (by decide +kernel) ?_
  refine z_lcmp B dL_law_1924 ?_
  refine z_top (st1 := [.int 0]) (congrArg (fun w9 : Int32 => ([.int w9] : List Value)) (show (lg_cmp (-1) (-1) : Int32) = 0 by decide +kernel)) ?_
  refine z_if_eq (tgt := 1930) B dL_law_1925 rfl (fun c_3 => ?_) (fun h9 => absurd (by decide) h9)
  refine z_goto (tgt := 2893) B dL_law_1930 rfl ?_
  refine z_lv [2, 3, 4, 5, 6, 7] rfl ?_
  refine z_widen (k := 178) (n := 20844) (Nat.le_of_ble_eq_true rfl) (Nat.le_of_ble_eq_true rfl) ?_
  exact hT _ _

set_option maxHeartbeats 4000000 in
set_option maxRecDepth 100000 in
theorem lc_42_2 {p9 : Program} {e9 : Env} {s9 : State} {m9 : MethodId} {a9 : Array Value} {w9 : List Frame} {t9 : Method} {k9 : Code} {Q9 : State → Prop} {nm9 : String} (G : EnvG) (l : Launch) (hl9 : l.stackTraces = false) (B : Bd p9 s9 m9 a9 t9 k9 G code 9 RL wsL_law ret nm9) (Φ : Hm) (sz : Nat) (b : Nat) (xs : Nat → Int32) (hX : va_X b 7 xs s9 s9.heap) (hbn : b < G.2.2.2) (x y o d : Nat)  (go : Nat → Int64) (gd : Nat → UInt64) (hna : G.2.2.2 ≤ x) (hxy : x + 149 ≤ y) (hyo : y + 26 ≤ o) (hyd : y + 26 ≤ d) (hod : o ≠ d) (hx_0 : Φ x = some (o_ 13 [.ref (x + 1), .ref (x + 3), .ref (x + 24), .ref (x + 46), .ref (x + 74), .ref (x + 80), .ref (x + 132), .ref (x + 121)])) (hx_80 : Φ (x + 80) = some (o_ 4 [.ref (x + 3), .ref (x + 74), .ref (x + 81), .ref (x + 95), .int 0, .int 1, .int 1, .int 0, .int 0, .int 0, .long 0, .long 0, .long 0])) (hx_132 : Φ (x + 132) = some (o_ 2 [.ref (x + 3), .ref (x + 121), .ref (x + 133), .ref (x + 134), .ref (x + 135), .ref (x + 137), .ref (x + 138), .ref (x + 139), .ref (x + 140), .int 0, .int 0, .int 0])) (hx_133 : Φ (x + 133) = some (aq_ G 4 4 (va_up (va_up (va_up (va_up (fun _ => none) (0 : Int32).toNatClampNeg (some (x + 141))) (1 : Int32).toNatClampNeg (some (x + 143))) (2 : Int32).toNatClampNeg (some (x + 145))) (3 : Int32).toNatClampNeg (some (x + 147))))) (hx_145 : Φ (x + 145) = some (o_ 12 [.ref (x + 146), .int 0, .int 0, .int 0])) (hy_0 : Φ y = some (o_ 14 [.int 0, .ref (y + 1), .ref (y + 2), .int 0, .int 1, .int 1, .int 0, .int 0, .ref (y + 3), .ref (y + 4), .int 0, .long 0, .ref (y + 5), .int 0, .int 0, .long 0, .long 0, .long 0, .long 0, .ref (y + 6), .ref (y + 7), .int 0, .ref (y + 8), .int 0, .ref (y + 9), .ref (y + 10), .int 0, .ref (y + 11), .ref (y + 12), .ref (y + 13), .ref (y + 14), .ref (y + 15), .ref (y + 16), .int 0, .long (-1), .ref (y + 17), .ref (y + 18), .ref (y + 19), .ref (y + 20), .ref (y + 21), .ref (y + 22), .int 0, .ref (y + 23), .ref (y + 24), .int 0, .ref (y + 25), .int 0, .int 0, .int 0, .int (-1), .int 0, .int 0, .int 0, .long 0])) (hy_12 : Φ (y + 12) = some (ai_ G 4 (upd (upd (upd (upd (fun _ => 0) (0 : Int32).toNatClampNeg 0) (1 : Int32).toNatClampNeg 0) (2 : Int32).toNatClampNeg 0) (3 : Int32).toNatClampNeg 0))) (hco : Φ o = some (al_ G 1 go)) (hx1 : xs 1 = 2) (hT : ∀ (Φ1 : Hm) (sz1 : Nat), Z p9 l e9 room_1 s9 m9 a9 w9 t9 k9 Q9 G 9 2893 [(5, .int 0), (4, .ref d), (3, .ref o), (2, .ref y), (1, .ref x), (0, .ref b)] [] Φ1 sz1 178 20844) : Z p9 l e9 room_1 s9 m9 a9 w9 t9 k9 Q9 G 9 1877 [(5, .int 0), (4, .ref d), (3, .ref o), (2, .ref y), (1, .ref x), (0, .ref b)] [] Φ sz 177 20838 := by
  refine z_aload_n B dL_law_1877 rfl 4 rfl ?_
  refine z_aload_n B dL_law_1878 rfl 5 rfl ?_
  refine z_iload B dL_law_1879 0 rfl ?_
  refine z_iconst (v := 1) B dL_law_1881 rfl ?_
  refine z_iadd B dL_law_1882 ?_
  refine z_top (st1 := [.int 1, .ref b, .ref x]) (congrArg (fun w9 : Int32 => ([.int w9, .ref b, .ref x] : List Value)) (show (0 + 1 : Int32) = 1 by decide +kernel)) ?_
  refine z_sald B hX hbn (vin rfl) dL_law_1883 ?_
  refine z_top (st1 := [.int 2, .ref x]) (congrArg (fun w9 : Int32 => ([.int w9, .ref x] : List Value)) (show xs (1 : Int32).toNatClampNeg = 2 from hx1)) ?_
  refine z_aload_n B dL_law_1884 rfl 2 rfl ?_
  refine z_callSW (As := [.ref x, .int 2, .ref o]) (rest := []) B (w_templateAge_2 G l Φ sz x o go hx_0 hx_80 hx_132 hx_133 hx_145 hco hna (Nat.le_trans hxy (Nat.le_trans (Nat.le_add_right y 26) hyo))) (vx_cwSW 3 B.1.2.2.2.2 gL_law_L_templateAge rfl rfl rfl (by decide +kernel) ⟨Nat.le_of_ble_eq_true rfl, Nat.le_of_ble_eq_true rfl⟩) rfl rfl (Nat.le_of_ble_eq_true rfl) dL_law_1885 ⟨Nat.le_of_ble_eq_true rfl, Nat.le_of_ble_eq_true rfl⟩ (fun v1 Φ1 sz1 st1 hp1 hs1 => ?_)
  obtain ⟨rfl, fr1, g1, ho1, hg1⟩ := hp1
  replace hs1 : st1 = [.int 0] := hs1
  subst st1
  refine z_istore (lv' := [(6, .int 0), (5, .int 0), (4, .ref d), (3, .ref o), (2, .ref y), (1, .ref x), (0, .ref b)]) B dL_law_1888 (Nat.le_of_ble_eq_true rfl) rfl ?_
  refine z_aload_n B dL_law_1890 rfl 4 rfl ?_
  refine z_aload_n B dL_law_1891 rfl 6 rfl ?_
  refine z_iload B dL_law_1892 1 rfl ?_
  refine z_iconst (v := 1) B dL_law_1894 rfl ?_
  refine z_iadd B dL_law_1895 ?_
  refine z_top (st1 := [.int 1, .ref b, .ref y]) (congrArg (fun w9 : Int32 => ([.int w9, .ref b, .ref y] : List Value)) (show (0 + 1 : Int32) = 1 by decide +kernel)) ?_
  refine z_sald B hX hbn (vin rfl) dL_law_1896 ?_
  refine z_top (st1 := [.int 2, .ref y]) (congrArg (fun w9 : Int32 => ([.int w9, .ref y] : List Value)) (show xs (1 : Int32).toNatClampNeg = 2 from hx1)) ?_
  have h_1 : Φ1 y = some (o_ 14 [.int 0, .ref (y + 1), .ref (y + 2), .int 0, .int 1, .int 1, .int 0, .int 0, .ref (y + 3), .ref (y + 4), .int 0, .long 0, .ref (y + 5), .int 0, .int 0, .long 0, .long 0, .long 0, .long 0, .ref (y + 6), .ref (y + 7), .int 0, .ref (y + 8), .int 0, .ref (y + 9), .ref (y + 10), .int 0, .ref (y + 11), .ref (y + 12), .ref (y + 13), .ref (y + 14), .ref (y + 15), .ref (y + 16), .int 0, .long (-1), .ref (y + 17), .ref (y + 18), .ref (y + 19), .ref (y + 20), .ref (y + 21), .ref (y + 22), .int 0, .ref (y + 23), .ref (y + 24), .int 0, .ref (y + 25), .int 0, .int 0, .int 0, .int (-1), .int 0, .int 0, .int 0, .long 0]) := ((fr1 y hxy (Nat.ne_of_lt (Nat.lt_of_lt_of_le (lt_off (x := y) (i := 0) (j := 26) rfl) hyo))).trans hy_0)
  have h_2 : Φ1 (y + 12) = some (ai_ G 4 (upd (upd (upd (upd (fun _ => 0) (0 : Int32).toNatClampNeg 0) (1 : Int32).toNatClampNeg 0) (2 : Int32).toNatClampNeg 0) (3 : Int32).toNatClampNeg 0)) := ((fr1 (y + 12) (Nat.le_trans hxy (Nat.le_add_right y 12)) (Nat.ne_of_lt (Nat.lt_of_lt_of_le (lt_off (x := y) (i := 12) (j := 26) rfl) hyo))).trans hy_12)
  refine z_callV (As := [.int 2]) (rest := []) B (m_X12_templateAge_2 G l Φ1 sz1 y h_1 h_2 (Nat.le_trans hna (Nat.le_trans (Nat.le_add_right x 149) hxy))) (cwV 1 B.1.2.2.2.2 gL_law_X12_templateAge rfl rfl rfl (by decide +kernel) ⟨Nat.le_of_ble_eq_true rfl, Nat.le_of_ble_eq_true rfl⟩) h_1 rfl rfl rfl rfl (Nat.le_of_ble_eq_true rfl) dL_law_1897 ⟨Nat.le_of_ble_eq_true rfl, Nat.le_of_ble_eq_true rfl⟩ (fun v2 Φ2 sz2 st2 hp2 hs2 => ?_)
  obtain ⟨rfl, ⟨fs1, hy1, hk1⟩, fr2⟩ := hp2
  replace hs2 : st2 = [.int (-1)] := hs2
  subst st2
  refine z_istore (lv' := [(7, .int (-1)), (6, .int 0), (5, .int 0), (4, .ref d), (3, .ref o), (2, .ref y), (1, .ref x), (0, .ref b)]) B dL_law_1900 (Nat.le_of_ble_eq_true rfl) rfl ?_
  refine z_aload_n B dL_law_1902 rfl 5 rfl ?_
  refine z_callV (As := []) (rest := []) B (m_thrown G l Φ2 sz2 y fs1 0 hy1 hk1) (cwV 0 B.1.2.2.2.2 gL_law_X12_thrown rfl rfl rfl (by decide +kernel) ⟨Nat.le_of_ble_eq_true rfl, Nat.le_of_ble_eq_true rfl⟩) hy1 rfl rfl rfl rfl (Nat.le_of_ble_eq_true rfl) dL_law_1903 ⟨Nat.le_of_ble_eq_true rfl, Nat.le_of_ble_eq_true rfl⟩ (fun v3 Φ3 sz3 st3 hp3 hs3 => ?_)
  obtain ⟨rfl, he1⟩ := hp3
  replace hs3 : st3 = [.int 0] := hs3
  subst st3
  rw [he1]
  refine z_iload B dL_law_1906 1 rfl ?_
  refine z_icmp_eq (tgt := 1913) B dL_law_1908 rfl (fun c_1 => ?_) (fun h9 => absurd (by decide) h9)
  refine z_iload B dL_law_1913 1 rfl ?_
  refine z_if_ne (tgt := 1930) B dL_law_1915 rfl (fun h9 => absurd (by decide) h9) (fun c_2 => ?_)
  refine z_aload_n B dL_law_1918 rfl 4 rfl ?_
  refine z_iconst (v := 0) B dL_law_1919 rfl ?_
  have h_3 : Φ2 o = some (al_ G 1 g1) := ((fr2 o hyo).trans ho1)
  refine z_lald B h_3 (vin rfl) dL_law_1920 ?_
  refine z_top (st1 := [.long (-1)]) (congrArg (fun w9 : Int64 => ([.long w9] : List Value)) (show g1 (0 : Int32).toNatClampNeg = (-1) from hg1)) ?_
  refine z_iload B dL_law_1921 0 rfl ?_
  refine z_i2l (v := (-1)) B dL_law_1923 (by decide +kernel) ?_
  refine z_lcmp B dL_law_1924 ?_
  refine z_top (st1 := [.int 0]) (congrArg (fun w9 : Int32 => ([.int w9] : List Value)) (show (lg_cmp (-1) (-1) : Int32) = 0 by decide +kernel)) ?_
  refine z_if_eq (tgt := 1930) B dL_law_1925 rfl (fun c_3 => ?_) (fun h9 => absurd (by decide) h9)
  refine z_goto (tgt := 2893) B dL_law_1930 rfl ?_
  refine z_lv [2, 3, 4, 5, 6, 7] rfl ?_
  refine z_widen (k := 178) (n := 20844) (Nat.le_of_ble_eq_true rfl) (Nat.le_of_ble_eq_true rfl) ?_
  exact hT _ _

set_option maxHeartbeats 4000000 in
set_option maxRecDepth 100000 in
theorem lc_42_3 {p9 : Program} {e9 : Env} {s9 : State} {m9 : MethodId} {a9 : Array Value} {w9 : List Frame} {t9 : Method} {k9 : Code} {Q9 : State → Prop} {nm9 : String} (G : EnvG) (l : Launch) (hl9 : l.stackTraces = false) (B : Bd p9 s9 m9 a9 t9 k9 G code 9 RL wsL_law ret nm9) (Φ : Hm) (sz : Nat) (b : Nat) (xs : Nat → Int32) (hX : va_X b 7 xs s9 s9.heap) (hbn : b < G.2.2.2) (x y o d : Nat)  (go : Nat → Int64) (gd : Nat → UInt64) (hna : G.2.2.2 ≤ x) (hxy : x + 149 ≤ y) (hyo : y + 26 ≤ o) (hyd : y + 26 ≤ d) (hod : o ≠ d) (hx_0 : Φ x = some (o_ 13 [.ref (x + 1), .ref (x + 3), .ref (x + 24), .ref (x + 46), .ref (x + 74), .ref (x + 80), .ref (x + 132), .ref (x + 121)])) (hx_80 : Φ (x + 80) = some (o_ 4 [.ref (x + 3), .ref (x + 74), .ref (x + 81), .ref (x + 95), .int 0, .int 1, .int 1, .int 0, .int 0, .int 0, .long 0, .long 0, .long 0])) (hx_132 : Φ (x + 132) = some (o_ 2 [.ref (x + 3), .ref (x + 121), .ref (x + 133), .ref (x + 134), .ref (x + 135), .ref (x + 137), .ref (x + 138), .ref (x + 139), .ref (x + 140), .int 0, .int 0, .int 0])) (hx_133 : Φ (x + 133) = some (aq_ G 4 4 (va_up (va_up (va_up (va_up (fun _ => none) (0 : Int32).toNatClampNeg (some (x + 141))) (1 : Int32).toNatClampNeg (some (x + 143))) (2 : Int32).toNatClampNeg (some (x + 145))) (3 : Int32).toNatClampNeg (some (x + 147))))) (hx_147 : Φ (x + 147) = some (o_ 12 [.ref (x + 148), .int 0, .int 0, .int 0])) (hy_0 : Φ y = some (o_ 14 [.int 0, .ref (y + 1), .ref (y + 2), .int 0, .int 1, .int 1, .int 0, .int 0, .ref (y + 3), .ref (y + 4), .int 0, .long 0, .ref (y + 5), .int 0, .int 0, .long 0, .long 0, .long 0, .long 0, .ref (y + 6), .ref (y + 7), .int 0, .ref (y + 8), .int 0, .ref (y + 9), .ref (y + 10), .int 0, .ref (y + 11), .ref (y + 12), .ref (y + 13), .ref (y + 14), .ref (y + 15), .ref (y + 16), .int 0, .long (-1), .ref (y + 17), .ref (y + 18), .ref (y + 19), .ref (y + 20), .ref (y + 21), .ref (y + 22), .int 0, .ref (y + 23), .ref (y + 24), .int 0, .ref (y + 25), .int 0, .int 0, .int 0, .int (-1), .int 0, .int 0, .int 0, .long 0])) (hy_12 : Φ (y + 12) = some (ai_ G 4 (upd (upd (upd (upd (fun _ => 0) (0 : Int32).toNatClampNeg 0) (1 : Int32).toNatClampNeg 0) (2 : Int32).toNatClampNeg 0) (3 : Int32).toNatClampNeg 0))) (hco : Φ o = some (al_ G 1 go)) (hx1 : xs 1 = 3) (hT : ∀ (Φ1 : Hm) (sz1 : Nat), Z p9 l e9 room_1 s9 m9 a9 w9 t9 k9 Q9 G 9 2893 [(5, .int 0), (4, .ref d), (3, .ref o), (2, .ref y), (1, .ref x), (0, .ref b)] [] Φ1 sz1 178 20844) : Z p9 l e9 room_1 s9 m9 a9 w9 t9 k9 Q9 G 9 1877 [(5, .int 0), (4, .ref d), (3, .ref o), (2, .ref y), (1, .ref x), (0, .ref b)] [] Φ sz 177 20838 := by
  refine z_aload_n B dL_law_1877 rfl 4 rfl ?_
  refine z_aload_n B dL_law_1878 rfl 5 rfl ?_
  refine z_iload B dL_law_1879 0 rfl ?_
  refine z_iconst (v := 1) B dL_law_1881 rfl ?_
  refine z_iadd B dL_law_1882 ?_
  refine z_top (st1 := [.int 1, .ref b, .ref x]) (congrArg (fun w9 : Int32 => ([.int w9, .ref b, .ref x] : List Value)) (show (0 + 1 : Int32) = 1 by decide +kernel)) ?_
  refine z_sald B hX hbn (vin rfl) dL_law_1883 ?_
  refine z_top (st1 := [.int 3, .ref x]) (congrArg (fun w9 : Int32 => ([.int w9, .ref x] : List Value)) (show xs (1 : Int32).toNatClampNeg = 3 from hx1)) ?_
  refine z_aload_n B dL_law_1884 rfl 2 rfl ?_
  refine z_callSW (As := [.ref x, .int 3, .ref o]) (rest := []) B (w_templateAge_3 G l Φ sz x o go hx_0 hx_80 hx_132 hx_133 hx_147 hco hna (Nat.le_trans hxy (Nat.le_trans (Nat.le_add_right y 26) hyo))) (vx_cwSW 3 B.1.2.2.2.2 gL_law_L_templateAge rfl rfl rfl (by decide +kernel) ⟨Nat.le_of_ble_eq_true rfl, Nat.le_of_ble_eq_true rfl⟩) rfl rfl (Nat.le_of_ble_eq_true rfl) dL_law_1885 ⟨Nat.le_of_ble_eq_true rfl, Nat.le_of_ble_eq_true rfl⟩ (fun v1 Φ1 sz1 st1 hp1 hs1 => ?_)
  obtain ⟨rfl, fr1, g1, ho1, hg1⟩ := hp1
  replace hs1 : st1 = [.int 0] := hs1
  subst st1
  refine z_istore (lv' := [(6, .int 0), (5, .int 0), (4, .ref d), (3, .ref o), (2, .ref y), (1, .ref x), (0, .ref b)]) B dL_law_1888 (Nat.le_of_ble_eq_true rfl) rfl ?_
  refine z_aload_n B dL_law_1890 rfl 4 rfl ?_
  refine z_aload_n B dL_law_1891 rfl 6 rfl ?_
  refine z_iload B dL_law_1892 1 rfl ?_
  refine z_iconst (v := 1) B dL_law_1894 rfl ?_
  refine z_iadd B dL_law_1895 ?_
  refine z_top (st1 := [.int 1, .ref b, .ref y]) (congrArg (fun w9 : Int32 => ([.int w9, .ref b, .ref y] : List Value)) (show (0 + 1 : Int32) = 1 by decide +kernel)) ?_
  refine z_sald B hX hbn (vin rfl) dL_law_1896 ?_
  refine z_top (st1 := [.int 3, .ref y]) (congrArg (fun w9 : Int32 => ([.int w9, .ref y] : List Value)) (show xs (1 : Int32).toNatClampNeg = 3 from hx1)) ?_
  have h_1 : Φ1 y = some (o_ 14 [.int 0, .ref (y + 1), .ref (y + 2), .int 0, .int 1, .int 1, .int 0, .int 0, .ref (y + 3), .ref (y + 4), .int 0, .long 0, .ref (y + 5), .int 0, .int 0, .long 0, .long 0, .long 0, .long 0, .ref (y + 6), .ref (y + 7), .int 0, .ref (y + 8), .int 0, .ref (y + 9), .ref (y + 10), .int 0, .ref (y + 11), .ref (y + 12), .ref (y + 13), .ref (y + 14), .ref (y + 15), .ref (y + 16), .int 0, .long (-1), .ref (y + 17), .ref (y + 18), .ref (y + 19), .ref (y + 20), .ref (y + 21), .ref (y + 22), .int 0, .ref (y + 23), .ref (y + 24), .int 0, .ref (y + 25), .int 0, .int 0, .int 0, .int (-1), .int 0, .int 0, .int 0, .long 0]) := ((fr1 y hxy (Nat.ne_of_lt (Nat.lt_of_lt_of_le (lt_off (x := y) (i := 0) (j := 26) rfl) hyo))).trans hy_0)
  have h_2 : Φ1 (y + 12) = some (ai_ G 4 (upd (upd (upd (upd (fun _ => 0) (0 : Int32).toNatClampNeg 0) (1 : Int32).toNatClampNeg 0) (2 : Int32).toNatClampNeg 0) (3 : Int32).toNatClampNeg 0)) := ((fr1 (y + 12) (Nat.le_trans hxy (Nat.le_add_right y 12)) (Nat.ne_of_lt (Nat.lt_of_lt_of_le (lt_off (x := y) (i := 12) (j := 26) rfl) hyo))).trans hy_12)
  refine z_callV (As := [.int 3]) (rest := []) B (m_X12_templateAge_3 G l Φ1 sz1 y h_1 h_2 (Nat.le_trans hna (Nat.le_trans (Nat.le_add_right x 149) hxy))) (cwV 1 B.1.2.2.2.2 gL_law_X12_templateAge rfl rfl rfl (by decide +kernel) ⟨Nat.le_of_ble_eq_true rfl, Nat.le_of_ble_eq_true rfl⟩) h_1 rfl rfl rfl rfl (Nat.le_of_ble_eq_true rfl) dL_law_1897 ⟨Nat.le_of_ble_eq_true rfl, Nat.le_of_ble_eq_true rfl⟩ (fun v2 Φ2 sz2 st2 hp2 hs2 => ?_)
  obtain ⟨rfl, ⟨fs1, hy1, hk1⟩, fr2⟩ := hp2
  replace hs2 : st2 = [.int (-1)] := hs2
  subst st2
  refine z_istore (lv' := [(7, .int (-1)), (6, .int 0), (5, .int 0), (4, .ref d), (3, .ref o), (2, .ref y), (1, .ref x), (0, .ref b)]) B dL_law_1900 (Nat.le_of_ble_eq_true rfl) rfl ?_
  refine z_aload_n B dL_law_1902 rfl 5 rfl ?_
  refine z_callV (As := []) (rest := []) B (m_thrown G l Φ2 sz2 y fs1 0 hy1 hk1) (cwV 0 B.1.2.2.2.2 gL_law_X12_thrown rfl rfl rfl (by decide +kernel) ⟨Nat.le_of_ble_eq_true rfl, Nat.le_of_ble_eq_true rfl⟩) hy1 rfl rfl rfl rfl (Nat.le_of_ble_eq_true rfl) dL_law_1903 ⟨Nat.le_of_ble_eq_true rfl, Nat.le_of_ble_eq_true rfl⟩ (fun v3 Φ3 sz3 st3 hp3 hs3 => ?_)
  obtain ⟨rfl, he1⟩ := hp3
  replace hs3 : st3 = [.int 0] := hs3
  subst st3
  rw [he1]
  refine z_iload B dL_law_1906 1 rfl ?_
  refine z_icmp_eq (tgt := 1913) B dL_law_1908 rfl (fun c_1 => ?_) (fun h9 => absurd (by decide) h9)
  refine z_iload B dL_law_1913 1 rfl ?_
  refine z_if_ne (tgt := 1930) B dL_law_1915 rfl (fun h9 => absurd (by decide) h9) (fun c_2 => ?_)
  refine z_aload_n B dL_law_1918 rfl 4 rfl ?_
  refine z_iconst (v := 0) B dL_law_1919 rfl ?_
  have h_3 : Φ2 o = some (al_ G 1 g1) := ((fr2 o hyo).trans ho1)
  refine z_lald B h_3 (vin rfl) dL_law_1920 ?_
  refine z_top (st1 := [.long (-1)]) (congrArg (fun w9 : Int64 => ([.long w9] : List Value)) (show g1 (0 : Int32).toNatClampNeg = (-1) from hg1)) ?_
  refine z_iload B dL_law_1921 0 rfl ?_
  refine z_i2l (v := (-1)) B dL_law_1923 (by decide +kernel) ?_
  refine z_lcmp B dL_law_1924 ?_
  refine z_top (st1 := [.int 0]) (congrArg (fun w9 : Int32 => ([.int w9] : List Value)) (show (lg_cmp (-1) (-1) : Int32) = 0 by decide +kernel)) ?_
  refine z_if_eq (tgt := 1930) B dL_law_1925 rfl (fun c_3 => ?_) (fun h9 => absurd (by decide) h9)
  refine z_goto (tgt := 2893) B dL_law_1930 rfl ?_
  refine z_lv [2, 3, 4, 5, 6, 7] rfl ?_
  refine z_widen (k := 178) (n := 20844) (Nat.le_of_ble_eq_true rfl) (Nat.le_of_ble_eq_true rfl) ?_
  exact hT _ _

set_option maxHeartbeats 4000000 in
set_option maxRecDepth 100000 in
theorem lc_42_x {p9 : Program} {e9 : Env} {s9 : State} {m9 : MethodId} {a9 : Array Value} {w9 : List Frame} {t9 : Method} {k9 : Code} {Q9 : State → Prop} {nm9 : String} (G : EnvG) (l : Launch) (hl9 : l.stackTraces = false) (B : Bd p9 s9 m9 a9 t9 k9 G code 9 RL wsL_law ret nm9) (Φ : Hm) (sz : Nat) (b : Nat) (xs : Nat → Int32) (hX : va_X b 7 xs s9 s9.heap) (hbn : b < G.2.2.2) (x y o d : Nat) (a1 : Int32) (go : Nat → Int64) (gd : Nat → UInt64) (hna : G.2.2.2 ≤ x) (hxy : x + 149 ≤ y) (hyo : y + 26 ≤ o) (hyd : y + 26 ≤ d) (hod : o ≠ d) (hx_0 : Φ x = some (o_ 13 [.ref (x + 1), .ref (x + 3), .ref (x + 24), .ref (x + 46), .ref (x + 74), .ref (x + 80), .ref (x + 132), .ref (x + 121)])) (hy_0 : Φ y = some (o_ 14 [.int 0, .ref (y + 1), .ref (y + 2), .int 0, .int 1, .int 1, .int 0, .int 0, .ref (y + 3), .ref (y + 4), .int 0, .long 0, .ref (y + 5), .int 0, .int 0, .long 0, .long 0, .long 0, .long 0, .ref (y + 6), .ref (y + 7), .int 0, .ref (y + 8), .int 0, .ref (y + 9), .ref (y + 10), .int 0, .ref (y + 11), .ref (y + 12), .ref (y + 13), .ref (y + 14), .ref (y + 15), .ref (y + 16), .int 0, .long (-1), .ref (y + 17), .ref (y + 18), .ref (y + 19), .ref (y + 20), .ref (y + 21), .ref (y + 22), .int 0, .ref (y + 23), .ref (y + 24), .int 0, .ref (y + 25), .int 0, .int 0, .int 0, .int (-1), .int 0, .int 0, .int 0, .long 0])) (hx1 : xs 1 = a1) (Fha : ¬ (¬ a1 < 0 ∧ a1 < 4)) (Mhp : ¬ inP a1.toInt64 0 3) (hT : ∀ (Φ1 : Hm) (sz1 : Nat), Z p9 l e9 room_1 s9 m9 a9 w9 t9 k9 Q9 G 9 2893 [(5, .int 0), (4, .ref d), (3, .ref o), (2, .ref y), (1, .ref x), (0, .ref b)] [] Φ1 sz1 178 20844) : Z p9 l e9 room_1 s9 m9 a9 w9 t9 k9 Q9 G 9 1877 [(5, .int 0), (4, .ref d), (3, .ref o), (2, .ref y), (1, .ref x), (0, .ref b)] [] Φ sz 177 20838 := by
  refine z_aload_n B dL_law_1877 rfl 4 rfl ?_
  refine z_aload_n B dL_law_1878 rfl 5 rfl ?_
  refine z_iload B dL_law_1879 0 rfl ?_
  refine z_iconst (v := 1) B dL_law_1881 rfl ?_
  refine z_iadd B dL_law_1882 ?_
  refine z_top (st1 := [.int 1, .ref b, .ref x]) (congrArg (fun w9 : Int32 => ([.int w9, .ref b, .ref x] : List Value)) (show (0 + 1 : Int32) = 1 by decide +kernel)) ?_
  refine z_sald B hX hbn (vin rfl) dL_law_1883 ?_
  refine z_top (st1 := [.int a1, .ref x]) (congrArg (fun w9 : Int32 => ([.int w9, .ref x] : List Value)) (show xs (1 : Int32).toNatClampNeg = a1 from hx1)) ?_
  refine z_aload_n B dL_law_1884 rfl 2 rfl ?_
  refine z_callSW (As := [.ref x, .int a1, .ref o]) (rest := []) B (w_templateAge_x G l hl9 Φ sz x o a1 hx_0 Fha) (vx_cwSW 3 B.1.2.2.2.2 gL_law_L_templateAge rfl rfl rfl (by decide +kernel) ⟨Nat.le_of_ble_eq_true rfl, Nat.le_of_ble_eq_true rfl⟩) rfl rfl (Nat.le_of_ble_eq_true rfl) dL_law_1885 ⟨Nat.le_of_ble_eq_true rfl, Nat.le_of_ble_eq_true rfl⟩ (fun v1 Φ1 sz1 st1 hp1 hs1 => ?_)
  obtain ⟨rfl, he1⟩ := hp1
  replace hs1 : st1 = [.int 1] := hs1
  subst st1
  rw [he1]
  refine z_istore (lv' := [(6, .int 1), (5, .int 0), (4, .ref d), (3, .ref o), (2, .ref y), (1, .ref x), (0, .ref b)]) B dL_law_1888 (Nat.le_of_ble_eq_true rfl) rfl ?_
  refine z_aload_n B dL_law_1890 rfl 4 rfl ?_
  refine z_aload_n B dL_law_1891 rfl 6 rfl ?_
  refine z_iload B dL_law_1892 1 rfl ?_
  refine z_iconst (v := 1) B dL_law_1894 rfl ?_
  refine z_iadd B dL_law_1895 ?_
  refine z_top (st1 := [.int 1, .ref b, .ref y]) (congrArg (fun w9 : Int32 => ([.int w9, .ref b, .ref y] : List Value)) (show (0 + 1 : Int32) = 1 by decide +kernel)) ?_
  refine z_sald B hX hbn (vin rfl) dL_law_1896 ?_
  refine z_top (st1 := [.int a1, .ref y]) (congrArg (fun w9 : Int32 => ([.int w9, .ref y] : List Value)) (show xs (1 : Int32).toNatClampNeg = a1 from hx1)) ?_
  refine z_callV (As := [.int a1]) (rest := []) B (m_X12_templateAge_x G l Φ sz1 y a1 hy_0 (Nat.le_trans hna (Nat.le_trans (Nat.le_add_right x 149) hxy)) Mhp) (cwV 1 B.1.2.2.2.2 gL_law_X12_templateAge rfl rfl rfl (by decide +kernel) ⟨Nat.le_of_ble_eq_true rfl, Nat.le_of_ble_eq_true rfl⟩) hy_0 rfl rfl rfl rfl (Nat.le_of_ble_eq_true rfl) dL_law_1897 ⟨Nat.le_of_ble_eq_true rfl, Nat.le_of_ble_eq_true rfl⟩ (fun v2 Φ2 sz2 st2 hp2 hs2 => ?_)
  obtain ⟨rfl, ⟨fs1, hy1, hk1⟩, fr1⟩ := hp2
  replace hs2 : st2 = [.int 0] := hs2
  subst st2
  refine z_istore (lv' := [(7, .int 0), (6, .int 1), (5, .int 0), (4, .ref d), (3, .ref o), (2, .ref y), (1, .ref x), (0, .ref b)]) B dL_law_1900 (Nat.le_of_ble_eq_true rfl) rfl ?_
  refine z_aload_n B dL_law_1902 rfl 5 rfl ?_
  refine z_callV (As := []) (rest := []) B (m_thrown G l Φ2 sz2 y fs1 1 hy1 hk1) (cwV 0 B.1.2.2.2.2 gL_law_X12_thrown rfl rfl rfl (by decide +kernel) ⟨Nat.le_of_ble_eq_true rfl, Nat.le_of_ble_eq_true rfl⟩) hy1 rfl rfl rfl rfl (Nat.le_of_ble_eq_true rfl) dL_law_1903 ⟨Nat.le_of_ble_eq_true rfl, Nat.le_of_ble_eq_true rfl⟩ (fun v3 Φ3 sz3 st3 hp3 hs3 => ?_)
  obtain ⟨rfl, he2⟩ := hp3
  replace hs3 : st3 = [.int 1] := hs3
  subst st3
  rw [he2]
  refine z_iload B dL_law_1906 1 rfl ?_
  refine z_icmp_eq (tgt := 1913) B dL_law_1908 rfl (fun c_1 => ?_) (fun h9 => absurd (by decide) h9)
  refine z_iload B dL_law_1913 1 rfl ?_
  refine z_if_ne (tgt := 1930) B dL_law_1915 rfl (fun c_2 => ?_) (fun h9 => absurd h9 (by decide))
  refine z_goto (tgt := 2893) B dL_law_1930 rfl ?_
  refine z_lv [2, 3, 4, 5, 6, 7] rfl ?_
  exact hT _ _

set_option maxHeartbeats 4000000 in
set_option maxRecDepth 100000 in
theorem lc_44 {p9 : Program} {e9 : Env} {s9 : State} {m9 : MethodId} {a9 : Array Value} {w9 : List Frame} {t9 : Method} {k9 : Code} {Q9 : State → Prop} {nm9 : String} (G : EnvG) (l : Launch) (hl9 : l.stackTraces = false) (B : Bd p9 s9 m9 a9 t9 k9 G code 9 RL wsL_law ret nm9) (Φ : Hm) (sz : Nat) (b : Nat) (xs : Nat → Int32) (hX : va_X b 7 xs s9 s9.heap) (hbn : b < G.2.2.2) (x y o d : Nat) (a1 : Int32) (go : Nat → Int64) (gd : Nat → UInt64) (hna : G.2.2.2 ≤ x) (hxy : x + 149 ≤ y) (hyo : y + 26 ≤ o) (hyd : y + 26 ≤ d) (hod : o ≠ d) (hx_0 : Φ x = some (o_ 13 [.ref (x + 1), .ref (x + 3), .ref (x + 24), .ref (x + 46), .ref (x + 74), .ref (x + 80), .ref (x + 132), .ref (x + 121)])) (hx_132 : Φ (x + 132) = some (o_ 2 [.ref (x + 3), .ref (x + 121), .ref (x + 133), .ref (x + 134), .ref (x + 135), .ref (x + 137), .ref (x + 138), .ref (x + 139), .ref (x + 140), .int 0, .int 0, .int 0])) (hx_139 : Φ (x + 139) = some (al_ G 9 (fun _ => 0))) (hy_0 : Φ y = some (o_ 14 [.int 0, .ref (y + 1), .ref (y + 2), .int 0, .int 1, .int 1, .int 0, .int 0, .ref (y + 3), .ref (y + 4), .int 0, .long 0, .ref (y + 5), .int 0, .int 0, .long 0, .long 0, .long 0, .long 0, .ref (y + 6), .ref (y + 7), .int 0, .ref (y + 8), .int 0, .ref (y + 9), .ref (y + 10), .int 0, .ref (y + 11), .ref (y + 12), .ref (y + 13), .ref (y + 14), .ref (y + 15), .ref (y + 16), .int 0, .long (-1), .ref (y + 17), .ref (y + 18), .ref (y + 19), .ref (y + 20), .ref (y + 21), .ref (y + 22), .int 0, .ref (y + 23), .ref (y + 24), .int 0, .ref (y + 25), .int 0, .int 0, .int 0, .int (-1), .int 0, .int 0, .int 0, .long 0])) (hy_11 : Φ (y + 11) = some (al_ G 9 (vp_updL (vp_updL (vp_updL (vp_updL (vp_updL (vp_updL (vp_updL (vp_updL (vp_updL (fun _ => 0) (0 : Int32).toNatClampNeg 0) (1 : Int32).toNatClampNeg 0) (2 : Int32).toNatClampNeg 0) (3 : Int32).toNatClampNeg 0) (4 : Int32).toNatClampNeg 0) (5 : Int32).toNatClampNeg 0) (6 : Int32).toNatClampNeg 0) (7 : Int32).toNatClampNeg 0) (8 : Int32).toNatClampNeg 0))) (hco : Φ o = some (al_ G 1 go)) (hx1 : xs 1 = a1) (Fh1 : ¬ a1 < 0) (Fh2 : a1 < 9) (Mhp : inP a1.toInt64 0 8) (Mhv : vp_in a1 9) (hT : ∀ (Φ1 : Hm) (sz1 : Nat), Z p9 l e9 room_1 s9 m9 a9 w9 t9 k9 Q9 G 9 2893 [(5, .int 0), (4, .ref d), (3, .ref o), (2, .ref y), (1, .ref x), (0, .ref b)] [] Φ1 sz1 178 20844) : Z p9 l e9 room_1 s9 m9 a9 w9 t9 k9 Q9 G 9 1947 [(5, .int 0), (4, .ref d), (3, .ref o), (2, .ref y), (1, .ref x), (0, .ref b)] [] Φ sz 177 20838 := by
  refine z_aload_n B dL_law_1947 rfl 4 rfl ?_
  refine z_aload_n B dL_law_1948 rfl 5 rfl ?_
  refine z_iload B dL_law_1949 0 rfl ?_
  refine z_iconst (v := 1) B dL_law_1951 rfl ?_
  refine z_iadd B dL_law_1952 ?_
  refine z_top (st1 := [.int 1, .ref b, .ref x]) (congrArg (fun w9 : Int32 => ([.int w9, .ref b, .ref x] : List Value)) (show (0 + 1 : Int32) = 1 by decide +kernel)) ?_
  refine z_sald B hX hbn (vin rfl) dL_law_1953 ?_
  refine z_top (st1 := [.int a1, .ref x]) (congrArg (fun w9 : Int32 => ([.int w9, .ref x] : List Value)) (show xs (1 : Int32).toNatClampNeg = a1 from hx1)) ?_
  refine z_aload_n B dL_law_1954 rfl 2 rfl ?_
  refine z_callSW (As := [.ref x, .int a1, .ref o]) (rest := []) B (w_counter G l Φ sz x o a1 go hx_0 hx_132 hx_139 hco hna (Nat.le_trans hxy (Nat.le_trans (Nat.le_add_right y 26) hyo)) Fh1 Fh2) (vx_cwSW 3 B.1.2.2.2.2 gL_law_L_counter rfl rfl rfl (by decide +kernel) ⟨Nat.le_of_ble_eq_true rfl, Nat.le_of_ble_eq_true rfl⟩) rfl rfl (Nat.le_of_ble_eq_true rfl) dL_law_1955 ⟨Nat.le_of_ble_eq_true rfl, Nat.le_of_ble_eq_true rfl⟩ (fun v1 Φ1 sz1 st1 hp1 hs1 => ?_)
  obtain ⟨rfl, fr1, g1, ho1, hg1⟩ := hp1
  replace hs1 : st1 = [.int 0] := hs1
  subst st1
  refine z_istore (lv' := [(6, .int 0), (5, .int 0), (4, .ref d), (3, .ref o), (2, .ref y), (1, .ref x), (0, .ref b)]) B dL_law_1958 (Nat.le_of_ble_eq_true rfl) rfl ?_
  refine z_aload_n B dL_law_1960 rfl 4 rfl ?_
  refine z_aload_n B dL_law_1961 rfl 6 rfl ?_
  refine z_iload B dL_law_1962 1 rfl ?_
  refine z_iconst (v := 1) B dL_law_1964 rfl ?_
  refine z_iadd B dL_law_1965 ?_
  refine z_top (st1 := [.int 1, .ref b, .ref y]) (congrArg (fun w9 : Int32 => ([.int w9, .ref b, .ref y] : List Value)) (show (0 + 1 : Int32) = 1 by decide +kernel)) ?_
  refine z_sald B hX hbn (vin rfl) dL_law_1966 ?_
  refine z_top (st1 := [.int a1, .ref y]) (congrArg (fun w9 : Int32 => ([.int w9, .ref y] : List Value)) (show xs (1 : Int32).toNatClampNeg = a1 from hx1)) ?_
  have h_1 : Φ1 y = some (o_ 14 [.int 0, .ref (y + 1), .ref (y + 2), .int 0, .int 1, .int 1, .int 0, .int 0, .ref (y + 3), .ref (y + 4), .int 0, .long 0, .ref (y + 5), .int 0, .int 0, .long 0, .long 0, .long 0, .long 0, .ref (y + 6), .ref (y + 7), .int 0, .ref (y + 8), .int 0, .ref (y + 9), .ref (y + 10), .int 0, .ref (y + 11), .ref (y + 12), .ref (y + 13), .ref (y + 14), .ref (y + 15), .ref (y + 16), .int 0, .long (-1), .ref (y + 17), .ref (y + 18), .ref (y + 19), .ref (y + 20), .ref (y + 21), .ref (y + 22), .int 0, .ref (y + 23), .ref (y + 24), .int 0, .ref (y + 25), .int 0, .int 0, .int 0, .int (-1), .int 0, .int 0, .int 0, .long 0]) := ((fr1 y hxy (Nat.ne_of_lt (Nat.lt_of_lt_of_le (lt_off (x := y) (i := 0) (j := 26) rfl) hyo))).trans hy_0)
  have h_2 : Φ1 (y + 11) = some (al_ G 9 (vp_updL (vp_updL (vp_updL (vp_updL (vp_updL (vp_updL (vp_updL (vp_updL (vp_updL (fun _ => 0) (0 : Int32).toNatClampNeg 0) (1 : Int32).toNatClampNeg 0) (2 : Int32).toNatClampNeg 0) (3 : Int32).toNatClampNeg 0) (4 : Int32).toNatClampNeg 0) (5 : Int32).toNatClampNeg 0) (6 : Int32).toNatClampNeg 0) (7 : Int32).toNatClampNeg 0) (8 : Int32).toNatClampNeg 0)) := ((fr1 (y + 11) (Nat.le_trans hxy (Nat.le_add_right y 11)) (Nat.ne_of_lt (Nat.lt_of_lt_of_le (lt_off (x := y) (i := 11) (j := 26) rfl) hyo))).trans hy_11)
  refine z_callV (As := [.int a1]) (rest := []) B (m_X12_counter G l Φ1 sz1 y a1 h_1 h_2 (Nat.le_trans hna (Nat.le_trans (Nat.le_add_right x 149) hxy)) Mhp Mhv) (cwV 1 B.1.2.2.2.2 gL_law_X12_counter rfl rfl rfl (by decide +kernel) ⟨Nat.le_of_ble_eq_true rfl, Nat.le_of_ble_eq_true rfl⟩) h_1 rfl rfl rfl rfl (Nat.le_of_ble_eq_true rfl) dL_law_1967 ⟨Nat.le_of_ble_eq_true rfl, Nat.le_of_ble_eq_true rfl⟩ (fun v2 Φ2 sz2 st2 hp2 hs2 => ?_)
  obtain ⟨rfl, ⟨fs1, hy1, hk1⟩, fr2⟩ := hp2
  replace hs2 : st2 = [.long 0] := hs2
  subst st2
  refine z_lstore (lv' := [(7, .long 0), (6, .int 0), (5, .int 0), (4, .ref d), (3, .ref o), (2, .ref y), (1, .ref x), (0, .ref b)]) B dL_law_1970 (Nat.le_of_ble_eq_true rfl) rfl ?_
  refine z_aload_n B dL_law_1972 rfl 5 rfl ?_
  refine z_callV (As := []) (rest := []) B (m_thrown G l Φ2 sz2 y fs1 0 hy1 hk1) (cwV 0 B.1.2.2.2.2 gL_law_X12_thrown rfl rfl rfl (by decide +kernel) ⟨Nat.le_of_ble_eq_true rfl, Nat.le_of_ble_eq_true rfl⟩) hy1 rfl rfl rfl rfl (Nat.le_of_ble_eq_true rfl) dL_law_1973 ⟨Nat.le_of_ble_eq_true rfl, Nat.le_of_ble_eq_true rfl⟩ (fun v3 Φ3 sz3 st3 hp3 hs3 => ?_)
  obtain ⟨rfl, he1⟩ := hp3
  replace hs3 : st3 = [.int 0] := hs3
  subst st3
  rw [he1]
  refine z_iload B dL_law_1976 1 rfl ?_
  refine z_icmp_eq (tgt := 1983) B dL_law_1978 rfl (fun c_1 => ?_) (fun h9 => absurd (by decide) h9)
  refine z_iload B dL_law_1983 1 rfl ?_
  refine z_if_ne (tgt := 1999) B dL_law_1985 rfl (fun h9 => absurd (by decide) h9) (fun c_2 => ?_)
  refine z_aload_n B dL_law_1988 rfl 4 rfl ?_
  refine z_iconst (v := 0) B dL_law_1989 rfl ?_
  have h_3 : Φ2 o = some (al_ G 1 g1) := ((fr2 o hyo).trans ho1)
  refine z_lald B h_3 (vin rfl) dL_law_1990 ?_
  refine z_top (st1 := [.long 0]) (congrArg (fun w9 : Int64 => ([.long w9] : List Value)) (show g1 (0 : Int32).toNatClampNeg = 0 from hg1)) ?_
  refine z_lload B dL_law_1991 0 rfl ?_
  refine z_lcmp B dL_law_1993 ?_
  refine z_top (st1 := [.int 0]) (congrArg (fun w9 : Int32 => ([.int w9] : List Value)) (show (lg_cmp 0 0 : Int32) = 0 by decide +kernel)) ?_
  refine z_if_eq (tgt := 1999) B dL_law_1994 rfl (fun c_3 => ?_) (fun h9 => absurd (by decide) h9)
  refine z_goto (tgt := 2893) B dL_law_1999 rfl ?_
  refine z_lv [2, 3, 4, 5, 6, 7] rfl ?_
  refine z_widen (k := 178) (n := 20844) (Nat.le_of_ble_eq_true rfl) (Nat.le_of_ble_eq_true rfl) ?_
  exact hT _ _

set_option maxHeartbeats 4000000 in
set_option maxRecDepth 100000 in
theorem lc_44_x {p9 : Program} {e9 : Env} {s9 : State} {m9 : MethodId} {a9 : Array Value} {w9 : List Frame} {t9 : Method} {k9 : Code} {Q9 : State → Prop} {nm9 : String} (G : EnvG) (l : Launch) (hl9 : l.stackTraces = false) (B : Bd p9 s9 m9 a9 t9 k9 G code 9 RL wsL_law ret nm9) (Φ : Hm) (sz : Nat) (b : Nat) (xs : Nat → Int32) (hX : va_X b 7 xs s9 s9.heap) (hbn : b < G.2.2.2) (x y o d : Nat) (a1 : Int32) (go : Nat → Int64) (gd : Nat → UInt64) (hna : G.2.2.2 ≤ x) (hxy : x + 149 ≤ y) (hyo : y + 26 ≤ o) (hyd : y + 26 ≤ d) (hod : o ≠ d) (hx_0 : Φ x = some (o_ 13 [.ref (x + 1), .ref (x + 3), .ref (x + 24), .ref (x + 46), .ref (x + 74), .ref (x + 80), .ref (x + 132), .ref (x + 121)])) (hy_0 : Φ y = some (o_ 14 [.int 0, .ref (y + 1), .ref (y + 2), .int 0, .int 1, .int 1, .int 0, .int 0, .ref (y + 3), .ref (y + 4), .int 0, .long 0, .ref (y + 5), .int 0, .int 0, .long 0, .long 0, .long 0, .long 0, .ref (y + 6), .ref (y + 7), .int 0, .ref (y + 8), .int 0, .ref (y + 9), .ref (y + 10), .int 0, .ref (y + 11), .ref (y + 12), .ref (y + 13), .ref (y + 14), .ref (y + 15), .ref (y + 16), .int 0, .long (-1), .ref (y + 17), .ref (y + 18), .ref (y + 19), .ref (y + 20), .ref (y + 21), .ref (y + 22), .int 0, .ref (y + 23), .ref (y + 24), .int 0, .ref (y + 25), .int 0, .int 0, .int 0, .int (-1), .int 0, .int 0, .int 0, .long 0])) (hx1 : xs 1 = a1) (Fha : ¬ (¬ a1 < 0 ∧ a1 < 9)) (Mhp : ¬ inP a1.toInt64 0 8) (hT : ∀ (Φ1 : Hm) (sz1 : Nat), Z p9 l e9 room_1 s9 m9 a9 w9 t9 k9 Q9 G 9 2893 [(5, .int 0), (4, .ref d), (3, .ref o), (2, .ref y), (1, .ref x), (0, .ref b)] [] Φ1 sz1 178 20844) : Z p9 l e9 room_1 s9 m9 a9 w9 t9 k9 Q9 G 9 1947 [(5, .int 0), (4, .ref d), (3, .ref o), (2, .ref y), (1, .ref x), (0, .ref b)] [] Φ sz 177 20838 := by
  refine z_aload_n B dL_law_1947 rfl 4 rfl ?_
  refine z_aload_n B dL_law_1948 rfl 5 rfl ?_
  refine z_iload B dL_law_1949 0 rfl ?_
  refine z_iconst (v := 1) B dL_law_1951 rfl ?_
  refine z_iadd B dL_law_1952 ?_
  refine z_top (st1 := [.int 1, .ref b, .ref x]) (congrArg (fun w9 : Int32 => ([.int w9, .ref b, .ref x] : List Value)) (show (0 + 1 : Int32) = 1 by decide +kernel)) ?_
  refine z_sald B hX hbn (vin rfl) dL_law_1953 ?_
  refine z_top (st1 := [.int a1, .ref x]) (congrArg (fun w9 : Int32 => ([.int w9, .ref x] : List Value)) (show xs (1 : Int32).toNatClampNeg = a1 from hx1)) ?_
  refine z_aload_n B dL_law_1954 rfl 2 rfl ?_
  refine z_callSW (As := [.ref x, .int a1, .ref o]) (rest := []) B (w_counter_x G l hl9 Φ sz x o a1 hx_0 Fha) (vx_cwSW 3 B.1.2.2.2.2 gL_law_L_counter rfl rfl rfl (by decide +kernel) ⟨Nat.le_of_ble_eq_true rfl, Nat.le_of_ble_eq_true rfl⟩) rfl rfl (Nat.le_of_ble_eq_true rfl) dL_law_1955 ⟨Nat.le_of_ble_eq_true rfl, Nat.le_of_ble_eq_true rfl⟩ (fun v1 Φ1 sz1 st1 hp1 hs1 => ?_)
  obtain ⟨rfl, he1⟩ := hp1
  replace hs1 : st1 = [.int 1] := hs1
  subst st1
  rw [he1]
  refine z_istore (lv' := [(6, .int 1), (5, .int 0), (4, .ref d), (3, .ref o), (2, .ref y), (1, .ref x), (0, .ref b)]) B dL_law_1958 (Nat.le_of_ble_eq_true rfl) rfl ?_
  refine z_aload_n B dL_law_1960 rfl 4 rfl ?_
  refine z_aload_n B dL_law_1961 rfl 6 rfl ?_
  refine z_iload B dL_law_1962 1 rfl ?_
  refine z_iconst (v := 1) B dL_law_1964 rfl ?_
  refine z_iadd B dL_law_1965 ?_
  refine z_top (st1 := [.int 1, .ref b, .ref y]) (congrArg (fun w9 : Int32 => ([.int w9, .ref b, .ref y] : List Value)) (show (0 + 1 : Int32) = 1 by decide +kernel)) ?_
  refine z_sald B hX hbn (vin rfl) dL_law_1966 ?_
  refine z_top (st1 := [.int a1, .ref y]) (congrArg (fun w9 : Int32 => ([.int w9, .ref y] : List Value)) (show xs (1 : Int32).toNatClampNeg = a1 from hx1)) ?_
  refine z_callV (As := [.int a1]) (rest := []) B (m_X12_counter_x G l Φ sz1 y a1 hy_0 (Nat.le_trans hna (Nat.le_trans (Nat.le_add_right x 149) hxy)) Mhp) (cwV 1 B.1.2.2.2.2 gL_law_X12_counter rfl rfl rfl (by decide +kernel) ⟨Nat.le_of_ble_eq_true rfl, Nat.le_of_ble_eq_true rfl⟩) hy_0 rfl rfl rfl rfl (Nat.le_of_ble_eq_true rfl) dL_law_1967 ⟨Nat.le_of_ble_eq_true rfl, Nat.le_of_ble_eq_true rfl⟩ (fun v2 Φ2 sz2 st2 hp2 hs2 => ?_)
  obtain ⟨rfl, ⟨fs1, hy1, hk1⟩, fr1⟩ := hp2
  replace hs2 : st2 = [.long 0] := hs2
  subst st2
  refine z_lstore (lv' := [(7, .long 0), (6, .int 1), (5, .int 0), (4, .ref d), (3, .ref o), (2, .ref y), (1, .ref x), (0, .ref b)]) B dL_law_1970 (Nat.le_of_ble_eq_true rfl) rfl ?_
  refine z_aload_n B dL_law_1972 rfl 5 rfl ?_
  refine z_callV (As := []) (rest := []) B (m_thrown G l Φ2 sz2 y fs1 1 hy1 hk1) (cwV 0 B.1.2.2.2.2 gL_law_X12_thrown rfl rfl rfl (by decide +kernel) ⟨Nat.le_of_ble_eq_true rfl, Nat.le_of_ble_eq_true rfl⟩) hy1 rfl rfl rfl rfl (Nat.le_of_ble_eq_true rfl) dL_law_1973 ⟨Nat.le_of_ble_eq_true rfl, Nat.le_of_ble_eq_true rfl⟩ (fun v3 Φ3 sz3 st3 hp3 hs3 => ?_)
  obtain ⟨rfl, he2⟩ := hp3
  replace hs3 : st3 = [.int 1] := hs3
  subst st3
  rw [he2]
  refine z_iload B dL_law_1976 1 rfl ?_
  refine z_icmp_eq (tgt := 1983) B dL_law_1978 rfl (fun c_1 => ?_) (fun h9 => absurd (by decide) h9)
  refine z_iload B dL_law_1983 1 rfl ?_
  refine z_if_ne (tgt := 1999) B dL_law_1985 rfl (fun c_2 => ?_) (fun h9 => absurd h9 (by decide))
  refine z_goto (tgt := 2893) B dL_law_1999 rfl ?_
  refine z_lv [2, 3, 4, 5, 6, 7] rfl ?_
  exact hT _ _

set_option maxHeartbeats 4000000 in
set_option maxRecDepth 100000 in
theorem lc_45 {p9 : Program} {e9 : Env} {s9 : State} {m9 : MethodId} {a9 : Array Value} {w9 : List Frame} {t9 : Method} {k9 : Code} {Q9 : State → Prop} {nm9 : String} (G : EnvG) (l : Launch) (hl9 : l.stackTraces = false) (B : Bd p9 s9 m9 a9 t9 k9 G code 9 RL wsL_law ret nm9) (Φ : Hm) (sz : Nat) (b : Nat) (xs : Nat → Int32) (hX : va_X b 7 xs s9 s9.heap) (hbn : b < G.2.2.2) (x y o d : Nat)  (go : Nat → Int64) (gd : Nat → UInt64) (hna : G.2.2.2 ≤ x) (hxy : x + 149 ≤ y) (hyo : y + 26 ≤ o) (hyd : y + 26 ≤ d) (hod : o ≠ d) (hx_0 : Φ x = some (o_ 13 [.ref (x + 1), .ref (x + 3), .ref (x + 24), .ref (x + 46), .ref (x + 74), .ref (x + 80), .ref (x + 132), .ref (x + 121)])) (hx_132 : Φ (x + 132) = some (o_ 2 [.ref (x + 3), .ref (x + 121), .ref (x + 133), .ref (x + 134), .ref (x + 135), .ref (x + 137), .ref (x + 138), .ref (x + 139), .ref (x + 140), .int 0, .int 0, .int 0])) (hx_139 : Φ (x + 139) = some (al_ G 9 (fun _ => 0))) (hy_0 : Φ y = some (o_ 14 [.int 0, .ref (y + 1), .ref (y + 2), .int 0, .int 1, .int 1, .int 0, .int 0, .ref (y + 3), .ref (y + 4), .int 0, .long 0, .ref (y + 5), .int 0, .int 0, .long 0, .long 0, .long 0, .long 0, .ref (y + 6), .ref (y + 7), .int 0, .ref (y + 8), .int 0, .ref (y + 9), .ref (y + 10), .int 0, .ref (y + 11), .ref (y + 12), .ref (y + 13), .ref (y + 14), .ref (y + 15), .ref (y + 16), .int 0, .long (-1), .ref (y + 17), .ref (y + 18), .ref (y + 19), .ref (y + 20), .ref (y + 21), .ref (y + 22), .int 0, .ref (y + 23), .ref (y + 24), .int 0, .ref (y + 25), .int 0, .int 0, .int 0, .int (-1), .int 0, .int 0, .int 0, .long 0])) (hy_11 : Φ (y + 11) = some (al_ G 9 (vp_updL (vp_updL (vp_updL (vp_updL (vp_updL (vp_updL (vp_updL (vp_updL (vp_updL (fun _ => 0) (0 : Int32).toNatClampNeg 0) (1 : Int32).toNatClampNeg 0) (2 : Int32).toNatClampNeg 0) (3 : Int32).toNatClampNeg 0) (4 : Int32).toNatClampNeg 0) (5 : Int32).toNatClampNeg 0) (6 : Int32).toNatClampNeg 0) (7 : Int32).toNatClampNeg 0) (8 : Int32).toNatClampNeg 0)))  (hT : ∀ (Φ1 : Hm) (sz1 : Nat), Z p9 l e9 room_1 s9 m9 a9 w9 t9 k9 Q9 G 9 2893 [(5, .int 0), (4, .ref d), (3, .ref o), (2, .ref y), (1, .ref x), (0, .ref b)] [] Φ1 sz1 178 20844) : Z p9 l e9 room_1 s9 m9 a9 w9 t9 k9 Q9 G 9 2002 [(5, .int 0), (4, .ref d), (3, .ref o), (2, .ref y), (1, .ref x), (0, .ref b)] [] Φ sz 177 20838 := by
  refine z_aload_n B dL_law_2002 rfl 4 rfl ?_
  refine z_aload B dL_law_2003 1 rfl ?_
  refine z_callSW (As := [.ref x, .ref d]) (rest := []) B (w_lossRate G l hl9 Φ sz x d hx_0 hx_132 hx_139) (vx_cwSW 2 B.1.2.2.2.2 gL_law_L_lossRate rfl rfl rfl (by decide +kernel) ⟨Nat.le_of_ble_eq_true rfl, Nat.le_of_ble_eq_true rfl⟩) rfl rfl (Nat.le_of_ble_eq_true rfl) dL_law_2005 ⟨Nat.le_of_ble_eq_true rfl, Nat.le_of_ble_eq_true rfl⟩ (fun v1 Φ1 sz1 st1 hp1 hs1 => ?_)
  obtain ⟨rfl, he1⟩ := hp1
  replace hs1 : st1 = [.int 1] := hs1
  subst st1
  rw [he1]
  refine z_istore (lv' := [(6, .int 1), (5, .int 0), (4, .ref d), (3, .ref o), (2, .ref y), (1, .ref x), (0, .ref b)]) B dL_law_2008 (Nat.le_of_ble_eq_true rfl) rfl ?_
  refine z_aload_n B dL_law_2010 rfl 4 rfl ?_
  refine z_callV (As := []) (rest := []) B (m_X12_lossRate G l Φ sz1 y hy_0 hy_11 (Nat.le_trans hna (Nat.le_trans (Nat.le_add_right x 149) hxy))) (cwV 0 B.1.2.2.2.2 gL_law_X12_lossRate rfl rfl rfl (by decide +kernel) ⟨Nat.le_of_ble_eq_true rfl, Nat.le_of_ble_eq_true rfl⟩) hy_0 rfl rfl rfl rfl (Nat.le_of_ble_eq_true rfl) dL_law_2011 ⟨Nat.le_of_ble_eq_true rfl, Nat.le_of_ble_eq_true rfl⟩ (fun v2 Φ2 sz2 st2 hp2 hs2 => ?_)
  obtain ⟨rfl, ⟨fs1, hy1, hk1⟩, fr1⟩ := hp2
  replace hs2 : st2 = [.double FP.dconst0] := hs2
  subst st2
  refine z_dstore (lv' := [(7, .double FP.dconst0), (6, .int 1), (5, .int 0), (4, .ref d), (3, .ref o), (2, .ref y), (1, .ref x), (0, .ref b)]) B dL_law_2014 (Nat.le_of_ble_eq_true rfl) rfl ?_
  refine z_aload_n B dL_law_2016 rfl 5 rfl ?_
  refine z_callV (As := []) (rest := []) B (m_thrown G l Φ2 sz2 y fs1 1 hy1 hk1) (cwV 0 B.1.2.2.2.2 gL_law_X12_thrown rfl rfl rfl (by decide +kernel) ⟨Nat.le_of_ble_eq_true rfl, Nat.le_of_ble_eq_true rfl⟩) hy1 rfl rfl rfl rfl (Nat.le_of_ble_eq_true rfl) dL_law_2017 ⟨Nat.le_of_ble_eq_true rfl, Nat.le_of_ble_eq_true rfl⟩ (fun v3 Φ3 sz3 st3 hp3 hs3 => ?_)
  obtain ⟨rfl, he2⟩ := hp3
  replace hs3 : st3 = [.int 1] := hs3
  subst st3
  rw [he2]
  refine z_iload B dL_law_2020 1 rfl ?_
  refine z_icmp_eq (tgt := 2027) B dL_law_2022 rfl (fun c_1 => ?_) (fun h9 => absurd (by decide) h9)
  refine z_iload B dL_law_2027 1 rfl ?_
  refine z_if_ne (tgt := 2064) B dL_law_2029 rfl (fun c_2 => ?_) (fun h9 => absurd h9 (by decide))
  refine z_goto (tgt := 2893) B dL_law_2064 rfl ?_
  refine z_lv [2, 3, 4, 5, 6, 7] rfl ?_
  exact hT _ _

set_option maxHeartbeats 4000000 in
set_option maxRecDepth 100000 in
theorem lc_54_0 {p9 : Program} {e9 : Env} {s9 : State} {m9 : MethodId} {a9 : Array Value} {w9 : List Frame} {t9 : Method} {k9 : Code} {Q9 : State → Prop} {nm9 : String} (G : EnvG) (l : Launch) (hl9 : l.stackTraces = false) (B : Bd p9 s9 m9 a9 t9 k9 G code 9 RL wsL_law ret nm9) (Φ : Hm) (sz : Nat) (b : Nat) (xs : Nat → Int32) (hX : va_X b 7 xs s9 s9.heap) (hbn : b < G.2.2.2) (x y o d : Nat) (a1 : Int32) (a2 : Int32) (a3 : Int32) (a4 : Int32) (go : Nat → Int64) (gd : Nat → UInt64) (hna : G.2.2.2 ≤ x) (hxy : x + 149 ≤ y) (hyo : y + 26 ≤ o) (hyd : y + 26 ≤ d) (hod : o ≠ d) (hx_0 : Φ x = some (o_ 13 [.ref (x + 1), .ref (x + 3), .ref (x + 24), .ref (x + 46), .ref (x + 74), .ref (x + 80), .ref (x + 132), .ref (x + 121)])) (hx_80 : Φ (x + 80) = some (o_ 4 [.ref (x + 3), .ref (x + 74), .ref (x + 81), .ref (x + 95), .int 0, .int 1, .int 1, .int 0, .int 0, .int 0, .long 0, .long 0, .long 0])) (hx_95 : Φ (x + 95) = some (o_ 6 [.ref (x + 96), .int 0])) (hy_0 : Φ y = some (o_ 14 [.int 0, .ref (y + 1), .ref (y + 2), .int 0, .int 1, .int 1, .int 0, .int 0, .ref (y + 3), .ref (y + 4), .int 0, .long 0, .ref (y + 5), .int 0, .int 0, .long 0, .long 0, .long 0, .long 0, .ref (y + 6), .ref (y + 7), .int 0, .ref (y + 8), .int 0, .ref (y + 9), .ref (y + 10), .int 0, .ref (y + 11), .ref (y + 12), .ref (y + 13), .ref (y + 14), .ref (y + 15), .ref (y + 16), .int 0, .long (-1), .ref (y + 17), .ref (y + 18), .ref (y + 19), .ref (y + 20), .ref (y + 21), .ref (y + 22), .int 0, .ref (y + 23), .ref (y + 24), .int 0, .ref (y + 25), .int 0, .int 0, .int 0, .int (-1), .int 0, .int 0, .int 0, .long 0])) (hco : Φ o = some (al_ G 1 go)) (hx1 : xs 1 = a1) (hx2 : xs 2 = a2) (hx3 : xs 3 = a3) (hx4 : xs 4 = a4) (hx5 : xs 5 = 0) (hT : ∀ (Φ1 : Hm) (sz1 : Nat), Z p9 l e9 room_1 s9 m9 a9 w9 t9 k9 Q9 G 9 2893 [(5, .int 0), (4, .ref d), (3, .ref o), (2, .ref y), (1, .ref x), (0, .ref b)] [] Φ1 sz1 178 20844) : Z p9 l e9 room_1 s9 m9 a9 w9 t9 k9 Q9 G 9 2534 [(5, .int 0), (4, .ref d), (3, .ref o), (2, .ref y), (1, .ref x), (0, .ref b)] [] Φ sz 177 20838 := by
  refine z_aload_n B dL_law_2534 rfl 4 rfl ?_
  refine z_aload_n B dL_law_2535 rfl 5 rfl ?_
  refine z_iload B dL_law_2536 0 rfl ?_
  refine z_iconst (v := 1) B dL_law_2538 rfl ?_
  refine z_iadd B dL_law_2539 ?_
  refine z_top (st1 := [.int 1, .ref b, .ref x]) (congrArg (fun w9 : Int32 => ([.int w9, .ref b, .ref x] : List Value)) (show (0 + 1 : Int32) = 1 by decide +kernel)) ?_
  refine z_sald B hX hbn (vin rfl) dL_law_2540 ?_
  refine z_top (st1 := [.int a1, .ref x]) (congrArg (fun w9 : Int32 => ([.int w9, .ref x] : List Value)) (show xs (1 : Int32).toNatClampNeg = a1 from hx1)) ?_
  refine z_aload_n B dL_law_2541 rfl 5 rfl ?_
  refine z_iload B dL_law_2542 0 rfl ?_
  refine z_iconst (v := 2) B dL_law_2544 rfl ?_
  refine z_iadd B dL_law_2545 ?_
  refine z_top (st1 := [.int 2, .ref b, .int a1, .ref x]) (congrArg (fun w9 : Int32 => ([.int w9, .ref b, .int a1, .ref x] : List Value)) (show (0 + 2 : Int32) = 2 by decide +kernel)) ?_
  refine z_sald B hX hbn (vin rfl) dL_law_2546 ?_
  refine z_top (st1 := [.int a2, .int a1, .ref x]) (congrArg (fun w9 : Int32 => ([.int w9, .int a1, .ref x] : List Value)) (show xs (2 : Int32).toNatClampNeg = a2 from hx2)) ?_
  refine z_aload_n B dL_law_2547 rfl 5 rfl ?_
  refine z_iload B dL_law_2548 0 rfl ?_
  refine z_iconst (v := 3) B dL_law_2550 rfl ?_
  refine z_iadd B dL_law_2551 ?_
  refine z_top (st1 := [.int 3, .ref b, .int a2, .int a1, .ref x]) (congrArg (fun w9 : Int32 => ([.int w9, .ref b, .int a2, .int a1, .ref x] : List Value)) (show (0 + 3 : Int32) = 3 by decide +kernel)) ?_
  refine z_sald B hX hbn (vin rfl) dL_law_2552 ?_
  refine z_top (st1 := [.int a3, .int a2, .int a1, .ref x]) (congrArg (fun w9 : Int32 => ([.int w9, .int a2, .int a1, .ref x] : List Value)) (show xs (3 : Int32).toNatClampNeg = a3 from hx3)) ?_
  refine z_aload_n B dL_law_2553 rfl 5 rfl ?_
  refine z_iload B dL_law_2554 0 rfl ?_
  refine z_iconst (v := 4) B dL_law_2556 rfl ?_
  refine z_iadd B dL_law_2557 ?_
  refine z_top (st1 := [.int 4, .ref b, .int a3, .int a2, .int a1, .ref x]) (congrArg (fun w9 : Int32 => ([.int w9, .ref b, .int a3, .int a2, .int a1, .ref x] : List Value)) (show (0 + 4 : Int32) = 4 by decide +kernel)) ?_
  refine z_sald B hX hbn (vin rfl) dL_law_2558 ?_
  refine z_top (st1 := [.int a4, .int a3, .int a2, .int a1, .ref x]) (congrArg (fun w9 : Int32 => ([.int w9, .int a3, .int a2, .int a1, .ref x] : List Value)) (show xs (4 : Int32).toNatClampNeg = a4 from hx4)) ?_
  refine z_aload_n B dL_law_2559 rfl 5 rfl ?_
  refine z_iload B dL_law_2560 0 rfl ?_
  refine z_iconst (v := 5) B dL_law_2562 rfl ?_
  refine z_iadd B dL_law_2563 ?_
  refine z_top (st1 := [.int 5, .ref b, .int a4, .int a3, .int a2, .int a1, .ref x]) (congrArg (fun w9 : Int32 => ([.int w9, .ref b, .int a4, .int a3, .int a2, .int a1, .ref x] : List Value)) (show (0 + 5 : Int32) = 5 by decide +kernel)) ?_
  refine z_sald B hX hbn (vin rfl) dL_law_2564 ?_
  refine z_top (st1 := [.int 0, .int a4, .int a3, .int a2, .int a1, .ref x]) (congrArg (fun w9 : Int32 => ([.int w9, .int a4, .int a3, .int a2, .int a1, .ref x] : List Value)) (show xs (5 : Int32).toNatClampNeg = 0 from hx5)) ?_
  refine z_aload_n B dL_law_2565 rfl 2 rfl ?_
  refine z_callSW (As := [.ref x, .int a1, .int a2, .int a3, .int a4, .int 0, .ref o]) (rest := []) B (w_truth_0 G l Φ sz x o a1 a2 a3 a4 go hx_0 hx_80 hx_95 hco hna (Nat.le_trans hxy (Nat.le_trans (Nat.le_add_right y 26) hyo))) (vx_cwSW 7 B.1.2.2.2.2 gL_law_L_truth rfl rfl rfl (by decide +kernel) ⟨Nat.le_of_ble_eq_true rfl, Nat.le_of_ble_eq_true rfl⟩) rfl rfl (Nat.le_of_ble_eq_true rfl) dL_law_2566 ⟨Nat.le_of_ble_eq_true rfl, Nat.le_of_ble_eq_true rfl⟩ (fun v1 Φ1 sz1 st1 hp1 hs1 => ?_)
  obtain ⟨rfl, fr1, g1, ho1, hg1⟩ := hp1
  replace hs1 : st1 = [.int 0] := hs1
  subst st1
  refine z_istore (lv' := [(6, .int 0), (5, .int 0), (4, .ref d), (3, .ref o), (2, .ref y), (1, .ref x), (0, .ref b)]) B dL_law_2569 (Nat.le_of_ble_eq_true rfl) rfl ?_
  refine z_aload_n B dL_law_2571 rfl 4 rfl ?_
  refine z_aload_n B dL_law_2572 rfl 6 rfl ?_
  refine z_iload B dL_law_2573 1 rfl ?_
  refine z_iconst (v := 1) B dL_law_2575 rfl ?_
  refine z_iadd B dL_law_2576 ?_
  refine z_top (st1 := [.int 1, .ref b, .ref y]) (congrArg (fun w9 : Int32 => ([.int w9, .ref b, .ref y] : List Value)) (show (0 + 1 : Int32) = 1 by decide +kernel)) ?_
  refine z_sald B hX hbn (vin rfl) dL_law_2577 ?_
  refine z_top (st1 := [.int a1, .ref y]) (congrArg (fun w9 : Int32 => ([.int w9, .ref y] : List Value)) (show xs (1 : Int32).toNatClampNeg = a1 from hx1)) ?_
  refine z_aload_n B dL_law_2578 rfl 6 rfl ?_
  refine z_iload B dL_law_2579 1 rfl ?_
  refine z_iconst (v := 2) B dL_law_2581 rfl ?_
  refine z_iadd B dL_law_2582 ?_
  refine z_top (st1 := [.int 2, .ref b, .int a1, .ref y]) (congrArg (fun w9 : Int32 => ([.int w9, .ref b, .int a1, .ref y] : List Value)) (show (0 + 2 : Int32) = 2 by decide +kernel)) ?_
  refine z_sald B hX hbn (vin rfl) dL_law_2583 ?_
  refine z_top (st1 := [.int a2, .int a1, .ref y]) (congrArg (fun w9 : Int32 => ([.int w9, .int a1, .ref y] : List Value)) (show xs (2 : Int32).toNatClampNeg = a2 from hx2)) ?_
  refine z_aload_n B dL_law_2584 rfl 6 rfl ?_
  refine z_iload B dL_law_2585 1 rfl ?_
  refine z_iconst (v := 3) B dL_law_2587 rfl ?_
  refine z_iadd B dL_law_2588 ?_
  refine z_top (st1 := [.int 3, .ref b, .int a2, .int a1, .ref y]) (congrArg (fun w9 : Int32 => ([.int w9, .ref b, .int a2, .int a1, .ref y] : List Value)) (show (0 + 3 : Int32) = 3 by decide +kernel)) ?_
  refine z_sald B hX hbn (vin rfl) dL_law_2589 ?_
  refine z_top (st1 := [.int a3, .int a2, .int a1, .ref y]) (congrArg (fun w9 : Int32 => ([.int w9, .int a2, .int a1, .ref y] : List Value)) (show xs (3 : Int32).toNatClampNeg = a3 from hx3)) ?_
  refine z_aload_n B dL_law_2590 rfl 6 rfl ?_
  refine z_iload B dL_law_2591 1 rfl ?_
  refine z_iconst (v := 4) B dL_law_2593 rfl ?_
  refine z_iadd B dL_law_2594 ?_
  refine z_top (st1 := [.int 4, .ref b, .int a3, .int a2, .int a1, .ref y]) (congrArg (fun w9 : Int32 => ([.int w9, .ref b, .int a3, .int a2, .int a1, .ref y] : List Value)) (show (0 + 4 : Int32) = 4 by decide +kernel)) ?_
  refine z_sald B hX hbn (vin rfl) dL_law_2595 ?_
  refine z_top (st1 := [.int a4, .int a3, .int a2, .int a1, .ref y]) (congrArg (fun w9 : Int32 => ([.int w9, .int a3, .int a2, .int a1, .ref y] : List Value)) (show xs (4 : Int32).toNatClampNeg = a4 from hx4)) ?_
  refine z_aload_n B dL_law_2596 rfl 6 rfl ?_
  refine z_iload B dL_law_2597 1 rfl ?_
  refine z_iconst (v := 5) B dL_law_2599 rfl ?_
  refine z_iadd B dL_law_2600 ?_
  refine z_top (st1 := [.int 5, .ref b, .int a4, .int a3, .int a2, .int a1, .ref y]) (congrArg (fun w9 : Int32 => ([.int w9, .ref b, .int a4, .int a3, .int a2, .int a1, .ref y] : List Value)) (show (0 + 5 : Int32) = 5 by decide +kernel)) ?_
  refine z_sald B hX hbn (vin rfl) dL_law_2601 ?_
  refine z_top (st1 := [.int 0, .int a4, .int a3, .int a2, .int a1, .ref y]) (congrArg (fun w9 : Int32 => ([.int w9, .int a4, .int a3, .int a2, .int a1, .ref y] : List Value)) (show xs (5 : Int32).toNatClampNeg = 0 from hx5)) ?_
  have h_1 : Φ1 y = some (o_ 14 [.int 0, .ref (y + 1), .ref (y + 2), .int 0, .int 1, .int 1, .int 0, .int 0, .ref (y + 3), .ref (y + 4), .int 0, .long 0, .ref (y + 5), .int 0, .int 0, .long 0, .long 0, .long 0, .long 0, .ref (y + 6), .ref (y + 7), .int 0, .ref (y + 8), .int 0, .ref (y + 9), .ref (y + 10), .int 0, .ref (y + 11), .ref (y + 12), .ref (y + 13), .ref (y + 14), .ref (y + 15), .ref (y + 16), .int 0, .long (-1), .ref (y + 17), .ref (y + 18), .ref (y + 19), .ref (y + 20), .ref (y + 21), .ref (y + 22), .int 0, .ref (y + 23), .ref (y + 24), .int 0, .ref (y + 25), .int 0, .int 0, .int 0, .int (-1), .int 0, .int 0, .int 0, .long 0]) := ((fr1 y hxy (Nat.ne_of_lt (Nat.lt_of_lt_of_le (lt_off (x := y) (i := 0) (j := 26) rfl) hyo))).trans hy_0)
  refine z_callV (As := [.int a1, .int a2, .int a3, .int a4, .int 0]) (rest := []) B (m_X12_truth_0 G l Φ1 sz1 y a1 a2 a3 a4 h_1 (Nat.le_trans hna (Nat.le_trans (Nat.le_add_right x 149) hxy))) (cwV 5 B.1.2.2.2.2 gL_law_X12_truth rfl rfl rfl (by decide +kernel) ⟨Nat.le_of_ble_eq_true rfl, Nat.le_of_ble_eq_true rfl⟩) h_1 rfl rfl rfl rfl (Nat.le_of_ble_eq_true rfl) dL_law_2602 ⟨Nat.le_of_ble_eq_true rfl, Nat.le_of_ble_eq_true rfl⟩ (fun v2 Φ2 sz2 st2 hp2 hs2 => ?_)
  obtain ⟨rfl, ⟨fs1, hy1, hk1⟩, fr2⟩ := hp2
  replace hs2 : st2 = [.long 0] := hs2
  subst st2
  refine z_lstore (lv' := [(7, .long 0), (6, .int 0), (5, .int 0), (4, .ref d), (3, .ref o), (2, .ref y), (1, .ref x), (0, .ref b)]) B dL_law_2605 (Nat.le_of_ble_eq_true rfl) rfl ?_
  refine z_aload_n B dL_law_2607 rfl 5 rfl ?_
  refine z_callV (As := []) (rest := []) B (m_thrown G l Φ2 sz2 y fs1 0 hy1 hk1) (cwV 0 B.1.2.2.2.2 gL_law_X12_thrown rfl rfl rfl (by decide +kernel) ⟨Nat.le_of_ble_eq_true rfl, Nat.le_of_ble_eq_true rfl⟩) hy1 rfl rfl rfl rfl (Nat.le_of_ble_eq_true rfl) dL_law_2608 ⟨Nat.le_of_ble_eq_true rfl, Nat.le_of_ble_eq_true rfl⟩ (fun v3 Φ3 sz3 st3 hp3 hs3 => ?_)
  obtain ⟨rfl, he1⟩ := hp3
  replace hs3 : st3 = [.int 0] := hs3
  subst st3
  rw [he1]
  refine z_iload B dL_law_2611 1 rfl ?_
  refine z_icmp_eq (tgt := 2618) B dL_law_2613 rfl (fun c_1 => ?_) (fun h9 => absurd (by decide) h9)
  refine z_iload B dL_law_2618 1 rfl ?_
  refine z_if_ne (tgt := 2634) B dL_law_2620 rfl (fun h9 => absurd (by decide) h9) (fun c_2 => ?_)
  refine z_aload_n B dL_law_2623 rfl 4 rfl ?_
  refine z_iconst (v := 0) B dL_law_2624 rfl ?_
  have h_2 : Φ2 o = some (al_ G 1 g1) := ((fr2 o hyo).trans ho1)
  refine z_lald B h_2 (vin rfl) dL_law_2625 ?_
  refine z_top (st1 := [.long 0]) (congrArg (fun w9 : Int64 => ([.long w9] : List Value)) (show g1 (0 : Int32).toNatClampNeg = 0 from hg1)) ?_
  refine z_lload B dL_law_2626 0 rfl ?_
  refine z_lcmp B dL_law_2628 ?_
  refine z_top (st1 := [.int 0]) (congrArg (fun w9 : Int32 => ([.int w9] : List Value)) (show (lg_cmp 0 0 : Int32) = 0 by decide +kernel)) ?_
  refine z_if_eq (tgt := 2634) B dL_law_2629 rfl (fun c_3 => ?_) (fun h9 => absurd (by decide) h9)
  refine z_goto (tgt := 2893) B dL_law_2634 rfl ?_
  refine z_lv [2, 3, 4, 5, 6, 7] rfl ?_
  refine z_widen (k := 178) (n := 20844) (Nat.le_of_ble_eq_true rfl) (Nat.le_of_ble_eq_true rfl) ?_
  exact hT _ _

set_option maxHeartbeats 4000000 in
set_option maxRecDepth 100000 in
theorem lc_54_1 {p9 : Program} {e9 : Env} {s9 : State} {m9 : MethodId} {a9 : Array Value} {w9 : List Frame} {t9 : Method} {k9 : Code} {Q9 : State → Prop} {nm9 : String} (G : EnvG) (l : Launch) (hl9 : l.stackTraces = false) (B : Bd p9 s9 m9 a9 t9 k9 G code 9 RL wsL_law ret nm9) (Φ : Hm) (sz : Nat) (b : Nat) (xs : Nat → Int32) (hX : va_X b 7 xs s9 s9.heap) (hbn : b < G.2.2.2) (x y o d : Nat) (a1 : Int32) (a2 : Int32) (a3 : Int32) (a4 : Int32) (go : Nat → Int64) (gd : Nat → UInt64) (hna : G.2.2.2 ≤ x) (hxy : x + 149 ≤ y) (hyo : y + 26 ≤ o) (hyd : y + 26 ≤ d) (hod : o ≠ d) (hx_0 : Φ x = some (o_ 13 [.ref (x + 1), .ref (x + 3), .ref (x + 24), .ref (x + 46), .ref (x + 74), .ref (x + 80), .ref (x + 132), .ref (x + 121)])) (hx_80 : Φ (x + 80) = some (o_ 4 [.ref (x + 3), .ref (x + 74), .ref (x + 81), .ref (x + 95), .int 0, .int 1, .int 1, .int 0, .int 0, .int 0, .long 0, .long 0, .long 0])) (hx_95 : Φ (x + 95) = some (o_ 6 [.ref (x + 96), .int 0])) (hy_0 : Φ y = some (o_ 14 [.int 0, .ref (y + 1), .ref (y + 2), .int 0, .int 1, .int 1, .int 0, .int 0, .ref (y + 3), .ref (y + 4), .int 0, .long 0, .ref (y + 5), .int 0, .int 0, .long 0, .long 0, .long 0, .long 0, .ref (y + 6), .ref (y + 7), .int 0, .ref (y + 8), .int 0, .ref (y + 9), .ref (y + 10), .int 0, .ref (y + 11), .ref (y + 12), .ref (y + 13), .ref (y + 14), .ref (y + 15), .ref (y + 16), .int 0, .long (-1), .ref (y + 17), .ref (y + 18), .ref (y + 19), .ref (y + 20), .ref (y + 21), .ref (y + 22), .int 0, .ref (y + 23), .ref (y + 24), .int 0, .ref (y + 25), .int 0, .int 0, .int 0, .int (-1), .int 0, .int 0, .int 0, .long 0])) (hco : Φ o = some (al_ G 1 go)) (hx1 : xs 1 = a1) (hx2 : xs 2 = a2) (hx3 : xs 3 = a3) (hx4 : xs 4 = a4) (hx5 : xs 5 = 1) (hT : ∀ (Φ1 : Hm) (sz1 : Nat), Z p9 l e9 room_1 s9 m9 a9 w9 t9 k9 Q9 G 9 2893 [(5, .int 0), (4, .ref d), (3, .ref o), (2, .ref y), (1, .ref x), (0, .ref b)] [] Φ1 sz1 178 20844) : Z p9 l e9 room_1 s9 m9 a9 w9 t9 k9 Q9 G 9 2534 [(5, .int 0), (4, .ref d), (3, .ref o), (2, .ref y), (1, .ref x), (0, .ref b)] [] Φ sz 177 20838 := by
  refine z_aload_n B dL_law_2534 rfl 4 rfl ?_
  refine z_aload_n B dL_law_2535 rfl 5 rfl ?_
  refine z_iload B dL_law_2536 0 rfl ?_
  refine z_iconst (v := 1) B dL_law_2538 rfl ?_
  refine z_iadd B dL_law_2539 ?_
  refine z_top (st1 := [.int 1, .ref b, .ref x]) (congrArg (fun w9 : Int32 => ([.int w9, .ref b, .ref x] : List Value)) (show (0 + 1 : Int32) = 1 by decide +kernel)) ?_
  refine z_sald B hX hbn (vin rfl) dL_law_2540 ?_
  refine z_top (st1 := [.int a1, .ref x]) (congrArg (fun w9 : Int32 => ([.int w9, .ref x] : List Value)) (show xs (1 : Int32).toNatClampNeg = a1 from hx1)) ?_
  refine z_aload_n B dL_law_2541 rfl 5 rfl ?_
  refine z_iload B dL_law_2542 0 rfl ?_
  refine z_iconst (v := 2) B dL_law_2544 rfl ?_
  refine z_iadd B dL_law_2545 ?_
  refine z_top (st1 := [.int 2, .ref b, .int a1, .ref x]) (congrArg (fun w9 : Int32 => ([.int w9, .ref b, .int a1, .ref x] : List Value)) (show (0 + 2 : Int32) = 2 by decide +kernel)) ?_
  refine z_sald B hX hbn (vin rfl) dL_law_2546 ?_
  refine z_top (st1 := [.int a2, .int a1, .ref x]) (congrArg (fun w9 : Int32 => ([.int w9, .int a1, .ref x] : List Value)) (show xs (2 : Int32).toNatClampNeg = a2 from hx2)) ?_
  refine z_aload_n B dL_law_2547 rfl 5 rfl ?_
  refine z_iload B dL_law_2548 0 rfl ?_
  refine z_iconst (v := 3) B dL_law_2550 rfl ?_
  refine z_iadd B dL_law_2551 ?_
  refine z_top (st1 := [.int 3, .ref b, .int a2, .int a1, .ref x]) (congrArg (fun w9 : Int32 => ([.int w9, .ref b, .int a2, .int a1, .ref x] : List Value)) (show (0 + 3 : Int32) = 3 by decide +kernel)) ?_
  refine z_sald B hX hbn (vin rfl) dL_law_2552 ?_
  refine z_top (st1 := [.int a3, .int a2, .int a1, .ref x]) (congrArg (fun w9 : Int32 => ([.int w9, .int a2, .int a1, .ref x] : List Value)) (show xs (3 : Int32).toNatClampNeg = a3 from hx3)) ?_
  refine z_aload_n B dL_law_2553 rfl 5 rfl ?_
  refine z_iload B dL_law_2554 0 rfl ?_
  refine z_iconst (v := 4) B dL_law_2556 rfl ?_
  refine z_iadd B dL_law_2557 ?_
  refine z_top (st1 := [.int 4, .ref b, .int a3, .int a2, .int a1, .ref x]) (congrArg (fun w9 : Int32 => ([.int w9, .ref b, .int a3, .int a2, .int a1, .ref x] : List Value)) (show (0 + 4 : Int32) = 4 by decide +kernel)) ?_
  refine z_sald B hX hbn (vin rfl) dL_law_2558 ?_
  refine z_top (st1 := [.int a4, .int a3, .int a2, .int a1, .ref x]) (congrArg (fun w9 : Int32 => ([.int w9, .int a3, .int a2, .int a1, .ref x] : List Value)) (show xs (4 : Int32).toNatClampNeg = a4 from hx4)) ?_
  refine z_aload_n B dL_law_2559 rfl 5 rfl ?_
  refine z_iload B dL_law_2560 0 rfl ?_
  refine z_iconst (v := 5) B dL_law_2562 rfl ?_
  refine z_iadd B dL_law_2563 ?_
  refine z_top (st1 := [.int 5, .ref b, .int a4, .int a3, .int a2, .int a1, .ref x]) (congrArg (fun w9 : Int32 => ([.int w9, .ref b, .int a4, .int a3, .int a2, .int a1, .ref x] : List Value)) (show (0 + 5 : Int32) = 5 by decide +kernel)) ?_
  refine z_sald B hX hbn (vin rfl) dL_law_2564 ?_
  refine z_top (st1 := [.int 1, .int a4, .int a3, .int a2, .int a1, .ref x]) (congrArg (fun w9 : Int32 => ([.int w9, .int a4, .int a3, .int a2, .int a1, .ref x] : List Value)) (show xs (5 : Int32).toNatClampNeg = 1 from hx5)) ?_
  refine z_aload_n B dL_law_2565 rfl 2 rfl ?_
  refine z_callSW (As := [.ref x, .int a1, .int a2, .int a3, .int a4, .int 1, .ref o]) (rest := []) B (w_truth_1 G l Φ sz x o a1 a2 a3 a4 go hx_0 hx_80 hx_95 hco hna (Nat.le_trans hxy (Nat.le_trans (Nat.le_add_right y 26) hyo))) (vx_cwSW 7 B.1.2.2.2.2 gL_law_L_truth rfl rfl rfl (by decide +kernel) ⟨Nat.le_of_ble_eq_true rfl, Nat.le_of_ble_eq_true rfl⟩) rfl rfl (Nat.le_of_ble_eq_true rfl) dL_law_2566 ⟨Nat.le_of_ble_eq_true rfl, Nat.le_of_ble_eq_true rfl⟩ (fun v1 Φ1 sz1 st1 hp1 hs1 => ?_)
  obtain ⟨rfl, fr1, g1, ho1, hg1⟩ := hp1
  replace hs1 : st1 = [.int 0] := hs1
  subst st1
  refine z_istore (lv' := [(6, .int 0), (5, .int 0), (4, .ref d), (3, .ref o), (2, .ref y), (1, .ref x), (0, .ref b)]) B dL_law_2569 (Nat.le_of_ble_eq_true rfl) rfl ?_
  refine z_aload_n B dL_law_2571 rfl 4 rfl ?_
  refine z_aload_n B dL_law_2572 rfl 6 rfl ?_
  refine z_iload B dL_law_2573 1 rfl ?_
  refine z_iconst (v := 1) B dL_law_2575 rfl ?_
  refine z_iadd B dL_law_2576 ?_
  refine z_top (st1 := [.int 1, .ref b, .ref y]) (congrArg (fun w9 : Int32 => ([.int w9, .ref b, .ref y] : List Value)) (show (0 + 1 : Int32) = 1 by decide +kernel)) ?_
  refine z_sald B hX hbn (vin rfl) dL_law_2577 ?_
  refine z_top (st1 := [.int a1, .ref y]) (congrArg (fun w9 : Int32 => ([.int w9, .ref y] : List Value)) (show xs (1 : Int32).toNatClampNeg = a1 from hx1)) ?_
  refine z_aload_n B dL_law_2578 rfl 6 rfl ?_
  refine z_iload B dL_law_2579 1 rfl ?_
  refine z_iconst (v := 2) B dL_law_2581 rfl ?_
  refine z_iadd B dL_law_2582 ?_
  refine z_top (st1 := [.int 2, .ref b, .int a1, .ref y]) (congrArg (fun w9 : Int32 => ([.int w9, .ref b, .int a1, .ref y] : List Value)) (show (0 + 2 : Int32) = 2 by decide +kernel)) ?_
  refine z_sald B hX hbn (vin rfl) dL_law_2583 ?_
  refine z_top (st1 := [.int a2, .int a1, .ref y]) (congrArg (fun w9 : Int32 => ([.int w9, .int a1, .ref y] : List Value)) (show xs (2 : Int32).toNatClampNeg = a2 from hx2)) ?_
  refine z_aload_n B dL_law_2584 rfl 6 rfl ?_
  refine z_iload B dL_law_2585 1 rfl ?_
  refine z_iconst (v := 3) B dL_law_2587 rfl ?_
  refine z_iadd B dL_law_2588 ?_
  refine z_top (st1 := [.int 3, .ref b, .int a2, .int a1, .ref y]) (congrArg (fun w9 : Int32 => ([.int w9, .ref b, .int a2, .int a1, .ref y] : List Value)) (show (0 + 3 : Int32) = 3 by decide +kernel)) ?_
  refine z_sald B hX hbn (vin rfl) dL_law_2589 ?_
  refine z_top (st1 := [.int a3, .int a2, .int a1, .ref y]) (congrArg (fun w9 : Int32 => ([.int w9, .int a2, .int a1, .ref y] : List Value)) (show xs (3 : Int32).toNatClampNeg = a3 from hx3)) ?_
  refine z_aload_n B dL_law_2590 rfl 6 rfl ?_
  refine z_iload B dL_law_2591 1 rfl ?_
  refine z_iconst (v := 4) B dL_law_2593 rfl ?_
  refine z_iadd B dL_law_2594 ?_
  refine z_top (st1 := [.int 4, .ref b, .int a3, .int a2, .int a1, .ref y]) (congrArg (fun w9 : Int32 => ([.int w9, .ref b, .int a3, .int a2, .int a1, .ref y] : List Value)) (show (0 + 4 : Int32) = 4 by decide +kernel)) ?_
  refine z_sald B hX hbn (vin rfl) dL_law_2595 ?_
  refine z_top (st1 := [.int a4, .int a3, .int a2, .int a1, .ref y]) (congrArg (fun w9 : Int32 => ([.int w9, .int a3, .int a2, .int a1, .ref y] : List Value)) (show xs (4 : Int32).toNatClampNeg = a4 from hx4)) ?_
  refine z_aload_n B dL_law_2596 rfl 6 rfl ?_
  refine z_iload B dL_law_2597 1 rfl ?_
  refine z_iconst (v := 5) B dL_law_2599 rfl ?_
  refine z_iadd B dL_law_2600 ?_
  refine z_top (st1 := [.int 5, .ref b, .int a4, .int a3, .int a2, .int a1, .ref y]) (congrArg (fun w9 : Int32 => ([.int w9, .ref b, .int a4, .int a3, .int a2, .int a1, .ref y] : List Value)) (show (0 + 5 : Int32) = 5 by decide +kernel)) ?_
  refine z_sald B hX hbn (vin rfl) dL_law_2601 ?_
  refine z_top (st1 := [.int 1, .int a4, .int a3, .int a2, .int a1, .ref y]) (congrArg (fun w9 : Int32 => ([.int w9, .int a4, .int a3, .int a2, .int a1, .ref y] : List Value)) (show xs (5 : Int32).toNatClampNeg = 1 from hx5)) ?_
  have h_1 : Φ1 y = some (o_ 14 [.int 0, .ref (y + 1), .ref (y + 2), .int 0, .int 1, .int 1, .int 0, .int 0, .ref (y + 3), .ref (y + 4), .int 0, .long 0, .ref (y + 5), .int 0, .int 0, .long 0, .long 0, .long 0, .long 0, .ref (y + 6), .ref (y + 7), .int 0, .ref (y + 8), .int 0, .ref (y + 9), .ref (y + 10), .int 0, .ref (y + 11), .ref (y + 12), .ref (y + 13), .ref (y + 14), .ref (y + 15), .ref (y + 16), .int 0, .long (-1), .ref (y + 17), .ref (y + 18), .ref (y + 19), .ref (y + 20), .ref (y + 21), .ref (y + 22), .int 0, .ref (y + 23), .ref (y + 24), .int 0, .ref (y + 25), .int 0, .int 0, .int 0, .int (-1), .int 0, .int 0, .int 0, .long 0]) := ((fr1 y hxy (Nat.ne_of_lt (Nat.lt_of_lt_of_le (lt_off (x := y) (i := 0) (j := 26) rfl) hyo))).trans hy_0)
  refine z_callV (As := [.int a1, .int a2, .int a3, .int a4, .int 1]) (rest := []) B (m_X12_truth_1 G l Φ1 sz1 y a1 a2 a3 a4 h_1 (Nat.le_trans hna (Nat.le_trans (Nat.le_add_right x 149) hxy))) (cwV 5 B.1.2.2.2.2 gL_law_X12_truth rfl rfl rfl (by decide +kernel) ⟨Nat.le_of_ble_eq_true rfl, Nat.le_of_ble_eq_true rfl⟩) h_1 rfl rfl rfl rfl (Nat.le_of_ble_eq_true rfl) dL_law_2602 ⟨Nat.le_of_ble_eq_true rfl, Nat.le_of_ble_eq_true rfl⟩ (fun v2 Φ2 sz2 st2 hp2 hs2 => ?_)
  obtain ⟨rfl, ⟨fs1, hy1, hk1⟩, fr2⟩ := hp2
  replace hs2 : st2 = [.long 0] := hs2
  subst st2
  refine z_lstore (lv' := [(7, .long 0), (6, .int 0), (5, .int 0), (4, .ref d), (3, .ref o), (2, .ref y), (1, .ref x), (0, .ref b)]) B dL_law_2605 (Nat.le_of_ble_eq_true rfl) rfl ?_
  refine z_aload_n B dL_law_2607 rfl 5 rfl ?_
  refine z_callV (As := []) (rest := []) B (m_thrown G l Φ2 sz2 y fs1 0 hy1 hk1) (cwV 0 B.1.2.2.2.2 gL_law_X12_thrown rfl rfl rfl (by decide +kernel) ⟨Nat.le_of_ble_eq_true rfl, Nat.le_of_ble_eq_true rfl⟩) hy1 rfl rfl rfl rfl (Nat.le_of_ble_eq_true rfl) dL_law_2608 ⟨Nat.le_of_ble_eq_true rfl, Nat.le_of_ble_eq_true rfl⟩ (fun v3 Φ3 sz3 st3 hp3 hs3 => ?_)
  obtain ⟨rfl, he1⟩ := hp3
  replace hs3 : st3 = [.int 0] := hs3
  subst st3
  rw [he1]
  refine z_iload B dL_law_2611 1 rfl ?_
  refine z_icmp_eq (tgt := 2618) B dL_law_2613 rfl (fun c_1 => ?_) (fun h9 => absurd (by decide) h9)
  refine z_iload B dL_law_2618 1 rfl ?_
  refine z_if_ne (tgt := 2634) B dL_law_2620 rfl (fun h9 => absurd (by decide) h9) (fun c_2 => ?_)
  refine z_aload_n B dL_law_2623 rfl 4 rfl ?_
  refine z_iconst (v := 0) B dL_law_2624 rfl ?_
  have h_2 : Φ2 o = some (al_ G 1 g1) := ((fr2 o hyo).trans ho1)
  refine z_lald B h_2 (vin rfl) dL_law_2625 ?_
  refine z_top (st1 := [.long 0]) (congrArg (fun w9 : Int64 => ([.long w9] : List Value)) (show g1 (0 : Int32).toNatClampNeg = 0 from hg1)) ?_
  refine z_lload B dL_law_2626 0 rfl ?_
  refine z_lcmp B dL_law_2628 ?_
  refine z_top (st1 := [.int 0]) (congrArg (fun w9 : Int32 => ([.int w9] : List Value)) (show (lg_cmp 0 0 : Int32) = 0 by decide +kernel)) ?_
  refine z_if_eq (tgt := 2634) B dL_law_2629 rfl (fun c_3 => ?_) (fun h9 => absurd (by decide) h9)
  refine z_goto (tgt := 2893) B dL_law_2634 rfl ?_
  refine z_lv [2, 3, 4, 5, 6, 7] rfl ?_
  refine z_widen (k := 178) (n := 20844) (Nat.le_of_ble_eq_true rfl) (Nat.le_of_ble_eq_true rfl) ?_
  exact hT _ _

set_option maxHeartbeats 4000000 in
set_option maxRecDepth 100000 in
theorem lc_54_x {p9 : Program} {e9 : Env} {s9 : State} {m9 : MethodId} {a9 : Array Value} {w9 : List Frame} {t9 : Method} {k9 : Code} {Q9 : State → Prop} {nm9 : String} (G : EnvG) (l : Launch) (hl9 : l.stackTraces = false) (B : Bd p9 s9 m9 a9 t9 k9 G code 9 RL wsL_law ret nm9) (Φ : Hm) (sz : Nat) (b : Nat) (xs : Nat → Int32) (hX : va_X b 7 xs s9 s9.heap) (hbn : b < G.2.2.2) (x y o d : Nat) (a1 : Int32) (a2 : Int32) (a3 : Int32) (a4 : Int32) (a5 : Int32) (go : Nat → Int64) (gd : Nat → UInt64) (hna : G.2.2.2 ≤ x) (hxy : x + 149 ≤ y) (hyo : y + 26 ≤ o) (hyd : y + 26 ≤ d) (hod : o ≠ d) (hx_0 : Φ x = some (o_ 13 [.ref (x + 1), .ref (x + 3), .ref (x + 24), .ref (x + 46), .ref (x + 74), .ref (x + 80), .ref (x + 132), .ref (x + 121)])) (hy_0 : Φ y = some (o_ 14 [.int 0, .ref (y + 1), .ref (y + 2), .int 0, .int 1, .int 1, .int 0, .int 0, .ref (y + 3), .ref (y + 4), .int 0, .long 0, .ref (y + 5), .int 0, .int 0, .long 0, .long 0, .long 0, .long 0, .ref (y + 6), .ref (y + 7), .int 0, .ref (y + 8), .int 0, .ref (y + 9), .ref (y + 10), .int 0, .ref (y + 11), .ref (y + 12), .ref (y + 13), .ref (y + 14), .ref (y + 15), .ref (y + 16), .int 0, .long (-1), .ref (y + 17), .ref (y + 18), .ref (y + 19), .ref (y + 20), .ref (y + 21), .ref (y + 22), .int 0, .ref (y + 23), .ref (y + 24), .int 0, .ref (y + 25), .int 0, .int 0, .int 0, .int (-1), .int 0, .int 0, .int 0, .long 0])) (hx1 : xs 1 = a1) (hx2 : xs 2 = a2) (hx3 : xs 3 = a3) (hx4 : xs 4 = a4) (hx5 : xs 5 = a5) (Fhw : ¬ (a5 = 0 ∨ a5 = 1)) (Mhp : ¬ inP a5.toInt64 0 1) (hT : ∀ (Φ1 : Hm) (sz1 : Nat), Z p9 l e9 room_1 s9 m9 a9 w9 t9 k9 Q9 G 9 2893 [(5, .int 0), (4, .ref d), (3, .ref o), (2, .ref y), (1, .ref x), (0, .ref b)] [] Φ1 sz1 178 20844) : Z p9 l e9 room_1 s9 m9 a9 w9 t9 k9 Q9 G 9 2534 [(5, .int 0), (4, .ref d), (3, .ref o), (2, .ref y), (1, .ref x), (0, .ref b)] [] Φ sz 177 20838 := by
  refine z_aload_n B dL_law_2534 rfl 4 rfl ?_
  refine z_aload_n B dL_law_2535 rfl 5 rfl ?_
  refine z_iload B dL_law_2536 0 rfl ?_
  refine z_iconst (v := 1) B dL_law_2538 rfl ?_
  refine z_iadd B dL_law_2539 ?_
  refine z_top (st1 := [.int 1, .ref b, .ref x]) (congrArg (fun w9 : Int32 => ([.int w9, .ref b, .ref x] : List Value)) (show (0 + 1 : Int32) = 1 by decide +kernel)) ?_
  refine z_sald B hX hbn (vin rfl) dL_law_2540 ?_
  refine z_top (st1 := [.int a1, .ref x]) (congrArg (fun w9 : Int32 => ([.int w9, .ref x] : List Value)) (show xs (1 : Int32).toNatClampNeg = a1 from hx1)) ?_
  refine z_aload_n B dL_law_2541 rfl 5 rfl ?_
  refine z_iload B dL_law_2542 0 rfl ?_
  refine z_iconst (v := 2) B dL_law_2544 rfl ?_
  refine z_iadd B dL_law_2545 ?_
  refine z_top (st1 := [.int 2, .ref b, .int a1, .ref x]) (congrArg (fun w9 : Int32 => ([.int w9, .ref b, .int a1, .ref x] : List Value)) (show (0 + 2 : Int32) = 2 by decide +kernel)) ?_
  refine z_sald B hX hbn (vin rfl) dL_law_2546 ?_
  refine z_top (st1 := [.int a2, .int a1, .ref x]) (congrArg (fun w9 : Int32 => ([.int w9, .int a1, .ref x] : List Value)) (show xs (2 : Int32).toNatClampNeg = a2 from hx2)) ?_
  refine z_aload_n B dL_law_2547 rfl 5 rfl ?_
  refine z_iload B dL_law_2548 0 rfl ?_
  refine z_iconst (v := 3) B dL_law_2550 rfl ?_
  refine z_iadd B dL_law_2551 ?_
  refine z_top (st1 := [.int 3, .ref b, .int a2, .int a1, .ref x]) (congrArg (fun w9 : Int32 => ([.int w9, .ref b, .int a2, .int a1, .ref x] : List Value)) (show (0 + 3 : Int32) = 3 by decide +kernel)) ?_
  refine z_sald B hX hbn (vin rfl) dL_law_2552 ?_
  refine z_top (st1 := [.int a3, .int a2, .int a1, .ref x]) (congrArg (fun w9 : Int32 => ([.int w9, .int a2, .int a1, .ref x] : List Value)) (show xs (3 : Int32).toNatClampNeg = a3 from hx3)) ?_
  refine z_aload_n B dL_law_2553 rfl 5 rfl ?_
  refine z_iload B dL_law_2554 0 rfl ?_
  refine z_iconst (v := 4) B dL_law_2556 rfl ?_
  refine z_iadd B dL_law_2557 ?_
  refine z_top (st1 := [.int 4, .ref b, .int a3, .int a2, .int a1, .ref x]) (congrArg (fun w9 : Int32 => ([.int w9, .ref b, .int a3, .int a2, .int a1, .ref x] : List Value)) (show (0 + 4 : Int32) = 4 by decide +kernel)) ?_
  refine z_sald B hX hbn (vin rfl) dL_law_2558 ?_
  refine z_top (st1 := [.int a4, .int a3, .int a2, .int a1, .ref x]) (congrArg (fun w9 : Int32 => ([.int w9, .int a3, .int a2, .int a1, .ref x] : List Value)) (show xs (4 : Int32).toNatClampNeg = a4 from hx4)) ?_
  refine z_aload_n B dL_law_2559 rfl 5 rfl ?_
  refine z_iload B dL_law_2560 0 rfl ?_
  refine z_iconst (v := 5) B dL_law_2562 rfl ?_
  refine z_iadd B dL_law_2563 ?_
  refine z_top (st1 := [.int 5, .ref b, .int a4, .int a3, .int a2, .int a1, .ref x]) (congrArg (fun w9 : Int32 => ([.int w9, .ref b, .int a4, .int a3, .int a2, .int a1, .ref x] : List Value)) (show (0 + 5 : Int32) = 5 by decide +kernel)) ?_
  refine z_sald B hX hbn (vin rfl) dL_law_2564 ?_
  refine z_top (st1 := [.int a5, .int a4, .int a3, .int a2, .int a1, .ref x]) (congrArg (fun w9 : Int32 => ([.int w9, .int a4, .int a3, .int a2, .int a1, .ref x] : List Value)) (show xs (5 : Int32).toNatClampNeg = a5 from hx5)) ?_
  refine z_aload_n B dL_law_2565 rfl 2 rfl ?_
  refine z_callSW (As := [.ref x, .int a1, .int a2, .int a3, .int a4, .int a5, .ref o]) (rest := []) B (w_truth_x G l hl9 Φ sz x o a1 a2 a3 a4 a5 hx_0 Fhw) (vx_cwSW 7 B.1.2.2.2.2 gL_law_L_truth rfl rfl rfl (by decide +kernel) ⟨Nat.le_of_ble_eq_true rfl, Nat.le_of_ble_eq_true rfl⟩) rfl rfl (Nat.le_of_ble_eq_true rfl) dL_law_2566 ⟨Nat.le_of_ble_eq_true rfl, Nat.le_of_ble_eq_true rfl⟩ (fun v1 Φ1 sz1 st1 hp1 hs1 => ?_)
  obtain ⟨rfl, he1⟩ := hp1
  replace hs1 : st1 = [.int 1] := hs1
  subst st1
  rw [he1]
  refine z_istore (lv' := [(6, .int 1), (5, .int 0), (4, .ref d), (3, .ref o), (2, .ref y), (1, .ref x), (0, .ref b)]) B dL_law_2569 (Nat.le_of_ble_eq_true rfl) rfl ?_
  refine z_aload_n B dL_law_2571 rfl 4 rfl ?_
  refine z_aload_n B dL_law_2572 rfl 6 rfl ?_
  refine z_iload B dL_law_2573 1 rfl ?_
  refine z_iconst (v := 1) B dL_law_2575 rfl ?_
  refine z_iadd B dL_law_2576 ?_
  refine z_top (st1 := [.int 1, .ref b, .ref y]) (congrArg (fun w9 : Int32 => ([.int w9, .ref b, .ref y] : List Value)) (show (0 + 1 : Int32) = 1 by decide +kernel)) ?_
  refine z_sald B hX hbn (vin rfl) dL_law_2577 ?_
  refine z_top (st1 := [.int a1, .ref y]) (congrArg (fun w9 : Int32 => ([.int w9, .ref y] : List Value)) (show xs (1 : Int32).toNatClampNeg = a1 from hx1)) ?_
  refine z_aload_n B dL_law_2578 rfl 6 rfl ?_
  refine z_iload B dL_law_2579 1 rfl ?_
  refine z_iconst (v := 2) B dL_law_2581 rfl ?_
  refine z_iadd B dL_law_2582 ?_
  refine z_top (st1 := [.int 2, .ref b, .int a1, .ref y]) (congrArg (fun w9 : Int32 => ([.int w9, .ref b, .int a1, .ref y] : List Value)) (show (0 + 2 : Int32) = 2 by decide +kernel)) ?_
  refine z_sald B hX hbn (vin rfl) dL_law_2583 ?_
  refine z_top (st1 := [.int a2, .int a1, .ref y]) (congrArg (fun w9 : Int32 => ([.int w9, .int a1, .ref y] : List Value)) (show xs (2 : Int32).toNatClampNeg = a2 from hx2)) ?_
  refine z_aload_n B dL_law_2584 rfl 6 rfl ?_
  refine z_iload B dL_law_2585 1 rfl ?_
  refine z_iconst (v := 3) B dL_law_2587 rfl ?_
  refine z_iadd B dL_law_2588 ?_
  refine z_top (st1 := [.int 3, .ref b, .int a2, .int a1, .ref y]) (congrArg (fun w9 : Int32 => ([.int w9, .ref b, .int a2, .int a1, .ref y] : List Value)) (show (0 + 3 : Int32) = 3 by decide +kernel)) ?_
  refine z_sald B hX hbn (vin rfl) dL_law_2589 ?_
  refine z_top (st1 := [.int a3, .int a2, .int a1, .ref y]) (congrArg (fun w9 : Int32 => ([.int w9, .int a2, .int a1, .ref y] : List Value)) (show xs (3 : Int32).toNatClampNeg = a3 from hx3)) ?_
  refine z_aload_n B dL_law_2590 rfl 6 rfl ?_
  refine z_iload B dL_law_2591 1 rfl ?_
  refine z_iconst (v := 4) B dL_law_2593 rfl ?_
  refine z_iadd B dL_law_2594 ?_
  refine z_top (st1 := [.int 4, .ref b, .int a3, .int a2, .int a1, .ref y]) (congrArg (fun w9 : Int32 => ([.int w9, .ref b, .int a3, .int a2, .int a1, .ref y] : List Value)) (show (0 + 4 : Int32) = 4 by decide +kernel)) ?_
  refine z_sald B hX hbn (vin rfl) dL_law_2595 ?_
  refine z_top (st1 := [.int a4, .int a3, .int a2, .int a1, .ref y]) (congrArg (fun w9 : Int32 => ([.int w9, .int a3, .int a2, .int a1, .ref y] : List Value)) (show xs (4 : Int32).toNatClampNeg = a4 from hx4)) ?_
  refine z_aload_n B dL_law_2596 rfl 6 rfl ?_
  refine z_iload B dL_law_2597 1 rfl ?_
  refine z_iconst (v := 5) B dL_law_2599 rfl ?_
  refine z_iadd B dL_law_2600 ?_
  refine z_top (st1 := [.int 5, .ref b, .int a4, .int a3, .int a2, .int a1, .ref y]) (congrArg (fun w9 : Int32 => ([.int w9, .ref b, .int a4, .int a3, .int a2, .int a1, .ref y] : List Value)) (show (0 + 5 : Int32) = 5 by decide +kernel)) ?_
  refine z_sald B hX hbn (vin rfl) dL_law_2601 ?_
  refine z_top (st1 := [.int a5, .int a4, .int a3, .int a2, .int a1, .ref y]) (congrArg (fun w9 : Int32 => ([.int w9, .int a4, .int a3, .int a2, .int a1, .ref y] : List Value)) (show xs (5 : Int32).toNatClampNeg = a5 from hx5)) ?_
  refine z_callV (As := [.int a1, .int a2, .int a3, .int a4, .int a5]) (rest := []) B (m_X12_truth_x G l Φ sz1 y a1 a2 a3 a4 a5 hy_0 (Nat.le_trans hna (Nat.le_trans (Nat.le_add_right x 149) hxy)) Mhp) (cwV 5 B.1.2.2.2.2 gL_law_X12_truth rfl rfl rfl (by decide +kernel) ⟨Nat.le_of_ble_eq_true rfl, Nat.le_of_ble_eq_true rfl⟩) hy_0 rfl rfl rfl rfl (Nat.le_of_ble_eq_true rfl) dL_law_2602 ⟨Nat.le_of_ble_eq_true rfl, Nat.le_of_ble_eq_true rfl⟩ (fun v2 Φ2 sz2 st2 hp2 hs2 => ?_)
  obtain ⟨rfl, ⟨fs1, hy1, hk1⟩, fr1⟩ := hp2
  replace hs2 : st2 = [.long 0] := hs2
  subst st2
  refine z_lstore (lv' := [(7, .long 0), (6, .int 1), (5, .int 0), (4, .ref d), (3, .ref o), (2, .ref y), (1, .ref x), (0, .ref b)]) B dL_law_2605 (Nat.le_of_ble_eq_true rfl) rfl ?_
  refine z_aload_n B dL_law_2607 rfl 5 rfl ?_
  refine z_callV (As := []) (rest := []) B (m_thrown G l Φ2 sz2 y fs1 1 hy1 hk1) (cwV 0 B.1.2.2.2.2 gL_law_X12_thrown rfl rfl rfl (by decide +kernel) ⟨Nat.le_of_ble_eq_true rfl, Nat.le_of_ble_eq_true rfl⟩) hy1 rfl rfl rfl rfl (Nat.le_of_ble_eq_true rfl) dL_law_2608 ⟨Nat.le_of_ble_eq_true rfl, Nat.le_of_ble_eq_true rfl⟩ (fun v3 Φ3 sz3 st3 hp3 hs3 => ?_)
  obtain ⟨rfl, he2⟩ := hp3
  replace hs3 : st3 = [.int 1] := hs3
  subst st3
  rw [he2]
  refine z_iload B dL_law_2611 1 rfl ?_
  refine z_icmp_eq (tgt := 2618) B dL_law_2613 rfl (fun c_1 => ?_) (fun h9 => absurd (by decide) h9)
  refine z_iload B dL_law_2618 1 rfl ?_
  refine z_if_ne (tgt := 2634) B dL_law_2620 rfl (fun c_2 => ?_) (fun h9 => absurd h9 (by decide))
  refine z_goto (tgt := 2893) B dL_law_2634 rfl ?_
  refine z_lv [2, 3, 4, 5, 6, 7] rfl ?_
  exact hT _ _

set_option maxHeartbeats 4000000 in
set_option maxRecDepth 100000 in
theorem lc_55_0 {p9 : Program} {e9 : Env} {s9 : State} {m9 : MethodId} {a9 : Array Value} {w9 : List Frame} {t9 : Method} {k9 : Code} {Q9 : State → Prop} {nm9 : String} (G : EnvG) (l : Launch) (hl9 : l.stackTraces = false) (B : Bd p9 s9 m9 a9 t9 k9 G code 9 RL wsL_law ret nm9) (Φ : Hm) (sz : Nat) (b : Nat) (xs : Nat → Int32) (hX : va_X b 7 xs s9 s9.heap) (hbn : b < G.2.2.2) (x y o d : Nat)  (go : Nat → Int64) (gd : Nat → UInt64) (hna : G.2.2.2 ≤ x) (hxy : x + 149 ≤ y) (hyo : y + 26 ≤ o) (hyd : y + 26 ≤ d) (hod : o ≠ d) (hx_0 : Φ x = some (o_ 13 [.ref (x + 1), .ref (x + 3), .ref (x + 24), .ref (x + 46), .ref (x + 74), .ref (x + 80), .ref (x + 132), .ref (x + 121)])) (hx_121 : Φ (x + 121) = some (o_ 11 [.ref (x + 122), .ref (x + 123), .ref (x + 126), .ref (x + 129), .int 0])) (hy_0 : Φ y = some (o_ 14 [.int 0, .ref (y + 1), .ref (y + 2), .int 0, .int 1, .int 1, .int 0, .int 0, .ref (y + 3), .ref (y + 4), .int 0, .long 0, .ref (y + 5), .int 0, .int 0, .long 0, .long 0, .long 0, .long 0, .ref (y + 6), .ref (y + 7), .int 0, .ref (y + 8), .int 0, .ref (y + 9), .ref (y + 10), .int 0, .ref (y + 11), .ref (y + 12), .ref (y + 13), .ref (y + 14), .ref (y + 15), .ref (y + 16), .int 0, .long (-1), .ref (y + 17), .ref (y + 18), .ref (y + 19), .ref (y + 20), .ref (y + 21), .ref (y + 22), .int 0, .ref (y + 23), .ref (y + 24), .int 0, .ref (y + 25), .int 0, .int 0, .int 0, .int (-1), .int 0, .int 0, .int 0, .long 0])) (hco : Φ o = some (al_ G 1 go)) (hx1 : xs 1 = 0) (hT : ∀ (Φ1 : Hm) (sz1 : Nat), Z p9 l e9 room_1 s9 m9 a9 w9 t9 k9 Q9 G 9 2893 [(5, .int 0), (4, .ref d), (3, .ref o), (2, .ref y), (1, .ref x), (0, .ref b)] [] Φ1 sz1 178 20844) : Z p9 l e9 room_1 s9 m9 a9 w9 t9 k9 Q9 G 9 2637 [(5, .int 0), (4, .ref d), (3, .ref o), (2, .ref y), (1, .ref x), (0, .ref b)] [] Φ sz 177 20838 := by
  refine z_aload_n B dL_law_2637 rfl 4 rfl ?_
  refine z_aload_n B dL_law_2638 rfl 5 rfl ?_
  refine z_iload B dL_law_2639 0 rfl ?_
  refine z_iconst (v := 1) B dL_law_2641 rfl ?_
  refine z_iadd B dL_law_2642 ?_
  refine z_top (st1 := [.int 1, .ref b, .ref x]) (congrArg (fun w9 : Int32 => ([.int w9, .ref b, .ref x] : List Value)) (show (0 + 1 : Int32) = 1 by decide +kernel)) ?_
  refine z_sald B hX hbn (vin rfl) dL_law_2643 ?_
  refine z_top (st1 := [.int 0, .ref x]) (congrArg (fun w9 : Int32 => ([.int w9, .ref x] : List Value)) (show xs (1 : Int32).toNatClampNeg = 0 from hx1)) ?_
  refine z_aload_n B dL_law_2644 rfl 2 rfl ?_
  refine z_callSW (As := [.ref x, .int 0, .ref o]) (rest := []) B (w_covered_0 G l Φ sz x o go hx_0 hx_121 hco hna (Nat.le_trans hxy (Nat.le_trans (Nat.le_add_right y 26) hyo))) (vx_cwSW 3 B.1.2.2.2.2 gL_law_L_covered rfl rfl rfl (by decide +kernel) ⟨Nat.le_of_ble_eq_true rfl, Nat.le_of_ble_eq_true rfl⟩) rfl rfl (Nat.le_of_ble_eq_true rfl) dL_law_2645 ⟨Nat.le_of_ble_eq_true rfl, Nat.le_of_ble_eq_true rfl⟩ (fun v1 Φ1 sz1 st1 hp1 hs1 => ?_)
  obtain ⟨rfl, fr1, g1, ho1, hg1⟩ := hp1
  replace hs1 : st1 = [.int 0] := hs1
  subst st1
  refine z_istore (lv' := [(6, .int 0), (5, .int 0), (4, .ref d), (3, .ref o), (2, .ref y), (1, .ref x), (0, .ref b)]) B dL_law_2648 (Nat.le_of_ble_eq_true rfl) rfl ?_
  refine z_aload_n B dL_law_2650 rfl 4 rfl ?_
  refine z_aload_n B dL_law_2651 rfl 6 rfl ?_
  refine z_iload B dL_law_2652 1 rfl ?_
  refine z_iconst (v := 1) B dL_law_2654 rfl ?_
  refine z_iadd B dL_law_2655 ?_
  refine z_top (st1 := [.int 1, .ref b, .ref y]) (congrArg (fun w9 : Int32 => ([.int w9, .ref b, .ref y] : List Value)) (show (0 + 1 : Int32) = 1 by decide +kernel)) ?_
  refine z_sald B hX hbn (vin rfl) dL_law_2656 ?_
  refine z_top (st1 := [.int 0, .ref y]) (congrArg (fun w9 : Int32 => ([.int w9, .ref y] : List Value)) (show xs (1 : Int32).toNatClampNeg = 0 from hx1)) ?_
  have h_1 : Φ1 y = some (o_ 14 [.int 0, .ref (y + 1), .ref (y + 2), .int 0, .int 1, .int 1, .int 0, .int 0, .ref (y + 3), .ref (y + 4), .int 0, .long 0, .ref (y + 5), .int 0, .int 0, .long 0, .long 0, .long 0, .long 0, .ref (y + 6), .ref (y + 7), .int 0, .ref (y + 8), .int 0, .ref (y + 9), .ref (y + 10), .int 0, .ref (y + 11), .ref (y + 12), .ref (y + 13), .ref (y + 14), .ref (y + 15), .ref (y + 16), .int 0, .long (-1), .ref (y + 17), .ref (y + 18), .ref (y + 19), .ref (y + 20), .ref (y + 21), .ref (y + 22), .int 0, .ref (y + 23), .ref (y + 24), .int 0, .ref (y + 25), .int 0, .int 0, .int 0, .int (-1), .int 0, .int 0, .int 0, .long 0]) := ((fr1 y hxy (Nat.ne_of_lt (Nat.lt_of_lt_of_le (lt_off (x := y) (i := 0) (j := 26) rfl) hyo))).trans hy_0)
  refine z_callV (As := [.int 0]) (rest := []) B (m_X12_covered_0 G l Φ1 sz1 y h_1 (Nat.le_trans hna (Nat.le_trans (Nat.le_add_right x 149) hxy))) (cwV 1 B.1.2.2.2.2 gL_law_X12_covered rfl rfl rfl (by decide +kernel) ⟨Nat.le_of_ble_eq_true rfl, Nat.le_of_ble_eq_true rfl⟩) h_1 rfl rfl rfl rfl (Nat.le_of_ble_eq_true rfl) dL_law_2657 ⟨Nat.le_of_ble_eq_true rfl, Nat.le_of_ble_eq_true rfl⟩ (fun v2 Φ2 sz2 st2 hp2 hs2 => ?_)
  obtain ⟨rfl, ⟨fs1, hy1, hk1⟩, fr2⟩ := hp2
  replace hs2 : st2 = [.int 0] := hs2
  subst st2
  refine z_istore (lv' := [(7, .int 0), (6, .int 0), (5, .int 0), (4, .ref d), (3, .ref o), (2, .ref y), (1, .ref x), (0, .ref b)]) B dL_law_2660 (Nat.le_of_ble_eq_true rfl) rfl ?_
  refine z_aload_n B dL_law_2662 rfl 5 rfl ?_
  refine z_callV (As := []) (rest := []) B (m_thrown G l Φ2 sz2 y fs1 0 hy1 hk1) (cwV 0 B.1.2.2.2.2 gL_law_X12_thrown rfl rfl rfl (by decide +kernel) ⟨Nat.le_of_ble_eq_true rfl, Nat.le_of_ble_eq_true rfl⟩) hy1 rfl rfl rfl rfl (Nat.le_of_ble_eq_true rfl) dL_law_2663 ⟨Nat.le_of_ble_eq_true rfl, Nat.le_of_ble_eq_true rfl⟩ (fun v3 Φ3 sz3 st3 hp3 hs3 => ?_)
  obtain ⟨rfl, he1⟩ := hp3
  replace hs3 : st3 = [.int 0] := hs3
  subst st3
  rw [he1]
  refine z_iload B dL_law_2666 1 rfl ?_
  refine z_icmp_eq (tgt := 2673) B dL_law_2668 rfl (fun c_1 => ?_) (fun h9 => absurd (by decide) h9)
  refine z_iload B dL_law_2673 1 rfl ?_
  refine z_if_ne (tgt := 2690) B dL_law_2675 rfl (fun h9 => absurd (by decide) h9) (fun c_2 => ?_)
  refine z_aload_n B dL_law_2678 rfl 4 rfl ?_
  refine z_iconst (v := 0) B dL_law_2679 rfl ?_
  have h_2 : Φ2 o = some (al_ G 1 g1) := ((fr2 o hyo).trans ho1)
  refine z_lald B h_2 (vin rfl) dL_law_2680 ?_
  refine z_top (st1 := [.long 0]) (congrArg (fun w9 : Int64 => ([.long w9] : List Value)) (show g1 (0 : Int32).toNatClampNeg = 0 from hg1)) ?_
  refine z_iload B dL_law_2681 0 rfl ?_
  refine z_i2l (v := 0) B dL_law_2683 (by decide +kernel) ?_
  refine z_lcmp B dL_law_2684 ?_
  refine z_top (st1 := [.int 0]) (congrArg (fun w9 : Int32 => ([.int w9] : List Value)) (show (lg_cmp 0 0 : Int32) = 0 by decide +kernel)) ?_
  refine z_if_eq (tgt := 2690) B dL_law_2685 rfl (fun c_3 => ?_) (fun h9 => absurd (by decide) h9)
  refine z_goto (tgt := 2893) B dL_law_2690 rfl ?_
  refine z_lv [2, 3, 4, 5, 6, 7] rfl ?_
  refine z_widen (k := 178) (n := 20844) (Nat.le_of_ble_eq_true rfl) (Nat.le_of_ble_eq_true rfl) ?_
  exact hT _ _

set_option maxHeartbeats 4000000 in
set_option maxRecDepth 100000 in
theorem lc_55_1 {p9 : Program} {e9 : Env} {s9 : State} {m9 : MethodId} {a9 : Array Value} {w9 : List Frame} {t9 : Method} {k9 : Code} {Q9 : State → Prop} {nm9 : String} (G : EnvG) (l : Launch) (hl9 : l.stackTraces = false) (B : Bd p9 s9 m9 a9 t9 k9 G code 9 RL wsL_law ret nm9) (Φ : Hm) (sz : Nat) (b : Nat) (xs : Nat → Int32) (hX : va_X b 7 xs s9 s9.heap) (hbn : b < G.2.2.2) (x y o d : Nat)  (go : Nat → Int64) (gd : Nat → UInt64) (hna : G.2.2.2 ≤ x) (hxy : x + 149 ≤ y) (hyo : y + 26 ≤ o) (hyd : y + 26 ≤ d) (hod : o ≠ d) (hx_0 : Φ x = some (o_ 13 [.ref (x + 1), .ref (x + 3), .ref (x + 24), .ref (x + 46), .ref (x + 74), .ref (x + 80), .ref (x + 132), .ref (x + 121)])) (hx_121 : Φ (x + 121) = some (o_ 11 [.ref (x + 122), .ref (x + 123), .ref (x + 126), .ref (x + 129), .int 0])) (hy_0 : Φ y = some (o_ 14 [.int 0, .ref (y + 1), .ref (y + 2), .int 0, .int 1, .int 1, .int 0, .int 0, .ref (y + 3), .ref (y + 4), .int 0, .long 0, .ref (y + 5), .int 0, .int 0, .long 0, .long 0, .long 0, .long 0, .ref (y + 6), .ref (y + 7), .int 0, .ref (y + 8), .int 0, .ref (y + 9), .ref (y + 10), .int 0, .ref (y + 11), .ref (y + 12), .ref (y + 13), .ref (y + 14), .ref (y + 15), .ref (y + 16), .int 0, .long (-1), .ref (y + 17), .ref (y + 18), .ref (y + 19), .ref (y + 20), .ref (y + 21), .ref (y + 22), .int 0, .ref (y + 23), .ref (y + 24), .int 0, .ref (y + 25), .int 0, .int 0, .int 0, .int (-1), .int 0, .int 0, .int 0, .long 0])) (hco : Φ o = some (al_ G 1 go)) (hx1 : xs 1 = 1) (hT : ∀ (Φ1 : Hm) (sz1 : Nat), Z p9 l e9 room_1 s9 m9 a9 w9 t9 k9 Q9 G 9 2893 [(5, .int 0), (4, .ref d), (3, .ref o), (2, .ref y), (1, .ref x), (0, .ref b)] [] Φ1 sz1 178 20844) : Z p9 l e9 room_1 s9 m9 a9 w9 t9 k9 Q9 G 9 2637 [(5, .int 0), (4, .ref d), (3, .ref o), (2, .ref y), (1, .ref x), (0, .ref b)] [] Φ sz 177 20838 := by
  refine z_aload_n B dL_law_2637 rfl 4 rfl ?_
  refine z_aload_n B dL_law_2638 rfl 5 rfl ?_
  refine z_iload B dL_law_2639 0 rfl ?_
  refine z_iconst (v := 1) B dL_law_2641 rfl ?_
  refine z_iadd B dL_law_2642 ?_
  refine z_top (st1 := [.int 1, .ref b, .ref x]) (congrArg (fun w9 : Int32 => ([.int w9, .ref b, .ref x] : List Value)) (show (0 + 1 : Int32) = 1 by decide +kernel)) ?_
  refine z_sald B hX hbn (vin rfl) dL_law_2643 ?_
  refine z_top (st1 := [.int 1, .ref x]) (congrArg (fun w9 : Int32 => ([.int w9, .ref x] : List Value)) (show xs (1 : Int32).toNatClampNeg = 1 from hx1)) ?_
  refine z_aload_n B dL_law_2644 rfl 2 rfl ?_
  refine z_callSW (As := [.ref x, .int 1, .ref o]) (rest := []) B (w_covered_1 G l Φ sz x o go hx_0 hx_121 hco hna (Nat.le_trans hxy (Nat.le_trans (Nat.le_add_right y 26) hyo))) (vx_cwSW 3 B.1.2.2.2.2 gL_law_L_covered rfl rfl rfl (by decide +kernel) ⟨Nat.le_of_ble_eq_true rfl, Nat.le_of_ble_eq_true rfl⟩) rfl rfl (Nat.le_of_ble_eq_true rfl) dL_law_2645 ⟨Nat.le_of_ble_eq_true rfl, Nat.le_of_ble_eq_true rfl⟩ (fun v1 Φ1 sz1 st1 hp1 hs1 => ?_)
  obtain ⟨rfl, fr1, g1, ho1, hg1⟩ := hp1
  replace hs1 : st1 = [.int 0] := hs1
  subst st1
  refine z_istore (lv' := [(6, .int 0), (5, .int 0), (4, .ref d), (3, .ref o), (2, .ref y), (1, .ref x), (0, .ref b)]) B dL_law_2648 (Nat.le_of_ble_eq_true rfl) rfl ?_
  refine z_aload_n B dL_law_2650 rfl 4 rfl ?_
  refine z_aload_n B dL_law_2651 rfl 6 rfl ?_
  refine z_iload B dL_law_2652 1 rfl ?_
  refine z_iconst (v := 1) B dL_law_2654 rfl ?_
  refine z_iadd B dL_law_2655 ?_
  refine z_top (st1 := [.int 1, .ref b, .ref y]) (congrArg (fun w9 : Int32 => ([.int w9, .ref b, .ref y] : List Value)) (show (0 + 1 : Int32) = 1 by decide +kernel)) ?_
  refine z_sald B hX hbn (vin rfl) dL_law_2656 ?_
  refine z_top (st1 := [.int 1, .ref y]) (congrArg (fun w9 : Int32 => ([.int w9, .ref y] : List Value)) (show xs (1 : Int32).toNatClampNeg = 1 from hx1)) ?_
  have h_1 : Φ1 y = some (o_ 14 [.int 0, .ref (y + 1), .ref (y + 2), .int 0, .int 1, .int 1, .int 0, .int 0, .ref (y + 3), .ref (y + 4), .int 0, .long 0, .ref (y + 5), .int 0, .int 0, .long 0, .long 0, .long 0, .long 0, .ref (y + 6), .ref (y + 7), .int 0, .ref (y + 8), .int 0, .ref (y + 9), .ref (y + 10), .int 0, .ref (y + 11), .ref (y + 12), .ref (y + 13), .ref (y + 14), .ref (y + 15), .ref (y + 16), .int 0, .long (-1), .ref (y + 17), .ref (y + 18), .ref (y + 19), .ref (y + 20), .ref (y + 21), .ref (y + 22), .int 0, .ref (y + 23), .ref (y + 24), .int 0, .ref (y + 25), .int 0, .int 0, .int 0, .int (-1), .int 0, .int 0, .int 0, .long 0]) := ((fr1 y hxy (Nat.ne_of_lt (Nat.lt_of_lt_of_le (lt_off (x := y) (i := 0) (j := 26) rfl) hyo))).trans hy_0)
  refine z_callV (As := [.int 1]) (rest := []) B (m_X12_covered_1 G l Φ1 sz1 y h_1 (Nat.le_trans hna (Nat.le_trans (Nat.le_add_right x 149) hxy))) (cwV 1 B.1.2.2.2.2 gL_law_X12_covered rfl rfl rfl (by decide +kernel) ⟨Nat.le_of_ble_eq_true rfl, Nat.le_of_ble_eq_true rfl⟩) h_1 rfl rfl rfl rfl (Nat.le_of_ble_eq_true rfl) dL_law_2657 ⟨Nat.le_of_ble_eq_true rfl, Nat.le_of_ble_eq_true rfl⟩ (fun v2 Φ2 sz2 st2 hp2 hs2 => ?_)
  obtain ⟨rfl, ⟨fs1, hy1, hk1⟩, fr2⟩ := hp2
  replace hs2 : st2 = [.int 0] := hs2
  subst st2
  refine z_istore (lv' := [(7, .int 0), (6, .int 0), (5, .int 0), (4, .ref d), (3, .ref o), (2, .ref y), (1, .ref x), (0, .ref b)]) B dL_law_2660 (Nat.le_of_ble_eq_true rfl) rfl ?_
  refine z_aload_n B dL_law_2662 rfl 5 rfl ?_
  refine z_callV (As := []) (rest := []) B (m_thrown G l Φ2 sz2 y fs1 0 hy1 hk1) (cwV 0 B.1.2.2.2.2 gL_law_X12_thrown rfl rfl rfl (by decide +kernel) ⟨Nat.le_of_ble_eq_true rfl, Nat.le_of_ble_eq_true rfl⟩) hy1 rfl rfl rfl rfl (Nat.le_of_ble_eq_true rfl) dL_law_2663 ⟨Nat.le_of_ble_eq_true rfl, Nat.le_of_ble_eq_true rfl⟩ (fun v3 Φ3 sz3 st3 hp3 hs3 => ?_)
  obtain ⟨rfl, he1⟩ := hp3
  replace hs3 : st3 = [.int 0] := hs3
  subst st3
  rw [he1]
  refine z_iload B dL_law_2666 1 rfl ?_
  refine z_icmp_eq (tgt := 2673) B dL_law_2668 rfl (fun c_1 => ?_) (fun h9 => absurd (by decide) h9)
  refine z_iload B dL_law_2673 1 rfl ?_
  refine z_if_ne (tgt := 2690) B dL_law_2675 rfl (fun h9 => absurd (by decide) h9) (fun c_2 => ?_)
  refine z_aload_n B dL_law_2678 rfl 4 rfl ?_
  refine z_iconst (v := 0) B dL_law_2679 rfl ?_
  have h_2 : Φ2 o = some (al_ G 1 g1) := ((fr2 o hyo).trans ho1)
  refine z_lald B h_2 (vin rfl) dL_law_2680 ?_
  refine z_top (st1 := [.long 0]) (congrArg (fun w9 : Int64 => ([.long w9] : List Value)) (show g1 (0 : Int32).toNatClampNeg = 0 from hg1)) ?_
  refine z_iload B dL_law_2681 0 rfl ?_
  refine z_i2l (v := 0) B dL_law_2683 (by decide +kernel) ?_
  refine z_lcmp B dL_law_2684 ?_
  refine z_top (st1 := [.int 0]) (congrArg (fun w9 : Int32 => ([.int w9] : List Value)) (show (lg_cmp 0 0 : Int32) = 0 by decide +kernel)) ?_
  refine z_if_eq (tgt := 2690) B dL_law_2685 rfl (fun c_3 => ?_) (fun h9 => absurd (by decide) h9)
  refine z_goto (tgt := 2893) B dL_law_2690 rfl ?_
  refine z_lv [2, 3, 4, 5, 6, 7] rfl ?_
  refine z_widen (k := 178) (n := 20844) (Nat.le_of_ble_eq_true rfl) (Nat.le_of_ble_eq_true rfl) ?_
  exact hT _ _

set_option maxHeartbeats 4000000 in
set_option maxRecDepth 100000 in
theorem lc_55_x {p9 : Program} {e9 : Env} {s9 : State} {m9 : MethodId} {a9 : Array Value} {w9 : List Frame} {t9 : Method} {k9 : Code} {Q9 : State → Prop} {nm9 : String} (G : EnvG) (l : Launch) (hl9 : l.stackTraces = false) (B : Bd p9 s9 m9 a9 t9 k9 G code 9 RL wsL_law ret nm9) (Φ : Hm) (sz : Nat) (b : Nat) (xs : Nat → Int32) (hX : va_X b 7 xs s9 s9.heap) (hbn : b < G.2.2.2) (x y o d : Nat) (a1 : Int32) (go : Nat → Int64) (gd : Nat → UInt64) (hna : G.2.2.2 ≤ x) (hxy : x + 149 ≤ y) (hyo : y + 26 ≤ o) (hyd : y + 26 ≤ d) (hod : o ≠ d) (hx_0 : Φ x = some (o_ 13 [.ref (x + 1), .ref (x + 3), .ref (x + 24), .ref (x + 46), .ref (x + 74), .ref (x + 80), .ref (x + 132), .ref (x + 121)])) (hy_0 : Φ y = some (o_ 14 [.int 0, .ref (y + 1), .ref (y + 2), .int 0, .int 1, .int 1, .int 0, .int 0, .ref (y + 3), .ref (y + 4), .int 0, .long 0, .ref (y + 5), .int 0, .int 0, .long 0, .long 0, .long 0, .long 0, .ref (y + 6), .ref (y + 7), .int 0, .ref (y + 8), .int 0, .ref (y + 9), .ref (y + 10), .int 0, .ref (y + 11), .ref (y + 12), .ref (y + 13), .ref (y + 14), .ref (y + 15), .ref (y + 16), .int 0, .long (-1), .ref (y + 17), .ref (y + 18), .ref (y + 19), .ref (y + 20), .ref (y + 21), .ref (y + 22), .int 0, .ref (y + 23), .ref (y + 24), .int 0, .ref (y + 25), .int 0, .int 0, .int 0, .int (-1), .int 0, .int 0, .int 0, .long 0])) (hx1 : xs 1 = a1) (Fhw : ¬ (a1 = 0 ∨ a1 = 1)) (Mhp : ¬ inP a1.toInt64 0 1) (hT : ∀ (Φ1 : Hm) (sz1 : Nat), Z p9 l e9 room_1 s9 m9 a9 w9 t9 k9 Q9 G 9 2893 [(5, .int 0), (4, .ref d), (3, .ref o), (2, .ref y), (1, .ref x), (0, .ref b)] [] Φ1 sz1 178 20844) : Z p9 l e9 room_1 s9 m9 a9 w9 t9 k9 Q9 G 9 2637 [(5, .int 0), (4, .ref d), (3, .ref o), (2, .ref y), (1, .ref x), (0, .ref b)] [] Φ sz 177 20838 := by
  refine z_aload_n B dL_law_2637 rfl 4 rfl ?_
  refine z_aload_n B dL_law_2638 rfl 5 rfl ?_
  refine z_iload B dL_law_2639 0 rfl ?_
  refine z_iconst (v := 1) B dL_law_2641 rfl ?_
  refine z_iadd B dL_law_2642 ?_
  refine z_top (st1 := [.int 1, .ref b, .ref x]) (congrArg (fun w9 : Int32 => ([.int w9, .ref b, .ref x] : List Value)) (show (0 + 1 : Int32) = 1 by decide +kernel)) ?_
  refine z_sald B hX hbn (vin rfl) dL_law_2643 ?_
  refine z_top (st1 := [.int a1, .ref x]) (congrArg (fun w9 : Int32 => ([.int w9, .ref x] : List Value)) (show xs (1 : Int32).toNatClampNeg = a1 from hx1)) ?_
  refine z_aload_n B dL_law_2644 rfl 2 rfl ?_
  refine z_callSW (As := [.ref x, .int a1, .ref o]) (rest := []) B (w_covered_x G l hl9 Φ sz x o a1 hx_0 Fhw) (vx_cwSW 3 B.1.2.2.2.2 gL_law_L_covered rfl rfl rfl (by decide +kernel) ⟨Nat.le_of_ble_eq_true rfl, Nat.le_of_ble_eq_true rfl⟩) rfl rfl (Nat.le_of_ble_eq_true rfl) dL_law_2645 ⟨Nat.le_of_ble_eq_true rfl, Nat.le_of_ble_eq_true rfl⟩ (fun v1 Φ1 sz1 st1 hp1 hs1 => ?_)
  obtain ⟨rfl, he1⟩ := hp1
  replace hs1 : st1 = [.int 1] := hs1
  subst st1
  rw [he1]
  refine z_istore (lv' := [(6, .int 1), (5, .int 0), (4, .ref d), (3, .ref o), (2, .ref y), (1, .ref x), (0, .ref b)]) B dL_law_2648 (Nat.le_of_ble_eq_true rfl) rfl ?_
  refine z_aload_n B dL_law_2650 rfl 4 rfl ?_
  refine z_aload_n B dL_law_2651 rfl 6 rfl ?_
  refine z_iload B dL_law_2652 1 rfl ?_
  refine z_iconst (v := 1) B dL_law_2654 rfl ?_
  refine z_iadd B dL_law_2655 ?_
  refine z_top (st1 := [.int 1, .ref b, .ref y]) (congrArg (fun w9 : Int32 => ([.int w9, .ref b, .ref y] : List Value)) (show (0 + 1 : Int32) = 1 by decide +kernel)) ?_
  refine z_sald B hX hbn (vin rfl) dL_law_2656 ?_
  refine z_top (st1 := [.int a1, .ref y]) (congrArg (fun w9 : Int32 => ([.int w9, .ref y] : List Value)) (show xs (1 : Int32).toNatClampNeg = a1 from hx1)) ?_
  refine z_callV (As := [.int a1]) (rest := []) B (m_X12_covered_x G l Φ sz1 y a1 hy_0 (Nat.le_trans hna (Nat.le_trans (Nat.le_add_right x 149) hxy)) Mhp) (cwV 1 B.1.2.2.2.2 gL_law_X12_covered rfl rfl rfl (by decide +kernel) ⟨Nat.le_of_ble_eq_true rfl, Nat.le_of_ble_eq_true rfl⟩) hy_0 rfl rfl rfl rfl (Nat.le_of_ble_eq_true rfl) dL_law_2657 ⟨Nat.le_of_ble_eq_true rfl, Nat.le_of_ble_eq_true rfl⟩ (fun v2 Φ2 sz2 st2 hp2 hs2 => ?_)
  obtain ⟨rfl, ⟨fs1, hy1, hk1⟩, fr1⟩ := hp2
  replace hs2 : st2 = [.int 0] := hs2
  subst st2
  refine z_istore (lv' := [(7, .int 0), (6, .int 1), (5, .int 0), (4, .ref d), (3, .ref o), (2, .ref y), (1, .ref x), (0, .ref b)]) B dL_law_2660 (Nat.le_of_ble_eq_true rfl) rfl ?_
  refine z_aload_n B dL_law_2662 rfl 5 rfl ?_
  refine z_callV (As := []) (rest := []) B (m_thrown G l Φ2 sz2 y fs1 1 hy1 hk1) (cwV 0 B.1.2.2.2.2 gL_law_X12_thrown rfl rfl rfl (by decide +kernel) ⟨Nat.le_of_ble_eq_true rfl, Nat.le_of_ble_eq_true rfl⟩) hy1 rfl rfl rfl rfl (Nat.le_of_ble_eq_true rfl) dL_law_2663 ⟨Nat.le_of_ble_eq_true rfl, Nat.le_of_ble_eq_true rfl⟩ (fun v3 Φ3 sz3 st3 hp3 hs3 => ?_)
  obtain ⟨rfl, he2⟩ := hp3
  replace hs3 : st3 = [.int 1] := hs3
  subst st3
  rw [he2]
  refine z_iload B dL_law_2666 1 rfl ?_
  refine z_icmp_eq (tgt := 2673) B dL_law_2668 rfl (fun c_1 => ?_) (fun h9 => absurd (by decide) h9)
  refine z_iload B dL_law_2673 1 rfl ?_
  refine z_if_ne (tgt := 2690) B dL_law_2675 rfl (fun c_2 => ?_) (fun h9 => absurd h9 (by decide))
  refine z_goto (tgt := 2893) B dL_law_2690 rfl ?_
  refine z_lv [2, 3, 4, 5, 6, 7] rfl ?_
  exact hT _ _

set_option maxHeartbeats 4000000 in
set_option maxRecDepth 100000 in
theorem lc_56_0 {p9 : Program} {e9 : Env} {s9 : State} {m9 : MethodId} {a9 : Array Value} {w9 : List Frame} {t9 : Method} {k9 : Code} {Q9 : State → Prop} {nm9 : String} (G : EnvG) (l : Launch) (hl9 : l.stackTraces = false) (B : Bd p9 s9 m9 a9 t9 k9 G code 9 RL wsL_law ret nm9) (Φ : Hm) (sz : Nat) (b : Nat) (xs : Nat → Int32) (hX : va_X b 7 xs s9 s9.heap) (hbn : b < G.2.2.2) (x y o d : Nat)  (go : Nat → Int64) (gd : Nat → UInt64) (hna : G.2.2.2 ≤ x) (hxy : x + 149 ≤ y) (hyo : y + 26 ≤ o) (hyd : y + 26 ≤ d) (hod : o ≠ d) (hx_0 : Φ x = some (o_ 13 [.ref (x + 1), .ref (x + 3), .ref (x + 24), .ref (x + 46), .ref (x + 74), .ref (x + 80), .ref (x + 132), .ref (x + 121)])) (hx_121 : Φ (x + 121) = some (o_ 11 [.ref (x + 122), .ref (x + 123), .ref (x + 126), .ref (x + 129), .int 0])) (hy_0 : Φ y = some (o_ 14 [.int 0, .ref (y + 1), .ref (y + 2), .int 0, .int 1, .int 1, .int 0, .int 0, .ref (y + 3), .ref (y + 4), .int 0, .long 0, .ref (y + 5), .int 0, .int 0, .long 0, .long 0, .long 0, .long 0, .ref (y + 6), .ref (y + 7), .int 0, .ref (y + 8), .int 0, .ref (y + 9), .ref (y + 10), .int 0, .ref (y + 11), .ref (y + 12), .ref (y + 13), .ref (y + 14), .ref (y + 15), .ref (y + 16), .int 0, .long (-1), .ref (y + 17), .ref (y + 18), .ref (y + 19), .ref (y + 20), .ref (y + 21), .ref (y + 22), .int 0, .ref (y + 23), .ref (y + 24), .int 0, .ref (y + 25), .int 0, .int 0, .int 0, .int (-1), .int 0, .int 0, .int 0, .long 0])) (hco : Φ o = some (al_ G 1 go)) (hx1 : xs 1 = 0) (hT : ∀ (Φ1 : Hm) (sz1 : Nat), Z p9 l e9 room_1 s9 m9 a9 w9 t9 k9 Q9 G 9 2893 [(5, .int 0), (4, .ref d), (3, .ref o), (2, .ref y), (1, .ref x), (0, .ref b)] [] Φ1 sz1 178 20844) : Z p9 l e9 room_1 s9 m9 a9 w9 t9 k9 Q9 G 9 2693 [(5, .int 0), (4, .ref d), (3, .ref o), (2, .ref y), (1, .ref x), (0, .ref b)] [] Φ sz 177 20838 := by
  refine z_aload_n B dL_law_2693 rfl 4 rfl ?_
  refine z_aload_n B dL_law_2694 rfl 5 rfl ?_
  refine z_iload B dL_law_2695 0 rfl ?_
  refine z_iconst (v := 1) B dL_law_2697 rfl ?_
  refine z_iadd B dL_law_2698 ?_
  refine z_top (st1 := [.int 1, .ref b, .ref x]) (congrArg (fun w9 : Int32 => ([.int w9, .ref b, .ref x] : List Value)) (show (0 + 1 : Int32) = 1 by decide +kernel)) ?_
  refine z_sald B hX hbn (vin rfl) dL_law_2699 ?_
  refine z_top (st1 := [.int 0, .ref x]) (congrArg (fun w9 : Int32 => ([.int w9, .ref x] : List Value)) (show xs (1 : Int32).toNatClampNeg = 0 from hx1)) ?_
  refine z_aload_n B dL_law_2700 rfl 2 rfl ?_
  refine z_callSW (As := [.ref x, .int 0, .ref o]) (rest := []) B (w_totalEstimate_0 G l Φ sz x o go hx_0 hx_121 hco hna (Nat.le_trans hxy (Nat.le_trans (Nat.le_add_right y 26) hyo))) (vx_cwSW 3 B.1.2.2.2.2 gL_law_L_totalEstimate rfl rfl rfl (by decide +kernel) ⟨Nat.le_of_ble_eq_true rfl, Nat.le_of_ble_eq_true rfl⟩) rfl rfl (Nat.le_of_ble_eq_true rfl) dL_law_2701 ⟨Nat.le_of_ble_eq_true rfl, Nat.le_of_ble_eq_true rfl⟩ (fun v1 Φ1 sz1 st1 hp1 hs1 => ?_)
  obtain ⟨rfl, fr1, g1, ho1, hg1⟩ := hp1
  replace hs1 : st1 = [.int 0] := hs1
  subst st1
  refine z_istore (lv' := [(6, .int 0), (5, .int 0), (4, .ref d), (3, .ref o), (2, .ref y), (1, .ref x), (0, .ref b)]) B dL_law_2704 (Nat.le_of_ble_eq_true rfl) rfl ?_
  refine z_aload_n B dL_law_2706 rfl 4 rfl ?_
  refine z_aload_n B dL_law_2707 rfl 6 rfl ?_
  refine z_iload B dL_law_2708 1 rfl ?_
  refine z_iconst (v := 1) B dL_law_2710 rfl ?_
  refine z_iadd B dL_law_2711 ?_
  refine z_top (st1 := [.int 1, .ref b, .ref y]) (congrArg (fun w9 : Int32 => ([.int w9, .ref b, .ref y] : List Value)) (show (0 + 1 : Int32) = 1 by decide +kernel)) ?_
  refine z_sald B hX hbn (vin rfl) dL_law_2712 ?_
  refine z_top (st1 := [.int 0, .ref y]) (congrArg (fun w9 : Int32 => ([.int w9, .ref y] : List Value)) (show xs (1 : Int32).toNatClampNeg = 0 from hx1)) ?_
  have h_1 : Φ1 y = some (o_ 14 [.int 0, .ref (y + 1), .ref (y + 2), .int 0, .int 1, .int 1, .int 0, .int 0, .ref (y + 3), .ref (y + 4), .int 0, .long 0, .ref (y + 5), .int 0, .int 0, .long 0, .long 0, .long 0, .long 0, .ref (y + 6), .ref (y + 7), .int 0, .ref (y + 8), .int 0, .ref (y + 9), .ref (y + 10), .int 0, .ref (y + 11), .ref (y + 12), .ref (y + 13), .ref (y + 14), .ref (y + 15), .ref (y + 16), .int 0, .long (-1), .ref (y + 17), .ref (y + 18), .ref (y + 19), .ref (y + 20), .ref (y + 21), .ref (y + 22), .int 0, .ref (y + 23), .ref (y + 24), .int 0, .ref (y + 25), .int 0, .int 0, .int 0, .int (-1), .int 0, .int 0, .int 0, .long 0]) := ((fr1 y hxy (Nat.ne_of_lt (Nat.lt_of_lt_of_le (lt_off (x := y) (i := 0) (j := 26) rfl) hyo))).trans hy_0)
  refine z_callV (As := [.int 0]) (rest := []) B (m_X12_totalEstimate_0 G l Φ1 sz1 y h_1 (Nat.le_trans hna (Nat.le_trans (Nat.le_add_right x 149) hxy))) (cwV 1 B.1.2.2.2.2 gL_law_X12_totalEstimate rfl rfl rfl (by decide +kernel) ⟨Nat.le_of_ble_eq_true rfl, Nat.le_of_ble_eq_true rfl⟩) h_1 rfl rfl rfl rfl (Nat.le_of_ble_eq_true rfl) dL_law_2713 ⟨Nat.le_of_ble_eq_true rfl, Nat.le_of_ble_eq_true rfl⟩ (fun v2 Φ2 sz2 st2 hp2 hs2 => ?_)
  obtain ⟨rfl, ⟨fs1, hy1, hk1⟩, fr2⟩ := hp2
  replace hs2 : st2 = [.long 0] := hs2
  subst st2
  refine z_lstore (lv' := [(7, .long 0), (6, .int 0), (5, .int 0), (4, .ref d), (3, .ref o), (2, .ref y), (1, .ref x), (0, .ref b)]) B dL_law_2716 (Nat.le_of_ble_eq_true rfl) rfl ?_
  refine z_aload_n B dL_law_2718 rfl 5 rfl ?_
  refine z_callV (As := []) (rest := []) B (m_thrown G l Φ2 sz2 y fs1 0 hy1 hk1) (cwV 0 B.1.2.2.2.2 gL_law_X12_thrown rfl rfl rfl (by decide +kernel) ⟨Nat.le_of_ble_eq_true rfl, Nat.le_of_ble_eq_true rfl⟩) hy1 rfl rfl rfl rfl (Nat.le_of_ble_eq_true rfl) dL_law_2719 ⟨Nat.le_of_ble_eq_true rfl, Nat.le_of_ble_eq_true rfl⟩ (fun v3 Φ3 sz3 st3 hp3 hs3 => ?_)
  obtain ⟨rfl, he1⟩ := hp3
  replace hs3 : st3 = [.int 0] := hs3
  subst st3
  rw [he1]
  refine z_iload B dL_law_2722 1 rfl ?_
  refine z_icmp_eq (tgt := 2729) B dL_law_2724 rfl (fun c_1 => ?_) (fun h9 => absurd (by decide) h9)
  refine z_iload B dL_law_2729 1 rfl ?_
  refine z_if_ne (tgt := 2745) B dL_law_2731 rfl (fun h9 => absurd (by decide) h9) (fun c_2 => ?_)
  refine z_aload_n B dL_law_2734 rfl 4 rfl ?_
  refine z_iconst (v := 0) B dL_law_2735 rfl ?_
  have h_2 : Φ2 o = some (al_ G 1 g1) := ((fr2 o hyo).trans ho1)
  refine z_lald B h_2 (vin rfl) dL_law_2736 ?_
  refine z_top (st1 := [.long 0]) (congrArg (fun w9 : Int64 => ([.long w9] : List Value)) (show g1 (0 : Int32).toNatClampNeg = 0 from hg1)) ?_
  refine z_lload B dL_law_2737 0 rfl ?_
  refine z_lcmp B dL_law_2739 ?_
  refine z_top (st1 := [.int 0]) (congrArg (fun w9 : Int32 => ([.int w9] : List Value)) (show (lg_cmp 0 0 : Int32) = 0 by decide +kernel)) ?_
  refine z_if_eq (tgt := 2745) B dL_law_2740 rfl (fun c_3 => ?_) (fun h9 => absurd (by decide) h9)
  refine z_goto (tgt := 2893) B dL_law_2745 rfl ?_
  refine z_lv [2, 3, 4, 5, 6, 7] rfl ?_
  refine z_widen (k := 178) (n := 20844) (Nat.le_of_ble_eq_true rfl) (Nat.le_of_ble_eq_true rfl) ?_
  exact hT _ _

set_option maxHeartbeats 4000000 in
set_option maxRecDepth 100000 in
theorem lc_56_1 {p9 : Program} {e9 : Env} {s9 : State} {m9 : MethodId} {a9 : Array Value} {w9 : List Frame} {t9 : Method} {k9 : Code} {Q9 : State → Prop} {nm9 : String} (G : EnvG) (l : Launch) (hl9 : l.stackTraces = false) (B : Bd p9 s9 m9 a9 t9 k9 G code 9 RL wsL_law ret nm9) (Φ : Hm) (sz : Nat) (b : Nat) (xs : Nat → Int32) (hX : va_X b 7 xs s9 s9.heap) (hbn : b < G.2.2.2) (x y o d : Nat)  (go : Nat → Int64) (gd : Nat → UInt64) (hna : G.2.2.2 ≤ x) (hxy : x + 149 ≤ y) (hyo : y + 26 ≤ o) (hyd : y + 26 ≤ d) (hod : o ≠ d) (hx_0 : Φ x = some (o_ 13 [.ref (x + 1), .ref (x + 3), .ref (x + 24), .ref (x + 46), .ref (x + 74), .ref (x + 80), .ref (x + 132), .ref (x + 121)])) (hx_121 : Φ (x + 121) = some (o_ 11 [.ref (x + 122), .ref (x + 123), .ref (x + 126), .ref (x + 129), .int 0])) (hy_0 : Φ y = some (o_ 14 [.int 0, .ref (y + 1), .ref (y + 2), .int 0, .int 1, .int 1, .int 0, .int 0, .ref (y + 3), .ref (y + 4), .int 0, .long 0, .ref (y + 5), .int 0, .int 0, .long 0, .long 0, .long 0, .long 0, .ref (y + 6), .ref (y + 7), .int 0, .ref (y + 8), .int 0, .ref (y + 9), .ref (y + 10), .int 0, .ref (y + 11), .ref (y + 12), .ref (y + 13), .ref (y + 14), .ref (y + 15), .ref (y + 16), .int 0, .long (-1), .ref (y + 17), .ref (y + 18), .ref (y + 19), .ref (y + 20), .ref (y + 21), .ref (y + 22), .int 0, .ref (y + 23), .ref (y + 24), .int 0, .ref (y + 25), .int 0, .int 0, .int 0, .int (-1), .int 0, .int 0, .int 0, .long 0])) (hco : Φ o = some (al_ G 1 go)) (hx1 : xs 1 = 1) (hT : ∀ (Φ1 : Hm) (sz1 : Nat), Z p9 l e9 room_1 s9 m9 a9 w9 t9 k9 Q9 G 9 2893 [(5, .int 0), (4, .ref d), (3, .ref o), (2, .ref y), (1, .ref x), (0, .ref b)] [] Φ1 sz1 178 20844) : Z p9 l e9 room_1 s9 m9 a9 w9 t9 k9 Q9 G 9 2693 [(5, .int 0), (4, .ref d), (3, .ref o), (2, .ref y), (1, .ref x), (0, .ref b)] [] Φ sz 177 20838 := by
  refine z_aload_n B dL_law_2693 rfl 4 rfl ?_
  refine z_aload_n B dL_law_2694 rfl 5 rfl ?_
  refine z_iload B dL_law_2695 0 rfl ?_
  refine z_iconst (v := 1) B dL_law_2697 rfl ?_
  refine z_iadd B dL_law_2698 ?_
  refine z_top (st1 := [.int 1, .ref b, .ref x]) (congrArg (fun w9 : Int32 => ([.int w9, .ref b, .ref x] : List Value)) (show (0 + 1 : Int32) = 1 by decide +kernel)) ?_
  refine z_sald B hX hbn (vin rfl) dL_law_2699 ?_
  refine z_top (st1 := [.int 1, .ref x]) (congrArg (fun w9 : Int32 => ([.int w9, .ref x] : List Value)) (show xs (1 : Int32).toNatClampNeg = 1 from hx1)) ?_
  refine z_aload_n B dL_law_2700 rfl 2 rfl ?_
  refine z_callSW (As := [.ref x, .int 1, .ref o]) (rest := []) B (w_totalEstimate_1 G l Φ sz x o go hx_0 hx_121 hco hna (Nat.le_trans hxy (Nat.le_trans (Nat.le_add_right y 26) hyo))) (vx_cwSW 3 B.1.2.2.2.2 gL_law_L_totalEstimate rfl rfl rfl (by decide +kernel) ⟨Nat.le_of_ble_eq_true rfl, Nat.le_of_ble_eq_true rfl⟩) rfl rfl (Nat.le_of_ble_eq_true rfl) dL_law_2701 ⟨Nat.le_of_ble_eq_true rfl, Nat.le_of_ble_eq_true rfl⟩ (fun v1 Φ1 sz1 st1 hp1 hs1 => ?_)
  obtain ⟨rfl, fr1, g1, ho1, hg1⟩ := hp1
  replace hs1 : st1 = [.int 0] := hs1
  subst st1
  refine z_istore (lv' := [(6, .int 0), (5, .int 0), (4, .ref d), (3, .ref o), (2, .ref y), (1, .ref x), (0, .ref b)]) B dL_law_2704 (Nat.le_of_ble_eq_true rfl) rfl ?_
  refine z_aload_n B dL_law_2706 rfl 4 rfl ?_
  refine z_aload_n B dL_law_2707 rfl 6 rfl ?_
  refine z_iload B dL_law_2708 1 rfl ?_
  refine z_iconst (v := 1) B dL_law_2710 rfl ?_
  refine z_iadd B dL_law_2711 ?_
  refine z_top (st1 := [.int 1, .ref b, .ref y]) (congrArg (fun w9 : Int32 => ([.int w9, .ref b, .ref y] : List Value)) (show (0 + 1 : Int32) = 1 by decide +kernel)) ?_
  refine z_sald B hX hbn (vin rfl) dL_law_2712 ?_
  refine z_top (st1 := [.int 1, .ref y]) (congrArg (fun w9 : Int32 => ([.int w9, .ref y] : List Value)) (show xs (1 : Int32).toNatClampNeg = 1 from hx1)) ?_
  have h_1 : Φ1 y = some (o_ 14 [.int 0, .ref (y + 1), .ref (y + 2), .int 0, .int 1, .int 1, .int 0, .int 0, .ref (y + 3), .ref (y + 4), .int 0, .long 0, .ref (y + 5), .int 0, .int 0, .long 0, .long 0, .long 0, .long 0, .ref (y + 6), .ref (y + 7), .int 0, .ref (y + 8), .int 0, .ref (y + 9), .ref (y + 10), .int 0, .ref (y + 11), .ref (y + 12), .ref (y + 13), .ref (y + 14), .ref (y + 15), .ref (y + 16), .int 0, .long (-1), .ref (y + 17), .ref (y + 18), .ref (y + 19), .ref (y + 20), .ref (y + 21), .ref (y + 22), .int 0, .ref (y + 23), .ref (y + 24), .int 0, .ref (y + 25), .int 0, .int 0, .int 0, .int (-1), .int 0, .int 0, .int 0, .long 0]) := ((fr1 y hxy (Nat.ne_of_lt (Nat.lt_of_lt_of_le (lt_off (x := y) (i := 0) (j := 26) rfl) hyo))).trans hy_0)
  refine z_callV (As := [.int 1]) (rest := []) B (m_X12_totalEstimate_1 G l Φ1 sz1 y h_1 (Nat.le_trans hna (Nat.le_trans (Nat.le_add_right x 149) hxy))) (cwV 1 B.1.2.2.2.2 gL_law_X12_totalEstimate rfl rfl rfl (by decide +kernel) ⟨Nat.le_of_ble_eq_true rfl, Nat.le_of_ble_eq_true rfl⟩) h_1 rfl rfl rfl rfl (Nat.le_of_ble_eq_true rfl) dL_law_2713 ⟨Nat.le_of_ble_eq_true rfl, Nat.le_of_ble_eq_true rfl⟩ (fun v2 Φ2 sz2 st2 hp2 hs2 => ?_)
  obtain ⟨rfl, ⟨fs1, hy1, hk1⟩, fr2⟩ := hp2
  replace hs2 : st2 = [.long 0] := hs2
  subst st2
  refine z_lstore (lv' := [(7, .long 0), (6, .int 0), (5, .int 0), (4, .ref d), (3, .ref o), (2, .ref y), (1, .ref x), (0, .ref b)]) B dL_law_2716 (Nat.le_of_ble_eq_true rfl) rfl ?_
  refine z_aload_n B dL_law_2718 rfl 5 rfl ?_
  refine z_callV (As := []) (rest := []) B (m_thrown G l Φ2 sz2 y fs1 0 hy1 hk1) (cwV 0 B.1.2.2.2.2 gL_law_X12_thrown rfl rfl rfl (by decide +kernel) ⟨Nat.le_of_ble_eq_true rfl, Nat.le_of_ble_eq_true rfl⟩) hy1 rfl rfl rfl rfl (Nat.le_of_ble_eq_true rfl) dL_law_2719 ⟨Nat.le_of_ble_eq_true rfl, Nat.le_of_ble_eq_true rfl⟩ (fun v3 Φ3 sz3 st3 hp3 hs3 => ?_)
  obtain ⟨rfl, he1⟩ := hp3
  replace hs3 : st3 = [.int 0] := hs3
  subst st3
  rw [he1]
  refine z_iload B dL_law_2722 1 rfl ?_
  refine z_icmp_eq (tgt := 2729) B dL_law_2724 rfl (fun c_1 => ?_) (fun h9 => absurd (by decide) h9)
  refine z_iload B dL_law_2729 1 rfl ?_
  refine z_if_ne (tgt := 2745) B dL_law_2731 rfl (fun h9 => absurd (by decide) h9) (fun c_2 => ?_)
  refine z_aload_n B dL_law_2734 rfl 4 rfl ?_
  refine z_iconst (v := 0) B dL_law_2735 rfl ?_
  have h_2 : Φ2 o = some (al_ G 1 g1) := ((fr2 o hyo).trans ho1)
  refine z_lald B h_2 (vin rfl) dL_law_2736 ?_
  refine z_top (st1 := [.long 0]) (congrArg (fun w9 : Int64 => ([.long w9] : List Value)) (show g1 (0 : Int32).toNatClampNeg = 0 from hg1)) ?_
  refine z_lload B dL_law_2737 0 rfl ?_
  refine z_lcmp B dL_law_2739 ?_
  refine z_top (st1 := [.int 0]) (congrArg (fun w9 : Int32 => ([.int w9] : List Value)) (show (lg_cmp 0 0 : Int32) = 0 by decide +kernel)) ?_
  refine z_if_eq (tgt := 2745) B dL_law_2740 rfl (fun c_3 => ?_) (fun h9 => absurd (by decide) h9)
  refine z_goto (tgt := 2893) B dL_law_2745 rfl ?_
  refine z_lv [2, 3, 4, 5, 6, 7] rfl ?_
  refine z_widen (k := 178) (n := 20844) (Nat.le_of_ble_eq_true rfl) (Nat.le_of_ble_eq_true rfl) ?_
  exact hT _ _

set_option maxHeartbeats 4000000 in
set_option maxRecDepth 100000 in
theorem lc_56_x {p9 : Program} {e9 : Env} {s9 : State} {m9 : MethodId} {a9 : Array Value} {w9 : List Frame} {t9 : Method} {k9 : Code} {Q9 : State → Prop} {nm9 : String} (G : EnvG) (l : Launch) (hl9 : l.stackTraces = false) (B : Bd p9 s9 m9 a9 t9 k9 G code 9 RL wsL_law ret nm9) (Φ : Hm) (sz : Nat) (b : Nat) (xs : Nat → Int32) (hX : va_X b 7 xs s9 s9.heap) (hbn : b < G.2.2.2) (x y o d : Nat) (a1 : Int32) (go : Nat → Int64) (gd : Nat → UInt64) (hna : G.2.2.2 ≤ x) (hxy : x + 149 ≤ y) (hyo : y + 26 ≤ o) (hyd : y + 26 ≤ d) (hod : o ≠ d) (hx_0 : Φ x = some (o_ 13 [.ref (x + 1), .ref (x + 3), .ref (x + 24), .ref (x + 46), .ref (x + 74), .ref (x + 80), .ref (x + 132), .ref (x + 121)])) (hy_0 : Φ y = some (o_ 14 [.int 0, .ref (y + 1), .ref (y + 2), .int 0, .int 1, .int 1, .int 0, .int 0, .ref (y + 3), .ref (y + 4), .int 0, .long 0, .ref (y + 5), .int 0, .int 0, .long 0, .long 0, .long 0, .long 0, .ref (y + 6), .ref (y + 7), .int 0, .ref (y + 8), .int 0, .ref (y + 9), .ref (y + 10), .int 0, .ref (y + 11), .ref (y + 12), .ref (y + 13), .ref (y + 14), .ref (y + 15), .ref (y + 16), .int 0, .long (-1), .ref (y + 17), .ref (y + 18), .ref (y + 19), .ref (y + 20), .ref (y + 21), .ref (y + 22), .int 0, .ref (y + 23), .ref (y + 24), .int 0, .ref (y + 25), .int 0, .int 0, .int 0, .int (-1), .int 0, .int 0, .int 0, .long 0])) (hx1 : xs 1 = a1) (Fhw : ¬ (a1 = 0 ∨ a1 = 1)) (Mhp : ¬ inP a1.toInt64 0 1) (hT : ∀ (Φ1 : Hm) (sz1 : Nat), Z p9 l e9 room_1 s9 m9 a9 w9 t9 k9 Q9 G 9 2893 [(5, .int 0), (4, .ref d), (3, .ref o), (2, .ref y), (1, .ref x), (0, .ref b)] [] Φ1 sz1 178 20844) : Z p9 l e9 room_1 s9 m9 a9 w9 t9 k9 Q9 G 9 2693 [(5, .int 0), (4, .ref d), (3, .ref o), (2, .ref y), (1, .ref x), (0, .ref b)] [] Φ sz 177 20838 := by
  refine z_aload_n B dL_law_2693 rfl 4 rfl ?_
  refine z_aload_n B dL_law_2694 rfl 5 rfl ?_
  refine z_iload B dL_law_2695 0 rfl ?_
  refine z_iconst (v := 1) B dL_law_2697 rfl ?_
  refine z_iadd B dL_law_2698 ?_
  refine z_top (st1 := [.int 1, .ref b, .ref x]) (congrArg (fun w9 : Int32 => ([.int w9, .ref b, .ref x] : List Value)) (show (0 + 1 : Int32) = 1 by decide +kernel)) ?_
  refine z_sald B hX hbn (vin rfl) dL_law_2699 ?_
  refine z_top (st1 := [.int a1, .ref x]) (congrArg (fun w9 : Int32 => ([.int w9, .ref x] : List Value)) (show xs (1 : Int32).toNatClampNeg = a1 from hx1)) ?_
  refine z_aload_n B dL_law_2700 rfl 2 rfl ?_
  refine z_callSW (As := [.ref x, .int a1, .ref o]) (rest := []) B (w_totalEstimate_x G l hl9 Φ sz x o a1 hx_0 Fhw) (vx_cwSW 3 B.1.2.2.2.2 gL_law_L_totalEstimate rfl rfl rfl (by decide +kernel) ⟨Nat.le_of_ble_eq_true rfl, Nat.le_of_ble_eq_true rfl⟩) rfl rfl (Nat.le_of_ble_eq_true rfl) dL_law_2701 ⟨Nat.le_of_ble_eq_true rfl, Nat.le_of_ble_eq_true rfl⟩ (fun v1 Φ1 sz1 st1 hp1 hs1 => ?_)
  obtain ⟨rfl, he1⟩ := hp1
  replace hs1 : st1 = [.int 1] := hs1
  subst st1
  rw [he1]
  refine z_istore (lv' := [(6, .int 1), (5, .int 0), (4, .ref d), (3, .ref o), (2, .ref y), (1, .ref x), (0, .ref b)]) B dL_law_2704 (Nat.le_of_ble_eq_true rfl) rfl ?_
  refine z_aload_n B dL_law_2706 rfl 4 rfl ?_
  refine z_aload_n B dL_law_2707 rfl 6 rfl ?_
  refine z_iload B dL_law_2708 1 rfl ?_
  refine z_iconst (v := 1) B dL_law_2710 rfl ?_
  refine z_iadd B dL_law_2711 ?_
  refine z_top (st1 := [.int 1, .ref b, .ref y]) (congrArg (fun w9 : Int32 => ([.int w9, .ref b, .ref y] : List Value)) (show (0 + 1 : Int32) = 1 by decide +kernel)) ?_
  refine z_sald B hX hbn (vin rfl) dL_law_2712 ?_
  refine z_top (st1 := [.int a1, .ref y]) (congrArg (fun w9 : Int32 => ([.int w9, .ref y] : List Value)) (show xs (1 : Int32).toNatClampNeg = a1 from hx1)) ?_
  refine z_callV (As := [.int a1]) (rest := []) B (m_X12_totalEstimate_x G l Φ sz1 y a1 hy_0 (Nat.le_trans hna (Nat.le_trans (Nat.le_add_right x 149) hxy)) Mhp) (cwV 1 B.1.2.2.2.2 gL_law_X12_totalEstimate rfl rfl rfl (by decide +kernel) ⟨Nat.le_of_ble_eq_true rfl, Nat.le_of_ble_eq_true rfl⟩) hy_0 rfl rfl rfl rfl (Nat.le_of_ble_eq_true rfl) dL_law_2713 ⟨Nat.le_of_ble_eq_true rfl, Nat.le_of_ble_eq_true rfl⟩ (fun v2 Φ2 sz2 st2 hp2 hs2 => ?_)
  obtain ⟨rfl, ⟨fs1, hy1, hk1⟩, fr1⟩ := hp2
  replace hs2 : st2 = [.long 0] := hs2
  subst st2
  refine z_lstore (lv' := [(7, .long 0), (6, .int 1), (5, .int 0), (4, .ref d), (3, .ref o), (2, .ref y), (1, .ref x), (0, .ref b)]) B dL_law_2716 (Nat.le_of_ble_eq_true rfl) rfl ?_
  refine z_aload_n B dL_law_2718 rfl 5 rfl ?_
  refine z_callV (As := []) (rest := []) B (m_thrown G l Φ2 sz2 y fs1 1 hy1 hk1) (cwV 0 B.1.2.2.2.2 gL_law_X12_thrown rfl rfl rfl (by decide +kernel) ⟨Nat.le_of_ble_eq_true rfl, Nat.le_of_ble_eq_true rfl⟩) hy1 rfl rfl rfl rfl (Nat.le_of_ble_eq_true rfl) dL_law_2719 ⟨Nat.le_of_ble_eq_true rfl, Nat.le_of_ble_eq_true rfl⟩ (fun v3 Φ3 sz3 st3 hp3 hs3 => ?_)
  obtain ⟨rfl, he2⟩ := hp3
  replace hs3 : st3 = [.int 1] := hs3
  subst st3
  rw [he2]
  refine z_iload B dL_law_2722 1 rfl ?_
  refine z_icmp_eq (tgt := 2729) B dL_law_2724 rfl (fun c_1 => ?_) (fun h9 => absurd (by decide) h9)
  refine z_iload B dL_law_2729 1 rfl ?_
  refine z_if_ne (tgt := 2745) B dL_law_2731 rfl (fun c_2 => ?_) (fun h9 => absurd h9 (by decide))
  refine z_goto (tgt := 2893) B dL_law_2745 rfl ?_
  refine z_lv [2, 3, 4, 5, 6, 7] rfl ?_
  exact hT _ _

set_option maxHeartbeats 4000000 in
set_option maxRecDepth 100000 in
theorem lc_57_0 {p9 : Program} {e9 : Env} {s9 : State} {m9 : MethodId} {a9 : Array Value} {w9 : List Frame} {t9 : Method} {k9 : Code} {Q9 : State → Prop} {nm9 : String} (G : EnvG) (l : Launch) (hl9 : l.stackTraces = false) (B : Bd p9 s9 m9 a9 t9 k9 G code 9 RL wsL_law ret nm9) (Φ : Hm) (sz : Nat) (b : Nat) (xs : Nat → Int32) (hX : va_X b 7 xs s9 s9.heap) (hbn : b < G.2.2.2) (x y o d : Nat)  (go : Nat → Int64) (gd : Nat → UInt64) (hna : G.2.2.2 ≤ x) (hxy : x + 149 ≤ y) (hyo : y + 26 ≤ o) (hyd : y + 26 ≤ d) (hod : o ≠ d) (hx_0 : Φ x = some (o_ 13 [.ref (x + 1), .ref (x + 3), .ref (x + 24), .ref (x + 46), .ref (x + 74), .ref (x + 80), .ref (x + 132), .ref (x + 121)])) (hx_121 : Φ (x + 121) = some (o_ 11 [.ref (x + 122), .ref (x + 123), .ref (x + 126), .ref (x + 129), .int 0])) (hy_0 : Φ y = some (o_ 14 [.int 0, .ref (y + 1), .ref (y + 2), .int 0, .int 1, .int 1, .int 0, .int 0, .ref (y + 3), .ref (y + 4), .int 0, .long 0, .ref (y + 5), .int 0, .int 0, .long 0, .long 0, .long 0, .long 0, .ref (y + 6), .ref (y + 7), .int 0, .ref (y + 8), .int 0, .ref (y + 9), .ref (y + 10), .int 0, .ref (y + 11), .ref (y + 12), .ref (y + 13), .ref (y + 14), .ref (y + 15), .ref (y + 16), .int 0, .long (-1), .ref (y + 17), .ref (y + 18), .ref (y + 19), .ref (y + 20), .ref (y + 21), .ref (y + 22), .int 0, .ref (y + 23), .ref (y + 24), .int 0, .ref (y + 25), .int 0, .int 0, .int 0, .int (-1), .int 0, .int 0, .int 0, .long 0])) (hcd : Φ d = some (ad_ G 1 gd)) (hx1 : xs 1 = 0) (hT : ∀ (Φ1 : Hm) (sz1 : Nat), Z p9 l e9 room_1 s9 m9 a9 w9 t9 k9 Q9 G 9 2893 [(5, .int 0), (4, .ref d), (3, .ref o), (2, .ref y), (1, .ref x), (0, .ref b)] [] Φ1 sz1 178 20844) : Z p9 l e9 room_1 s9 m9 a9 w9 t9 k9 Q9 G 9 2748 [(5, .int 0), (4, .ref d), (3, .ref o), (2, .ref y), (1, .ref x), (0, .ref b)] [] Φ sz 177 20838 := by
  refine z_aload_n B dL_law_2748 rfl 4 rfl ?_
  refine z_aload_n B dL_law_2749 rfl 5 rfl ?_
  refine z_iload B dL_law_2750 0 rfl ?_
  refine z_iconst (v := 1) B dL_law_2752 rfl ?_
  refine z_iadd B dL_law_2753 ?_
  refine z_top (st1 := [.int 1, .ref b, .ref x]) (congrArg (fun w9 : Int32 => ([.int w9, .ref b, .ref x] : List Value)) (show (0 + 1 : Int32) = 1 by decide +kernel)) ?_
  refine z_sald B hX hbn (vin rfl) dL_law_2754 ?_
  refine z_top (st1 := [.int 0, .ref x]) (congrArg (fun w9 : Int32 => ([.int w9, .ref x] : List Value)) (show xs (1 : Int32).toNatClampNeg = 0 from hx1)) ?_
  refine z_aload B dL_law_2755 1 rfl ?_
  refine z_callSW (As := [.ref x, .int 0, .ref d]) (rest := []) B (w_totalMargin_0 G l Φ sz x d gd hx_0 hx_121 hcd hna (Nat.le_trans hxy (Nat.le_trans (Nat.le_add_right y 26) hyd))) (vx_cwSW 3 B.1.2.2.2.2 gL_law_L_totalMargin rfl rfl rfl (by decide +kernel) ⟨Nat.le_of_ble_eq_true rfl, Nat.le_of_ble_eq_true rfl⟩) rfl rfl (Nat.le_of_ble_eq_true rfl) dL_law_2757 ⟨Nat.le_of_ble_eq_true rfl, Nat.le_of_ble_eq_true rfl⟩ (fun v1 Φ1 sz1 st1 hp1 hs1 => ?_)
  obtain ⟨rfl, fr1, g1, ho1, hg1⟩ := hp1
  replace hs1 : st1 = [.int 0] := hs1
  subst st1
  refine z_istore (lv' := [(6, .int 0), (5, .int 0), (4, .ref d), (3, .ref o), (2, .ref y), (1, .ref x), (0, .ref b)]) B dL_law_2760 (Nat.le_of_ble_eq_true rfl) rfl ?_
  refine z_aload_n B dL_law_2762 rfl 4 rfl ?_
  refine z_aload_n B dL_law_2763 rfl 6 rfl ?_
  refine z_iload B dL_law_2764 1 rfl ?_
  refine z_iconst (v := 1) B dL_law_2766 rfl ?_
  refine z_iadd B dL_law_2767 ?_
  refine z_top (st1 := [.int 1, .ref b, .ref y]) (congrArg (fun w9 : Int32 => ([.int w9, .ref b, .ref y] : List Value)) (show (0 + 1 : Int32) = 1 by decide +kernel)) ?_
  refine z_sald B hX hbn (vin rfl) dL_law_2768 ?_
  refine z_top (st1 := [.int 0, .ref y]) (congrArg (fun w9 : Int32 => ([.int w9, .ref y] : List Value)) (show xs (1 : Int32).toNatClampNeg = 0 from hx1)) ?_
  have h_1 : Φ1 y = some (o_ 14 [.int 0, .ref (y + 1), .ref (y + 2), .int 0, .int 1, .int 1, .int 0, .int 0, .ref (y + 3), .ref (y + 4), .int 0, .long 0, .ref (y + 5), .int 0, .int 0, .long 0, .long 0, .long 0, .long 0, .ref (y + 6), .ref (y + 7), .int 0, .ref (y + 8), .int 0, .ref (y + 9), .ref (y + 10), .int 0, .ref (y + 11), .ref (y + 12), .ref (y + 13), .ref (y + 14), .ref (y + 15), .ref (y + 16), .int 0, .long (-1), .ref (y + 17), .ref (y + 18), .ref (y + 19), .ref (y + 20), .ref (y + 21), .ref (y + 22), .int 0, .ref (y + 23), .ref (y + 24), .int 0, .ref (y + 25), .int 0, .int 0, .int 0, .int (-1), .int 0, .int 0, .int 0, .long 0]) := ((fr1 y hxy (Nat.ne_of_lt (Nat.lt_of_lt_of_le (lt_off (x := y) (i := 0) (j := 26) rfl) hyd))).trans hy_0)
  refine z_callV (As := [.int 0]) (rest := []) B (m_X12_totalMargin_0 G l Φ1 sz1 y h_1 (Nat.le_trans hna (Nat.le_trans (Nat.le_add_right x 149) hxy))) (cwV 1 B.1.2.2.2.2 gL_law_X12_totalMargin rfl rfl rfl (by decide +kernel) ⟨Nat.le_of_ble_eq_true rfl, Nat.le_of_ble_eq_true rfl⟩) h_1 rfl rfl rfl rfl (Nat.le_of_ble_eq_true rfl) dL_law_2769 ⟨Nat.le_of_ble_eq_true rfl, Nat.le_of_ble_eq_true rfl⟩ (fun v2 Φ2 sz2 st2 hp2 hs2 => ?_)
  obtain ⟨rfl, ⟨fs1, hy1, hk1⟩, fr2⟩ := hp2
  replace hs2 : st2 = [.double (FP.dmul 4611505874442293084 FP.dconst0)] := hs2
  subst st2
  refine z_dstore (lv' := [(7, .double (FP.dmul 4611505874442293084 FP.dconst0)), (6, .int 0), (5, .int 0), (4, .ref d), (3, .ref o), (2, .ref y), (1, .ref x), (0, .ref b)]) B dL_law_2772 (Nat.le_of_ble_eq_true rfl) rfl ?_
  refine z_aload_n B dL_law_2774 rfl 5 rfl ?_
  refine z_callV (As := []) (rest := []) B (m_thrown G l Φ2 sz2 y fs1 0 hy1 hk1) (cwV 0 B.1.2.2.2.2 gL_law_X12_thrown rfl rfl rfl (by decide +kernel) ⟨Nat.le_of_ble_eq_true rfl, Nat.le_of_ble_eq_true rfl⟩) hy1 rfl rfl rfl rfl (Nat.le_of_ble_eq_true rfl) dL_law_2775 ⟨Nat.le_of_ble_eq_true rfl, Nat.le_of_ble_eq_true rfl⟩ (fun v3 Φ3 sz3 st3 hp3 hs3 => ?_)
  obtain ⟨rfl, he1⟩ := hp3
  replace hs3 : st3 = [.int 0] := hs3
  subst st3
  rw [he1]
  refine z_iload B dL_law_2778 1 rfl ?_
  refine z_icmp_eq (tgt := 2785) B dL_law_2780 rfl (fun c_1 => ?_) (fun h9 => absurd (by decide) h9)
  refine z_iload B dL_law_2785 1 rfl ?_
  refine z_if_ne (tgt := 2822) B dL_law_2787 rfl (fun h9 => absurd (by decide) h9) (fun c_2 => ?_)
  refine z_aload B dL_law_2790 3 rfl ?_
  refine z_iconst (v := 0) B dL_law_2792 rfl ?_
  have h_2 : Φ2 d = some (ad_ G 1 g1) := ((fr2 d hyd).trans ho1)
  refine z_dald B h_2 (vin rfl) dL_law_2793 ?_
  refine z_top (st1 := [.double (FP.dmul 4611505874442293084 FP.dconst0)]) (congrArg (fun w9 : UInt64 => ([.double w9] : List Value)) (show g1 (0 : Int32).toNatClampNeg = FP.dmul 4611505874442293084 FP.dconst0 from hg1)) ?_
  refine z_dload B dL_law_2794 0 rfl ?_
  refine z_dcmp B dL_law_2796 ?_
  refine z_top (st1 := [.int 0]) (congrArg (fun w9 : Int32 => ([.int w9] : List Value)) (show (Op.cmpValue (FP.dcmp (FP.dmul 4611505874442293084 FP.dconst0) (FP.dmul 4611505874442293084 FP.dconst0)) .l : Int32) = 0 by decide +kernel)) ?_
  refine z_if_eq (tgt := 2822) B dL_law_2797 rfl (fun c_3 => ?_) (fun h9 => absurd (by decide) h9)
  refine z_goto (tgt := 2893) B dL_law_2822 rfl ?_
  refine z_lv [2, 3, 4, 5, 6, 7] rfl ?_
  refine z_widen (k := 178) (n := 20844) (Nat.le_of_ble_eq_true rfl) (Nat.le_of_ble_eq_true rfl) ?_
  exact hT _ _

set_option maxHeartbeats 4000000 in
set_option maxRecDepth 100000 in
theorem lc_57_1 {p9 : Program} {e9 : Env} {s9 : State} {m9 : MethodId} {a9 : Array Value} {w9 : List Frame} {t9 : Method} {k9 : Code} {Q9 : State → Prop} {nm9 : String} (G : EnvG) (l : Launch) (hl9 : l.stackTraces = false) (B : Bd p9 s9 m9 a9 t9 k9 G code 9 RL wsL_law ret nm9) (Φ : Hm) (sz : Nat) (b : Nat) (xs : Nat → Int32) (hX : va_X b 7 xs s9 s9.heap) (hbn : b < G.2.2.2) (x y o d : Nat)  (go : Nat → Int64) (gd : Nat → UInt64) (hna : G.2.2.2 ≤ x) (hxy : x + 149 ≤ y) (hyo : y + 26 ≤ o) (hyd : y + 26 ≤ d) (hod : o ≠ d) (hx_0 : Φ x = some (o_ 13 [.ref (x + 1), .ref (x + 3), .ref (x + 24), .ref (x + 46), .ref (x + 74), .ref (x + 80), .ref (x + 132), .ref (x + 121)])) (hx_121 : Φ (x + 121) = some (o_ 11 [.ref (x + 122), .ref (x + 123), .ref (x + 126), .ref (x + 129), .int 0])) (hy_0 : Φ y = some (o_ 14 [.int 0, .ref (y + 1), .ref (y + 2), .int 0, .int 1, .int 1, .int 0, .int 0, .ref (y + 3), .ref (y + 4), .int 0, .long 0, .ref (y + 5), .int 0, .int 0, .long 0, .long 0, .long 0, .long 0, .ref (y + 6), .ref (y + 7), .int 0, .ref (y + 8), .int 0, .ref (y + 9), .ref (y + 10), .int 0, .ref (y + 11), .ref (y + 12), .ref (y + 13), .ref (y + 14), .ref (y + 15), .ref (y + 16), .int 0, .long (-1), .ref (y + 17), .ref (y + 18), .ref (y + 19), .ref (y + 20), .ref (y + 21), .ref (y + 22), .int 0, .ref (y + 23), .ref (y + 24), .int 0, .ref (y + 25), .int 0, .int 0, .int 0, .int (-1), .int 0, .int 0, .int 0, .long 0])) (hcd : Φ d = some (ad_ G 1 gd)) (hx1 : xs 1 = 1) (hT : ∀ (Φ1 : Hm) (sz1 : Nat), Z p9 l e9 room_1 s9 m9 a9 w9 t9 k9 Q9 G 9 2893 [(5, .int 0), (4, .ref d), (3, .ref o), (2, .ref y), (1, .ref x), (0, .ref b)] [] Φ1 sz1 178 20844) : Z p9 l e9 room_1 s9 m9 a9 w9 t9 k9 Q9 G 9 2748 [(5, .int 0), (4, .ref d), (3, .ref o), (2, .ref y), (1, .ref x), (0, .ref b)] [] Φ sz 177 20838 := by
  refine z_aload_n B dL_law_2748 rfl 4 rfl ?_
  refine z_aload_n B dL_law_2749 rfl 5 rfl ?_
  refine z_iload B dL_law_2750 0 rfl ?_
  refine z_iconst (v := 1) B dL_law_2752 rfl ?_
  refine z_iadd B dL_law_2753 ?_
  refine z_top (st1 := [.int 1, .ref b, .ref x]) (congrArg (fun w9 : Int32 => ([.int w9, .ref b, .ref x] : List Value)) (show (0 + 1 : Int32) = 1 by decide +kernel)) ?_
  refine z_sald B hX hbn (vin rfl) dL_law_2754 ?_
  refine z_top (st1 := [.int 1, .ref x]) (congrArg (fun w9 : Int32 => ([.int w9, .ref x] : List Value)) (show xs (1 : Int32).toNatClampNeg = 1 from hx1)) ?_
  refine z_aload B dL_law_2755 1 rfl ?_
  refine z_callSW (As := [.ref x, .int 1, .ref d]) (rest := []) B (w_totalMargin_1 G l Φ sz x d gd hx_0 hx_121 hcd hna (Nat.le_trans hxy (Nat.le_trans (Nat.le_add_right y 26) hyd))) (vx_cwSW 3 B.1.2.2.2.2 gL_law_L_totalMargin rfl rfl rfl (by decide +kernel) ⟨Nat.le_of_ble_eq_true rfl, Nat.le_of_ble_eq_true rfl⟩) rfl rfl (Nat.le_of_ble_eq_true rfl) dL_law_2757 ⟨Nat.le_of_ble_eq_true rfl, Nat.le_of_ble_eq_true rfl⟩ (fun v1 Φ1 sz1 st1 hp1 hs1 => ?_)
  obtain ⟨rfl, fr1, g1, ho1, hg1⟩ := hp1
  replace hs1 : st1 = [.int 0] := hs1
  subst st1
  refine z_istore (lv' := [(6, .int 0), (5, .int 0), (4, .ref d), (3, .ref o), (2, .ref y), (1, .ref x), (0, .ref b)]) B dL_law_2760 (Nat.le_of_ble_eq_true rfl) rfl ?_
  refine z_aload_n B dL_law_2762 rfl 4 rfl ?_
  refine z_aload_n B dL_law_2763 rfl 6 rfl ?_
  refine z_iload B dL_law_2764 1 rfl ?_
  refine z_iconst (v := 1) B dL_law_2766 rfl ?_
  refine z_iadd B dL_law_2767 ?_
  refine z_top (st1 := [.int 1, .ref b, .ref y]) (congrArg (fun w9 : Int32 => ([.int w9, .ref b, .ref y] : List Value)) (show (0 + 1 : Int32) = 1 by decide +kernel)) ?_
  refine z_sald B hX hbn (vin rfl) dL_law_2768 ?_
  refine z_top (st1 := [.int 1, .ref y]) (congrArg (fun w9 : Int32 => ([.int w9, .ref y] : List Value)) (show xs (1 : Int32).toNatClampNeg = 1 from hx1)) ?_
  have h_1 : Φ1 y = some (o_ 14 [.int 0, .ref (y + 1), .ref (y + 2), .int 0, .int 1, .int 1, .int 0, .int 0, .ref (y + 3), .ref (y + 4), .int 0, .long 0, .ref (y + 5), .int 0, .int 0, .long 0, .long 0, .long 0, .long 0, .ref (y + 6), .ref (y + 7), .int 0, .ref (y + 8), .int 0, .ref (y + 9), .ref (y + 10), .int 0, .ref (y + 11), .ref (y + 12), .ref (y + 13), .ref (y + 14), .ref (y + 15), .ref (y + 16), .int 0, .long (-1), .ref (y + 17), .ref (y + 18), .ref (y + 19), .ref (y + 20), .ref (y + 21), .ref (y + 22), .int 0, .ref (y + 23), .ref (y + 24), .int 0, .ref (y + 25), .int 0, .int 0, .int 0, .int (-1), .int 0, .int 0, .int 0, .long 0]) := ((fr1 y hxy (Nat.ne_of_lt (Nat.lt_of_lt_of_le (lt_off (x := y) (i := 0) (j := 26) rfl) hyd))).trans hy_0)
  refine z_callV (As := [.int 1]) (rest := []) B (m_X12_totalMargin_1 G l Φ1 sz1 y h_1 (Nat.le_trans hna (Nat.le_trans (Nat.le_add_right x 149) hxy))) (cwV 1 B.1.2.2.2.2 gL_law_X12_totalMargin rfl rfl rfl (by decide +kernel) ⟨Nat.le_of_ble_eq_true rfl, Nat.le_of_ble_eq_true rfl⟩) h_1 rfl rfl rfl rfl (Nat.le_of_ble_eq_true rfl) dL_law_2769 ⟨Nat.le_of_ble_eq_true rfl, Nat.le_of_ble_eq_true rfl⟩ (fun v2 Φ2 sz2 st2 hp2 hs2 => ?_)
  obtain ⟨rfl, ⟨fs1, hy1, hk1⟩, fr2⟩ := hp2
  replace hs2 : st2 = [.double (FP.dmul 4611505874442293084 FP.dconst0)] := hs2
  subst st2
  refine z_dstore (lv' := [(7, .double (FP.dmul 4611505874442293084 FP.dconst0)), (6, .int 0), (5, .int 0), (4, .ref d), (3, .ref o), (2, .ref y), (1, .ref x), (0, .ref b)]) B dL_law_2772 (Nat.le_of_ble_eq_true rfl) rfl ?_
  refine z_aload_n B dL_law_2774 rfl 5 rfl ?_
  refine z_callV (As := []) (rest := []) B (m_thrown G l Φ2 sz2 y fs1 0 hy1 hk1) (cwV 0 B.1.2.2.2.2 gL_law_X12_thrown rfl rfl rfl (by decide +kernel) ⟨Nat.le_of_ble_eq_true rfl, Nat.le_of_ble_eq_true rfl⟩) hy1 rfl rfl rfl rfl (Nat.le_of_ble_eq_true rfl) dL_law_2775 ⟨Nat.le_of_ble_eq_true rfl, Nat.le_of_ble_eq_true rfl⟩ (fun v3 Φ3 sz3 st3 hp3 hs3 => ?_)
  obtain ⟨rfl, he1⟩ := hp3
  replace hs3 : st3 = [.int 0] := hs3
  subst st3
  rw [he1]
  refine z_iload B dL_law_2778 1 rfl ?_
  refine z_icmp_eq (tgt := 2785) B dL_law_2780 rfl (fun c_1 => ?_) (fun h9 => absurd (by decide) h9)
  refine z_iload B dL_law_2785 1 rfl ?_
  refine z_if_ne (tgt := 2822) B dL_law_2787 rfl (fun h9 => absurd (by decide) h9) (fun c_2 => ?_)
  refine z_aload B dL_law_2790 3 rfl ?_
  refine z_iconst (v := 0) B dL_law_2792 rfl ?_
  have h_2 : Φ2 d = some (ad_ G 1 g1) := ((fr2 d hyd).trans ho1)
  refine z_dald B h_2 (vin rfl) dL_law_2793 ?_
  refine z_top (st1 := [.double (FP.dmul 4611505874442293084 FP.dconst0)]) (congrArg (fun w9 : UInt64 => ([.double w9] : List Value)) (show g1 (0 : Int32).toNatClampNeg = FP.dmul 4611505874442293084 FP.dconst0 from hg1)) ?_
  refine z_dload B dL_law_2794 0 rfl ?_
  refine z_dcmp B dL_law_2796 ?_
  refine z_top (st1 := [.int 0]) (congrArg (fun w9 : Int32 => ([.int w9] : List Value)) (show (Op.cmpValue (FP.dcmp (FP.dmul 4611505874442293084 FP.dconst0) (FP.dmul 4611505874442293084 FP.dconst0)) .l : Int32) = 0 by decide +kernel)) ?_
  refine z_if_eq (tgt := 2822) B dL_law_2797 rfl (fun c_3 => ?_) (fun h9 => absurd (by decide) h9)
  refine z_goto (tgt := 2893) B dL_law_2822 rfl ?_
  refine z_lv [2, 3, 4, 5, 6, 7] rfl ?_
  refine z_widen (k := 178) (n := 20844) (Nat.le_of_ble_eq_true rfl) (Nat.le_of_ble_eq_true rfl) ?_
  exact hT _ _

set_option maxHeartbeats 4000000 in
set_option maxRecDepth 100000 in
theorem lc_57_x {p9 : Program} {e9 : Env} {s9 : State} {m9 : MethodId} {a9 : Array Value} {w9 : List Frame} {t9 : Method} {k9 : Code} {Q9 : State → Prop} {nm9 : String} (G : EnvG) (l : Launch) (hl9 : l.stackTraces = false) (B : Bd p9 s9 m9 a9 t9 k9 G code 9 RL wsL_law ret nm9) (Φ : Hm) (sz : Nat) (b : Nat) (xs : Nat → Int32) (hX : va_X b 7 xs s9 s9.heap) (hbn : b < G.2.2.2) (x y o d : Nat) (a1 : Int32) (go : Nat → Int64) (gd : Nat → UInt64) (hna : G.2.2.2 ≤ x) (hxy : x + 149 ≤ y) (hyo : y + 26 ≤ o) (hyd : y + 26 ≤ d) (hod : o ≠ d) (hx_0 : Φ x = some (o_ 13 [.ref (x + 1), .ref (x + 3), .ref (x + 24), .ref (x + 46), .ref (x + 74), .ref (x + 80), .ref (x + 132), .ref (x + 121)])) (hy_0 : Φ y = some (o_ 14 [.int 0, .ref (y + 1), .ref (y + 2), .int 0, .int 1, .int 1, .int 0, .int 0, .ref (y + 3), .ref (y + 4), .int 0, .long 0, .ref (y + 5), .int 0, .int 0, .long 0, .long 0, .long 0, .long 0, .ref (y + 6), .ref (y + 7), .int 0, .ref (y + 8), .int 0, .ref (y + 9), .ref (y + 10), .int 0, .ref (y + 11), .ref (y + 12), .ref (y + 13), .ref (y + 14), .ref (y + 15), .ref (y + 16), .int 0, .long (-1), .ref (y + 17), .ref (y + 18), .ref (y + 19), .ref (y + 20), .ref (y + 21), .ref (y + 22), .int 0, .ref (y + 23), .ref (y + 24), .int 0, .ref (y + 25), .int 0, .int 0, .int 0, .int (-1), .int 0, .int 0, .int 0, .long 0])) (hx1 : xs 1 = a1) (Fhw : ¬ (a1 = 0 ∨ a1 = 1)) (Mhp : ¬ inP a1.toInt64 0 1) (hT : ∀ (Φ1 : Hm) (sz1 : Nat), Z p9 l e9 room_1 s9 m9 a9 w9 t9 k9 Q9 G 9 2893 [(5, .int 0), (4, .ref d), (3, .ref o), (2, .ref y), (1, .ref x), (0, .ref b)] [] Φ1 sz1 178 20844) : Z p9 l e9 room_1 s9 m9 a9 w9 t9 k9 Q9 G 9 2748 [(5, .int 0), (4, .ref d), (3, .ref o), (2, .ref y), (1, .ref x), (0, .ref b)] [] Φ sz 177 20838 := by
  refine z_aload_n B dL_law_2748 rfl 4 rfl ?_
  refine z_aload_n B dL_law_2749 rfl 5 rfl ?_
  refine z_iload B dL_law_2750 0 rfl ?_
  refine z_iconst (v := 1) B dL_law_2752 rfl ?_
  refine z_iadd B dL_law_2753 ?_
  refine z_top (st1 := [.int 1, .ref b, .ref x]) (congrArg (fun w9 : Int32 => ([.int w9, .ref b, .ref x] : List Value)) (show (0 + 1 : Int32) = 1 by decide +kernel)) ?_
  refine z_sald B hX hbn (vin rfl) dL_law_2754 ?_
  refine z_top (st1 := [.int a1, .ref x]) (congrArg (fun w9 : Int32 => ([.int w9, .ref x] : List Value)) (show xs (1 : Int32).toNatClampNeg = a1 from hx1)) ?_
  refine z_aload B dL_law_2755 1 rfl ?_
  refine z_callSW (As := [.ref x, .int a1, .ref d]) (rest := []) B (w_totalMargin_x G l hl9 Φ sz x d a1 hx_0 Fhw) (vx_cwSW 3 B.1.2.2.2.2 gL_law_L_totalMargin rfl rfl rfl (by decide +kernel) ⟨Nat.le_of_ble_eq_true rfl, Nat.le_of_ble_eq_true rfl⟩) rfl rfl (Nat.le_of_ble_eq_true rfl) dL_law_2757 ⟨Nat.le_of_ble_eq_true rfl, Nat.le_of_ble_eq_true rfl⟩ (fun v1 Φ1 sz1 st1 hp1 hs1 => ?_)
  obtain ⟨rfl, he1⟩ := hp1
  replace hs1 : st1 = [.int 1] := hs1
  subst st1
  rw [he1]
  refine z_istore (lv' := [(6, .int 1), (5, .int 0), (4, .ref d), (3, .ref o), (2, .ref y), (1, .ref x), (0, .ref b)]) B dL_law_2760 (Nat.le_of_ble_eq_true rfl) rfl ?_
  refine z_aload_n B dL_law_2762 rfl 4 rfl ?_
  refine z_aload_n B dL_law_2763 rfl 6 rfl ?_
  refine z_iload B dL_law_2764 1 rfl ?_
  refine z_iconst (v := 1) B dL_law_2766 rfl ?_
  refine z_iadd B dL_law_2767 ?_
  refine z_top (st1 := [.int 1, .ref b, .ref y]) (congrArg (fun w9 : Int32 => ([.int w9, .ref b, .ref y] : List Value)) (show (0 + 1 : Int32) = 1 by decide +kernel)) ?_
  refine z_sald B hX hbn (vin rfl) dL_law_2768 ?_
  refine z_top (st1 := [.int a1, .ref y]) (congrArg (fun w9 : Int32 => ([.int w9, .ref y] : List Value)) (show xs (1 : Int32).toNatClampNeg = a1 from hx1)) ?_
  refine z_callV (As := [.int a1]) (rest := []) B (m_X12_totalMargin_x G l Φ sz1 y a1 hy_0 (Nat.le_trans hna (Nat.le_trans (Nat.le_add_right x 149) hxy)) Mhp) (cwV 1 B.1.2.2.2.2 gL_law_X12_totalMargin rfl rfl rfl (by decide +kernel) ⟨Nat.le_of_ble_eq_true rfl, Nat.le_of_ble_eq_true rfl⟩) hy_0 rfl rfl rfl rfl (Nat.le_of_ble_eq_true rfl) dL_law_2769 ⟨Nat.le_of_ble_eq_true rfl, Nat.le_of_ble_eq_true rfl⟩ (fun v2 Φ2 sz2 st2 hp2 hs2 => ?_)
  obtain ⟨rfl, ⟨fs1, hy1, hk1⟩, fr1⟩ := hp2
  replace hs2 : st2 = [.double FP.dconst0] := hs2
  subst st2
  refine z_dstore (lv' := [(7, .double FP.dconst0), (6, .int 1), (5, .int 0), (4, .ref d), (3, .ref o), (2, .ref y), (1, .ref x), (0, .ref b)]) B dL_law_2772 (Nat.le_of_ble_eq_true rfl) rfl ?_
  refine z_aload_n B dL_law_2774 rfl 5 rfl ?_
  refine z_callV (As := []) (rest := []) B (m_thrown G l Φ2 sz2 y fs1 1 hy1 hk1) (cwV 0 B.1.2.2.2.2 gL_law_X12_thrown rfl rfl rfl (by decide +kernel) ⟨Nat.le_of_ble_eq_true rfl, Nat.le_of_ble_eq_true rfl⟩) hy1 rfl rfl rfl rfl (Nat.le_of_ble_eq_true rfl) dL_law_2775 ⟨Nat.le_of_ble_eq_true rfl, Nat.le_of_ble_eq_true rfl⟩ (fun v3 Φ3 sz3 st3 hp3 hs3 => ?_)
  obtain ⟨rfl, he2⟩ := hp3
  replace hs3 : st3 = [.int 1] := hs3
  subst st3
  rw [he2]
  refine z_iload B dL_law_2778 1 rfl ?_
  refine z_icmp_eq (tgt := 2785) B dL_law_2780 rfl (fun c_1 => ?_) (fun h9 => absurd (by decide) h9)
  refine z_iload B dL_law_2785 1 rfl ?_
  refine z_if_ne (tgt := 2822) B dL_law_2787 rfl (fun c_2 => ?_) (fun h9 => absurd h9 (by decide))
  refine z_goto (tgt := 2893) B dL_law_2822 rfl ?_
  refine z_lv [2, 3, 4, 5, 6, 7] rfl ?_
  exact hT _ _

set_option maxHeartbeats 4000000 in
set_option maxRecDepth 100000 in
theorem lc_58_0 {p9 : Program} {e9 : Env} {s9 : State} {m9 : MethodId} {a9 : Array Value} {w9 : List Frame} {t9 : Method} {k9 : Code} {Q9 : State → Prop} {nm9 : String} (G : EnvG) (l : Launch) (hl9 : l.stackTraces = false) (B : Bd p9 s9 m9 a9 t9 k9 G code 9 RL wsL_law ret nm9) (Φ : Hm) (sz : Nat) (b : Nat) (xs : Nat → Int32) (hX : va_X b 7 xs s9 s9.heap) (hbn : b < G.2.2.2) (x y o d : Nat) (a1 : Int32) (go : Nat → Int64) (gd : Nat → UInt64) (hna : G.2.2.2 ≤ x) (hxy : x + 149 ≤ y) (hyo : y + 26 ≤ o) (hyd : y + 26 ≤ d) (hod : o ≠ d) (hx_0 : Φ x = some (o_ 13 [.ref (x + 1), .ref (x + 3), .ref (x + 24), .ref (x + 46), .ref (x + 74), .ref (x + 80), .ref (x + 132), .ref (x + 121)])) (hx_121 : Φ (x + 121) = some (o_ 11 [.ref (x + 122), .ref (x + 123), .ref (x + 126), .ref (x + 129), .int 0])) (hy_0 : Φ y = some (o_ 14 [.int 0, .ref (y + 1), .ref (y + 2), .int 0, .int 1, .int 1, .int 0, .int 0, .ref (y + 3), .ref (y + 4), .int 0, .long 0, .ref (y + 5), .int 0, .int 0, .long 0, .long 0, .long 0, .long 0, .ref (y + 6), .ref (y + 7), .int 0, .ref (y + 8), .int 0, .ref (y + 9), .ref (y + 10), .int 0, .ref (y + 11), .ref (y + 12), .ref (y + 13), .ref (y + 14), .ref (y + 15), .ref (y + 16), .int 0, .long (-1), .ref (y + 17), .ref (y + 18), .ref (y + 19), .ref (y + 20), .ref (y + 21), .ref (y + 22), .int 0, .ref (y + 23), .ref (y + 24), .int 0, .ref (y + 25), .int 0, .int 0, .int 0, .int (-1), .int 0, .int 0, .int 0, .long 0])) (hco : Φ o = some (al_ G 1 go)) (hx1 : xs 1 = a1) (hx2 : xs 2 = 0) (hT : ∀ (Φ1 : Hm) (sz1 : Nat), Z p9 l e9 room_1 s9 m9 a9 w9 t9 k9 Q9 G 9 2893 [(5, .int 0), (4, .ref d), (3, .ref o), (2, .ref y), (1, .ref x), (0, .ref b)] [] Φ1 sz1 178 20844) : Z p9 l e9 room_1 s9 m9 a9 w9 t9 k9 Q9 G 9 2825 [(5, .int 0), (4, .ref d), (3, .ref o), (2, .ref y), (1, .ref x), (0, .ref b)] [] Φ sz 177 20838 := by
  refine z_aload_n B dL_law_2825 rfl 4 rfl ?_
  refine z_aload_n B dL_law_2826 rfl 5 rfl ?_
  refine z_iload B dL_law_2827 0 rfl ?_
  refine z_iconst (v := 1) B dL_law_2829 rfl ?_
  refine z_iadd B dL_law_2830 ?_
  refine z_top (st1 := [.int 1, .ref b, .ref x]) (congrArg (fun w9 : Int32 => ([.int w9, .ref b, .ref x] : List Value)) (show (0 + 1 : Int32) = 1 by decide +kernel)) ?_
  refine z_sald B hX hbn (vin rfl) dL_law_2831 ?_
  refine z_top (st1 := [.int a1, .ref x]) (congrArg (fun w9 : Int32 => ([.int w9, .ref x] : List Value)) (show xs (1 : Int32).toNatClampNeg = a1 from hx1)) ?_
  refine z_aload_n B dL_law_2832 rfl 5 rfl ?_
  refine z_iload B dL_law_2833 0 rfl ?_
  refine z_iconst (v := 2) B dL_law_2835 rfl ?_
  refine z_iadd B dL_law_2836 ?_
  refine z_top (st1 := [.int 2, .ref b, .int a1, .ref x]) (congrArg (fun w9 : Int32 => ([.int w9, .ref b, .int a1, .ref x] : List Value)) (show (0 + 2 : Int32) = 2 by decide +kernel)) ?_
  refine z_sald B hX hbn (vin rfl) dL_law_2837 ?_
  refine z_top (st1 := [.int 0, .int a1, .ref x]) (congrArg (fun w9 : Int32 => ([.int w9, .int a1, .ref x] : List Value)) (show xs (2 : Int32).toNatClampNeg = 0 from hx2)) ?_
  refine z_aload_n B dL_law_2838 rfl 2 rfl ?_
  refine z_callSW (As := [.ref x, .int a1, .int 0, .ref o]) (rest := []) B (w_ranked_0 G l Φ sz x o a1 go hx_0 hx_121 hco hna (Nat.le_trans hxy (Nat.le_trans (Nat.le_add_right y 26) hyo))) (vx_cwSW 4 B.1.2.2.2.2 gL_law_L_ranked rfl rfl rfl (by decide +kernel) ⟨Nat.le_of_ble_eq_true rfl, Nat.le_of_ble_eq_true rfl⟩) rfl rfl (Nat.le_of_ble_eq_true rfl) dL_law_2839 ⟨Nat.le_of_ble_eq_true rfl, Nat.le_of_ble_eq_true rfl⟩ (fun v1 Φ1 sz1 st1 hp1 hs1 => ?_)
  obtain ⟨rfl, fr1, g1, ho1, hg1⟩ := hp1
  replace hs1 : st1 = [.int 0] := hs1
  subst st1
  refine z_istore (lv' := [(6, .int 0), (5, .int 0), (4, .ref d), (3, .ref o), (2, .ref y), (1, .ref x), (0, .ref b)]) B dL_law_2842 (Nat.le_of_ble_eq_true rfl) rfl ?_
  refine z_aload_n B dL_law_2844 rfl 4 rfl ?_
  refine z_aload_n B dL_law_2845 rfl 6 rfl ?_
  refine z_iload B dL_law_2846 1 rfl ?_
  refine z_iconst (v := 1) B dL_law_2848 rfl ?_
  refine z_iadd B dL_law_2849 ?_
  refine z_top (st1 := [.int 1, .ref b, .ref y]) (congrArg (fun w9 : Int32 => ([.int w9, .ref b, .ref y] : List Value)) (show (0 + 1 : Int32) = 1 by decide +kernel)) ?_
  refine z_sald B hX hbn (vin rfl) dL_law_2850 ?_
  refine z_top (st1 := [.int a1, .ref y]) (congrArg (fun w9 : Int32 => ([.int w9, .ref y] : List Value)) (show xs (1 : Int32).toNatClampNeg = a1 from hx1)) ?_
  refine z_aload_n B dL_law_2851 rfl 6 rfl ?_
  refine z_iload B dL_law_2852 1 rfl ?_
  refine z_iconst (v := 2) B dL_law_2854 rfl ?_
  refine z_iadd B dL_law_2855 ?_
  refine z_top (st1 := [.int 2, .ref b, .int a1, .ref y]) (congrArg (fun w9 : Int32 => ([.int w9, .ref b, .int a1, .ref y] : List Value)) (show (0 + 2 : Int32) = 2 by decide +kernel)) ?_
  refine z_sald B hX hbn (vin rfl) dL_law_2856 ?_
  refine z_top (st1 := [.int 0, .int a1, .ref y]) (congrArg (fun w9 : Int32 => ([.int w9, .int a1, .ref y] : List Value)) (show xs (2 : Int32).toNatClampNeg = 0 from hx2)) ?_
  have h_1 : Φ1 y = some (o_ 14 [.int 0, .ref (y + 1), .ref (y + 2), .int 0, .int 1, .int 1, .int 0, .int 0, .ref (y + 3), .ref (y + 4), .int 0, .long 0, .ref (y + 5), .int 0, .int 0, .long 0, .long 0, .long 0, .long 0, .ref (y + 6), .ref (y + 7), .int 0, .ref (y + 8), .int 0, .ref (y + 9), .ref (y + 10), .int 0, .ref (y + 11), .ref (y + 12), .ref (y + 13), .ref (y + 14), .ref (y + 15), .ref (y + 16), .int 0, .long (-1), .ref (y + 17), .ref (y + 18), .ref (y + 19), .ref (y + 20), .ref (y + 21), .ref (y + 22), .int 0, .ref (y + 23), .ref (y + 24), .int 0, .ref (y + 25), .int 0, .int 0, .int 0, .int (-1), .int 0, .int 0, .int 0, .long 0]) := ((fr1 y hxy (Nat.ne_of_lt (Nat.lt_of_lt_of_le (lt_off (x := y) (i := 0) (j := 26) rfl) hyo))).trans hy_0)
  refine z_callV (As := [.int a1, .int 0]) (rest := []) B (m_X12_ranked_0 G l Φ1 sz1 y a1 h_1 (Nat.le_trans hna (Nat.le_trans (Nat.le_add_right x 149) hxy))) (cwV 2 B.1.2.2.2.2 gL_law_X12_ranked rfl rfl rfl (by decide +kernel) ⟨Nat.le_of_ble_eq_true rfl, Nat.le_of_ble_eq_true rfl⟩) h_1 rfl rfl rfl rfl (Nat.le_of_ble_eq_true rfl) dL_law_2857 ⟨Nat.le_of_ble_eq_true rfl, Nat.le_of_ble_eq_true rfl⟩ (fun v2 Φ2 sz2 st2 hp2 hs2 => ?_)
  obtain ⟨rfl, ⟨fs1, hy1, hk1⟩, fr2⟩ := hp2
  replace hs2 : st2 = [.int (-1)] := hs2
  subst st2
  refine z_istore (lv' := [(7, .int (-1)), (6, .int 0), (5, .int 0), (4, .ref d), (3, .ref o), (2, .ref y), (1, .ref x), (0, .ref b)]) B dL_law_2860 (Nat.le_of_ble_eq_true rfl) rfl ?_
  refine z_aload_n B dL_law_2862 rfl 5 rfl ?_
  refine z_callV (As := []) (rest := []) B (m_thrown G l Φ2 sz2 y fs1 0 hy1 hk1) (cwV 0 B.1.2.2.2.2 gL_law_X12_thrown rfl rfl rfl (by decide +kernel) ⟨Nat.le_of_ble_eq_true rfl, Nat.le_of_ble_eq_true rfl⟩) hy1 rfl rfl rfl rfl (Nat.le_of_ble_eq_true rfl) dL_law_2863 ⟨Nat.le_of_ble_eq_true rfl, Nat.le_of_ble_eq_true rfl⟩ (fun v3 Φ3 sz3 st3 hp3 hs3 => ?_)
  obtain ⟨rfl, he1⟩ := hp3
  replace hs3 : st3 = [.int 0] := hs3
  subst st3
  rw [he1]
  refine z_iload B dL_law_2866 1 rfl ?_
  refine z_icmp_eq (tgt := 2873) B dL_law_2868 rfl (fun c_1 => ?_) (fun h9 => absurd (by decide) h9)
  refine z_iload B dL_law_2873 1 rfl ?_
  refine z_if_ne (tgt := 2890) B dL_law_2875 rfl (fun h9 => absurd (by decide) h9) (fun c_2 => ?_)
  refine z_aload_n B dL_law_2878 rfl 4 rfl ?_
  refine z_iconst (v := 0) B dL_law_2879 rfl ?_
  have h_2 : Φ2 o = some (al_ G 1 g1) := ((fr2 o hyo).trans ho1)
  refine z_lald B h_2 (vin rfl) dL_law_2880 ?_
  refine z_top (st1 := [.long (-1)]) (congrArg (fun w9 : Int64 => ([.long w9] : List Value)) (show g1 (0 : Int32).toNatClampNeg = (-1) from hg1)) ?_
  refine z_iload B dL_law_2881 0 rfl ?_
  refine z_i2l (v := (-1)) B dL_law_2883 (by decide +kernel) ?_
  refine z_lcmp B dL_law_2884 ?_
  refine z_top (st1 := [.int 0]) (congrArg (fun w9 : Int32 => ([.int w9] : List Value)) (show (lg_cmp (-1) (-1) : Int32) = 0 by decide +kernel)) ?_
  refine z_if_eq (tgt := 2890) B dL_law_2885 rfl (fun c_3 => ?_) (fun h9 => absurd (by decide) h9)
  refine z_goto (tgt := 2893) B dL_law_2890 rfl ?_
  refine z_lv [2, 3, 4, 5, 6, 7] rfl ?_
  refine z_widen (k := 178) (n := 20844) (Nat.le_of_ble_eq_true rfl) (Nat.le_of_ble_eq_true rfl) ?_
  exact hT _ _

set_option maxHeartbeats 4000000 in
set_option maxRecDepth 100000 in
theorem lc_58_1 {p9 : Program} {e9 : Env} {s9 : State} {m9 : MethodId} {a9 : Array Value} {w9 : List Frame} {t9 : Method} {k9 : Code} {Q9 : State → Prop} {nm9 : String} (G : EnvG) (l : Launch) (hl9 : l.stackTraces = false) (B : Bd p9 s9 m9 a9 t9 k9 G code 9 RL wsL_law ret nm9) (Φ : Hm) (sz : Nat) (b : Nat) (xs : Nat → Int32) (hX : va_X b 7 xs s9 s9.heap) (hbn : b < G.2.2.2) (x y o d : Nat) (a1 : Int32) (go : Nat → Int64) (gd : Nat → UInt64) (hna : G.2.2.2 ≤ x) (hxy : x + 149 ≤ y) (hyo : y + 26 ≤ o) (hyd : y + 26 ≤ d) (hod : o ≠ d) (hx_0 : Φ x = some (o_ 13 [.ref (x + 1), .ref (x + 3), .ref (x + 24), .ref (x + 46), .ref (x + 74), .ref (x + 80), .ref (x + 132), .ref (x + 121)])) (hx_121 : Φ (x + 121) = some (o_ 11 [.ref (x + 122), .ref (x + 123), .ref (x + 126), .ref (x + 129), .int 0])) (hy_0 : Φ y = some (o_ 14 [.int 0, .ref (y + 1), .ref (y + 2), .int 0, .int 1, .int 1, .int 0, .int 0, .ref (y + 3), .ref (y + 4), .int 0, .long 0, .ref (y + 5), .int 0, .int 0, .long 0, .long 0, .long 0, .long 0, .ref (y + 6), .ref (y + 7), .int 0, .ref (y + 8), .int 0, .ref (y + 9), .ref (y + 10), .int 0, .ref (y + 11), .ref (y + 12), .ref (y + 13), .ref (y + 14), .ref (y + 15), .ref (y + 16), .int 0, .long (-1), .ref (y + 17), .ref (y + 18), .ref (y + 19), .ref (y + 20), .ref (y + 21), .ref (y + 22), .int 0, .ref (y + 23), .ref (y + 24), .int 0, .ref (y + 25), .int 0, .int 0, .int 0, .int (-1), .int 0, .int 0, .int 0, .long 0])) (hco : Φ o = some (al_ G 1 go)) (hx1 : xs 1 = a1) (hx2 : xs 2 = 1) (hT : ∀ (Φ1 : Hm) (sz1 : Nat), Z p9 l e9 room_1 s9 m9 a9 w9 t9 k9 Q9 G 9 2893 [(5, .int 0), (4, .ref d), (3, .ref o), (2, .ref y), (1, .ref x), (0, .ref b)] [] Φ1 sz1 178 20844) : Z p9 l e9 room_1 s9 m9 a9 w9 t9 k9 Q9 G 9 2825 [(5, .int 0), (4, .ref d), (3, .ref o), (2, .ref y), (1, .ref x), (0, .ref b)] [] Φ sz 177 20838 := by
  refine z_aload_n B dL_law_2825 rfl 4 rfl ?_
  refine z_aload_n B dL_law_2826 rfl 5 rfl ?_
  refine z_iload B dL_law_2827 0 rfl ?_
  refine z_iconst (v := 1) B dL_law_2829 rfl ?_
  refine z_iadd B dL_law_2830 ?_
  refine z_top (st1 := [.int 1, .ref b, .ref x]) (congrArg (fun w9 : Int32 => ([.int w9, .ref b, .ref x] : List Value)) (show (0 + 1 : Int32) = 1 by decide +kernel)) ?_
  refine z_sald B hX hbn (vin rfl) dL_law_2831 ?_
  refine z_top (st1 := [.int a1, .ref x]) (congrArg (fun w9 : Int32 => ([.int w9, .ref x] : List Value)) (show xs (1 : Int32).toNatClampNeg = a1 from hx1)) ?_
  refine z_aload_n B dL_law_2832 rfl 5 rfl ?_
  refine z_iload B dL_law_2833 0 rfl ?_
  refine z_iconst (v := 2) B dL_law_2835 rfl ?_
  refine z_iadd B dL_law_2836 ?_
  refine z_top (st1 := [.int 2, .ref b, .int a1, .ref x]) (congrArg (fun w9 : Int32 => ([.int w9, .ref b, .int a1, .ref x] : List Value)) (show (0 + 2 : Int32) = 2 by decide +kernel)) ?_
  refine z_sald B hX hbn (vin rfl) dL_law_2837 ?_
  refine z_top (st1 := [.int 1, .int a1, .ref x]) (congrArg (fun w9 : Int32 => ([.int w9, .int a1, .ref x] : List Value)) (show xs (2 : Int32).toNatClampNeg = 1 from hx2)) ?_
  refine z_aload_n B dL_law_2838 rfl 2 rfl ?_
  refine z_callSW (As := [.ref x, .int a1, .int 1, .ref o]) (rest := []) B (w_ranked_1 G l Φ sz x o a1 go hx_0 hx_121 hco hna (Nat.le_trans hxy (Nat.le_trans (Nat.le_add_right y 26) hyo))) (vx_cwSW 4 B.1.2.2.2.2 gL_law_L_ranked rfl rfl rfl (by decide +kernel) ⟨Nat.le_of_ble_eq_true rfl, Nat.le_of_ble_eq_true rfl⟩) rfl rfl (Nat.le_of_ble_eq_true rfl) dL_law_2839 ⟨Nat.le_of_ble_eq_true rfl, Nat.le_of_ble_eq_true rfl⟩ (fun v1 Φ1 sz1 st1 hp1 hs1 => ?_)
  obtain ⟨rfl, fr1, g1, ho1, hg1⟩ := hp1
  replace hs1 : st1 = [.int 0] := hs1
  subst st1
  refine z_istore (lv' := [(6, .int 0), (5, .int 0), (4, .ref d), (3, .ref o), (2, .ref y), (1, .ref x), (0, .ref b)]) B dL_law_2842 (Nat.le_of_ble_eq_true rfl) rfl ?_
  refine z_aload_n B dL_law_2844 rfl 4 rfl ?_
  refine z_aload_n B dL_law_2845 rfl 6 rfl ?_
  refine z_iload B dL_law_2846 1 rfl ?_
  refine z_iconst (v := 1) B dL_law_2848 rfl ?_
  refine z_iadd B dL_law_2849 ?_
  refine z_top (st1 := [.int 1, .ref b, .ref y]) (congrArg (fun w9 : Int32 => ([.int w9, .ref b, .ref y] : List Value)) (show (0 + 1 : Int32) = 1 by decide +kernel)) ?_
  refine z_sald B hX hbn (vin rfl) dL_law_2850 ?_
  refine z_top (st1 := [.int a1, .ref y]) (congrArg (fun w9 : Int32 => ([.int w9, .ref y] : List Value)) (show xs (1 : Int32).toNatClampNeg = a1 from hx1)) ?_
  refine z_aload_n B dL_law_2851 rfl 6 rfl ?_
  refine z_iload B dL_law_2852 1 rfl ?_
  refine z_iconst (v := 2) B dL_law_2854 rfl ?_
  refine z_iadd B dL_law_2855 ?_
  refine z_top (st1 := [.int 2, .ref b, .int a1, .ref y]) (congrArg (fun w9 : Int32 => ([.int w9, .ref b, .int a1, .ref y] : List Value)) (show (0 + 2 : Int32) = 2 by decide +kernel)) ?_
  refine z_sald B hX hbn (vin rfl) dL_law_2856 ?_
  refine z_top (st1 := [.int 1, .int a1, .ref y]) (congrArg (fun w9 : Int32 => ([.int w9, .int a1, .ref y] : List Value)) (show xs (2 : Int32).toNatClampNeg = 1 from hx2)) ?_
  have h_1 : Φ1 y = some (o_ 14 [.int 0, .ref (y + 1), .ref (y + 2), .int 0, .int 1, .int 1, .int 0, .int 0, .ref (y + 3), .ref (y + 4), .int 0, .long 0, .ref (y + 5), .int 0, .int 0, .long 0, .long 0, .long 0, .long 0, .ref (y + 6), .ref (y + 7), .int 0, .ref (y + 8), .int 0, .ref (y + 9), .ref (y + 10), .int 0, .ref (y + 11), .ref (y + 12), .ref (y + 13), .ref (y + 14), .ref (y + 15), .ref (y + 16), .int 0, .long (-1), .ref (y + 17), .ref (y + 18), .ref (y + 19), .ref (y + 20), .ref (y + 21), .ref (y + 22), .int 0, .ref (y + 23), .ref (y + 24), .int 0, .ref (y + 25), .int 0, .int 0, .int 0, .int (-1), .int 0, .int 0, .int 0, .long 0]) := ((fr1 y hxy (Nat.ne_of_lt (Nat.lt_of_lt_of_le (lt_off (x := y) (i := 0) (j := 26) rfl) hyo))).trans hy_0)
  refine z_callV (As := [.int a1, .int 1]) (rest := []) B (m_X12_ranked_1 G l Φ1 sz1 y a1 h_1 (Nat.le_trans hna (Nat.le_trans (Nat.le_add_right x 149) hxy))) (cwV 2 B.1.2.2.2.2 gL_law_X12_ranked rfl rfl rfl (by decide +kernel) ⟨Nat.le_of_ble_eq_true rfl, Nat.le_of_ble_eq_true rfl⟩) h_1 rfl rfl rfl rfl (Nat.le_of_ble_eq_true rfl) dL_law_2857 ⟨Nat.le_of_ble_eq_true rfl, Nat.le_of_ble_eq_true rfl⟩ (fun v2 Φ2 sz2 st2 hp2 hs2 => ?_)
  obtain ⟨rfl, ⟨fs1, hy1, hk1⟩, fr2⟩ := hp2
  replace hs2 : st2 = [.int (-1)] := hs2
  subst st2
  refine z_istore (lv' := [(7, .int (-1)), (6, .int 0), (5, .int 0), (4, .ref d), (3, .ref o), (2, .ref y), (1, .ref x), (0, .ref b)]) B dL_law_2860 (Nat.le_of_ble_eq_true rfl) rfl ?_
  refine z_aload_n B dL_law_2862 rfl 5 rfl ?_
  refine z_callV (As := []) (rest := []) B (m_thrown G l Φ2 sz2 y fs1 0 hy1 hk1) (cwV 0 B.1.2.2.2.2 gL_law_X12_thrown rfl rfl rfl (by decide +kernel) ⟨Nat.le_of_ble_eq_true rfl, Nat.le_of_ble_eq_true rfl⟩) hy1 rfl rfl rfl rfl (Nat.le_of_ble_eq_true rfl) dL_law_2863 ⟨Nat.le_of_ble_eq_true rfl, Nat.le_of_ble_eq_true rfl⟩ (fun v3 Φ3 sz3 st3 hp3 hs3 => ?_)
  obtain ⟨rfl, he1⟩ := hp3
  replace hs3 : st3 = [.int 0] := hs3
  subst st3
  rw [he1]
  refine z_iload B dL_law_2866 1 rfl ?_
  refine z_icmp_eq (tgt := 2873) B dL_law_2868 rfl (fun c_1 => ?_) (fun h9 => absurd (by decide) h9)
  refine z_iload B dL_law_2873 1 rfl ?_
  refine z_if_ne (tgt := 2890) B dL_law_2875 rfl (fun h9 => absurd (by decide) h9) (fun c_2 => ?_)
  refine z_aload_n B dL_law_2878 rfl 4 rfl ?_
  refine z_iconst (v := 0) B dL_law_2879 rfl ?_
  have h_2 : Φ2 o = some (al_ G 1 g1) := ((fr2 o hyo).trans ho1)
  refine z_lald B h_2 (vin rfl) dL_law_2880 ?_
  refine z_top (st1 := [.long (-1)]) (congrArg (fun w9 : Int64 => ([.long w9] : List Value)) (show g1 (0 : Int32).toNatClampNeg = (-1) from hg1)) ?_
  refine z_iload B dL_law_2881 0 rfl ?_
  refine z_i2l (v := (-1)) B dL_law_2883 (by decide +kernel) ?_
  refine z_lcmp B dL_law_2884 ?_
  refine z_top (st1 := [.int 0]) (congrArg (fun w9 : Int32 => ([.int w9] : List Value)) (show (lg_cmp (-1) (-1) : Int32) = 0 by decide +kernel)) ?_
  refine z_if_eq (tgt := 2890) B dL_law_2885 rfl (fun c_3 => ?_) (fun h9 => absurd (by decide) h9)
  refine z_goto (tgt := 2893) B dL_law_2890 rfl ?_
  refine z_lv [2, 3, 4, 5, 6, 7] rfl ?_
  refine z_widen (k := 178) (n := 20844) (Nat.le_of_ble_eq_true rfl) (Nat.le_of_ble_eq_true rfl) ?_
  exact hT _ _

set_option maxHeartbeats 4000000 in
set_option maxRecDepth 100000 in
theorem lc_58_x {p9 : Program} {e9 : Env} {s9 : State} {m9 : MethodId} {a9 : Array Value} {w9 : List Frame} {t9 : Method} {k9 : Code} {Q9 : State → Prop} {nm9 : String} (G : EnvG) (l : Launch) (hl9 : l.stackTraces = false) (B : Bd p9 s9 m9 a9 t9 k9 G code 9 RL wsL_law ret nm9) (Φ : Hm) (sz : Nat) (b : Nat) (xs : Nat → Int32) (hX : va_X b 7 xs s9 s9.heap) (hbn : b < G.2.2.2) (x y o d : Nat) (a1 : Int32) (a2 : Int32) (go : Nat → Int64) (gd : Nat → UInt64) (hna : G.2.2.2 ≤ x) (hxy : x + 149 ≤ y) (hyo : y + 26 ≤ o) (hyd : y + 26 ≤ d) (hod : o ≠ d) (hx_0 : Φ x = some (o_ 13 [.ref (x + 1), .ref (x + 3), .ref (x + 24), .ref (x + 46), .ref (x + 74), .ref (x + 80), .ref (x + 132), .ref (x + 121)])) (hy_0 : Φ y = some (o_ 14 [.int 0, .ref (y + 1), .ref (y + 2), .int 0, .int 1, .int 1, .int 0, .int 0, .ref (y + 3), .ref (y + 4), .int 0, .long 0, .ref (y + 5), .int 0, .int 0, .long 0, .long 0, .long 0, .long 0, .ref (y + 6), .ref (y + 7), .int 0, .ref (y + 8), .int 0, .ref (y + 9), .ref (y + 10), .int 0, .ref (y + 11), .ref (y + 12), .ref (y + 13), .ref (y + 14), .ref (y + 15), .ref (y + 16), .int 0, .long (-1), .ref (y + 17), .ref (y + 18), .ref (y + 19), .ref (y + 20), .ref (y + 21), .ref (y + 22), .int 0, .ref (y + 23), .ref (y + 24), .int 0, .ref (y + 25), .int 0, .int 0, .int 0, .int (-1), .int 0, .int 0, .int 0, .long 0])) (hx1 : xs 1 = a1) (hx2 : xs 2 = a2) (Fhw : ¬ (a2 = 0 ∨ a2 = 1)) (Mhp : ¬ inP a2.toInt64 0 1) (hT : ∀ (Φ1 : Hm) (sz1 : Nat), Z p9 l e9 room_1 s9 m9 a9 w9 t9 k9 Q9 G 9 2893 [(5, .int 0), (4, .ref d), (3, .ref o), (2, .ref y), (1, .ref x), (0, .ref b)] [] Φ1 sz1 178 20844) : Z p9 l e9 room_1 s9 m9 a9 w9 t9 k9 Q9 G 9 2825 [(5, .int 0), (4, .ref d), (3, .ref o), (2, .ref y), (1, .ref x), (0, .ref b)] [] Φ sz 177 20838 := by
  refine z_aload_n B dL_law_2825 rfl 4 rfl ?_
  refine z_aload_n B dL_law_2826 rfl 5 rfl ?_
  refine z_iload B dL_law_2827 0 rfl ?_
  refine z_iconst (v := 1) B dL_law_2829 rfl ?_
  refine z_iadd B dL_law_2830 ?_
  refine z_top (st1 := [.int 1, .ref b, .ref x]) (congrArg (fun w9 : Int32 => ([.int w9, .ref b, .ref x] : List Value)) (show (0 + 1 : Int32) = 1 by decide +kernel)) ?_
  refine z_sald B hX hbn (vin rfl) dL_law_2831 ?_
  refine z_top (st1 := [.int a1, .ref x]) (congrArg (fun w9 : Int32 => ([.int w9, .ref x] : List Value)) (show xs (1 : Int32).toNatClampNeg = a1 from hx1)) ?_
  refine z_aload_n B dL_law_2832 rfl 5 rfl ?_
  refine z_iload B dL_law_2833 0 rfl ?_
  refine z_iconst (v := 2) B dL_law_2835 rfl ?_
  refine z_iadd B dL_law_2836 ?_
  refine z_top (st1 := [.int 2, .ref b, .int a1, .ref x]) (congrArg (fun w9 : Int32 => ([.int w9, .ref b, .int a1, .ref x] : List Value)) (show (0 + 2 : Int32) = 2 by decide +kernel)) ?_
  refine z_sald B hX hbn (vin rfl) dL_law_2837 ?_
  refine z_top (st1 := [.int a2, .int a1, .ref x]) (congrArg (fun w9 : Int32 => ([.int w9, .int a1, .ref x] : List Value)) (show xs (2 : Int32).toNatClampNeg = a2 from hx2)) ?_
  refine z_aload_n B dL_law_2838 rfl 2 rfl ?_
  refine z_callSW (As := [.ref x, .int a1, .int a2, .ref o]) (rest := []) B (w_ranked_x G l hl9 Φ sz x o a1 a2 hx_0 Fhw) (vx_cwSW 4 B.1.2.2.2.2 gL_law_L_ranked rfl rfl rfl (by decide +kernel) ⟨Nat.le_of_ble_eq_true rfl, Nat.le_of_ble_eq_true rfl⟩) rfl rfl (Nat.le_of_ble_eq_true rfl) dL_law_2839 ⟨Nat.le_of_ble_eq_true rfl, Nat.le_of_ble_eq_true rfl⟩ (fun v1 Φ1 sz1 st1 hp1 hs1 => ?_)
  obtain ⟨rfl, he1⟩ := hp1
  replace hs1 : st1 = [.int 1] := hs1
  subst st1
  rw [he1]
  refine z_istore (lv' := [(6, .int 1), (5, .int 0), (4, .ref d), (3, .ref o), (2, .ref y), (1, .ref x), (0, .ref b)]) B dL_law_2842 (Nat.le_of_ble_eq_true rfl) rfl ?_
  refine z_aload_n B dL_law_2844 rfl 4 rfl ?_
  refine z_aload_n B dL_law_2845 rfl 6 rfl ?_
  refine z_iload B dL_law_2846 1 rfl ?_
  refine z_iconst (v := 1) B dL_law_2848 rfl ?_
  refine z_iadd B dL_law_2849 ?_
  refine z_top (st1 := [.int 1, .ref b, .ref y]) (congrArg (fun w9 : Int32 => ([.int w9, .ref b, .ref y] : List Value)) (show (0 + 1 : Int32) = 1 by decide +kernel)) ?_
  refine z_sald B hX hbn (vin rfl) dL_law_2850 ?_
  refine z_top (st1 := [.int a1, .ref y]) (congrArg (fun w9 : Int32 => ([.int w9, .ref y] : List Value)) (show xs (1 : Int32).toNatClampNeg = a1 from hx1)) ?_
  refine z_aload_n B dL_law_2851 rfl 6 rfl ?_
  refine z_iload B dL_law_2852 1 rfl ?_
  refine z_iconst (v := 2) B dL_law_2854 rfl ?_
  refine z_iadd B dL_law_2855 ?_
  refine z_top (st1 := [.int 2, .ref b, .int a1, .ref y]) (congrArg (fun w9 : Int32 => ([.int w9, .ref b, .int a1, .ref y] : List Value)) (show (0 + 2 : Int32) = 2 by decide +kernel)) ?_
  refine z_sald B hX hbn (vin rfl) dL_law_2856 ?_
  refine z_top (st1 := [.int a2, .int a1, .ref y]) (congrArg (fun w9 : Int32 => ([.int w9, .int a1, .ref y] : List Value)) (show xs (2 : Int32).toNatClampNeg = a2 from hx2)) ?_
  refine z_callV (As := [.int a1, .int a2]) (rest := []) B (m_X12_ranked_x G l Φ sz1 y a1 a2 hy_0 (Nat.le_trans hna (Nat.le_trans (Nat.le_add_right x 149) hxy)) Mhp) (cwV 2 B.1.2.2.2.2 gL_law_X12_ranked rfl rfl rfl (by decide +kernel) ⟨Nat.le_of_ble_eq_true rfl, Nat.le_of_ble_eq_true rfl⟩) hy_0 rfl rfl rfl rfl (Nat.le_of_ble_eq_true rfl) dL_law_2857 ⟨Nat.le_of_ble_eq_true rfl, Nat.le_of_ble_eq_true rfl⟩ (fun v2 Φ2 sz2 st2 hp2 hs2 => ?_)
  obtain ⟨rfl, ⟨fs1, hy1, hk1⟩, fr1⟩ := hp2
  replace hs2 : st2 = [.int 0] := hs2
  subst st2
  refine z_istore (lv' := [(7, .int 0), (6, .int 1), (5, .int 0), (4, .ref d), (3, .ref o), (2, .ref y), (1, .ref x), (0, .ref b)]) B dL_law_2860 (Nat.le_of_ble_eq_true rfl) rfl ?_
  refine z_aload_n B dL_law_2862 rfl 5 rfl ?_
  refine z_callV (As := []) (rest := []) B (m_thrown G l Φ2 sz2 y fs1 1 hy1 hk1) (cwV 0 B.1.2.2.2.2 gL_law_X12_thrown rfl rfl rfl (by decide +kernel) ⟨Nat.le_of_ble_eq_true rfl, Nat.le_of_ble_eq_true rfl⟩) hy1 rfl rfl rfl rfl (Nat.le_of_ble_eq_true rfl) dL_law_2863 ⟨Nat.le_of_ble_eq_true rfl, Nat.le_of_ble_eq_true rfl⟩ (fun v3 Φ3 sz3 st3 hp3 hs3 => ?_)
  obtain ⟨rfl, he2⟩ := hp3
  replace hs3 : st3 = [.int 1] := hs3
  subst st3
  rw [he2]
  refine z_iload B dL_law_2866 1 rfl ?_
  refine z_icmp_eq (tgt := 2873) B dL_law_2868 rfl (fun c_1 => ?_) (fun h9 => absurd (by decide) h9)
  refine z_iload B dL_law_2873 1 rfl ?_
  refine z_if_ne (tgt := 2890) B dL_law_2875 rfl (fun c_2 => ?_) (fun h9 => absurd h9 (by decide))
  refine z_goto (tgt := 2893) B dL_law_2890 rfl ?_
  refine z_lv [2, 3, 4, 5, 6, 7] rfl ?_
  exact hT _ _

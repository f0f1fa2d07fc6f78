theorem ldc_at {L : List (Nat × Jvm.ClassFile.Instr × Nat)} (h : L.all (fun q => decide (decode cL_law q.1 = .ok (q.2.1, q.2.2))) = true) {q : Nat × Jvm.ClassFile.Instr × Nat} (n : Nat) (e : L[n]? = some q) : decode cL_law q.1 = .ok (q.2.1, q.2.2) := of_decide_eq_true (List.all_eq_true.mp h q (List.mem_of_getElem? e))
noncomputable def ldc_0 : List (Nat × Jvm.ClassFile.Instr × Nat) := [(0, .new 8, 3), (3, .dup, 1), (4, .invokespecial 117, 3), (7, .astore_n 1, 1), (8, .new 118, 3), (11, .dup, 1), (12, .invokespecial 120, 3), (15, .astore_n 2, 1), (16, .iconst 1, 1), (17, .newarray .long, 2), (19, .astore_n 3, 1), (20, .iconst 1, 1), (21, .newarray .double, 2), (23, .astore 4, 2), (25, .iconst 0, 1), (26, .istore 5, 2), (28, .iload 5, 2), (30, .aload_n 0, 1), (31, .arraylength, 1), (32, .bipush 7, 2), (34, .isub, 1), (35, .if_icmp .gt 1937, 3), (38, .aload_n 0, 1), (39, .iload 5, 2), (41, .iaload, 1), (42, .bipush 63, 2), (44, .iand, 1), (45, .tableswitch 1921 0 58 #[251, 324, 349, 362, 375, 388, 401, 477, 567, 595, 608, 621, 661, 674, 687, 712, 753, 778, 791, 819, 847, 887, 915, 971, 982, 1010, 1023, 1036, 1049, 1062, 1075, 1088, 1101, 1114, 1142, 1182, 1210, 1223, 1251, 1279, 1319, 1332, 1345, 1373, 1386, 1414, 1431, 1444, 1457, 1497, 1558, 1598, 1638, 1679, 1720, 1796, 1824, 1852, 1881], 251), (296, .aload_n 1, 1), (297, .aload_n 0, 1), (298, .iload 5, 2), (300, .iconst 1, 1), (301, .iadd, 1), (302, .iaload, 1), (303, .aload_n 0, 1), (304, .iload 5, 2), (306, .iconst 2, 1), (307, .iadd, 1), (308, .iaload, 1), (309, .aload_n 0, 1), (310, .iload 5, 2), (312, .iconst 3, 1), (313, .iadd, 1), (314, .iaload, 1), (315, .aload_n 0, 1), (316, .iload 5, 2), (318, .iconst 4, 1), (319, .iadd, 1)]
set_option maxRecDepth 100000 in
theorem ldc_0_ok : ldc_0.all (fun q => decide (decode cL_law q.1 = .ok (q.2.1, q.2.2))) = true := by decide +kernel
theorem dL_law_0 : decode cL_law 0 = .ok (.new 8, 3) := ldc_at ldc_0_ok (q := (0, .new 8, 3)) 0 rfl
theorem dL_law_3 : decode cL_law 3 = .ok (.dup, 1) := ldc_at ldc_0_ok (q := (3, .dup, 1)) 1 rfl
theorem dL_law_4 : decode cL_law 4 = .ok (.invokespecial 117, 3) := ldc_at ldc_0_ok (q := (4, .invokespecial 117, 3)) 2 rfl
theorem dL_law_7 : decode cL_law 7 = .ok (.astore_n 1, 1) := ldc_at ldc_0_ok (q := (7, .astore_n 1, 1)) 3 rfl
theorem dL_law_8 : decode cL_law 8 = .ok (.new 118, 3) := ldc_at ldc_0_ok (q := (8, .new 118, 3)) 4 rfl
theorem dL_law_11 : decode cL_law 11 = .ok (.dup, 1) := ldc_at ldc_0_ok (q := (11, .dup, 1)) 5 rfl
theorem dL_law_12 : decode cL_law 12 = .ok (.invokespecial 120, 3) := ldc_at ldc_0_ok (q := (12, .invokespecial 120, 3)) 6 rfl
theorem dL_law_15 : decode cL_law 15 = .ok (.astore_n 2, 1) := ldc_at ldc_0_ok (q := (15, .astore_n 2, 1)) 7 rfl
theorem dL_law_16 : decode cL_law 16 = .ok (.iconst 1, 1) := ldc_at ldc_0_ok (q := (16, .iconst 1, 1)) 8 rfl
theorem dL_law_17 : decode cL_law 17 = .ok (.newarray .long, 2) := ldc_at ldc_0_ok (q := (17, .newarray .long, 2)) 9 rfl
theorem dL_law_19 : decode cL_law 19 = .ok (.astore_n 3, 1) := ldc_at ldc_0_ok (q := (19, .astore_n 3, 1)) 10 rfl
theorem dL_law_20 : decode cL_law 20 = .ok (.iconst 1, 1) := ldc_at ldc_0_ok (q := (20, .iconst 1, 1)) 11 rfl
theorem dL_law_21 : decode cL_law 21 = .ok (.newarray .double, 2) := ldc_at ldc_0_ok (q := (21, .newarray .double, 2)) 12 rfl
theorem dL_law_23 : decode cL_law 23 = .ok (.astore 4, 2) := ldc_at ldc_0_ok (q := (23, .astore 4, 2)) 13 rfl
theorem dL_law_25 : decode cL_law 25 = .ok (.iconst 0, 1) := ldc_at ldc_0_ok (q := (25, .iconst 0, 1)) 14 rfl
theorem dL_law_26 : decode cL_law 26 = .ok (.istore 5, 2) := ldc_at ldc_0_ok (q := (26, .istore 5, 2)) 15 rfl
theorem dL_law_28 : decode cL_law 28 = .ok (.iload 5, 2) := ldc_at ldc_0_ok (q := (28, .iload 5, 2)) 16 rfl
theorem dL_law_30 : decode cL_law 30 = .ok (.aload_n 0, 1) := ldc_at ldc_0_ok (q := (30, .aload_n 0, 1)) 17 rfl
theorem dL_law_31 : decode cL_law 31 = .ok (.arraylength, 1) := ldc_at ldc_0_ok (q := (31, .arraylength, 1)) 18 rfl
theorem dL_law_32 : decode cL_law 32 = .ok (.bipush 7, 2) := ldc_at ldc_0_ok (q := (32, .bipush 7, 2)) 19 rfl
theorem dL_law_34 : decode cL_law 34 = .ok (.isub, 1) := ldc_at ldc_0_ok (q := (34, .isub, 1)) 20 rfl
theorem dL_law_35 : decode cL_law 35 = .ok (.if_icmp .gt 1937, 3) := ldc_at ldc_0_ok (q := (35, .if_icmp .gt 1937, 3)) 21 rfl
theorem dL_law_38 : decode cL_law 38 = .ok (.aload_n 0, 1) := ldc_at ldc_0_ok (q := (38, .aload_n 0, 1)) 22 rfl
theorem dL_law_39 : decode cL_law 39 = .ok (.iload 5, 2) := ldc_at ldc_0_ok (q := (39, .iload 5, 2)) 23 rfl
theorem dL_law_41 : decode cL_law 41 = .ok (.iaload, 1) := ldc_at ldc_0_ok (q := (41, .iaload, 1)) 24 rfl
theorem dL_law_42 : decode cL_law 42 = .ok (.bipush 63, 2) := ldc_at ldc_0_ok (q := (42, .bipush 63, 2)) 25 rfl
theorem dL_law_44 : decode cL_law 44 = .ok (.iand, 1) := ldc_at ldc_0_ok (q := (44, .iand, 1)) 26 rfl
theorem dL_law_45 : decode cL_law 45 = .ok (.tableswitch 1921 0 58 #[251, 324, 349, 362, 375, 388, 401, 477, 567, 595, 608, 621, 661, 674, 687, 712, 753, 778, 791, 819, 847, 887, 915, 971, 982, 1010, 1023, 1036, 1049, 1062, 1075, 1088, 1101, 1114, 1142, 1182, 1210, 1223, 1251, 1279, 1319, 1332, 1345, 1373, 1386, 1414, 1431, 1444, 1457, 1497, 1558, 1598, 1638, 1679, 1720, 1796, 1824, 1852, 1881], 251) := ldc_at ldc_0_ok (q := (45, .tableswitch 1921 0 58 #[251, 324, 349, 362, 375, 388, 401, 477, 567, 595, 608, 621, 661, 674, 687, 712, 753, 778, 791, 819, 847, 887, 915, 971, 982, 1010, 1023, 1036, 1049, 1062, 1075, 1088, 1101, 1114, 1142, 1182, 1210, 1223, 1251, 1279, 1319, 1332, 1345, 1373, 1386, 1414, 1431, 1444, 1457, 1497, 1558, 1598, 1638, 1679, 1720, 1796, 1824, 1852, 1881], 251)) 27 rfl
theorem dL_law_296 : decode cL_law 296 = .ok (.aload_n 1, 1) := ldc_at ldc_0_ok (q := (296, .aload_n 1, 1)) 28 rfl
theorem dL_law_297 : decode cL_law 297 = .ok (.aload_n 0, 1) := ldc_at ldc_0_ok (q := (297, .aload_n 0, 1)) 29 rfl
theorem dL_law_298 : decode cL_law 298 = .ok (.iload 5, 2) := ldc_at ldc_0_ok (q := (298, .iload 5, 2)) 30 rfl
theorem dL_law_300 : decode cL_law 300 = .ok (.iconst 1, 1) := ldc_at ldc_0_ok (q := (300, .iconst 1, 1)) 31 rfl
theorem dL_law_301 : decode cL_law 301 = .ok (.iadd, 1) := ldc_at ldc_0_ok (q := (301, .iadd, 1)) 32 rfl
theorem dL_law_302 : decode cL_law 302 = .ok (.iaload, 1) := ldc_at ldc_0_ok (q := (302, .iaload, 1)) 33 rfl
theorem dL_law_303 : decode cL_law 303 = .ok (.aload_n 0, 1) := ldc_at ldc_0_ok (q := (303, .aload_n 0, 1)) 34 rfl
theorem dL_law_304 : decode cL_law 304 = .ok (.iload 5, 2) := ldc_at ldc_0_ok (q := (304, .iload 5, 2)) 35 rfl
theorem dL_law_306 : decode cL_law 306 = .ok (.iconst 2, 1) := ldc_at ldc_0_ok (q := (306, .iconst 2, 1)) 36 rfl
theorem dL_law_307 : decode cL_law 307 = .ok (.iadd, 1) := ldc_at ldc_0_ok (q := (307, .iadd, 1)) 37 rfl
theorem dL_law_308 : decode cL_law 308 = .ok (.iaload, 1) := ldc_at ldc_0_ok (q := (308, .iaload, 1)) 38 rfl
theorem dL_law_309 : decode cL_law 309 = .ok (.aload_n 0, 1) := ldc_at ldc_0_ok (q := (309, .aload_n 0, 1)) 39 rfl
theorem dL_law_310 : decode cL_law 310 = .ok (.iload 5, 2) := ldc_at ldc_0_ok (q := (310, .iload 5, 2)) 40 rfl
theorem dL_law_312 : decode cL_law 312 = .ok (.iconst 3, 1) := ldc_at ldc_0_ok (q := (312, .iconst 3, 1)) 41 rfl
theorem dL_law_313 : decode cL_law 313 = .ok (.iadd, 1) := ldc_at ldc_0_ok (q := (313, .iadd, 1)) 42 rfl
theorem dL_law_314 : decode cL_law 314 = .ok (.iaload, 1) := ldc_at ldc_0_ok (q := (314, .iaload, 1)) 43 rfl
theorem dL_law_315 : decode cL_law 315 = .ok (.aload_n 0, 1) := ldc_at ldc_0_ok (q := (315, .aload_n 0, 1)) 44 rfl
theorem dL_law_316 : decode cL_law 316 = .ok (.iload 5, 2) := ldc_at ldc_0_ok (q := (316, .iload 5, 2)) 45 rfl
theorem dL_law_318 : decode cL_law 318 = .ok (.iconst 4, 1) := ldc_at ldc_0_ok (q := (318, .iconst 4, 1)) 46 rfl
theorem dL_law_319 : decode cL_law 319 = .ok (.iadd, 1) := ldc_at ldc_0_ok (q := (319, .iadd, 1)) 47 rfl
noncomputable def ldc_1 : List (Nat × Jvm.ClassFile.Instr × Nat) := [(320, .iaload, 1), (321, .aload_n 0, 1), (322, .iload 5, 2), (324, .iconst 5, 1), (325, .iadd, 1), (326, .iaload, 1), (327, .invokevirtual 121, 3), (330, .pop, 1), (331, .aload_n 2, 1), (332, .aload_n 0, 1), (333, .iload 5, 2), (335, .iconst 1, 1), (336, .iadd, 1), (337, .iaload, 1), (338, .aload_n 0, 1), (339, .iload 5, 2), (341, .iconst 2, 1), (342, .iadd, 1), (343, .iaload, 1), (344, .aload_n 0, 1), (345, .iload 5, 2), (347, .iconst 3, 1), (348, .iadd, 1), (349, .iaload, 1), (350, .aload_n 0, 1), (351, .iload 5, 2), (353, .iconst 4, 1), (354, .iadd, 1), (355, .iaload, 1), (356, .aload_n 0, 1), (357, .iload 5, 2), (359, .iconst 5, 1), (360, .iadd, 1), (361, .iaload, 1), (362, .invokevirtual 125, 3), (365, .pop, 1), (366, .goto 1600, 3), (369, .aload_n 1, 1), (370, .aload_n 0, 1), (371, .iload 5, 2), (373, .iconst 1, 1), (374, .iadd, 1), (375, .iaload, 1), (376, .invokevirtual 126, 3), (379, .pop, 1), (380, .aload_n 2, 1), (381, .aload_n 0, 1), (382, .iload 5, 2)]
set_option maxRecDepth 100000 in
theorem ldc_1_ok : ldc_1.all (fun q => decide (decode cL_law q.1 = .ok (q.2.1, q.2.2))) = true := by decide +kernel
theorem dL_law_320 : decode cL_law 320 = .ok (.iaload, 1) := ldc_at ldc_1_ok (q := (320, .iaload, 1)) 0 rfl
theorem dL_law_321 : decode cL_law 321 = .ok (.aload_n 0, 1) := ldc_at ldc_1_ok (q := (321, .aload_n 0, 1)) 1 rfl
theorem dL_law_322 : decode cL_law 322 = .ok (.iload 5, 2) := ldc_at ldc_1_ok (q := (322, .iload 5, 2)) 2 rfl
theorem dL_law_324 : decode cL_law 324 = .ok (.iconst 5, 1) := ldc_at ldc_1_ok (q := (324, .iconst 5, 1)) 3 rfl
theorem dL_law_325 : decode cL_law 325 = .ok (.iadd, 1) := ldc_at ldc_1_ok (q := (325, .iadd, 1)) 4 rfl
theorem dL_law_326 : decode cL_law 326 = .ok (.iaload, 1) := ldc_at ldc_1_ok (q := (326, .iaload, 1)) 5 rfl
theorem dL_law_327 : decode cL_law 327 = .ok (.invokevirtual 121, 3) := ldc_at ldc_1_ok (q := (327, .invokevirtual 121, 3)) 6 rfl
theorem dL_law_330 : decode cL_law 330 = .ok (.pop, 1) := ldc_at ldc_1_ok (q := (330, .pop, 1)) 7 rfl
theorem dL_law_331 : decode cL_law 331 = .ok (.aload_n 2, 1) := ldc_at ldc_1_ok (q := (331, .aload_n 2, 1)) 8 rfl
theorem dL_law_332 : decode cL_law 332 = .ok (.aload_n 0, 1) := ldc_at ldc_1_ok (q := (332, .aload_n 0, 1)) 9 rfl
theorem dL_law_333 : decode cL_law 333 = .ok (.iload 5, 2) := ldc_at ldc_1_ok (q := (333, .iload 5, 2)) 10 rfl
theorem dL_law_335 : decode cL_law 335 = .ok (.iconst 1, 1) := ldc_at ldc_1_ok (q := (335, .iconst 1, 1)) 11 rfl
theorem dL_law_336 : decode cL_law 336 = .ok (.iadd, 1) := ldc_at ldc_1_ok (q := (336, .iadd, 1)) 12 rfl
theorem dL_law_337 : decode cL_law 337 = .ok (.iaload, 1) := ldc_at ldc_1_ok (q := (337, .iaload, 1)) 13 rfl
theorem dL_law_338 : decode cL_law 338 = .ok (.aload_n 0, 1) := ldc_at ldc_1_ok (q := (338, .aload_n 0, 1)) 14 rfl
theorem dL_law_339 : decode cL_law 339 = .ok (.iload 5, 2) := ldc_at ldc_1_ok (q := (339, .iload 5, 2)) 15 rfl
theorem dL_law_341 : decode cL_law 341 = .ok (.iconst 2, 1) := ldc_at ldc_1_ok (q := (341, .iconst 2, 1)) 16 rfl
theorem dL_law_342 : decode cL_law 342 = .ok (.iadd, 1) := ldc_at ldc_1_ok (q := (342, .iadd, 1)) 17 rfl
theorem dL_law_343 : decode cL_law 343 = .ok (.iaload, 1) := ldc_at ldc_1_ok (q := (343, .iaload, 1)) 18 rfl
theorem dL_law_344 : decode cL_law 344 = .ok (.aload_n 0, 1) := ldc_at ldc_1_ok (q := (344, .aload_n 0, 1)) 19 rfl
theorem dL_law_345 : decode cL_law 345 = .ok (.iload 5, 2) := ldc_at ldc_1_ok (q := (345, .iload 5, 2)) 20 rfl
theorem dL_law_347 : decode cL_law 347 = .ok (.iconst 3, 1) := ldc_at ldc_1_ok (q := (347, .iconst 3, 1)) 21 rfl
theorem dL_law_348 : decode cL_law 348 = .ok (.iadd, 1) := ldc_at ldc_1_ok (q := (348, .iadd, 1)) 22 rfl
theorem dL_law_349 : decode cL_law 349 = .ok (.iaload, 1) := ldc_at ldc_1_ok (q := (349, .iaload, 1)) 23 rfl
theorem dL_law_350 : decode cL_law 350 = .ok (.aload_n 0, 1) := ldc_at ldc_1_ok (q := (350, .aload_n 0, 1)) 24 rfl
theorem dL_law_351 : decode cL_law 351 = .ok (.iload 5, 2) := ldc_at ldc_1_ok (q := (351, .iload 5, 2)) 25 rfl
theorem dL_law_353 : decode cL_law 353 = .ok (.iconst 4, 1) := ldc_at ldc_1_ok (q := (353, .iconst 4, 1)) 26 rfl
theorem dL_law_354 : decode cL_law 354 = .ok (.iadd, 1) := ldc_at ldc_1_ok (q := (354, .iadd, 1)) 27 rfl
theorem dL_law_355 : decode cL_law 355 = .ok (.iaload, 1) := ldc_at ldc_1_ok (q := (355, .iaload, 1)) 28 rfl
theorem dL_law_356 : decode cL_law 356 = .ok (.aload_n 0, 1) := ldc_at ldc_1_ok (q := (356, .aload_n 0, 1)) 29 rfl
theorem dL_law_357 : decode cL_law 357 = .ok (.iload 5, 2) := ldc_at ldc_1_ok (q := (357, .iload 5, 2)) 30 rfl
theorem dL_law_359 : decode cL_law 359 = .ok (.iconst 5, 1) := ldc_at ldc_1_ok (q := (359, .iconst 5, 1)) 31 rfl
theorem dL_law_360 : decode cL_law 360 = .ok (.iadd, 1) := ldc_at ldc_1_ok (q := (360, .iadd, 1)) 32 rfl
theorem dL_law_361 : decode cL_law 361 = .ok (.iaload, 1) := ldc_at ldc_1_ok (q := (361, .iaload, 1)) 33 rfl
theorem dL_law_362 : decode cL_law 362 = .ok (.invokevirtual 125, 3) := ldc_at ldc_1_ok (q := (362, .invokevirtual 125, 3)) 34 rfl
theorem dL_law_365 : decode cL_law 365 = .ok (.pop, 1) := ldc_at ldc_1_ok (q := (365, .pop, 1)) 35 rfl
theorem dL_law_366 : decode cL_law 366 = .ok (.goto 1600, 3) := ldc_at ldc_1_ok (q := (366, .goto 1600, 3)) 36 rfl
theorem dL_law_369 : decode cL_law 369 = .ok (.aload_n 1, 1) := ldc_at ldc_1_ok (q := (369, .aload_n 1, 1)) 37 rfl
theorem dL_law_370 : decode cL_law 370 = .ok (.aload_n 0, 1) := ldc_at ldc_1_ok (q := (370, .aload_n 0, 1)) 38 rfl
theorem dL_law_371 : decode cL_law 371 = .ok (.iload 5, 2) := ldc_at ldc_1_ok (q := (371, .iload 5, 2)) 39 rfl
theorem dL_law_373 : decode cL_law 373 = .ok (.iconst 1, 1) := ldc_at ldc_1_ok (q := (373, .iconst 1, 1)) 40 rfl
theorem dL_law_374 : decode cL_law 374 = .ok (.iadd, 1) := ldc_at ldc_1_ok (q := (374, .iadd, 1)) 41 rfl
theorem dL_law_375 : decode cL_law 375 = .ok (.iaload, 1) := ldc_at ldc_1_ok (q := (375, .iaload, 1)) 42 rfl
theorem dL_law_376 : decode cL_law 376 = .ok (.invokevirtual 126, 3) := ldc_at ldc_1_ok (q := (376, .invokevirtual 126, 3)) 43 rfl
theorem dL_law_379 : decode cL_law 379 = .ok (.pop, 1) := ldc_at ldc_1_ok (q := (379, .pop, 1)) 44 rfl
theorem dL_law_380 : decode cL_law 380 = .ok (.aload_n 2, 1) := ldc_at ldc_1_ok (q := (380, .aload_n 2, 1)) 45 rfl
theorem dL_law_381 : decode cL_law 381 = .ok (.aload_n 0, 1) := ldc_at ldc_1_ok (q := (381, .aload_n 0, 1)) 46 rfl
theorem dL_law_382 : decode cL_law 382 = .ok (.iload 5, 2) := ldc_at ldc_1_ok (q := (382, .iload 5, 2)) 47 rfl
noncomputable def ldc_2 : List (Nat × Jvm.ClassFile.Instr × Nat) := [(384, .iconst 1, 1), (385, .iadd, 1), (386, .iaload, 1), (387, .invokevirtual 129, 3), (390, .pop, 1), (391, .goto 1575, 3), (394, .aload_n 1, 1), (395, .invokevirtual 130, 3), (398, .pop, 1), (399, .aload_n 2, 1), (400, .invokevirtual 134, 3), (403, .pop, 1), (404, .goto 1562, 3), (407, .aload_n 1, 1), (408, .invokevirtual 135, 3), (411, .aload_n 2, 1), (412, .invokevirtual 138, 3), (415, .if_icmp .eq 1551, 3), (420, .aload_n 1, 1), (421, .invokevirtual 139, 3), (424, .pop, 1), (425, .aload_n 2, 1), (426, .invokevirtual 142, 3), (429, .pop, 1), (430, .goto 1536, 3), (433, .aload_n 1, 1), (434, .invokevirtual 143, 3), (437, .pop, 1), (438, .aload_n 2, 1), (439, .invokevirtual 146, 3), (442, .pop, 1), (443, .goto 1523, 3), (446, .aload_n 1, 1), (447, .aload_n 0, 1), (448, .iload 5, 2), (450, .iconst 1, 1), (451, .iadd, 1), (452, .iaload, 1), (453, .aload_n 0, 1), (454, .iload 5, 2), (456, .iconst 2, 1), (457, .iadd, 1), (458, .iaload, 1), (459, .aload_n 0, 1), (460, .iload 5, 2), (462, .iconst 3, 1), (463, .iadd, 1), (464, .iaload, 1)]
set_option maxRecDepth 100000 in
theorem ldc_2_ok : ldc_2.all (fun q => decide (decode cL_law q.1 = .ok (q.2.1, q.2.2))) = true := by decide +kernel
theorem dL_law_384 : decode cL_law 384 = .ok (.iconst 1, 1) := ldc_at ldc_2_ok (q := (384, .iconst 1, 1)) 0 rfl
theorem dL_law_385 : decode cL_law 385 = .ok (.iadd, 1) := ldc_at ldc_2_ok (q := (385, .iadd, 1)) 1 rfl
theorem dL_law_386 : decode cL_law 386 = .ok (.iaload, 1) := ldc_at ldc_2_ok (q := (386, .iaload, 1)) 2 rfl
theorem dL_law_387 : decode cL_law 387 = .ok (.invokevirtual 129, 3) := ldc_at ldc_2_ok (q := (387, .invokevirtual 129, 3)) 3 rfl
theorem dL_law_390 : decode cL_law 390 = .ok (.pop, 1) := ldc_at ldc_2_ok (q := (390, .pop, 1)) 4 rfl
theorem dL_law_391 : decode cL_law 391 = .ok (.goto 1575, 3) := ldc_at ldc_2_ok (q := (391, .goto 1575, 3)) 5 rfl
theorem dL_law_394 : decode cL_law 394 = .ok (.aload_n 1, 1) := ldc_at ldc_2_ok (q := (394, .aload_n 1, 1)) 6 rfl
theorem dL_law_395 : decode cL_law 395 = .ok (.invokevirtual 130, 3) := ldc_at ldc_2_ok (q := (395, .invokevirtual 130, 3)) 7 rfl
theorem dL_law_398 : decode cL_law 398 = .ok (.pop, 1) := ldc_at ldc_2_ok (q := (398, .pop, 1)) 8 rfl
theorem dL_law_399 : decode cL_law 399 = .ok (.aload_n 2, 1) := ldc_at ldc_2_ok (q := (399, .aload_n 2, 1)) 9 rfl
theorem dL_law_400 : decode cL_law 400 = .ok (.invokevirtual 134, 3) := ldc_at ldc_2_ok (q := (400, .invokevirtual 134, 3)) 10 rfl
theorem dL_law_403 : decode cL_law 403 = .ok (.pop, 1) := ldc_at ldc_2_ok (q := (403, .pop, 1)) 11 rfl
theorem dL_law_404 : decode cL_law 404 = .ok (.goto 1562, 3) := ldc_at ldc_2_ok (q := (404, .goto 1562, 3)) 12 rfl
theorem dL_law_407 : decode cL_law 407 = .ok (.aload_n 1, 1) := ldc_at ldc_2_ok (q := (407, .aload_n 1, 1)) 13 rfl
theorem dL_law_408 : decode cL_law 408 = .ok (.invokevirtual 135, 3) := ldc_at ldc_2_ok (q := (408, .invokevirtual 135, 3)) 14 rfl
theorem dL_law_411 : decode cL_law 411 = .ok (.aload_n 2, 1) := ldc_at ldc_2_ok (q := (411, .aload_n 2, 1)) 15 rfl
theorem dL_law_412 : decode cL_law 412 = .ok (.invokevirtual 138, 3) := ldc_at ldc_2_ok (q := (412, .invokevirtual 138, 3)) 16 rfl
theorem dL_law_415 : decode cL_law 415 = .ok (.if_icmp .eq 1551, 3) := ldc_at ldc_2_ok (q := (415, .if_icmp .eq 1551, 3)) 17 rfl
theorem dL_law_420 : decode cL_law 420 = .ok (.aload_n 1, 1) := ldc_at ldc_2_ok (q := (420, .aload_n 1, 1)) 18 rfl
theorem dL_law_421 : decode cL_law 421 = .ok (.invokevirtual 139, 3) := ldc_at ldc_2_ok (q := (421, .invokevirtual 139, 3)) 19 rfl
theorem dL_law_424 : decode cL_law 424 = .ok (.pop, 1) := ldc_at ldc_2_ok (q := (424, .pop, 1)) 20 rfl
theorem dL_law_425 : decode cL_law 425 = .ok (.aload_n 2, 1) := ldc_at ldc_2_ok (q := (425, .aload_n 2, 1)) 21 rfl
theorem dL_law_426 : decode cL_law 426 = .ok (.invokevirtual 142, 3) := ldc_at ldc_2_ok (q := (426, .invokevirtual 142, 3)) 22 rfl
theorem dL_law_429 : decode cL_law 429 = .ok (.pop, 1) := ldc_at ldc_2_ok (q := (429, .pop, 1)) 23 rfl
theorem dL_law_430 : decode cL_law 430 = .ok (.goto 1536, 3) := ldc_at ldc_2_ok (q := (430, .goto 1536, 3)) 24 rfl
theorem dL_law_433 : decode cL_law 433 = .ok (.aload_n 1, 1) := ldc_at ldc_2_ok (q := (433, .aload_n 1, 1)) 25 rfl
theorem dL_law_434 : decode cL_law 434 = .ok (.invokevirtual 143, 3) := ldc_at ldc_2_ok (q := (434, .invokevirtual 143, 3)) 26 rfl
theorem dL_law_437 : decode cL_law 437 = .ok (.pop, 1) := ldc_at ldc_2_ok (q := (437, .pop, 1)) 27 rfl
theorem dL_law_438 : decode cL_law 438 = .ok (.aload_n 2, 1) := ldc_at ldc_2_ok (q := (438, .aload_n 2, 1)) 28 rfl
theorem dL_law_439 : decode cL_law 439 = .ok (.invokevirtual 146, 3) := ldc_at ldc_2_ok (q := (439, .invokevirtual 146, 3)) 29 rfl
theorem dL_law_442 : decode cL_law 442 = .ok (.pop, 1) := ldc_at ldc_2_ok (q := (442, .pop, 1)) 30 rfl
theorem dL_law_443 : decode cL_law 443 = .ok (.goto 1523, 3) := ldc_at ldc_2_ok (q := (443, .goto 1523, 3)) 31 rfl
theorem dL_law_446 : decode cL_law 446 = .ok (.aload_n 1, 1) := ldc_at ldc_2_ok (q := (446, .aload_n 1, 1)) 32 rfl
theorem dL_law_447 : decode cL_law 447 = .ok (.aload_n 0, 1) := ldc_at ldc_2_ok (q := (447, .aload_n 0, 1)) 33 rfl
theorem dL_law_448 : decode cL_law 448 = .ok (.iload 5, 2) := ldc_at ldc_2_ok (q := (448, .iload 5, 2)) 34 rfl
theorem dL_law_450 : decode cL_law 450 = .ok (.iconst 1, 1) := ldc_at ldc_2_ok (q := (450, .iconst 1, 1)) 35 rfl
theorem dL_law_451 : decode cL_law 451 = .ok (.iadd, 1) := ldc_at ldc_2_ok (q := (451, .iadd, 1)) 36 rfl
theorem dL_law_452 : decode cL_law 452 = .ok (.iaload, 1) := ldc_at ldc_2_ok (q := (452, .iaload, 1)) 37 rfl
theorem dL_law_453 : decode cL_law 453 = .ok (.aload_n 0, 1) := ldc_at ldc_2_ok (q := (453, .aload_n 0, 1)) 38 rfl
theorem dL_law_454 : decode cL_law 454 = .ok (.iload 5, 2) := ldc_at ldc_2_ok (q := (454, .iload 5, 2)) 39 rfl
theorem dL_law_456 : decode cL_law 456 = .ok (.iconst 2, 1) := ldc_at ldc_2_ok (q := (456, .iconst 2, 1)) 40 rfl
theorem dL_law_457 : decode cL_law 457 = .ok (.iadd, 1) := ldc_at ldc_2_ok (q := (457, .iadd, 1)) 41 rfl
theorem dL_law_458 : decode cL_law 458 = .ok (.iaload, 1) := ldc_at ldc_2_ok (q := (458, .iaload, 1)) 42 rfl
theorem dL_law_459 : decode cL_law 459 = .ok (.aload_n 0, 1) := ldc_at ldc_2_ok (q := (459, .aload_n 0, 1)) 43 rfl
theorem dL_law_460 : decode cL_law 460 = .ok (.iload 5, 2) := ldc_at ldc_2_ok (q := (460, .iload 5, 2)) 44 rfl
theorem dL_law_462 : decode cL_law 462 = .ok (.iconst 3, 1) := ldc_at ldc_2_ok (q := (462, .iconst 3, 1)) 45 rfl
theorem dL_law_463 : decode cL_law 463 = .ok (.iadd, 1) := ldc_at ldc_2_ok (q := (463, .iadd, 1)) 46 rfl
theorem dL_law_464 : decode cL_law 464 = .ok (.iaload, 1) := ldc_at ldc_2_ok (q := (464, .iaload, 1)) 47 rfl
noncomputable def ldc_3 : List (Nat × Jvm.ClassFile.Instr × Nat) := [(465, .aload_n 0, 1), (466, .iload 5, 2), (468, .iconst 4, 1), (469, .iadd, 1), (470, .iaload, 1), (471, .aload_n 0, 1), (472, .iload 5, 2), (474, .iconst 5, 1), (475, .iadd, 1), (476, .iaload, 1), (477, .aload_n 3, 1), (478, .invokestatic 147, 3), (481, .istore 6, 2), (483, .aload_n 2, 1), (484, .aload_n 0, 1), (485, .iload 5, 2), (487, .iconst 1, 1), (488, .iadd, 1), (489, .iaload, 1), (490, .aload_n 0, 1), (491, .iload 5, 2), (493, .iconst 2, 1), (494, .iadd, 1), (495, .iaload, 1), (496, .aload_n 0, 1), (497, .iload 5, 2), (499, .iconst 3, 1), (500, .iadd, 1), (501, .iaload, 1), (502, .aload_n 0, 1), (503, .iload 5, 2), (505, .iconst 4, 1), (506, .iadd, 1), (507, .iaload, 1), (508, .aload_n 0, 1), (509, .iload 5, 2), (511, .iconst 5, 1), (512, .iadd, 1), (513, .iaload, 1), (514, .invokevirtual 152, 3), (517, .istore 7, 2), (519, .goto 1447, 3), (522, .aload_n 1, 1), (523, .aload_n 0, 1), (524, .iload 5, 2), (526, .iconst 1, 1), (527, .iadd, 1), (528, .iaload, 1)]
set_option maxRecDepth 100000 in
theorem ldc_3_ok : ldc_3.all (fun q => decide (decode cL_law q.1 = .ok (q.2.1, q.2.2))) = true := by decide +kernel
theorem dL_law_465 : decode cL_law 465 = .ok (.aload_n 0, 1) := ldc_at ldc_3_ok (q := (465, .aload_n 0, 1)) 0 rfl
theorem dL_law_466 : decode cL_law 466 = .ok (.iload 5, 2) := ldc_at ldc_3_ok (q := (466, .iload 5, 2)) 1 rfl
theorem dL_law_468 : decode cL_law 468 = .ok (.iconst 4, 1) := ldc_at ldc_3_ok (q := (468, .iconst 4, 1)) 2 rfl
theorem dL_law_469 : decode cL_law 469 = .ok (.iadd, 1) := ldc_at ldc_3_ok (q := (469, .iadd, 1)) 3 rfl
theorem dL_law_470 : decode cL_law 470 = .ok (.iaload, 1) := ldc_at ldc_3_ok (q := (470, .iaload, 1)) 4 rfl
theorem dL_law_471 : decode cL_law 471 = .ok (.aload_n 0, 1) := ldc_at ldc_3_ok (q := (471, .aload_n 0, 1)) 5 rfl
theorem dL_law_472 : decode cL_law 472 = .ok (.iload 5, 2) := ldc_at ldc_3_ok (q := (472, .iload 5, 2)) 6 rfl
theorem dL_law_474 : decode cL_law 474 = .ok (.iconst 5, 1) := ldc_at ldc_3_ok (q := (474, .iconst 5, 1)) 7 rfl
theorem dL_law_475 : decode cL_law 475 = .ok (.iadd, 1) := ldc_at ldc_3_ok (q := (475, .iadd, 1)) 8 rfl
theorem dL_law_476 : decode cL_law 476 = .ok (.iaload, 1) := ldc_at ldc_3_ok (q := (476, .iaload, 1)) 9 rfl
theorem dL_law_477 : decode cL_law 477 = .ok (.aload_n 3, 1) := ldc_at ldc_3_ok (q := (477, .aload_n 3, 1)) 10 rfl
theorem dL_law_478 : decode cL_law 478 = .ok (.invokestatic 147, 3) := ldc_at ldc_3_ok (q := (478, .invokestatic 147, 3)) 11 rfl
theorem dL_law_481 : decode cL_law 481 = .ok (.istore 6, 2) := ldc_at ldc_3_ok (q := (481, .istore 6, 2)) 12 rfl
theorem dL_law_483 : decode cL_law 483 = .ok (.aload_n 2, 1) := ldc_at ldc_3_ok (q := (483, .aload_n 2, 1)) 13 rfl
theorem dL_law_484 : decode cL_law 484 = .ok (.aload_n 0, 1) := ldc_at ldc_3_ok (q := (484, .aload_n 0, 1)) 14 rfl
theorem dL_law_485 : decode cL_law 485 = .ok (.iload 5, 2) := ldc_at ldc_3_ok (q := (485, .iload 5, 2)) 15 rfl
theorem dL_law_487 : decode cL_law 487 = .ok (.iconst 1, 1) := ldc_at ldc_3_ok (q := (487, .iconst 1, 1)) 16 rfl
theorem dL_law_488 : decode cL_law 488 = .ok (.iadd, 1) := ldc_at ldc_3_ok (q := (488, .iadd, 1)) 17 rfl
theorem dL_law_489 : decode cL_law 489 = .ok (.iaload, 1) := ldc_at ldc_3_ok (q := (489, .iaload, 1)) 18 rfl
theorem dL_law_490 : decode cL_law 490 = .ok (.aload_n 0, 1) := ldc_at ldc_3_ok (q := (490, .aload_n 0, 1)) 19 rfl
theorem dL_law_491 : decode cL_law 491 = .ok (.iload 5, 2) := ldc_at ldc_3_ok (q := (491, .iload 5, 2)) 20 rfl
theorem dL_law_493 : decode cL_law 493 = .ok (.iconst 2, 1) := ldc_at ldc_3_ok (q := (493, .iconst 2, 1)) 21 rfl
theorem dL_law_494 : decode cL_law 494 = .ok (.iadd, 1) := ldc_at ldc_3_ok (q := (494, .iadd, 1)) 22 rfl
theorem dL_law_495 : decode cL_law 495 = .ok (.iaload, 1) := ldc_at ldc_3_ok (q := (495, .iaload, 1)) 23 rfl
theorem dL_law_496 : decode cL_law 496 = .ok (.aload_n 0, 1) := ldc_at ldc_3_ok (q := (496, .aload_n 0, 1)) 24 rfl
theorem dL_law_497 : decode cL_law 497 = .ok (.iload 5, 2) := ldc_at ldc_3_ok (q := (497, .iload 5, 2)) 25 rfl
theorem dL_law_499 : decode cL_law 499 = .ok (.iconst 3, 1) := ldc_at ldc_3_ok (q := (499, .iconst 3, 1)) 26 rfl
theorem dL_law_500 : decode cL_law 500 = .ok (.iadd, 1) := ldc_at ldc_3_ok (q := (500, .iadd, 1)) 27 rfl
theorem dL_law_501 : decode cL_law 501 = .ok (.iaload, 1) := ldc_at ldc_3_ok (q := (501, .iaload, 1)) 28 rfl
theorem dL_law_502 : decode cL_law 502 = .ok (.aload_n 0, 1) := ldc_at ldc_3_ok (q := (502, .aload_n 0, 1)) 29 rfl
theorem dL_law_503 : decode cL_law 503 = .ok (.iload 5, 2) := ldc_at ldc_3_ok (q := (503, .iload 5, 2)) 30 rfl
theorem dL_law_505 : decode cL_law 505 = .ok (.iconst 4, 1) := ldc_at ldc_3_ok (q := (505, .iconst 4, 1)) 31 rfl
theorem dL_law_506 : decode cL_law 506 = .ok (.iadd, 1) := ldc_at ldc_3_ok (q := (506, .iadd, 1)) 32 rfl
theorem dL_law_507 : decode cL_law 507 = .ok (.iaload, 1) := ldc_at ldc_3_ok (q := (507, .iaload, 1)) 33 rfl
theorem dL_law_508 : decode cL_law 508 = .ok (.aload_n 0, 1) := ldc_at ldc_3_ok (q := (508, .aload_n 0, 1)) 34 rfl
theorem dL_law_509 : decode cL_law 509 = .ok (.iload 5, 2) := ldc_at ldc_3_ok (q := (509, .iload 5, 2)) 35 rfl
theorem dL_law_511 : decode cL_law 511 = .ok (.iconst 5, 1) := ldc_at ldc_3_ok (q := (511, .iconst 5, 1)) 36 rfl
theorem dL_law_512 : decode cL_law 512 = .ok (.iadd, 1) := ldc_at ldc_3_ok (q := (512, .iadd, 1)) 37 rfl
theorem dL_law_513 : decode cL_law 513 = .ok (.iaload, 1) := ldc_at ldc_3_ok (q := (513, .iaload, 1)) 38 rfl
theorem dL_law_514 : decode cL_law 514 = .ok (.invokevirtual 152, 3) := ldc_at ldc_3_ok (q := (514, .invokevirtual 152, 3)) 39 rfl
theorem dL_law_517 : decode cL_law 517 = .ok (.istore 7, 2) := ldc_at ldc_3_ok (q := (517, .istore 7, 2)) 40 rfl
theorem dL_law_519 : decode cL_law 519 = .ok (.goto 1447, 3) := ldc_at ldc_3_ok (q := (519, .goto 1447, 3)) 41 rfl
theorem dL_law_522 : decode cL_law 522 = .ok (.aload_n 1, 1) := ldc_at ldc_3_ok (q := (522, .aload_n 1, 1)) 42 rfl
theorem dL_law_523 : decode cL_law 523 = .ok (.aload_n 0, 1) := ldc_at ldc_3_ok (q := (523, .aload_n 0, 1)) 43 rfl
theorem dL_law_524 : decode cL_law 524 = .ok (.iload 5, 2) := ldc_at ldc_3_ok (q := (524, .iload 5, 2)) 44 rfl
theorem dL_law_526 : decode cL_law 526 = .ok (.iconst 1, 1) := ldc_at ldc_3_ok (q := (526, .iconst 1, 1)) 45 rfl
theorem dL_law_527 : decode cL_law 527 = .ok (.iadd, 1) := ldc_at ldc_3_ok (q := (527, .iadd, 1)) 46 rfl
theorem dL_law_528 : decode cL_law 528 = .ok (.iaload, 1) := ldc_at ldc_3_ok (q := (528, .iaload, 1)) 47 rfl
noncomputable def ldc_4 : List (Nat × Jvm.ClassFile.Instr × Nat) := [(529, .aload_n 0, 1), (530, .iload 5, 2), (532, .iconst 2, 1), (533, .iadd, 1), (534, .iaload, 1), (535, .aload_n 0, 1), (536, .iload 5, 2), (538, .iconst 3, 1), (539, .iadd, 1), (540, .iaload, 1), (541, .aload_n 0, 1), (542, .iload 5, 2), (544, .iconst 4, 1), (545, .iadd, 1), (546, .iaload, 1), (547, .aload_n 0, 1), (548, .iload 5, 2), (550, .iconst 5, 1), (551, .iadd, 1), (552, .iaload, 1), (553, .aload_n 0, 1), (554, .iload 5, 2), (556, .bipush 6, 2), (558, .iadd, 1), (559, .iaload, 1), (560, .aload_n 3, 1), (561, .invokestatic 153, 3), (564, .istore 6, 2), (566, .aload_n 2, 1), (567, .aload_n 0, 1), (568, .iload 5, 2), (570, .iconst 1, 1), (571, .iadd, 1), (572, .iaload, 1), (573, .aload_n 0, 1), (574, .iload 5, 2), (576, .iconst 2, 1), (577, .iadd, 1), (578, .iaload, 1), (579, .aload_n 0, 1), (580, .iload 5, 2), (582, .iconst 3, 1), (583, .iadd, 1), (584, .iaload, 1), (585, .aload_n 0, 1), (586, .iload 5, 2), (588, .iconst 4, 1), (589, .iadd, 1)]
set_option maxRecDepth 100000 in
theorem ldc_4_ok : ldc_4.all (fun q => decide (decode cL_law q.1 = .ok (q.2.1, q.2.2))) = true := by decide +kernel
theorem dL_law_529 : decode cL_law 529 = .ok (.aload_n 0, 1) := ldc_at ldc_4_ok (q := (529, .aload_n 0, 1)) 0 rfl
theorem dL_law_530 : decode cL_law 530 = .ok (.iload 5, 2) := ldc_at ldc_4_ok (q := (530, .iload 5, 2)) 1 rfl
theorem dL_law_532 : decode cL_law 532 = .ok (.iconst 2, 1) := ldc_at ldc_4_ok (q := (532, .iconst 2, 1)) 2 rfl
theorem dL_law_533 : decode cL_law 533 = .ok (.iadd, 1) := ldc_at ldc_4_ok (q := (533, .iadd, 1)) 3 rfl
theorem dL_law_534 : decode cL_law 534 = .ok (.iaload, 1) := ldc_at ldc_4_ok (q := (534, .iaload, 1)) 4 rfl
theorem dL_law_535 : decode cL_law 535 = .ok (.aload_n 0, 1) := ldc_at ldc_4_ok (q := (535, .aload_n 0, 1)) 5 rfl
theorem dL_law_536 : decode cL_law 536 = .ok (.iload 5, 2) := ldc_at ldc_4_ok (q := (536, .iload 5, 2)) 6 rfl
theorem dL_law_538 : decode cL_law 538 = .ok (.iconst 3, 1) := ldc_at ldc_4_ok (q := (538, .iconst 3, 1)) 7 rfl
theorem dL_law_539 : decode cL_law 539 = .ok (.iadd, 1) := ldc_at ldc_4_ok (q := (539, .iadd, 1)) 8 rfl
theorem dL_law_540 : decode cL_law 540 = .ok (.iaload, 1) := ldc_at ldc_4_ok (q := (540, .iaload, 1)) 9 rfl
theorem dL_law_541 : decode cL_law 541 = .ok (.aload_n 0, 1) := ldc_at ldc_4_ok (q := (541, .aload_n 0, 1)) 10 rfl
theorem dL_law_542 : decode cL_law 542 = .ok (.iload 5, 2) := ldc_at ldc_4_ok (q := (542, .iload 5, 2)) 11 rfl
theorem dL_law_544 : decode cL_law 544 = .ok (.iconst 4, 1) := ldc_at ldc_4_ok (q := (544, .iconst 4, 1)) 12 rfl
theorem dL_law_545 : decode cL_law 545 = .ok (.iadd, 1) := ldc_at ldc_4_ok (q := (545, .iadd, 1)) 13 rfl
theorem dL_law_546 : decode cL_law 546 = .ok (.iaload, 1) := ldc_at ldc_4_ok (q := (546, .iaload, 1)) 14 rfl
theorem dL_law_547 : decode cL_law 547 = .ok (.aload_n 0, 1) := ldc_at ldc_4_ok (q := (547, .aload_n 0, 1)) 15 rfl
theorem dL_law_548 : decode cL_law 548 = .ok (.iload 5, 2) := ldc_at ldc_4_ok (q := (548, .iload 5, 2)) 16 rfl
theorem dL_law_550 : decode cL_law 550 = .ok (.iconst 5, 1) := ldc_at ldc_4_ok (q := (550, .iconst 5, 1)) 17 rfl
theorem dL_law_551 : decode cL_law 551 = .ok (.iadd, 1) := ldc_at ldc_4_ok (q := (551, .iadd, 1)) 18 rfl
theorem dL_law_552 : decode cL_law 552 = .ok (.iaload, 1) := ldc_at ldc_4_ok (q := (552, .iaload, 1)) 19 rfl
theorem dL_law_553 : decode cL_law 553 = .ok (.aload_n 0, 1) := ldc_at ldc_4_ok (q := (553, .aload_n 0, 1)) 20 rfl
theorem dL_law_554 : decode cL_law 554 = .ok (.iload 5, 2) := ldc_at ldc_4_ok (q := (554, .iload 5, 2)) 21 rfl
theorem dL_law_556 : decode cL_law 556 = .ok (.bipush 6, 2) := ldc_at ldc_4_ok (q := (556, .bipush 6, 2)) 22 rfl
theorem dL_law_558 : decode cL_law 558 = .ok (.iadd, 1) := ldc_at ldc_4_ok (q := (558, .iadd, 1)) 23 rfl
theorem dL_law_559 : decode cL_law 559 = .ok (.iaload, 1) := ldc_at ldc_4_ok (q := (559, .iaload, 1)) 24 rfl
theorem dL_law_560 : decode cL_law 560 = .ok (.aload_n 3, 1) := ldc_at ldc_4_ok (q := (560, .aload_n 3, 1)) 25 rfl
theorem dL_law_561 : decode cL_law 561 = .ok (.invokestatic 153, 3) := ldc_at ldc_4_ok (q := (561, .invokestatic 153, 3)) 26 rfl
theorem dL_law_564 : decode cL_law 564 = .ok (.istore 6, 2) := ldc_at ldc_4_ok (q := (564, .istore 6, 2)) 27 rfl
theorem dL_law_566 : decode cL_law 566 = .ok (.aload_n 2, 1) := ldc_at ldc_4_ok (q := (566, .aload_n 2, 1)) 28 rfl
theorem dL_law_567 : decode cL_law 567 = .ok (.aload_n 0, 1) := ldc_at ldc_4_ok (q := (567, .aload_n 0, 1)) 29 rfl
theorem dL_law_568 : decode cL_law 568 = .ok (.iload 5, 2) := ldc_at ldc_4_ok (q := (568, .iload 5, 2)) 30 rfl
theorem dL_law_570 : decode cL_law 570 = .ok (.iconst 1, 1) := ldc_at ldc_4_ok (q := (570, .iconst 1, 1)) 31 rfl
theorem dL_law_571 : decode cL_law 571 = .ok (.iadd, 1) := ldc_at ldc_4_ok (q := (571, .iadd, 1)) 32 rfl
theorem dL_law_572 : decode cL_law 572 = .ok (.iaload, 1) := ldc_at ldc_4_ok (q := (572, .iaload, 1)) 33 rfl
theorem dL_law_573 : decode cL_law 573 = .ok (.aload_n 0, 1) := ldc_at ldc_4_ok (q := (573, .aload_n 0, 1)) 34 rfl
theorem dL_law_574 : decode cL_law 574 = .ok (.iload 5, 2) := ldc_at ldc_4_ok (q := (574, .iload 5, 2)) 35 rfl
theorem dL_law_576 : decode cL_law 576 = .ok (.iconst 2, 1) := ldc_at ldc_4_ok (q := (576, .iconst 2, 1)) 36 rfl
theorem dL_law_577 : decode cL_law 577 = .ok (.iadd, 1) := ldc_at ldc_4_ok (q := (577, .iadd, 1)) 37 rfl
theorem dL_law_578 : decode cL_law 578 = .ok (.iaload, 1) := ldc_at ldc_4_ok (q := (578, .iaload, 1)) 38 rfl
theorem dL_law_579 : decode cL_law 579 = .ok (.aload_n 0, 1) := ldc_at ldc_4_ok (q := (579, .aload_n 0, 1)) 39 rfl
theorem dL_law_580 : decode cL_law 580 = .ok (.iload 5, 2) := ldc_at ldc_4_ok (q := (580, .iload 5, 2)) 40 rfl
theorem dL_law_582 : decode cL_law 582 = .ok (.iconst 3, 1) := ldc_at ldc_4_ok (q := (582, .iconst 3, 1)) 41 rfl
theorem dL_law_583 : decode cL_law 583 = .ok (.iadd, 1) := ldc_at ldc_4_ok (q := (583, .iadd, 1)) 42 rfl
theorem dL_law_584 : decode cL_law 584 = .ok (.iaload, 1) := ldc_at ldc_4_ok (q := (584, .iaload, 1)) 43 rfl
theorem dL_law_585 : decode cL_law 585 = .ok (.aload_n 0, 1) := ldc_at ldc_4_ok (q := (585, .aload_n 0, 1)) 44 rfl
theorem dL_law_586 : decode cL_law 586 = .ok (.iload 5, 2) := ldc_at ldc_4_ok (q := (586, .iload 5, 2)) 45 rfl
theorem dL_law_588 : decode cL_law 588 = .ok (.iconst 4, 1) := ldc_at ldc_4_ok (q := (588, .iconst 4, 1)) 46 rfl
theorem dL_law_589 : decode cL_law 589 = .ok (.iadd, 1) := ldc_at ldc_4_ok (q := (589, .iadd, 1)) 47 rfl
noncomputable def ldc_5 : List (Nat × Jvm.ClassFile.Instr × Nat) := [(590, .iaload, 1), (591, .aload_n 0, 1), (592, .iload 5, 2), (594, .iconst 5, 1), (595, .iadd, 1), (596, .iaload, 1), (597, .aload_n 0, 1), (598, .iload 5, 2), (600, .bipush 6, 2), (602, .iadd, 1), (603, .iaload, 1), (604, .invokevirtual 156, 3), (607, .istore 7, 2), (609, .goto 1357, 3), (612, .aload_n 1, 1), (613, .aload_n 0, 1), (614, .iload 5, 2), (616, .iconst 1, 1), (617, .iadd, 1), (618, .iaload, 1), (619, .aload_n 3, 1), (620, .invokestatic 157, 3), (623, .istore 6, 2), (625, .aload_n 2, 1), (626, .aload_n 0, 1), (627, .iload 5, 2), (629, .iconst 1, 1), (630, .iadd, 1), (631, .iaload, 1), (632, .invokevirtual 160, 3), (635, .istore 7, 2), (637, .goto 1329, 3), (640, .aload_n 1, 1), (641, .invokevirtual 161, 3), (644, .pop, 1), (645, .aload_n 2, 1), (646, .invokevirtual 164, 3), (649, .pop, 1), (650, .goto 1316, 3), (653, .aload_n 1, 1), (654, .invokevirtual 165, 3), (657, .pop, 1), (658, .aload_n 2, 1), (659, .invokevirtual 168, 3), (662, .pop, 1), (663, .goto 1303, 3), (666, .aload_n 1, 1), (667, .aload_n 0, 1)]
set_option maxRecDepth 100000 in
theorem ldc_5_ok : ldc_5.all (fun q => decide (decode cL_law q.1 = .ok (q.2.1, q.2.2))) = true := by decide +kernel
theorem dL_law_590 : decode cL_law 590 = .ok (.iaload, 1) := ldc_at ldc_5_ok (q := (590, .iaload, 1)) 0 rfl
theorem dL_law_591 : decode cL_law 591 = .ok (.aload_n 0, 1) := ldc_at ldc_5_ok (q := (591, .aload_n 0, 1)) 1 rfl
theorem dL_law_592 : decode cL_law 592 = .ok (.iload 5, 2) := ldc_at ldc_5_ok (q := (592, .iload 5, 2)) 2 rfl
theorem dL_law_594 : decode cL_law 594 = .ok (.iconst 5, 1) := ldc_at ldc_5_ok (q := (594, .iconst 5, 1)) 3 rfl
theorem dL_law_595 : decode cL_law 595 = .ok (.iadd, 1) := ldc_at ldc_5_ok (q := (595, .iadd, 1)) 4 rfl
theorem dL_law_596 : decode cL_law 596 = .ok (.iaload, 1) := ldc_at ldc_5_ok (q := (596, .iaload, 1)) 5 rfl
theorem dL_law_597 : decode cL_law 597 = .ok (.aload_n 0, 1) := ldc_at ldc_5_ok (q := (597, .aload_n 0, 1)) 6 rfl
theorem dL_law_598 : decode cL_law 598 = .ok (.iload 5, 2) := ldc_at ldc_5_ok (q := (598, .iload 5, 2)) 7 rfl
theorem dL_law_600 : decode cL_law 600 = .ok (.bipush 6, 2) := ldc_at ldc_5_ok (q := (600, .bipush 6, 2)) 8 rfl
theorem dL_law_602 : decode cL_law 602 = .ok (.iadd, 1) := ldc_at ldc_5_ok (q := (602, .iadd, 1)) 9 rfl
theorem dL_law_603 : decode cL_law 603 = .ok (.iaload, 1) := ldc_at ldc_5_ok (q := (603, .iaload, 1)) 10 rfl
theorem dL_law_604 : decode cL_law 604 = .ok (.invokevirtual 156, 3) := ldc_at ldc_5_ok (q := (604, .invokevirtual 156, 3)) 11 rfl
theorem dL_law_607 : decode cL_law 607 = .ok (.istore 7, 2) := ldc_at ldc_5_ok (q := (607, .istore 7, 2)) 12 rfl
theorem dL_law_609 : decode cL_law 609 = .ok (.goto 1357, 3) := ldc_at ldc_5_ok (q := (609, .goto 1357, 3)) 13 rfl
theorem dL_law_612 : decode cL_law 612 = .ok (.aload_n 1, 1) := ldc_at ldc_5_ok (q := (612, .aload_n 1, 1)) 14 rfl
theorem dL_law_613 : decode cL_law 613 = .ok (.aload_n 0, 1) := ldc_at ldc_5_ok (q := (613, .aload_n 0, 1)) 15 rfl
theorem dL_law_614 : decode cL_law 614 = .ok (.iload 5, 2) := ldc_at ldc_5_ok (q := (614, .iload 5, 2)) 16 rfl
theorem dL_law_616 : decode cL_law 616 = .ok (.iconst 1, 1) := ldc_at ldc_5_ok (q := (616, .iconst 1, 1)) 17 rfl
theorem dL_law_617 : decode cL_law 617 = .ok (.iadd, 1) := ldc_at ldc_5_ok (q := (617, .iadd, 1)) 18 rfl
theorem dL_law_618 : decode cL_law 618 = .ok (.iaload, 1) := ldc_at ldc_5_ok (q := (618, .iaload, 1)) 19 rfl
theorem dL_law_619 : decode cL_law 619 = .ok (.aload_n 3, 1) := ldc_at ldc_5_ok (q := (619, .aload_n 3, 1)) 20 rfl
theorem dL_law_620 : decode cL_law 620 = .ok (.invokestatic 157, 3) := ldc_at ldc_5_ok (q := (620, .invokestatic 157, 3)) 21 rfl
theorem dL_law_623 : decode cL_law 623 = .ok (.istore 6, 2) := ldc_at ldc_5_ok (q := (623, .istore 6, 2)) 22 rfl
theorem dL_law_625 : decode cL_law 625 = .ok (.aload_n 2, 1) := ldc_at ldc_5_ok (q := (625, .aload_n 2, 1)) 23 rfl
theorem dL_law_626 : decode cL_law 626 = .ok (.aload_n 0, 1) := ldc_at ldc_5_ok (q := (626, .aload_n 0, 1)) 24 rfl
theorem dL_law_627 : decode cL_law 627 = .ok (.iload 5, 2) := ldc_at ldc_5_ok (q := (627, .iload 5, 2)) 25 rfl
theorem dL_law_629 : decode cL_law 629 = .ok (.iconst 1, 1) := ldc_at ldc_5_ok (q := (629, .iconst 1, 1)) 26 rfl
theorem dL_law_630 : decode cL_law 630 = .ok (.iadd, 1) := ldc_at ldc_5_ok (q := (630, .iadd, 1)) 27 rfl
theorem dL_law_631 : decode cL_law 631 = .ok (.iaload, 1) := ldc_at ldc_5_ok (q := (631, .iaload, 1)) 28 rfl
theorem dL_law_632 : decode cL_law 632 = .ok (.invokevirtual 160, 3) := ldc_at ldc_5_ok (q := (632, .invokevirtual 160, 3)) 29 rfl
theorem dL_law_635 : decode cL_law 635 = .ok (.istore 7, 2) := ldc_at ldc_5_ok (q := (635, .istore 7, 2)) 30 rfl
theorem dL_law_637 : decode cL_law 637 = .ok (.goto 1329, 3) := ldc_at ldc_5_ok (q := (637, .goto 1329, 3)) 31 rfl
theorem dL_law_640 : decode cL_law 640 = .ok (.aload_n 1, 1) := ldc_at ldc_5_ok (q := (640, .aload_n 1, 1)) 32 rfl
theorem dL_law_641 : decode cL_law 641 = .ok (.invokevirtual 161, 3) := ldc_at ldc_5_ok (q := (641, .invokevirtual 161, 3)) 33 rfl
theorem dL_law_644 : decode cL_law 644 = .ok (.pop, 1) := ldc_at ldc_5_ok (q := (644, .pop, 1)) 34 rfl
theorem dL_law_645 : decode cL_law 645 = .ok (.aload_n 2, 1) := ldc_at ldc_5_ok (q := (645, .aload_n 2, 1)) 35 rfl
theorem dL_law_646 : decode cL_law 646 = .ok (.invokevirtual 164, 3) := ldc_at ldc_5_ok (q := (646, .invokevirtual 164, 3)) 36 rfl
theorem dL_law_649 : decode cL_law 649 = .ok (.pop, 1) := ldc_at ldc_5_ok (q := (649, .pop, 1)) 37 rfl
theorem dL_law_650 : decode cL_law 650 = .ok (.goto 1316, 3) := ldc_at ldc_5_ok (q := (650, .goto 1316, 3)) 38 rfl
theorem dL_law_653 : decode cL_law 653 = .ok (.aload_n 1, 1) := ldc_at ldc_5_ok (q := (653, .aload_n 1, 1)) 39 rfl
theorem dL_law_654 : decode cL_law 654 = .ok (.invokevirtual 165, 3) := ldc_at ldc_5_ok (q := (654, .invokevirtual 165, 3)) 40 rfl
theorem dL_law_657 : decode cL_law 657 = .ok (.pop, 1) := ldc_at ldc_5_ok (q := (657, .pop, 1)) 41 rfl
theorem dL_law_658 : decode cL_law 658 = .ok (.aload_n 2, 1) := ldc_at ldc_5_ok (q := (658, .aload_n 2, 1)) 42 rfl
theorem dL_law_659 : decode cL_law 659 = .ok (.invokevirtual 168, 3) := ldc_at ldc_5_ok (q := (659, .invokevirtual 168, 3)) 43 rfl
theorem dL_law_662 : decode cL_law 662 = .ok (.pop, 1) := ldc_at ldc_5_ok (q := (662, .pop, 1)) 44 rfl
theorem dL_law_663 : decode cL_law 663 = .ok (.goto 1303, 3) := ldc_at ldc_5_ok (q := (663, .goto 1303, 3)) 45 rfl
theorem dL_law_666 : decode cL_law 666 = .ok (.aload_n 1, 1) := ldc_at ldc_5_ok (q := (666, .aload_n 1, 1)) 46 rfl
theorem dL_law_667 : decode cL_law 667 = .ok (.aload_n 0, 1) := ldc_at ldc_5_ok (q := (667, .aload_n 0, 1)) 47 rfl
noncomputable def ldc_6 : List (Nat × Jvm.ClassFile.Instr × Nat) := [(668, .iload 5, 2), (670, .iconst 1, 1), (671, .iadd, 1), (672, .iaload, 1), (673, .aload_n 0, 1), (674, .iload 5, 2), (676, .iconst 2, 1), (677, .iadd, 1), (678, .iaload, 1), (679, .aload_n 3, 1), (680, .invokestatic 169, 3), (683, .istore 6, 2), (685, .aload_n 2, 1), (686, .aload_n 0, 1), (687, .iload 5, 2), (689, .iconst 1, 1), (690, .iadd, 1), (691, .iaload, 1), (692, .aload_n 0, 1), (693, .iload 5, 2), (695, .iconst 2, 1), (696, .iadd, 1), (697, .iaload, 1), (698, .invokevirtual 172, 3), (701, .lstore 7, 2), (703, .goto 1263, 3), (706, .aload_n 1, 1), (707, .invokevirtual 173, 3), (710, .pop, 1), (711, .aload_n 2, 1), (712, .invokevirtual 176, 3), (715, .pop, 1), (716, .goto 1250, 3), (719, .aload_n 1, 1), (720, .invokevirtual 177, 3), (723, .pop, 1), (724, .aload_n 2, 1), (725, .invokevirtual 180, 3), (728, .pop, 1), (729, .goto 1237, 3), (732, .aload_n 1, 1), (733, .aload_n 0, 1), (734, .iload 5, 2), (736, .iconst 1, 1), (737, .iadd, 1), (738, .iaload, 1), (739, .invokevirtual 181, 3), (742, .pop, 1)]
set_option maxRecDepth 100000 in
theorem ldc_6_ok : ldc_6.all (fun q => decide (decode cL_law q.1 = .ok (q.2.1, q.2.2))) = true := by decide +kernel
theorem dL_law_668 : decode cL_law 668 = .ok (.iload 5, 2) := ldc_at ldc_6_ok (q := (668, .iload 5, 2)) 0 rfl
theorem dL_law_670 : decode cL_law 670 = .ok (.iconst 1, 1) := ldc_at ldc_6_ok (q := (670, .iconst 1, 1)) 1 rfl
theorem dL_law_671 : decode cL_law 671 = .ok (.iadd, 1) := ldc_at ldc_6_ok (q := (671, .iadd, 1)) 2 rfl
theorem dL_law_672 : decode cL_law 672 = .ok (.iaload, 1) := ldc_at ldc_6_ok (q := (672, .iaload, 1)) 3 rfl
theorem dL_law_673 : decode cL_law 673 = .ok (.aload_n 0, 1) := ldc_at ldc_6_ok (q := (673, .aload_n 0, 1)) 4 rfl
theorem dL_law_674 : decode cL_law 674 = .ok (.iload 5, 2) := ldc_at ldc_6_ok (q := (674, .iload 5, 2)) 5 rfl
theorem dL_law_676 : decode cL_law 676 = .ok (.iconst 2, 1) := ldc_at ldc_6_ok (q := (676, .iconst 2, 1)) 6 rfl
theorem dL_law_677 : decode cL_law 677 = .ok (.iadd, 1) := ldc_at ldc_6_ok (q := (677, .iadd, 1)) 7 rfl
theorem dL_law_678 : decode cL_law 678 = .ok (.iaload, 1) := ldc_at ldc_6_ok (q := (678, .iaload, 1)) 8 rfl
theorem dL_law_679 : decode cL_law 679 = .ok (.aload_n 3, 1) := ldc_at ldc_6_ok (q := (679, .aload_n 3, 1)) 9 rfl
theorem dL_law_680 : decode cL_law 680 = .ok (.invokestatic 169, 3) := ldc_at ldc_6_ok (q := (680, .invokestatic 169, 3)) 10 rfl
theorem dL_law_683 : decode cL_law 683 = .ok (.istore 6, 2) := ldc_at ldc_6_ok (q := (683, .istore 6, 2)) 11 rfl
theorem dL_law_685 : decode cL_law 685 = .ok (.aload_n 2, 1) := ldc_at ldc_6_ok (q := (685, .aload_n 2, 1)) 12 rfl
theorem dL_law_686 : decode cL_law 686 = .ok (.aload_n 0, 1) := ldc_at ldc_6_ok (q := (686, .aload_n 0, 1)) 13 rfl
theorem dL_law_687 : decode cL_law 687 = .ok (.iload 5, 2) := ldc_at ldc_6_ok (q := (687, .iload 5, 2)) 14 rfl
theorem dL_law_689 : decode cL_law 689 = .ok (.iconst 1, 1) := ldc_at ldc_6_ok (q := (689, .iconst 1, 1)) 15 rfl
theorem dL_law_690 : decode cL_law 690 = .ok (.iadd, 1) := ldc_at ldc_6_ok (q := (690, .iadd, 1)) 16 rfl
theorem dL_law_691 : decode cL_law 691 = .ok (.iaload, 1) := ldc_at ldc_6_ok (q := (691, .iaload, 1)) 17 rfl
theorem dL_law_692 : decode cL_law 692 = .ok (.aload_n 0, 1) := ldc_at ldc_6_ok (q := (692, .aload_n 0, 1)) 18 rfl
theorem dL_law_693 : decode cL_law 693 = .ok (.iload 5, 2) := ldc_at ldc_6_ok (q := (693, .iload 5, 2)) 19 rfl
theorem dL_law_695 : decode cL_law 695 = .ok (.iconst 2, 1) := ldc_at ldc_6_ok (q := (695, .iconst 2, 1)) 20 rfl
theorem dL_law_696 : decode cL_law 696 = .ok (.iadd, 1) := ldc_at ldc_6_ok (q := (696, .iadd, 1)) 21 rfl
theorem dL_law_697 : decode cL_law 697 = .ok (.iaload, 1) := ldc_at ldc_6_ok (q := (697, .iaload, 1)) 22 rfl
theorem dL_law_698 : decode cL_law 698 = .ok (.invokevirtual 172, 3) := ldc_at ldc_6_ok (q := (698, .invokevirtual 172, 3)) 23 rfl
theorem dL_law_701 : decode cL_law 701 = .ok (.lstore 7, 2) := ldc_at ldc_6_ok (q := (701, .lstore 7, 2)) 24 rfl
theorem dL_law_703 : decode cL_law 703 = .ok (.goto 1263, 3) := ldc_at ldc_6_ok (q := (703, .goto 1263, 3)) 25 rfl
theorem dL_law_706 : decode cL_law 706 = .ok (.aload_n 1, 1) := ldc_at ldc_6_ok (q := (706, .aload_n 1, 1)) 26 rfl
theorem dL_law_707 : decode cL_law 707 = .ok (.invokevirtual 173, 3) := ldc_at ldc_6_ok (q := (707, .invokevirtual 173, 3)) 27 rfl
theorem dL_law_710 : decode cL_law 710 = .ok (.pop, 1) := ldc_at ldc_6_ok (q := (710, .pop, 1)) 28 rfl
theorem dL_law_711 : decode cL_law 711 = .ok (.aload_n 2, 1) := ldc_at ldc_6_ok (q := (711, .aload_n 2, 1)) 29 rfl
theorem dL_law_712 : decode cL_law 712 = .ok (.invokevirtual 176, 3) := ldc_at ldc_6_ok (q := (712, .invokevirtual 176, 3)) 30 rfl
theorem dL_law_715 : decode cL_law 715 = .ok (.pop, 1) := ldc_at ldc_6_ok (q := (715, .pop, 1)) 31 rfl
theorem dL_law_716 : decode cL_law 716 = .ok (.goto 1250, 3) := ldc_at ldc_6_ok (q := (716, .goto 1250, 3)) 32 rfl
theorem dL_law_719 : decode cL_law 719 = .ok (.aload_n 1, 1) := ldc_at ldc_6_ok (q := (719, .aload_n 1, 1)) 33 rfl
theorem dL_law_720 : decode cL_law 720 = .ok (.invokevirtual 177, 3) := ldc_at ldc_6_ok (q := (720, .invokevirtual 177, 3)) 34 rfl
theorem dL_law_723 : decode cL_law 723 = .ok (.pop, 1) := ldc_at ldc_6_ok (q := (723, .pop, 1)) 35 rfl
theorem dL_law_724 : decode cL_law 724 = .ok (.aload_n 2, 1) := ldc_at ldc_6_ok (q := (724, .aload_n 2, 1)) 36 rfl
theorem dL_law_725 : decode cL_law 725 = .ok (.invokevirtual 180, 3) := ldc_at ldc_6_ok (q := (725, .invokevirtual 180, 3)) 37 rfl
theorem dL_law_728 : decode cL_law 728 = .ok (.pop, 1) := ldc_at ldc_6_ok (q := (728, .pop, 1)) 38 rfl
theorem dL_law_729 : decode cL_law 729 = .ok (.goto 1237, 3) := ldc_at ldc_6_ok (q := (729, .goto 1237, 3)) 39 rfl
theorem dL_law_732 : decode cL_law 732 = .ok (.aload_n 1, 1) := ldc_at ldc_6_ok (q := (732, .aload_n 1, 1)) 40 rfl
theorem dL_law_733 : decode cL_law 733 = .ok (.aload_n 0, 1) := ldc_at ldc_6_ok (q := (733, .aload_n 0, 1)) 41 rfl
theorem dL_law_734 : decode cL_law 734 = .ok (.iload 5, 2) := ldc_at ldc_6_ok (q := (734, .iload 5, 2)) 42 rfl
theorem dL_law_736 : decode cL_law 736 = .ok (.iconst 1, 1) := ldc_at ldc_6_ok (q := (736, .iconst 1, 1)) 43 rfl
theorem dL_law_737 : decode cL_law 737 = .ok (.iadd, 1) := ldc_at ldc_6_ok (q := (737, .iadd, 1)) 44 rfl
theorem dL_law_738 : decode cL_law 738 = .ok (.iaload, 1) := ldc_at ldc_6_ok (q := (738, .iaload, 1)) 45 rfl
theorem dL_law_739 : decode cL_law 739 = .ok (.invokevirtual 181, 3) := ldc_at ldc_6_ok (q := (739, .invokevirtual 181, 3)) 46 rfl
theorem dL_law_742 : decode cL_law 742 = .ok (.pop, 1) := ldc_at ldc_6_ok (q := (742, .pop, 1)) 47 rfl
noncomputable def ldc_7 : List (Nat × Jvm.ClassFile.Instr × Nat) := [(743, .aload_n 2, 1), (744, .aload_n 0, 1), (745, .iload 5, 2), (747, .iconst 1, 1), (748, .iadd, 1), (749, .iaload, 1), (750, .invokevirtual 184, 3), (753, .pop, 1), (754, .goto 1212, 3), (757, .aload_n 1, 1), (758, .aload_n 0, 1), (759, .iload 5, 2), (761, .iconst 1, 1), (762, .iadd, 1), (763, .iaload, 1), (764, .ifCond .eq 7, 3), (767, .iconst 1, 1), (768, .goto 4, 3), (771, .iconst 0, 1), (772, .invokevirtual 185, 3), (775, .pop, 1), (776, .aload_n 2, 1), (777, .aload_n 0, 1), (778, .iload 5, 2), (780, .iconst 1, 1), (781, .iadd, 1), (782, .iaload, 1), (783, .ifCond .eq 7, 3), (786, .iconst 1, 1), (787, .goto 4, 3), (790, .iconst 0, 1), (791, .invokevirtual 189, 3), (794, .pop, 1), (795, .goto 1171, 3), (798, .aload_n 1, 1), (799, .aload_n 0, 1), (800, .iload 5, 2), (802, .iconst 1, 1), (803, .iadd, 1), (804, .iaload, 1), (805, .invokevirtual 190, 3), (808, .pop, 1), (809, .aload_n 2, 1), (810, .aload_n 0, 1), (811, .iload 5, 2), (813, .iconst 1, 1), (814, .iadd, 1), (815, .iaload, 1)]
set_option maxRecDepth 100000 in
theorem ldc_7_ok : ldc_7.all (fun q => decide (decode cL_law q.1 = .ok (q.2.1, q.2.2))) = true := by decide +kernel
theorem dL_law_743 : decode cL_law 743 = .ok (.aload_n 2, 1) := ldc_at ldc_7_ok (q := (743, .aload_n 2, 1)) 0 rfl
theorem dL_law_744 : decode cL_law 744 = .ok (.aload_n 0, 1) := ldc_at ldc_7_ok (q := (744, .aload_n 0, 1)) 1 rfl
theorem dL_law_745 : decode cL_law 745 = .ok (.iload 5, 2) := ldc_at ldc_7_ok (q := (745, .iload 5, 2)) 2 rfl
theorem dL_law_747 : decode cL_law 747 = .ok (.iconst 1, 1) := ldc_at ldc_7_ok (q := (747, .iconst 1, 1)) 3 rfl
theorem dL_law_748 : decode cL_law 748 = .ok (.iadd, 1) := ldc_at ldc_7_ok (q := (748, .iadd, 1)) 4 rfl
theorem dL_law_749 : decode cL_law 749 = .ok (.iaload, 1) := ldc_at ldc_7_ok (q := (749, .iaload, 1)) 5 rfl
theorem dL_law_750 : decode cL_law 750 = .ok (.invokevirtual 184, 3) := ldc_at ldc_7_ok (q := (750, .invokevirtual 184, 3)) 6 rfl
theorem dL_law_753 : decode cL_law 753 = .ok (.pop, 1) := ldc_at ldc_7_ok (q := (753, .pop, 1)) 7 rfl
theorem dL_law_754 : decode cL_law 754 = .ok (.goto 1212, 3) := ldc_at ldc_7_ok (q := (754, .goto 1212, 3)) 8 rfl
theorem dL_law_757 : decode cL_law 757 = .ok (.aload_n 1, 1) := ldc_at ldc_7_ok (q := (757, .aload_n 1, 1)) 9 rfl
theorem dL_law_758 : decode cL_law 758 = .ok (.aload_n 0, 1) := ldc_at ldc_7_ok (q := (758, .aload_n 0, 1)) 10 rfl
theorem dL_law_759 : decode cL_law 759 = .ok (.iload 5, 2) := ldc_at ldc_7_ok (q := (759, .iload 5, 2)) 11 rfl
theorem dL_law_761 : decode cL_law 761 = .ok (.iconst 1, 1) := ldc_at ldc_7_ok (q := (761, .iconst 1, 1)) 12 rfl
theorem dL_law_762 : decode cL_law 762 = .ok (.iadd, 1) := ldc_at ldc_7_ok (q := (762, .iadd, 1)) 13 rfl
theorem dL_law_763 : decode cL_law 763 = .ok (.iaload, 1) := ldc_at ldc_7_ok (q := (763, .iaload, 1)) 14 rfl
theorem dL_law_764 : decode cL_law 764 = .ok (.ifCond .eq 7, 3) := ldc_at ldc_7_ok (q := (764, .ifCond .eq 7, 3)) 15 rfl
theorem dL_law_767 : decode cL_law 767 = .ok (.iconst 1, 1) := ldc_at ldc_7_ok (q := (767, .iconst 1, 1)) 16 rfl
theorem dL_law_768 : decode cL_law 768 = .ok (.goto 4, 3) := ldc_at ldc_7_ok (q := (768, .goto 4, 3)) 17 rfl
theorem dL_law_771 : decode cL_law 771 = .ok (.iconst 0, 1) := ldc_at ldc_7_ok (q := (771, .iconst 0, 1)) 18 rfl
theorem dL_law_772 : decode cL_law 772 = .ok (.invokevirtual 185, 3) := ldc_at ldc_7_ok (q := (772, .invokevirtual 185, 3)) 19 rfl
theorem dL_law_775 : decode cL_law 775 = .ok (.pop, 1) := ldc_at ldc_7_ok (q := (775, .pop, 1)) 20 rfl
theorem dL_law_776 : decode cL_law 776 = .ok (.aload_n 2, 1) := ldc_at ldc_7_ok (q := (776, .aload_n 2, 1)) 21 rfl
theorem dL_law_777 : decode cL_law 777 = .ok (.aload_n 0, 1) := ldc_at ldc_7_ok (q := (777, .aload_n 0, 1)) 22 rfl
theorem dL_law_778 : decode cL_law 778 = .ok (.iload 5, 2) := ldc_at ldc_7_ok (q := (778, .iload 5, 2)) 23 rfl
theorem dL_law_780 : decode cL_law 780 = .ok (.iconst 1, 1) := ldc_at ldc_7_ok (q := (780, .iconst 1, 1)) 24 rfl
theorem dL_law_781 : decode cL_law 781 = .ok (.iadd, 1) := ldc_at ldc_7_ok (q := (781, .iadd, 1)) 25 rfl
theorem dL_law_782 : decode cL_law 782 = .ok (.iaload, 1) := ldc_at ldc_7_ok (q := (782, .iaload, 1)) 26 rfl
theorem dL_law_783 : decode cL_law 783 = .ok (.ifCond .eq 7, 3) := ldc_at ldc_7_ok (q := (783, .ifCond .eq 7, 3)) 27 rfl
theorem dL_law_786 : decode cL_law 786 = .ok (.iconst 1, 1) := ldc_at ldc_7_ok (q := (786, .iconst 1, 1)) 28 rfl
theorem dL_law_787 : decode cL_law 787 = .ok (.goto 4, 3) := ldc_at ldc_7_ok (q := (787, .goto 4, 3)) 29 rfl
theorem dL_law_790 : decode cL_law 790 = .ok (.iconst 0, 1) := ldc_at ldc_7_ok (q := (790, .iconst 0, 1)) 30 rfl
theorem dL_law_791 : decode cL_law 791 = .ok (.invokevirtual 189, 3) := ldc_at ldc_7_ok (q := (791, .invokevirtual 189, 3)) 31 rfl
theorem dL_law_794 : decode cL_law 794 = .ok (.pop, 1) := ldc_at ldc_7_ok (q := (794, .pop, 1)) 32 rfl
theorem dL_law_795 : decode cL_law 795 = .ok (.goto 1171, 3) := ldc_at ldc_7_ok (q := (795, .goto 1171, 3)) 33 rfl
theorem dL_law_798 : decode cL_law 798 = .ok (.aload_n 1, 1) := ldc_at ldc_7_ok (q := (798, .aload_n 1, 1)) 34 rfl
theorem dL_law_799 : decode cL_law 799 = .ok (.aload_n 0, 1) := ldc_at ldc_7_ok (q := (799, .aload_n 0, 1)) 35 rfl
theorem dL_law_800 : decode cL_law 800 = .ok (.iload 5, 2) := ldc_at ldc_7_ok (q := (800, .iload 5, 2)) 36 rfl
theorem dL_law_802 : decode cL_law 802 = .ok (.iconst 1, 1) := ldc_at ldc_7_ok (q := (802, .iconst 1, 1)) 37 rfl
theorem dL_law_803 : decode cL_law 803 = .ok (.iadd, 1) := ldc_at ldc_7_ok (q := (803, .iadd, 1)) 38 rfl
theorem dL_law_804 : decode cL_law 804 = .ok (.iaload, 1) := ldc_at ldc_7_ok (q := (804, .iaload, 1)) 39 rfl
theorem dL_law_805 : decode cL_law 805 = .ok (.invokevirtual 190, 3) := ldc_at ldc_7_ok (q := (805, .invokevirtual 190, 3)) 40 rfl
theorem dL_law_808 : decode cL_law 808 = .ok (.pop, 1) := ldc_at ldc_7_ok (q := (808, .pop, 1)) 41 rfl
theorem dL_law_809 : decode cL_law 809 = .ok (.aload_n 2, 1) := ldc_at ldc_7_ok (q := (809, .aload_n 2, 1)) 42 rfl
theorem dL_law_810 : decode cL_law 810 = .ok (.aload_n 0, 1) := ldc_at ldc_7_ok (q := (810, .aload_n 0, 1)) 43 rfl
theorem dL_law_811 : decode cL_law 811 = .ok (.iload 5, 2) := ldc_at ldc_7_ok (q := (811, .iload 5, 2)) 44 rfl
theorem dL_law_813 : decode cL_law 813 = .ok (.iconst 1, 1) := ldc_at ldc_7_ok (q := (813, .iconst 1, 1)) 45 rfl
theorem dL_law_814 : decode cL_law 814 = .ok (.iadd, 1) := ldc_at ldc_7_ok (q := (814, .iadd, 1)) 46 rfl
theorem dL_law_815 : decode cL_law 815 = .ok (.iaload, 1) := ldc_at ldc_7_ok (q := (815, .iaload, 1)) 47 rfl
noncomputable def ldc_8 : List (Nat × Jvm.ClassFile.Instr × Nat) := [(816, .invokevirtual 193, 3), (819, .pop, 1), (820, .goto 1146, 3), (823, .aload_n 1, 1), (824, .invokevirtual 194, 3), (827, .pop, 1), (828, .aload_n 2, 1), (829, .invokevirtual 197, 3), (832, .pop, 1), (833, .goto 1133, 3), (836, .aload_n 1, 1), (837, .aload_n 0, 1), (838, .iload 5, 2), (840, .iconst 1, 1), (841, .iadd, 1), (842, .iaload, 1), (843, .aload_n 3, 1), (844, .invokestatic 198, 3), (847, .istore 6, 2), (849, .aload_n 2, 1), (850, .aload_n 0, 1), (851, .iload 5, 2), (853, .iconst 1, 1), (854, .iadd, 1), (855, .iaload, 1), (856, .invokevirtual 200, 3), (859, .istore 7, 2), (861, .goto 1105, 3), (864, .aload_n 1, 1), (865, .aload_n 0, 1), (866, .iload 5, 2), (868, .iconst 1, 1), (869, .iadd, 1), (870, .iaload, 1), (871, .aload_n 3, 1), (872, .invokestatic 201, 3), (875, .istore 6, 2), (877, .aload_n 2, 1), (878, .aload_n 0, 1), (879, .iload 5, 2), (881, .iconst 1, 1), (882, .iadd, 1), (883, .iaload, 1), (884, .invokevirtual 203, 3), (887, .istore 7, 2), (889, .goto 1077, 3), (892, .aload_n 1, 1), (893, .aload_n 0, 1)]
set_option maxRecDepth 100000 in
theorem ldc_8_ok : ldc_8.all (fun q => decide (decode cL_law q.1 = .ok (q.2.1, q.2.2))) = true := by decide +kernel
theorem dL_law_816 : decode cL_law 816 = .ok (.invokevirtual 193, 3) := ldc_at ldc_8_ok (q := (816, .invokevirtual 193, 3)) 0 rfl
theorem dL_law_819 : decode cL_law 819 = .ok (.pop, 1) := ldc_at ldc_8_ok (q := (819, .pop, 1)) 1 rfl
theorem dL_law_820 : decode cL_law 820 = .ok (.goto 1146, 3) := ldc_at ldc_8_ok (q := (820, .goto 1146, 3)) 2 rfl
theorem dL_law_823 : decode cL_law 823 = .ok (.aload_n 1, 1) := ldc_at ldc_8_ok (q := (823, .aload_n 1, 1)) 3 rfl
theorem dL_law_824 : decode cL_law 824 = .ok (.invokevirtual 194, 3) := ldc_at ldc_8_ok (q := (824, .invokevirtual 194, 3)) 4 rfl
theorem dL_law_827 : decode cL_law 827 = .ok (.pop, 1) := ldc_at ldc_8_ok (q := (827, .pop, 1)) 5 rfl
theorem dL_law_828 : decode cL_law 828 = .ok (.aload_n 2, 1) := ldc_at ldc_8_ok (q := (828, .aload_n 2, 1)) 6 rfl
theorem dL_law_829 : decode cL_law 829 = .ok (.invokevirtual 197, 3) := ldc_at ldc_8_ok (q := (829, .invokevirtual 197, 3)) 7 rfl
theorem dL_law_832 : decode cL_law 832 = .ok (.pop, 1) := ldc_at ldc_8_ok (q := (832, .pop, 1)) 8 rfl
theorem dL_law_833 : decode cL_law 833 = .ok (.goto 1133, 3) := ldc_at ldc_8_ok (q := (833, .goto 1133, 3)) 9 rfl
theorem dL_law_836 : decode cL_law 836 = .ok (.aload_n 1, 1) := ldc_at ldc_8_ok (q := (836, .aload_n 1, 1)) 10 rfl
theorem dL_law_837 : decode cL_law 837 = .ok (.aload_n 0, 1) := ldc_at ldc_8_ok (q := (837, .aload_n 0, 1)) 11 rfl
theorem dL_law_838 : decode cL_law 838 = .ok (.iload 5, 2) := ldc_at ldc_8_ok (q := (838, .iload 5, 2)) 12 rfl
theorem dL_law_840 : decode cL_law 840 = .ok (.iconst 1, 1) := ldc_at ldc_8_ok (q := (840, .iconst 1, 1)) 13 rfl
theorem dL_law_841 : decode cL_law 841 = .ok (.iadd, 1) := ldc_at ldc_8_ok (q := (841, .iadd, 1)) 14 rfl
theorem dL_law_842 : decode cL_law 842 = .ok (.iaload, 1) := ldc_at ldc_8_ok (q := (842, .iaload, 1)) 15 rfl
theorem dL_law_843 : decode cL_law 843 = .ok (.aload_n 3, 1) := ldc_at ldc_8_ok (q := (843, .aload_n 3, 1)) 16 rfl
theorem dL_law_844 : decode cL_law 844 = .ok (.invokestatic 198, 3) := ldc_at ldc_8_ok (q := (844, .invokestatic 198, 3)) 17 rfl
theorem dL_law_847 : decode cL_law 847 = .ok (.istore 6, 2) := ldc_at ldc_8_ok (q := (847, .istore 6, 2)) 18 rfl
theorem dL_law_849 : decode cL_law 849 = .ok (.aload_n 2, 1) := ldc_at ldc_8_ok (q := (849, .aload_n 2, 1)) 19 rfl
theorem dL_law_850 : decode cL_law 850 = .ok (.aload_n 0, 1) := ldc_at ldc_8_ok (q := (850, .aload_n 0, 1)) 20 rfl
theorem dL_law_851 : decode cL_law 851 = .ok (.iload 5, 2) := ldc_at ldc_8_ok (q := (851, .iload 5, 2)) 21 rfl
theorem dL_law_853 : decode cL_law 853 = .ok (.iconst 1, 1) := ldc_at ldc_8_ok (q := (853, .iconst 1, 1)) 22 rfl
theorem dL_law_854 : decode cL_law 854 = .ok (.iadd, 1) := ldc_at ldc_8_ok (q := (854, .iadd, 1)) 23 rfl
theorem dL_law_855 : decode cL_law 855 = .ok (.iaload, 1) := ldc_at ldc_8_ok (q := (855, .iaload, 1)) 24 rfl
theorem dL_law_856 : decode cL_law 856 = .ok (.invokevirtual 200, 3) := ldc_at ldc_8_ok (q := (856, .invokevirtual 200, 3)) 25 rfl
theorem dL_law_859 : decode cL_law 859 = .ok (.istore 7, 2) := ldc_at ldc_8_ok (q := (859, .istore 7, 2)) 26 rfl
theorem dL_law_861 : decode cL_law 861 = .ok (.goto 1105, 3) := ldc_at ldc_8_ok (q := (861, .goto 1105, 3)) 27 rfl
theorem dL_law_864 : decode cL_law 864 = .ok (.aload_n 1, 1) := ldc_at ldc_8_ok (q := (864, .aload_n 1, 1)) 28 rfl
theorem dL_law_865 : decode cL_law 865 = .ok (.aload_n 0, 1) := ldc_at ldc_8_ok (q := (865, .aload_n 0, 1)) 29 rfl
theorem dL_law_866 : decode cL_law 866 = .ok (.iload 5, 2) := ldc_at ldc_8_ok (q := (866, .iload 5, 2)) 30 rfl
theorem dL_law_868 : decode cL_law 868 = .ok (.iconst 1, 1) := ldc_at ldc_8_ok (q := (868, .iconst 1, 1)) 31 rfl
theorem dL_law_869 : decode cL_law 869 = .ok (.iadd, 1) := ldc_at ldc_8_ok (q := (869, .iadd, 1)) 32 rfl
theorem dL_law_870 : decode cL_law 870 = .ok (.iaload, 1) := ldc_at ldc_8_ok (q := (870, .iaload, 1)) 33 rfl
theorem dL_law_871 : decode cL_law 871 = .ok (.aload_n 3, 1) := ldc_at ldc_8_ok (q := (871, .aload_n 3, 1)) 34 rfl
theorem dL_law_872 : decode cL_law 872 = .ok (.invokestatic 201, 3) := ldc_at ldc_8_ok (q := (872, .invokestatic 201, 3)) 35 rfl
theorem dL_law_875 : decode cL_law 875 = .ok (.istore 6, 2) := ldc_at ldc_8_ok (q := (875, .istore 6, 2)) 36 rfl
theorem dL_law_877 : decode cL_law 877 = .ok (.aload_n 2, 1) := ldc_at ldc_8_ok (q := (877, .aload_n 2, 1)) 37 rfl
theorem dL_law_878 : decode cL_law 878 = .ok (.aload_n 0, 1) := ldc_at ldc_8_ok (q := (878, .aload_n 0, 1)) 38 rfl
theorem dL_law_879 : decode cL_law 879 = .ok (.iload 5, 2) := ldc_at ldc_8_ok (q := (879, .iload 5, 2)) 39 rfl
theorem dL_law_881 : decode cL_law 881 = .ok (.iconst 1, 1) := ldc_at ldc_8_ok (q := (881, .iconst 1, 1)) 40 rfl
theorem dL_law_882 : decode cL_law 882 = .ok (.iadd, 1) := ldc_at ldc_8_ok (q := (882, .iadd, 1)) 41 rfl
theorem dL_law_883 : decode cL_law 883 = .ok (.iaload, 1) := ldc_at ldc_8_ok (q := (883, .iaload, 1)) 42 rfl
theorem dL_law_884 : decode cL_law 884 = .ok (.invokevirtual 203, 3) := ldc_at ldc_8_ok (q := (884, .invokevirtual 203, 3)) 43 rfl
theorem dL_law_887 : decode cL_law 887 = .ok (.istore 7, 2) := ldc_at ldc_8_ok (q := (887, .istore 7, 2)) 44 rfl
theorem dL_law_889 : decode cL_law 889 = .ok (.goto 1077, 3) := ldc_at ldc_8_ok (q := (889, .goto 1077, 3)) 45 rfl
theorem dL_law_892 : decode cL_law 892 = .ok (.aload_n 1, 1) := ldc_at ldc_8_ok (q := (892, .aload_n 1, 1)) 46 rfl
theorem dL_law_893 : decode cL_law 893 = .ok (.aload_n 0, 1) := ldc_at ldc_8_ok (q := (893, .aload_n 0, 1)) 47 rfl
noncomputable def ldc_9 : List (Nat × Jvm.ClassFile.Instr × Nat) := [(894, .iload 5, 2), (896, .iconst 1, 1), (897, .iadd, 1), (898, .iaload, 1), (899, .aload_n 0, 1), (900, .iload 5, 2), (902, .iconst 2, 1), (903, .iadd, 1), (904, .iaload, 1), (905, .aload_n 3, 1), (906, .invokestatic 204, 3), (909, .istore 6, 2), (911, .aload_n 2, 1), (912, .aload_n 0, 1), (913, .iload 5, 2), (915, .iconst 1, 1), (916, .iadd, 1), (917, .iaload, 1), (918, .aload_n 0, 1), (919, .iload 5, 2), (921, .iconst 2, 1), (922, .iadd, 1), (923, .iaload, 1), (924, .invokevirtual 206, 3), (927, .istore 7, 2), (929, .goto 1037, 3), (932, .aload_n 1, 1), (933, .aload_n 0, 1), (934, .iload 5, 2), (936, .iconst 1, 1), (937, .iadd, 1), (938, .iaload, 1), (939, .aload_n 3, 1), (940, .invokestatic 207, 3), (943, .istore 6, 2), (945, .aload_n 2, 1), (946, .aload_n 0, 1), (947, .iload 5, 2), (949, .iconst 1, 1), (950, .iadd, 1), (951, .iaload, 1), (952, .invokevirtual 209, 3), (955, .istore 7, 2), (957, .goto 1009, 3), (960, .aload_n 1, 1), (961, .aload_n 0, 1), (962, .iload 5, 2), (964, .iconst 1, 1)]
set_option maxRecDepth 100000 in
theorem ldc_9_ok : ldc_9.all (fun q => decide (decode cL_law q.1 = .ok (q.2.1, q.2.2))) = true := by decide +kernel
theorem dL_law_894 : decode cL_law 894 = .ok (.iload 5, 2) := ldc_at ldc_9_ok (q := (894, .iload 5, 2)) 0 rfl
theorem dL_law_896 : decode cL_law 896 = .ok (.iconst 1, 1) := ldc_at ldc_9_ok (q := (896, .iconst 1, 1)) 1 rfl
theorem dL_law_897 : decode cL_law 897 = .ok (.iadd, 1) := ldc_at ldc_9_ok (q := (897, .iadd, 1)) 2 rfl
theorem dL_law_898 : decode cL_law 898 = .ok (.iaload, 1) := ldc_at ldc_9_ok (q := (898, .iaload, 1)) 3 rfl
theorem dL_law_899 : decode cL_law 899 = .ok (.aload_n 0, 1) := ldc_at ldc_9_ok (q := (899, .aload_n 0, 1)) 4 rfl
theorem dL_law_900 : decode cL_law 900 = .ok (.iload 5, 2) := ldc_at ldc_9_ok (q := (900, .iload 5, 2)) 5 rfl
theorem dL_law_902 : decode cL_law 902 = .ok (.iconst 2, 1) := ldc_at ldc_9_ok (q := (902, .iconst 2, 1)) 6 rfl
theorem dL_law_903 : decode cL_law 903 = .ok (.iadd, 1) := ldc_at ldc_9_ok (q := (903, .iadd, 1)) 7 rfl
theorem dL_law_904 : decode cL_law 904 = .ok (.iaload, 1) := ldc_at ldc_9_ok (q := (904, .iaload, 1)) 8 rfl
theorem dL_law_905 : decode cL_law 905 = .ok (.aload_n 3, 1) := ldc_at ldc_9_ok (q := (905, .aload_n 3, 1)) 9 rfl
theorem dL_law_906 : decode cL_law 906 = .ok (.invokestatic 204, 3) := ldc_at ldc_9_ok (q := (906, .invokestatic 204, 3)) 10 rfl
theorem dL_law_909 : decode cL_law 909 = .ok (.istore 6, 2) := ldc_at ldc_9_ok (q := (909, .istore 6, 2)) 11 rfl
theorem dL_law_911 : decode cL_law 911 = .ok (.aload_n 2, 1) := ldc_at ldc_9_ok (q := (911, .aload_n 2, 1)) 12 rfl
theorem dL_law_912 : decode cL_law 912 = .ok (.aload_n 0, 1) := ldc_at ldc_9_ok (q := (912, .aload_n 0, 1)) 13 rfl
theorem dL_law_913 : decode cL_law 913 = .ok (.iload 5, 2) := ldc_at ldc_9_ok (q := (913, .iload 5, 2)) 14 rfl
theorem dL_law_915 : decode cL_law 915 = .ok (.iconst 1, 1) := ldc_at ldc_9_ok (q := (915, .iconst 1, 1)) 15 rfl
theorem dL_law_916 : decode cL_law 916 = .ok (.iadd, 1) := ldc_at ldc_9_ok (q := (916, .iadd, 1)) 16 rfl
theorem dL_law_917 : decode cL_law 917 = .ok (.iaload, 1) := ldc_at ldc_9_ok (q := (917, .iaload, 1)) 17 rfl
theorem dL_law_918 : decode cL_law 918 = .ok (.aload_n 0, 1) := ldc_at ldc_9_ok (q := (918, .aload_n 0, 1)) 18 rfl
theorem dL_law_919 : decode cL_law 919 = .ok (.iload 5, 2) := ldc_at ldc_9_ok (q := (919, .iload 5, 2)) 19 rfl
theorem dL_law_921 : decode cL_law 921 = .ok (.iconst 2, 1) := ldc_at ldc_9_ok (q := (921, .iconst 2, 1)) 20 rfl
theorem dL_law_922 : decode cL_law 922 = .ok (.iadd, 1) := ldc_at ldc_9_ok (q := (922, .iadd, 1)) 21 rfl
theorem dL_law_923 : decode cL_law 923 = .ok (.iaload, 1) := ldc_at ldc_9_ok (q := (923, .iaload, 1)) 22 rfl
theorem dL_law_924 : decode cL_law 924 = .ok (.invokevirtual 206, 3) := ldc_at ldc_9_ok (q := (924, .invokevirtual 206, 3)) 23 rfl
theorem dL_law_927 : decode cL_law 927 = .ok (.istore 7, 2) := ldc_at ldc_9_ok (q := (927, .istore 7, 2)) 24 rfl
theorem dL_law_929 : decode cL_law 929 = .ok (.goto 1037, 3) := ldc_at ldc_9_ok (q := (929, .goto 1037, 3)) 25 rfl
theorem dL_law_932 : decode cL_law 932 = .ok (.aload_n 1, 1) := ldc_at ldc_9_ok (q := (932, .aload_n 1, 1)) 26 rfl
theorem dL_law_933 : decode cL_law 933 = .ok (.aload_n 0, 1) := ldc_at ldc_9_ok (q := (933, .aload_n 0, 1)) 27 rfl
theorem dL_law_934 : decode cL_law 934 = .ok (.iload 5, 2) := ldc_at ldc_9_ok (q := (934, .iload 5, 2)) 28 rfl
theorem dL_law_936 : decode cL_law 936 = .ok (.iconst 1, 1) := ldc_at ldc_9_ok (q := (936, .iconst 1, 1)) 29 rfl
theorem dL_law_937 : decode cL_law 937 = .ok (.iadd, 1) := ldc_at ldc_9_ok (q := (937, .iadd, 1)) 30 rfl
theorem dL_law_938 : decode cL_law 938 = .ok (.iaload, 1) := ldc_at ldc_9_ok (q := (938, .iaload, 1)) 31 rfl
theorem dL_law_939 : decode cL_law 939 = .ok (.aload_n 3, 1) := ldc_at ldc_9_ok (q := (939, .aload_n 3, 1)) 32 rfl
theorem dL_law_940 : decode cL_law 940 = .ok (.invokestatic 207, 3) := ldc_at ldc_9_ok (q := (940, .invokestatic 207, 3)) 33 rfl
theorem dL_law_943 : decode cL_law 943 = .ok (.istore 6, 2) := ldc_at ldc_9_ok (q := (943, .istore 6, 2)) 34 rfl
theorem dL_law_945 : decode cL_law 945 = .ok (.aload_n 2, 1) := ldc_at ldc_9_ok (q := (945, .aload_n 2, 1)) 35 rfl
theorem dL_law_946 : decode cL_law 946 = .ok (.aload_n 0, 1) := ldc_at ldc_9_ok (q := (946, .aload_n 0, 1)) 36 rfl
theorem dL_law_947 : decode cL_law 947 = .ok (.iload 5, 2) := ldc_at ldc_9_ok (q := (947, .iload 5, 2)) 37 rfl
theorem dL_law_949 : decode cL_law 949 = .ok (.iconst 1, 1) := ldc_at ldc_9_ok (q := (949, .iconst 1, 1)) 38 rfl
theorem dL_law_950 : decode cL_law 950 = .ok (.iadd, 1) := ldc_at ldc_9_ok (q := (950, .iadd, 1)) 39 rfl
theorem dL_law_951 : decode cL_law 951 = .ok (.iaload, 1) := ldc_at ldc_9_ok (q := (951, .iaload, 1)) 40 rfl
theorem dL_law_952 : decode cL_law 952 = .ok (.invokevirtual 209, 3) := ldc_at ldc_9_ok (q := (952, .invokevirtual 209, 3)) 41 rfl
theorem dL_law_955 : decode cL_law 955 = .ok (.istore 7, 2) := ldc_at ldc_9_ok (q := (955, .istore 7, 2)) 42 rfl
theorem dL_law_957 : decode cL_law 957 = .ok (.goto 1009, 3) := ldc_at ldc_9_ok (q := (957, .goto 1009, 3)) 43 rfl
theorem dL_law_960 : decode cL_law 960 = .ok (.aload_n 1, 1) := ldc_at ldc_9_ok (q := (960, .aload_n 1, 1)) 44 rfl
theorem dL_law_961 : decode cL_law 961 = .ok (.aload_n 0, 1) := ldc_at ldc_9_ok (q := (961, .aload_n 0, 1)) 45 rfl
theorem dL_law_962 : decode cL_law 962 = .ok (.iload 5, 2) := ldc_at ldc_9_ok (q := (962, .iload 5, 2)) 46 rfl
theorem dL_law_964 : decode cL_law 964 = .ok (.iconst 1, 1) := ldc_at ldc_9_ok (q := (964, .iconst 1, 1)) 47 rfl
noncomputable def ldc_10 : List (Nat × Jvm.ClassFile.Instr × Nat) := [(965, .iadd, 1), (966, .iaload, 1), (967, .aload_n 0, 1), (968, .iload 5, 2), (970, .iconst 2, 1), (971, .iadd, 1), (972, .iaload, 1), (973, .ifCond .eq 7, 3), (976, .iconst 1, 1), (977, .goto 4, 3), (980, .iconst 0, 1), (981, .aload_n 3, 1), (982, .invokestatic 210, 3), (985, .istore 6, 2), (987, .aload_n 2, 1), (988, .aload_n 0, 1), (989, .iload 5, 2), (991, .iconst 1, 1), (992, .iadd, 1), (993, .iaload, 1), (994, .aload_n 0, 1), (995, .iload 5, 2), (997, .iconst 2, 1), (998, .iadd, 1), (999, .iaload, 1), (1000, .ifCond .eq 7, 3), (1003, .iconst 1, 1), (1004, .goto 4, 3), (1007, .iconst 0, 1), (1008, .invokevirtual 213, 3), (1011, .istore 7, 2), (1013, .goto 953, 3), (1016, .aload_n 1, 1), (1017, .invokevirtual 214, 3), (1020, .aload_n 2, 1), (1021, .invokevirtual 217, 3), (1024, .goto 942, 3), (1027, .aload_n 1, 1), (1028, .aload_n 0, 1), (1029, .iload 5, 2), (1031, .iconst 1, 1), (1032, .iadd, 1), (1033, .iaload, 1), (1034, .aload_n 3, 1), (1035, .invokestatic 218, 3), (1038, .istore 6, 2), (1040, .aload_n 2, 1), (1041, .aload_n 0, 1)]
set_option maxRecDepth 100000 in
theorem ldc_10_ok : ldc_10.all (fun q => decide (decode cL_law q.1 = .ok (q.2.1, q.2.2))) = true := by decide +kernel
theorem dL_law_965 : decode cL_law 965 = .ok (.iadd, 1) := ldc_at ldc_10_ok (q := (965, .iadd, 1)) 0 rfl
theorem dL_law_966 : decode cL_law 966 = .ok (.iaload, 1) := ldc_at ldc_10_ok (q := (966, .iaload, 1)) 1 rfl
theorem dL_law_967 : decode cL_law 967 = .ok (.aload_n 0, 1) := ldc_at ldc_10_ok (q := (967, .aload_n 0, 1)) 2 rfl
theorem dL_law_968 : decode cL_law 968 = .ok (.iload 5, 2) := ldc_at ldc_10_ok (q := (968, .iload 5, 2)) 3 rfl
theorem dL_law_970 : decode cL_law 970 = .ok (.iconst 2, 1) := ldc_at ldc_10_ok (q := (970, .iconst 2, 1)) 4 rfl
theorem dL_law_971 : decode cL_law 971 = .ok (.iadd, 1) := ldc_at ldc_10_ok (q := (971, .iadd, 1)) 5 rfl
theorem dL_law_972 : decode cL_law 972 = .ok (.iaload, 1) := ldc_at ldc_10_ok (q := (972, .iaload, 1)) 6 rfl
theorem dL_law_973 : decode cL_law 973 = .ok (.ifCond .eq 7, 3) := ldc_at ldc_10_ok (q := (973, .ifCond .eq 7, 3)) 7 rfl
theorem dL_law_976 : decode cL_law 976 = .ok (.iconst 1, 1) := ldc_at ldc_10_ok (q := (976, .iconst 1, 1)) 8 rfl
theorem dL_law_977 : decode cL_law 977 = .ok (.goto 4, 3) := ldc_at ldc_10_ok (q := (977, .goto 4, 3)) 9 rfl
theorem dL_law_980 : decode cL_law 980 = .ok (.iconst 0, 1) := ldc_at ldc_10_ok (q := (980, .iconst 0, 1)) 10 rfl
theorem dL_law_981 : decode cL_law 981 = .ok (.aload_n 3, 1) := ldc_at ldc_10_ok (q := (981, .aload_n 3, 1)) 11 rfl
theorem dL_law_982 : decode cL_law 982 = .ok (.invokestatic 210, 3) := ldc_at ldc_10_ok (q := (982, .invokestatic 210, 3)) 12 rfl
theorem dL_law_985 : decode cL_law 985 = .ok (.istore 6, 2) := ldc_at ldc_10_ok (q := (985, .istore 6, 2)) 13 rfl
theorem dL_law_987 : decode cL_law 987 = .ok (.aload_n 2, 1) := ldc_at ldc_10_ok (q := (987, .aload_n 2, 1)) 14 rfl
theorem dL_law_988 : decode cL_law 988 = .ok (.aload_n 0, 1) := ldc_at ldc_10_ok (q := (988, .aload_n 0, 1)) 15 rfl
theorem dL_law_989 : decode cL_law 989 = .ok (.iload 5, 2) := ldc_at ldc_10_ok (q := (989, .iload 5, 2)) 16 rfl
theorem dL_law_991 : decode cL_law 991 = .ok (.iconst 1, 1) := ldc_at ldc_10_ok (q := (991, .iconst 1, 1)) 17 rfl
theorem dL_law_992 : decode cL_law 992 = .ok (.iadd, 1) := ldc_at ldc_10_ok (q := (992, .iadd, 1)) 18 rfl
theorem dL_law_993 : decode cL_law 993 = .ok (.iaload, 1) := ldc_at ldc_10_ok (q := (993, .iaload, 1)) 19 rfl
theorem dL_law_994 : decode cL_law 994 = .ok (.aload_n 0, 1) := ldc_at ldc_10_ok (q := (994, .aload_n 0, 1)) 20 rfl
theorem dL_law_995 : decode cL_law 995 = .ok (.iload 5, 2) := ldc_at ldc_10_ok (q := (995, .iload 5, 2)) 21 rfl
theorem dL_law_997 : decode cL_law 997 = .ok (.iconst 2, 1) := ldc_at ldc_10_ok (q := (997, .iconst 2, 1)) 22 rfl
theorem dL_law_998 : decode cL_law 998 = .ok (.iadd, 1) := ldc_at ldc_10_ok (q := (998, .iadd, 1)) 23 rfl
theorem dL_law_999 : decode cL_law 999 = .ok (.iaload, 1) := ldc_at ldc_10_ok (q := (999, .iaload, 1)) 24 rfl
theorem dL_law_1000 : decode cL_law 1000 = .ok (.ifCond .eq 7, 3) := ldc_at ldc_10_ok (q := (1000, .ifCond .eq 7, 3)) 25 rfl
theorem dL_law_1003 : decode cL_law 1003 = .ok (.iconst 1, 1) := ldc_at ldc_10_ok (q := (1003, .iconst 1, 1)) 26 rfl
theorem dL_law_1004 : decode cL_law 1004 = .ok (.goto 4, 3) := ldc_at ldc_10_ok (q := (1004, .goto 4, 3)) 27 rfl
theorem dL_law_1007 : decode cL_law 1007 = .ok (.iconst 0, 1) := ldc_at ldc_10_ok (q := (1007, .iconst 0, 1)) 28 rfl
theorem dL_law_1008 : decode cL_law 1008 = .ok (.invokevirtual 213, 3) := ldc_at ldc_10_ok (q := (1008, .invokevirtual 213, 3)) 29 rfl
theorem dL_law_1011 : decode cL_law 1011 = .ok (.istore 7, 2) := ldc_at ldc_10_ok (q := (1011, .istore 7, 2)) 30 rfl
theorem dL_law_1013 : decode cL_law 1013 = .ok (.goto 953, 3) := ldc_at ldc_10_ok (q := (1013, .goto 953, 3)) 31 rfl
theorem dL_law_1016 : decode cL_law 1016 = .ok (.aload_n 1, 1) := ldc_at ldc_10_ok (q := (1016, .aload_n 1, 1)) 32 rfl
theorem dL_law_1017 : decode cL_law 1017 = .ok (.invokevirtual 214, 3) := ldc_at ldc_10_ok (q := (1017, .invokevirtual 214, 3)) 33 rfl
theorem dL_law_1020 : decode cL_law 1020 = .ok (.aload_n 2, 1) := ldc_at ldc_10_ok (q := (1020, .aload_n 2, 1)) 34 rfl
theorem dL_law_1021 : decode cL_law 1021 = .ok (.invokevirtual 217, 3) := ldc_at ldc_10_ok (q := (1021, .invokevirtual 217, 3)) 35 rfl
theorem dL_law_1024 : decode cL_law 1024 = .ok (.goto 942, 3) := ldc_at ldc_10_ok (q := (1024, .goto 942, 3)) 36 rfl
theorem dL_law_1027 : decode cL_law 1027 = .ok (.aload_n 1, 1) := ldc_at ldc_10_ok (q := (1027, .aload_n 1, 1)) 37 rfl
theorem dL_law_1028 : decode cL_law 1028 = .ok (.aload_n 0, 1) := ldc_at ldc_10_ok (q := (1028, .aload_n 0, 1)) 38 rfl
theorem dL_law_1029 : decode cL_law 1029 = .ok (.iload 5, 2) := ldc_at ldc_10_ok (q := (1029, .iload 5, 2)) 39 rfl
theorem dL_law_1031 : decode cL_law 1031 = .ok (.iconst 1, 1) := ldc_at ldc_10_ok (q := (1031, .iconst 1, 1)) 40 rfl
theorem dL_law_1032 : decode cL_law 1032 = .ok (.iadd, 1) := ldc_at ldc_10_ok (q := (1032, .iadd, 1)) 41 rfl
theorem dL_law_1033 : decode cL_law 1033 = .ok (.iaload, 1) := ldc_at ldc_10_ok (q := (1033, .iaload, 1)) 42 rfl
theorem dL_law_1034 : decode cL_law 1034 = .ok (.aload_n 3, 1) := ldc_at ldc_10_ok (q := (1034, .aload_n 3, 1)) 43 rfl
theorem dL_law_1035 : decode cL_law 1035 = .ok (.invokestatic 218, 3) := ldc_at ldc_10_ok (q := (1035, .invokestatic 218, 3)) 44 rfl
theorem dL_law_1038 : decode cL_law 1038 = .ok (.istore 6, 2) := ldc_at ldc_10_ok (q := (1038, .istore 6, 2)) 45 rfl
theorem dL_law_1040 : decode cL_law 1040 = .ok (.aload_n 2, 1) := ldc_at ldc_10_ok (q := (1040, .aload_n 2, 1)) 46 rfl
theorem dL_law_1041 : decode cL_law 1041 = .ok (.aload_n 0, 1) := ldc_at ldc_10_ok (q := (1041, .aload_n 0, 1)) 47 rfl
noncomputable def ldc_11 : List (Nat × Jvm.ClassFile.Instr × Nat) := [(1042, .iload 5, 2), (1044, .iconst 1, 1), (1045, .iadd, 1), (1046, .iaload, 1), (1047, .invokevirtual 220, 3), (1050, .istore 7, 2), (1052, .goto 914, 3), (1055, .aload_n 1, 1), (1056, .invokevirtual 221, 3), (1059, .pop, 1), (1060, .aload_n 2, 1), (1061, .invokevirtual 224, 3), (1064, .pop, 1), (1065, .goto 901, 3), (1068, .aload_n 1, 1), (1069, .invokevirtual 225, 3), (1072, .pop2, 1), (1073, .aload_n 2, 1), (1074, .invokevirtual 229, 3), (1077, .pop2, 1), (1078, .goto 888, 3), (1081, .aload_n 1, 1), (1082, .invokevirtual 230, 3), (1085, .pop2, 1), (1086, .aload_n 2, 1), (1087, .invokevirtual 233, 3), (1090, .pop2, 1), (1091, .goto 875, 3), (1094, .aload_n 1, 1), (1095, .invokevirtual 234, 3), (1098, .pop2, 1), (1099, .aload_n 2, 1), (1100, .invokevirtual 237, 3), (1103, .pop2, 1), (1104, .goto 862, 3), (1107, .aload_n 1, 1), (1108, .invokevirtual 238, 3), (1111, .pop2, 1), (1112, .aload_n 2, 1), (1113, .invokevirtual 241, 3), (1116, .pop2, 1), (1117, .goto 849, 3), (1120, .aload_n 1, 1), (1121, .invokevirtual 242, 3), (1124, .pop, 1), (1125, .aload_n 2, 1), (1126, .invokevirtual 245, 3), (1129, .pop, 1)]
set_option maxRecDepth 100000 in
theorem ldc_11_ok : ldc_11.all (fun q => decide (decode cL_law q.1 = .ok (q.2.1, q.2.2))) = true := by decide +kernel
theorem dL_law_1042 : decode cL_law 1042 = .ok (.iload 5, 2) := ldc_at ldc_11_ok (q := (1042, .iload 5, 2)) 0 rfl
theorem dL_law_1044 : decode cL_law 1044 = .ok (.iconst 1, 1) := ldc_at ldc_11_ok (q := (1044, .iconst 1, 1)) 1 rfl
theorem dL_law_1045 : decode cL_law 1045 = .ok (.iadd, 1) := ldc_at ldc_11_ok (q := (1045, .iadd, 1)) 2 rfl
theorem dL_law_1046 : decode cL_law 1046 = .ok (.iaload, 1) := ldc_at ldc_11_ok (q := (1046, .iaload, 1)) 3 rfl
theorem dL_law_1047 : decode cL_law 1047 = .ok (.invokevirtual 220, 3) := ldc_at ldc_11_ok (q := (1047, .invokevirtual 220, 3)) 4 rfl
theorem dL_law_1050 : decode cL_law 1050 = .ok (.istore 7, 2) := ldc_at ldc_11_ok (q := (1050, .istore 7, 2)) 5 rfl
theorem dL_law_1052 : decode cL_law 1052 = .ok (.goto 914, 3) := ldc_at ldc_11_ok (q := (1052, .goto 914, 3)) 6 rfl
theorem dL_law_1055 : decode cL_law 1055 = .ok (.aload_n 1, 1) := ldc_at ldc_11_ok (q := (1055, .aload_n 1, 1)) 7 rfl
theorem dL_law_1056 : decode cL_law 1056 = .ok (.invokevirtual 221, 3) := ldc_at ldc_11_ok (q := (1056, .invokevirtual 221, 3)) 8 rfl
theorem dL_law_1059 : decode cL_law 1059 = .ok (.pop, 1) := ldc_at ldc_11_ok (q := (1059, .pop, 1)) 9 rfl
theorem dL_law_1060 : decode cL_law 1060 = .ok (.aload_n 2, 1) := ldc_at ldc_11_ok (q := (1060, .aload_n 2, 1)) 10 rfl
theorem dL_law_1061 : decode cL_law 1061 = .ok (.invokevirtual 224, 3) := ldc_at ldc_11_ok (q := (1061, .invokevirtual 224, 3)) 11 rfl
theorem dL_law_1064 : decode cL_law 1064 = .ok (.pop, 1) := ldc_at ldc_11_ok (q := (1064, .pop, 1)) 12 rfl
theorem dL_law_1065 : decode cL_law 1065 = .ok (.goto 901, 3) := ldc_at ldc_11_ok (q := (1065, .goto 901, 3)) 13 rfl
theorem dL_law_1068 : decode cL_law 1068 = .ok (.aload_n 1, 1) := ldc_at ldc_11_ok (q := (1068, .aload_n 1, 1)) 14 rfl
theorem dL_law_1069 : decode cL_law 1069 = .ok (.invokevirtual 225, 3) := ldc_at ldc_11_ok (q := (1069, .invokevirtual 225, 3)) 15 rfl
theorem dL_law_1072 : decode cL_law 1072 = .ok (.pop2, 1) := ldc_at ldc_11_ok (q := (1072, .pop2, 1)) 16 rfl
theorem dL_law_1073 : decode cL_law 1073 = .ok (.aload_n 2, 1) := ldc_at ldc_11_ok (q := (1073, .aload_n 2, 1)) 17 rfl
theorem dL_law_1074 : decode cL_law 1074 = .ok (.invokevirtual 229, 3) := ldc_at ldc_11_ok (q := (1074, .invokevirtual 229, 3)) 18 rfl
theorem dL_law_1077 : decode cL_law 1077 = .ok (.pop2, 1) := ldc_at ldc_11_ok (q := (1077, .pop2, 1)) 19 rfl
theorem dL_law_1078 : decode cL_law 1078 = .ok (.goto 888, 3) := ldc_at ldc_11_ok (q := (1078, .goto 888, 3)) 20 rfl
theorem dL_law_1081 : decode cL_law 1081 = .ok (.aload_n 1, 1) := ldc_at ldc_11_ok (q := (1081, .aload_n 1, 1)) 21 rfl
theorem dL_law_1082 : decode cL_law 1082 = .ok (.invokevirtual 230, 3) := ldc_at ldc_11_ok (q := (1082, .invokevirtual 230, 3)) 22 rfl
theorem dL_law_1085 : decode cL_law 1085 = .ok (.pop2, 1) := ldc_at ldc_11_ok (q := (1085, .pop2, 1)) 23 rfl
theorem dL_law_1086 : decode cL_law 1086 = .ok (.aload_n 2, 1) := ldc_at ldc_11_ok (q := (1086, .aload_n 2, 1)) 24 rfl
theorem dL_law_1087 : decode cL_law 1087 = .ok (.invokevirtual 233, 3) := ldc_at ldc_11_ok (q := (1087, .invokevirtual 233, 3)) 25 rfl
theorem dL_law_1090 : decode cL_law 1090 = .ok (.pop2, 1) := ldc_at ldc_11_ok (q := (1090, .pop2, 1)) 26 rfl
theorem dL_law_1091 : decode cL_law 1091 = .ok (.goto 875, 3) := ldc_at ldc_11_ok (q := (1091, .goto 875, 3)) 27 rfl
theorem dL_law_1094 : decode cL_law 1094 = .ok (.aload_n 1, 1) := ldc_at ldc_11_ok (q := (1094, .aload_n 1, 1)) 28 rfl
theorem dL_law_1095 : decode cL_law 1095 = .ok (.invokevirtual 234, 3) := ldc_at ldc_11_ok (q := (1095, .invokevirtual 234, 3)) 29 rfl
theorem dL_law_1098 : decode cL_law 1098 = .ok (.pop2, 1) := ldc_at ldc_11_ok (q := (1098, .pop2, 1)) 30 rfl
theorem dL_law_1099 : decode cL_law 1099 = .ok (.aload_n 2, 1) := ldc_at ldc_11_ok (q := (1099, .aload_n 2, 1)) 31 rfl
theorem dL_law_1100 : decode cL_law 1100 = .ok (.invokevirtual 237, 3) := ldc_at ldc_11_ok (q := (1100, .invokevirtual 237, 3)) 32 rfl
theorem dL_law_1103 : decode cL_law 1103 = .ok (.pop2, 1) := ldc_at ldc_11_ok (q := (1103, .pop2, 1)) 33 rfl
theorem dL_law_1104 : decode cL_law 1104 = .ok (.goto 862, 3) := ldc_at ldc_11_ok (q := (1104, .goto 862, 3)) 34 rfl
theorem dL_law_1107 : decode cL_law 1107 = .ok (.aload_n 1, 1) := ldc_at ldc_11_ok (q := (1107, .aload_n 1, 1)) 35 rfl
theorem dL_law_1108 : decode cL_law 1108 = .ok (.invokevirtual 238, 3) := ldc_at ldc_11_ok (q := (1108, .invokevirtual 238, 3)) 36 rfl
theorem dL_law_1111 : decode cL_law 1111 = .ok (.pop2, 1) := ldc_at ldc_11_ok (q := (1111, .pop2, 1)) 37 rfl
theorem dL_law_1112 : decode cL_law 1112 = .ok (.aload_n 2, 1) := ldc_at ldc_11_ok (q := (1112, .aload_n 2, 1)) 38 rfl
theorem dL_law_1113 : decode cL_law 1113 = .ok (.invokevirtual 241, 3) := ldc_at ldc_11_ok (q := (1113, .invokevirtual 241, 3)) 39 rfl
theorem dL_law_1116 : decode cL_law 1116 = .ok (.pop2, 1) := ldc_at ldc_11_ok (q := (1116, .pop2, 1)) 40 rfl
theorem dL_law_1117 : decode cL_law 1117 = .ok (.goto 849, 3) := ldc_at ldc_11_ok (q := (1117, .goto 849, 3)) 41 rfl
theorem dL_law_1120 : decode cL_law 1120 = .ok (.aload_n 1, 1) := ldc_at ldc_11_ok (q := (1120, .aload_n 1, 1)) 42 rfl
theorem dL_law_1121 : decode cL_law 1121 = .ok (.invokevirtual 242, 3) := ldc_at ldc_11_ok (q := (1121, .invokevirtual 242, 3)) 43 rfl
theorem dL_law_1124 : decode cL_law 1124 = .ok (.pop, 1) := ldc_at ldc_11_ok (q := (1124, .pop, 1)) 44 rfl
theorem dL_law_1125 : decode cL_law 1125 = .ok (.aload_n 2, 1) := ldc_at ldc_11_ok (q := (1125, .aload_n 2, 1)) 45 rfl
theorem dL_law_1126 : decode cL_law 1126 = .ok (.invokevirtual 245, 3) := ldc_at ldc_11_ok (q := (1126, .invokevirtual 245, 3)) 46 rfl
theorem dL_law_1129 : decode cL_law 1129 = .ok (.pop, 1) := ldc_at ldc_11_ok (q := (1129, .pop, 1)) 47 rfl
noncomputable def ldc_12 : List (Nat × Jvm.ClassFile.Instr × Nat) := [(1130, .goto 836, 3), (1133, .aload_n 1, 1), (1134, .invokevirtual 246, 3), (1137, .pop2, 1), (1138, .aload_n 2, 1), (1139, .invokevirtual 249, 3), (1142, .pop2, 1), (1143, .goto 823, 3), (1146, .aload_n 1, 1), (1147, .invokevirtual 250, 3), (1150, .pop, 1), (1151, .aload_n 2, 1), (1152, .invokevirtual 253, 3), (1155, .pop, 1), (1156, .goto 810, 3), (1159, .aload_n 1, 1), (1160, .aload_n 0, 1), (1161, .iload 5, 2), (1163, .iconst 1, 1), (1164, .iadd, 1), (1165, .iaload, 1), (1166, .aload_n 3, 1), (1167, .invokestatic 254, 3), (1170, .istore 6, 2), (1172, .aload_n 2, 1), (1173, .aload_n 0, 1), (1174, .iload 5, 2), (1176, .iconst 1, 1), (1177, .iadd, 1), (1178, .iaload, 1), (1179, .invokevirtual 256, 3), (1182, .istore 7, 2), (1184, .goto 782, 3), (1187, .aload_n 1, 1), (1188, .aload_n 0, 1), (1189, .iload 5, 2), (1191, .iconst 1, 1), (1192, .iadd, 1), (1193, .iaload, 1), (1194, .aload_n 0, 1), (1195, .iload 5, 2), (1197, .iconst 2, 1), (1198, .iadd, 1), (1199, .iaload, 1), (1200, .aload_n 3, 1), (1201, .invokestatic 257, 3), (1204, .istore 6, 2), (1206, .aload_n 2, 1)]
set_option maxRecDepth 100000 in
theorem ldc_12_ok : ldc_12.all (fun q => decide (decode cL_law q.1 = .ok (q.2.1, q.2.2))) = true := by decide +kernel
theorem dL_law_1130 : decode cL_law 1130 = .ok (.goto 836, 3) := ldc_at ldc_12_ok (q := (1130, .goto 836, 3)) 0 rfl
theorem dL_law_1133 : decode cL_law 1133 = .ok (.aload_n 1, 1) := ldc_at ldc_12_ok (q := (1133, .aload_n 1, 1)) 1 rfl
theorem dL_law_1134 : decode cL_law 1134 = .ok (.invokevirtual 246, 3) := ldc_at ldc_12_ok (q := (1134, .invokevirtual 246, 3)) 2 rfl
theorem dL_law_1137 : decode cL_law 1137 = .ok (.pop2, 1) := ldc_at ldc_12_ok (q := (1137, .pop2, 1)) 3 rfl
theorem dL_law_1138 : decode cL_law 1138 = .ok (.aload_n 2, 1) := ldc_at ldc_12_ok (q := (1138, .aload_n 2, 1)) 4 rfl
theorem dL_law_1139 : decode cL_law 1139 = .ok (.invokevirtual 249, 3) := ldc_at ldc_12_ok (q := (1139, .invokevirtual 249, 3)) 5 rfl
theorem dL_law_1142 : decode cL_law 1142 = .ok (.pop2, 1) := ldc_at ldc_12_ok (q := (1142, .pop2, 1)) 6 rfl
theorem dL_law_1143 : decode cL_law 1143 = .ok (.goto 823, 3) := ldc_at ldc_12_ok (q := (1143, .goto 823, 3)) 7 rfl
theorem dL_law_1146 : decode cL_law 1146 = .ok (.aload_n 1, 1) := ldc_at ldc_12_ok (q := (1146, .aload_n 1, 1)) 8 rfl
theorem dL_law_1147 : decode cL_law 1147 = .ok (.invokevirtual 250, 3) := ldc_at ldc_12_ok (q := (1147, .invokevirtual 250, 3)) 9 rfl
theorem dL_law_1150 : decode cL_law 1150 = .ok (.pop, 1) := ldc_at ldc_12_ok (q := (1150, .pop, 1)) 10 rfl
theorem dL_law_1151 : decode cL_law 1151 = .ok (.aload_n 2, 1) := ldc_at ldc_12_ok (q := (1151, .aload_n 2, 1)) 11 rfl
theorem dL_law_1152 : decode cL_law 1152 = .ok (.invokevirtual 253, 3) := ldc_at ldc_12_ok (q := (1152, .invokevirtual 253, 3)) 12 rfl
theorem dL_law_1155 : decode cL_law 1155 = .ok (.pop, 1) := ldc_at ldc_12_ok (q := (1155, .pop, 1)) 13 rfl
theorem dL_law_1156 : decode cL_law 1156 = .ok (.goto 810, 3) := ldc_at ldc_12_ok (q := (1156, .goto 810, 3)) 14 rfl
theorem dL_law_1159 : decode cL_law 1159 = .ok (.aload_n 1, 1) := ldc_at ldc_12_ok (q := (1159, .aload_n 1, 1)) 15 rfl
theorem dL_law_1160 : decode cL_law 1160 = .ok (.aload_n 0, 1) := ldc_at ldc_12_ok (q := (1160, .aload_n 0, 1)) 16 rfl
theorem dL_law_1161 : decode cL_law 1161 = .ok (.iload 5, 2) := ldc_at ldc_12_ok (q := (1161, .iload 5, 2)) 17 rfl
theorem dL_law_1163 : decode cL_law 1163 = .ok (.iconst 1, 1) := ldc_at ldc_12_ok (q := (1163, .iconst 1, 1)) 18 rfl
theorem dL_law_1164 : decode cL_law 1164 = .ok (.iadd, 1) := ldc_at ldc_12_ok (q := (1164, .iadd, 1)) 19 rfl
theorem dL_law_1165 : decode cL_law 1165 = .ok (.iaload, 1) := ldc_at ldc_12_ok (q := (1165, .iaload, 1)) 20 rfl
theorem dL_law_1166 : decode cL_law 1166 = .ok (.aload_n 3, 1) := ldc_at ldc_12_ok (q := (1166, .aload_n 3, 1)) 21 rfl
theorem dL_law_1167 : decode cL_law 1167 = .ok (.invokestatic 254, 3) := ldc_at ldc_12_ok (q := (1167, .invokestatic 254, 3)) 22 rfl
theorem dL_law_1170 : decode cL_law 1170 = .ok (.istore 6, 2) := ldc_at ldc_12_ok (q := (1170, .istore 6, 2)) 23 rfl
theorem dL_law_1172 : decode cL_law 1172 = .ok (.aload_n 2, 1) := ldc_at ldc_12_ok (q := (1172, .aload_n 2, 1)) 24 rfl
theorem dL_law_1173 : decode cL_law 1173 = .ok (.aload_n 0, 1) := ldc_at ldc_12_ok (q := (1173, .aload_n 0, 1)) 25 rfl
theorem dL_law_1174 : decode cL_law 1174 = .ok (.iload 5, 2) := ldc_at ldc_12_ok (q := (1174, .iload 5, 2)) 26 rfl
theorem dL_law_1176 : decode cL_law 1176 = .ok (.iconst 1, 1) := ldc_at ldc_12_ok (q := (1176, .iconst 1, 1)) 27 rfl
theorem dL_law_1177 : decode cL_law 1177 = .ok (.iadd, 1) := ldc_at ldc_12_ok (q := (1177, .iadd, 1)) 28 rfl
theorem dL_law_1178 : decode cL_law 1178 = .ok (.iaload, 1) := ldc_at ldc_12_ok (q := (1178, .iaload, 1)) 29 rfl
theorem dL_law_1179 : decode cL_law 1179 = .ok (.invokevirtual 256, 3) := ldc_at ldc_12_ok (q := (1179, .invokevirtual 256, 3)) 30 rfl
theorem dL_law_1182 : decode cL_law 1182 = .ok (.istore 7, 2) := ldc_at ldc_12_ok (q := (1182, .istore 7, 2)) 31 rfl
theorem dL_law_1184 : decode cL_law 1184 = .ok (.goto 782, 3) := ldc_at ldc_12_ok (q := (1184, .goto 782, 3)) 32 rfl
theorem dL_law_1187 : decode cL_law 1187 = .ok (.aload_n 1, 1) := ldc_at ldc_12_ok (q := (1187, .aload_n 1, 1)) 33 rfl
theorem dL_law_1188 : decode cL_law 1188 = .ok (.aload_n 0, 1) := ldc_at ldc_12_ok (q := (1188, .aload_n 0, 1)) 34 rfl
theorem dL_law_1189 : decode cL_law 1189 = .ok (.iload 5, 2) := ldc_at ldc_12_ok (q := (1189, .iload 5, 2)) 35 rfl
theorem dL_law_1191 : decode cL_law 1191 = .ok (.iconst 1, 1) := ldc_at ldc_12_ok (q := (1191, .iconst 1, 1)) 36 rfl
theorem dL_law_1192 : decode cL_law 1192 = .ok (.iadd, 1) := ldc_at ldc_12_ok (q := (1192, .iadd, 1)) 37 rfl
theorem dL_law_1193 : decode cL_law 1193 = .ok (.iaload, 1) := ldc_at ldc_12_ok (q := (1193, .iaload, 1)) 38 rfl
theorem dL_law_1194 : decode cL_law 1194 = .ok (.aload_n 0, 1) := ldc_at ldc_12_ok (q := (1194, .aload_n 0, 1)) 39 rfl
theorem dL_law_1195 : decode cL_law 1195 = .ok (.iload 5, 2) := ldc_at ldc_12_ok (q := (1195, .iload 5, 2)) 40 rfl
theorem dL_law_1197 : decode cL_law 1197 = .ok (.iconst 2, 1) := ldc_at ldc_12_ok (q := (1197, .iconst 2, 1)) 41 rfl
theorem dL_law_1198 : decode cL_law 1198 = .ok (.iadd, 1) := ldc_at ldc_12_ok (q := (1198, .iadd, 1)) 42 rfl
theorem dL_law_1199 : decode cL_law 1199 = .ok (.iaload, 1) := ldc_at ldc_12_ok (q := (1199, .iaload, 1)) 43 rfl
theorem dL_law_1200 : decode cL_law 1200 = .ok (.aload_n 3, 1) := ldc_at ldc_12_ok (q := (1200, .aload_n 3, 1)) 44 rfl
theorem dL_law_1201 : decode cL_law 1201 = .ok (.invokestatic 257, 3) := ldc_at ldc_12_ok (q := (1201, .invokestatic 257, 3)) 45 rfl
theorem dL_law_1204 : decode cL_law 1204 = .ok (.istore 6, 2) := ldc_at ldc_12_ok (q := (1204, .istore 6, 2)) 46 rfl
theorem dL_law_1206 : decode cL_law 1206 = .ok (.aload_n 2, 1) := ldc_at ldc_12_ok (q := (1206, .aload_n 2, 1)) 47 rfl
noncomputable def ldc_13 : List (Nat × Jvm.ClassFile.Instr × Nat) := [(1207, .aload_n 0, 1), (1208, .iload 5, 2), (1210, .iconst 1, 1), (1211, .iadd, 1), (1212, .iaload, 1), (1213, .aload_n 0, 1), (1214, .iload 5, 2), (1216, .iconst 2, 1), (1217, .iadd, 1), (1218, .iaload, 1), (1219, .invokevirtual 259, 3), (1222, .istore 7, 2), (1224, .goto 742, 3), (1227, .aload_n 1, 1), (1228, .aload_n 0, 1), (1229, .iload 5, 2), (1231, .iconst 1, 1), (1232, .iadd, 1), (1233, .iaload, 1), (1234, .aload_n 3, 1), (1235, .invokestatic 260, 3), (1238, .istore 6, 2), (1240, .aload_n 2, 1), (1241, .aload_n 0, 1), (1242, .iload 5, 2), (1244, .iconst 1, 1), (1245, .iadd, 1), (1246, .iaload, 1), (1247, .invokevirtual 262, 3), (1250, .istore 7, 2), (1252, .goto 714, 3), (1255, .aload_n 1, 1), (1256, .invokevirtual 263, 3), (1259, .pop, 1), (1260, .aload_n 2, 1), (1261, .invokevirtual 266, 3), (1264, .pop, 1), (1265, .goto 701, 3), (1268, .aload_n 1, 1), (1269, .aload_n 0, 1), (1270, .iload 5, 2), (1272, .iconst 1, 1), (1273, .iadd, 1), (1274, .iaload, 1), (1275, .aload_n 3, 1), (1276, .invokestatic 267, 3), (1279, .istore 6, 2), (1281, .aload_n 2, 1)]
set_option maxRecDepth 100000 in
theorem ldc_13_ok : ldc_13.all (fun q => decide (decode cL_law q.1 = .ok (q.2.1, q.2.2))) = true := by decide +kernel
theorem dL_law_1207 : decode cL_law 1207 = .ok (.aload_n 0, 1) := ldc_at ldc_13_ok (q := (1207, .aload_n 0, 1)) 0 rfl
theorem dL_law_1208 : decode cL_law 1208 = .ok (.iload 5, 2) := ldc_at ldc_13_ok (q := (1208, .iload 5, 2)) 1 rfl
theorem dL_law_1210 : decode cL_law 1210 = .ok (.iconst 1, 1) := ldc_at ldc_13_ok (q := (1210, .iconst 1, 1)) 2 rfl
theorem dL_law_1211 : decode cL_law 1211 = .ok (.iadd, 1) := ldc_at ldc_13_ok (q := (1211, .iadd, 1)) 3 rfl
theorem dL_law_1212 : decode cL_law 1212 = .ok (.iaload, 1) := ldc_at ldc_13_ok (q := (1212, .iaload, 1)) 4 rfl
theorem dL_law_1213 : decode cL_law 1213 = .ok (.aload_n 0, 1) := ldc_at ldc_13_ok (q := (1213, .aload_n 0, 1)) 5 rfl
theorem dL_law_1214 : decode cL_law 1214 = .ok (.iload 5, 2) := ldc_at ldc_13_ok (q := (1214, .iload 5, 2)) 6 rfl
theorem dL_law_1216 : decode cL_law 1216 = .ok (.iconst 2, 1) := ldc_at ldc_13_ok (q := (1216, .iconst 2, 1)) 7 rfl
theorem dL_law_1217 : decode cL_law 1217 = .ok (.iadd, 1) := ldc_at ldc_13_ok (q := (1217, .iadd, 1)) 8 rfl
theorem dL_law_1218 : decode cL_law 1218 = .ok (.iaload, 1) := ldc_at ldc_13_ok (q := (1218, .iaload, 1)) 9 rfl
theorem dL_law_1219 : decode cL_law 1219 = .ok (.invokevirtual 259, 3) := ldc_at ldc_13_ok (q := (1219, .invokevirtual 259, 3)) 10 rfl
theorem dL_law_1222 : decode cL_law 1222 = .ok (.istore 7, 2) := ldc_at ldc_13_ok (q := (1222, .istore 7, 2)) 11 rfl
theorem dL_law_1224 : decode cL_law 1224 = .ok (.goto 742, 3) := ldc_at ldc_13_ok (q := (1224, .goto 742, 3)) 12 rfl
theorem dL_law_1227 : decode cL_law 1227 = .ok (.aload_n 1, 1) := ldc_at ldc_13_ok (q := (1227, .aload_n 1, 1)) 13 rfl
theorem dL_law_1228 : decode cL_law 1228 = .ok (.aload_n 0, 1) := ldc_at ldc_13_ok (q := (1228, .aload_n 0, 1)) 14 rfl
theorem dL_law_1229 : decode cL_law 1229 = .ok (.iload 5, 2) := ldc_at ldc_13_ok (q := (1229, .iload 5, 2)) 15 rfl
theorem dL_law_1231 : decode cL_law 1231 = .ok (.iconst 1, 1) := ldc_at ldc_13_ok (q := (1231, .iconst 1, 1)) 16 rfl
theorem dL_law_1232 : decode cL_law 1232 = .ok (.iadd, 1) := ldc_at ldc_13_ok (q := (1232, .iadd, 1)) 17 rfl
theorem dL_law_1233 : decode cL_law 1233 = .ok (.iaload, 1) := ldc_at ldc_13_ok (q := (1233, .iaload, 1)) 18 rfl
theorem dL_law_1234 : decode cL_law 1234 = .ok (.aload_n 3, 1) := ldc_at ldc_13_ok (q := (1234, .aload_n 3, 1)) 19 rfl
theorem dL_law_1235 : decode cL_law 1235 = .ok (.invokestatic 260, 3) := ldc_at ldc_13_ok (q := (1235, .invokestatic 260, 3)) 20 rfl
theorem dL_law_1238 : decode cL_law 1238 = .ok (.istore 6, 2) := ldc_at ldc_13_ok (q := (1238, .istore 6, 2)) 21 rfl
theorem dL_law_1240 : decode cL_law 1240 = .ok (.aload_n 2, 1) := ldc_at ldc_13_ok (q := (1240, .aload_n 2, 1)) 22 rfl
theorem dL_law_1241 : decode cL_law 1241 = .ok (.aload_n 0, 1) := ldc_at ldc_13_ok (q := (1241, .aload_n 0, 1)) 23 rfl
theorem dL_law_1242 : decode cL_law 1242 = .ok (.iload 5, 2) := ldc_at ldc_13_ok (q := (1242, .iload 5, 2)) 24 rfl
theorem dL_law_1244 : decode cL_law 1244 = .ok (.iconst 1, 1) := ldc_at ldc_13_ok (q := (1244, .iconst 1, 1)) 25 rfl
theorem dL_law_1245 : decode cL_law 1245 = .ok (.iadd, 1) := ldc_at ldc_13_ok (q := (1245, .iadd, 1)) 26 rfl
theorem dL_law_1246 : decode cL_law 1246 = .ok (.iaload, 1) := ldc_at ldc_13_ok (q := (1246, .iaload, 1)) 27 rfl
theorem dL_law_1247 : decode cL_law 1247 = .ok (.invokevirtual 262, 3) := ldc_at ldc_13_ok (q := (1247, .invokevirtual 262, 3)) 28 rfl
theorem dL_law_1250 : decode cL_law 1250 = .ok (.istore 7, 2) := ldc_at ldc_13_ok (q := (1250, .istore 7, 2)) 29 rfl
theorem dL_law_1252 : decode cL_law 1252 = .ok (.goto 714, 3) := ldc_at ldc_13_ok (q := (1252, .goto 714, 3)) 30 rfl
theorem dL_law_1255 : decode cL_law 1255 = .ok (.aload_n 1, 1) := ldc_at ldc_13_ok (q := (1255, .aload_n 1, 1)) 31 rfl
theorem dL_law_1256 : decode cL_law 1256 = .ok (.invokevirtual 263, 3) := ldc_at ldc_13_ok (q := (1256, .invokevirtual 263, 3)) 32 rfl
theorem dL_law_1259 : decode cL_law 1259 = .ok (.pop, 1) := ldc_at ldc_13_ok (q := (1259, .pop, 1)) 33 rfl
theorem dL_law_1260 : decode cL_law 1260 = .ok (.aload_n 2, 1) := ldc_at ldc_13_ok (q := (1260, .aload_n 2, 1)) 34 rfl
theorem dL_law_1261 : decode cL_law 1261 = .ok (.invokevirtual 266, 3) := ldc_at ldc_13_ok (q := (1261, .invokevirtual 266, 3)) 35 rfl
theorem dL_law_1264 : decode cL_law 1264 = .ok (.pop, 1) := ldc_at ldc_13_ok (q := (1264, .pop, 1)) 36 rfl
theorem dL_law_1265 : decode cL_law 1265 = .ok (.goto 701, 3) := ldc_at ldc_13_ok (q := (1265, .goto 701, 3)) 37 rfl
theorem dL_law_1268 : decode cL_law 1268 = .ok (.aload_n 1, 1) := ldc_at ldc_13_ok (q := (1268, .aload_n 1, 1)) 38 rfl
theorem dL_law_1269 : decode cL_law 1269 = .ok (.aload_n 0, 1) := ldc_at ldc_13_ok (q := (1269, .aload_n 0, 1)) 39 rfl
theorem dL_law_1270 : decode cL_law 1270 = .ok (.iload 5, 2) := ldc_at ldc_13_ok (q := (1270, .iload 5, 2)) 40 rfl
theorem dL_law_1272 : decode cL_law 1272 = .ok (.iconst 1, 1) := ldc_at ldc_13_ok (q := (1272, .iconst 1, 1)) 41 rfl
theorem dL_law_1273 : decode cL_law 1273 = .ok (.iadd, 1) := ldc_at ldc_13_ok (q := (1273, .iadd, 1)) 42 rfl
theorem dL_law_1274 : decode cL_law 1274 = .ok (.iaload, 1) := ldc_at ldc_13_ok (q := (1274, .iaload, 1)) 43 rfl
theorem dL_law_1275 : decode cL_law 1275 = .ok (.aload_n 3, 1) := ldc_at ldc_13_ok (q := (1275, .aload_n 3, 1)) 44 rfl
theorem dL_law_1276 : decode cL_law 1276 = .ok (.invokestatic 267, 3) := ldc_at ldc_13_ok (q := (1276, .invokestatic 267, 3)) 45 rfl
theorem dL_law_1279 : decode cL_law 1279 = .ok (.istore 6, 2) := ldc_at ldc_13_ok (q := (1279, .istore 6, 2)) 46 rfl
theorem dL_law_1281 : decode cL_law 1281 = .ok (.aload_n 2, 1) := ldc_at ldc_13_ok (q := (1281, .aload_n 2, 1)) 47 rfl
noncomputable def ldc_14 : List (Nat × Jvm.ClassFile.Instr × Nat) := [(1282, .aload_n 0, 1), (1283, .iload 5, 2), (1285, .iconst 1, 1), (1286, .iadd, 1), (1287, .iaload, 1), (1288, .invokevirtual 269, 3), (1291, .istore 7, 2), (1293, .goto 673, 3), (1296, .aload_n 1, 1), (1297, .aload_n 0, 1), (1298, .iload 5, 2), (1300, .iconst 1, 1), (1301, .iadd, 1), (1302, .iaload, 1), (1303, .aload_n 3, 1), (1304, .invokestatic 270, 3), (1307, .istore 6, 2), (1309, .aload_n 2, 1), (1310, .aload_n 0, 1), (1311, .iload 5, 2), (1313, .iconst 1, 1), (1314, .iadd, 1), (1315, .iaload, 1), (1316, .invokevirtual 272, 3), (1319, .istore 7, 2), (1321, .goto 645, 3), (1324, .aload_n 1, 1), (1325, .aload_n 0, 1), (1326, .iload 5, 2), (1328, .iconst 1, 1), (1329, .iadd, 1), (1330, .iaload, 1), (1331, .aload_n 0, 1), (1332, .iload 5, 2), (1334, .iconst 2, 1), (1335, .iadd, 1), (1336, .iaload, 1), (1337, .aload_n 3, 1), (1338, .invokestatic 273, 3), (1341, .istore 6, 2), (1343, .aload_n 2, 1), (1344, .aload_n 0, 1), (1345, .iload 5, 2), (1347, .iconst 1, 1), (1348, .iadd, 1), (1349, .iaload, 1), (1350, .aload_n 0, 1), (1351, .iload 5, 2)]
set_option maxRecDepth 100000 in
theorem ldc_14_ok : ldc_14.all (fun q => decide (decode cL_law q.1 = .ok (q.2.1, q.2.2))) = true := by decide +kernel
theorem dL_law_1282 : decode cL_law 1282 = .ok (.aload_n 0, 1) := ldc_at ldc_14_ok (q := (1282, .aload_n 0, 1)) 0 rfl
theorem dL_law_1283 : decode cL_law 1283 = .ok (.iload 5, 2) := ldc_at ldc_14_ok (q := (1283, .iload 5, 2)) 1 rfl
theorem dL_law_1285 : decode cL_law 1285 = .ok (.iconst 1, 1) := ldc_at ldc_14_ok (q := (1285, .iconst 1, 1)) 2 rfl
theorem dL_law_1286 : decode cL_law 1286 = .ok (.iadd, 1) := ldc_at ldc_14_ok (q := (1286, .iadd, 1)) 3 rfl
theorem dL_law_1287 : decode cL_law 1287 = .ok (.iaload, 1) := ldc_at ldc_14_ok (q := (1287, .iaload, 1)) 4 rfl
theorem dL_law_1288 : decode cL_law 1288 = .ok (.invokevirtual 269, 3) := ldc_at ldc_14_ok (q := (1288, .invokevirtual 269, 3)) 5 rfl
theorem dL_law_1291 : decode cL_law 1291 = .ok (.istore 7, 2) := ldc_at ldc_14_ok (q := (1291, .istore 7, 2)) 6 rfl
theorem dL_law_1293 : decode cL_law 1293 = .ok (.goto 673, 3) := ldc_at ldc_14_ok (q := (1293, .goto 673, 3)) 7 rfl
theorem dL_law_1296 : decode cL_law 1296 = .ok (.aload_n 1, 1) := ldc_at ldc_14_ok (q := (1296, .aload_n 1, 1)) 8 rfl
theorem dL_law_1297 : decode cL_law 1297 = .ok (.aload_n 0, 1) := ldc_at ldc_14_ok (q := (1297, .aload_n 0, 1)) 9 rfl
theorem dL_law_1298 : decode cL_law 1298 = .ok (.iload 5, 2) := ldc_at ldc_14_ok (q := (1298, .iload 5, 2)) 10 rfl
theorem dL_law_1300 : decode cL_law 1300 = .ok (.iconst 1, 1) := ldc_at ldc_14_ok (q := (1300, .iconst 1, 1)) 11 rfl
theorem dL_law_1301 : decode cL_law 1301 = .ok (.iadd, 1) := ldc_at ldc_14_ok (q := (1301, .iadd, 1)) 12 rfl
theorem dL_law_1302 : decode cL_law 1302 = .ok (.iaload, 1) := ldc_at ldc_14_ok (q := (1302, .iaload, 1)) 13 rfl
theorem dL_law_1303 : decode cL_law 1303 = .ok (.aload_n 3, 1) := ldc_at ldc_14_ok (q := (1303, .aload_n 3, 1)) 14 rfl
theorem dL_law_1304 : decode cL_law 1304 = .ok (.invokestatic 270, 3) := ldc_at ldc_14_ok (q := (1304, .invokestatic 270, 3)) 15 rfl
theorem dL_law_1307 : decode cL_law 1307 = .ok (.istore 6, 2) := ldc_at ldc_14_ok (q := (1307, .istore 6, 2)) 16 rfl
theorem dL_law_1309 : decode cL_law 1309 = .ok (.aload_n 2, 1) := ldc_at ldc_14_ok (q := (1309, .aload_n 2, 1)) 17 rfl
theorem dL_law_1310 : decode cL_law 1310 = .ok (.aload_n 0, 1) := ldc_at ldc_14_ok (q := (1310, .aload_n 0, 1)) 18 rfl
theorem dL_law_1311 : decode cL_law 1311 = .ok (.iload 5, 2) := ldc_at ldc_14_ok (q := (1311, .iload 5, 2)) 19 rfl
theorem dL_law_1313 : decode cL_law 1313 = .ok (.iconst 1, 1) := ldc_at ldc_14_ok (q := (1313, .iconst 1, 1)) 20 rfl
theorem dL_law_1314 : decode cL_law 1314 = .ok (.iadd, 1) := ldc_at ldc_14_ok (q := (1314, .iadd, 1)) 21 rfl
theorem dL_law_1315 : decode cL_law 1315 = .ok (.iaload, 1) := ldc_at ldc_14_ok (q := (1315, .iaload, 1)) 22 rfl
theorem dL_law_1316 : decode cL_law 1316 = .ok (.invokevirtual 272, 3) := ldc_at ldc_14_ok (q := (1316, .invokevirtual 272, 3)) 23 rfl
theorem dL_law_1319 : decode cL_law 1319 = .ok (.istore 7, 2) := ldc_at ldc_14_ok (q := (1319, .istore 7, 2)) 24 rfl
theorem dL_law_1321 : decode cL_law 1321 = .ok (.goto 645, 3) := ldc_at ldc_14_ok (q := (1321, .goto 645, 3)) 25 rfl
theorem dL_law_1324 : decode cL_law 1324 = .ok (.aload_n 1, 1) := ldc_at ldc_14_ok (q := (1324, .aload_n 1, 1)) 26 rfl
theorem dL_law_1325 : decode cL_law 1325 = .ok (.aload_n 0, 1) := ldc_at ldc_14_ok (q := (1325, .aload_n 0, 1)) 27 rfl
theorem dL_law_1326 : decode cL_law 1326 = .ok (.iload 5, 2) := ldc_at ldc_14_ok (q := (1326, .iload 5, 2)) 28 rfl
theorem dL_law_1328 : decode cL_law 1328 = .ok (.iconst 1, 1) := ldc_at ldc_14_ok (q := (1328, .iconst 1, 1)) 29 rfl
theorem dL_law_1329 : decode cL_law 1329 = .ok (.iadd, 1) := ldc_at ldc_14_ok (q := (1329, .iadd, 1)) 30 rfl
theorem dL_law_1330 : decode cL_law 1330 = .ok (.iaload, 1) := ldc_at ldc_14_ok (q := (1330, .iaload, 1)) 31 rfl
theorem dL_law_1331 : decode cL_law 1331 = .ok (.aload_n 0, 1) := ldc_at ldc_14_ok (q := (1331, .aload_n 0, 1)) 32 rfl
theorem dL_law_1332 : decode cL_law 1332 = .ok (.iload 5, 2) := ldc_at ldc_14_ok (q := (1332, .iload 5, 2)) 33 rfl
theorem dL_law_1334 : decode cL_law 1334 = .ok (.iconst 2, 1) := ldc_at ldc_14_ok (q := (1334, .iconst 2, 1)) 34 rfl
theorem dL_law_1335 : decode cL_law 1335 = .ok (.iadd, 1) := ldc_at ldc_14_ok (q := (1335, .iadd, 1)) 35 rfl
theorem dL_law_1336 : decode cL_law 1336 = .ok (.iaload, 1) := ldc_at ldc_14_ok (q := (1336, .iaload, 1)) 36 rfl
theorem dL_law_1337 : decode cL_law 1337 = .ok (.aload_n 3, 1) := ldc_at ldc_14_ok (q := (1337, .aload_n 3, 1)) 37 rfl
theorem dL_law_1338 : decode cL_law 1338 = .ok (.invokestatic 273, 3) := ldc_at ldc_14_ok (q := (1338, .invokestatic 273, 3)) 38 rfl
theorem dL_law_1341 : decode cL_law 1341 = .ok (.istore 6, 2) := ldc_at ldc_14_ok (q := (1341, .istore 6, 2)) 39 rfl
theorem dL_law_1343 : decode cL_law 1343 = .ok (.aload_n 2, 1) := ldc_at ldc_14_ok (q := (1343, .aload_n 2, 1)) 40 rfl
theorem dL_law_1344 : decode cL_law 1344 = .ok (.aload_n 0, 1) := ldc_at ldc_14_ok (q := (1344, .aload_n 0, 1)) 41 rfl
theorem dL_law_1345 : decode cL_law 1345 = .ok (.iload 5, 2) := ldc_at ldc_14_ok (q := (1345, .iload 5, 2)) 42 rfl
theorem dL_law_1347 : decode cL_law 1347 = .ok (.iconst 1, 1) := ldc_at ldc_14_ok (q := (1347, .iconst 1, 1)) 43 rfl
theorem dL_law_1348 : decode cL_law 1348 = .ok (.iadd, 1) := ldc_at ldc_14_ok (q := (1348, .iadd, 1)) 44 rfl
theorem dL_law_1349 : decode cL_law 1349 = .ok (.iaload, 1) := ldc_at ldc_14_ok (q := (1349, .iaload, 1)) 45 rfl
theorem dL_law_1350 : decode cL_law 1350 = .ok (.aload_n 0, 1) := ldc_at ldc_14_ok (q := (1350, .aload_n 0, 1)) 46 rfl
theorem dL_law_1351 : decode cL_law 1351 = .ok (.iload 5, 2) := ldc_at ldc_14_ok (q := (1351, .iload 5, 2)) 47 rfl
noncomputable def ldc_15 : List (Nat × Jvm.ClassFile.Instr × Nat) := [(1353, .iconst 2, 1), (1354, .iadd, 1), (1355, .iaload, 1), (1356, .invokevirtual 275, 3), (1359, .istore 7, 2), (1361, .goto 605, 3), (1364, .aload_n 1, 1), (1365, .invokevirtual 276, 3), (1368, .pop, 1), (1369, .aload_n 2, 1), (1370, .invokevirtual 279, 3), (1373, .pop, 1), (1374, .goto 592, 3), (1377, .aload_n 1, 1), (1378, .invokevirtual 280, 3), (1381, .pop, 1), (1382, .aload_n 2, 1), (1383, .invokevirtual 283, 3), (1386, .pop, 1), (1387, .goto 579, 3), (1390, .aload_n 1, 1), (1391, .aload_n 0, 1), (1392, .iload 5, 2), (1394, .iconst 1, 1), (1395, .iadd, 1), (1396, .iaload, 1), (1397, .aload_n 3, 1), (1398, .invokestatic 284, 3), (1401, .istore 6, 2), (1403, .aload_n 2, 1), (1404, .aload_n 0, 1), (1405, .iload 5, 2), (1407, .iconst 1, 1), (1408, .iadd, 1), (1409, .iaload, 1), (1410, .invokevirtual 286, 3), (1413, .istore 7, 2), (1415, .goto 551, 3), (1418, .aload_n 1, 1), (1419, .invokevirtual 287, 3), (1422, .pop2, 1), (1423, .aload_n 2, 1), (1424, .invokevirtual 290, 3), (1427, .pop2, 1), (1428, .goto 538, 3), (1431, .aload_n 1, 1), (1432, .aload_n 0, 1), (1433, .iload 5, 2)]
set_option maxRecDepth 100000 in
theorem ldc_15_ok : ldc_15.all (fun q => decide (decode cL_law q.1 = .ok (q.2.1, q.2.2))) = true := by decide +kernel
theorem dL_law_1353 : decode cL_law 1353 = .ok (.iconst 2, 1) := ldc_at ldc_15_ok (q := (1353, .iconst 2, 1)) 0 rfl
theorem dL_law_1354 : decode cL_law 1354 = .ok (.iadd, 1) := ldc_at ldc_15_ok (q := (1354, .iadd, 1)) 1 rfl
theorem dL_law_1355 : decode cL_law 1355 = .ok (.iaload, 1) := ldc_at ldc_15_ok (q := (1355, .iaload, 1)) 2 rfl
theorem dL_law_1356 : decode cL_law 1356 = .ok (.invokevirtual 275, 3) := ldc_at ldc_15_ok (q := (1356, .invokevirtual 275, 3)) 3 rfl
theorem dL_law_1359 : decode cL_law 1359 = .ok (.istore 7, 2) := ldc_at ldc_15_ok (q := (1359, .istore 7, 2)) 4 rfl
theorem dL_law_1361 : decode cL_law 1361 = .ok (.goto 605, 3) := ldc_at ldc_15_ok (q := (1361, .goto 605, 3)) 5 rfl
theorem dL_law_1364 : decode cL_law 1364 = .ok (.aload_n 1, 1) := ldc_at ldc_15_ok (q := (1364, .aload_n 1, 1)) 6 rfl
theorem dL_law_1365 : decode cL_law 1365 = .ok (.invokevirtual 276, 3) := ldc_at ldc_15_ok (q := (1365, .invokevirtual 276, 3)) 7 rfl
theorem dL_law_1368 : decode cL_law 1368 = .ok (.pop, 1) := ldc_at ldc_15_ok (q := (1368, .pop, 1)) 8 rfl
theorem dL_law_1369 : decode cL_law 1369 = .ok (.aload_n 2, 1) := ldc_at ldc_15_ok (q := (1369, .aload_n 2, 1)) 9 rfl
theorem dL_law_1370 : decode cL_law 1370 = .ok (.invokevirtual 279, 3) := ldc_at ldc_15_ok (q := (1370, .invokevirtual 279, 3)) 10 rfl
theorem dL_law_1373 : decode cL_law 1373 = .ok (.pop, 1) := ldc_at ldc_15_ok (q := (1373, .pop, 1)) 11 rfl
theorem dL_law_1374 : decode cL_law 1374 = .ok (.goto 592, 3) := ldc_at ldc_15_ok (q := (1374, .goto 592, 3)) 12 rfl
theorem dL_law_1377 : decode cL_law 1377 = .ok (.aload_n 1, 1) := ldc_at ldc_15_ok (q := (1377, .aload_n 1, 1)) 13 rfl
theorem dL_law_1378 : decode cL_law 1378 = .ok (.invokevirtual 280, 3) := ldc_at ldc_15_ok (q := (1378, .invokevirtual 280, 3)) 14 rfl
theorem dL_law_1381 : decode cL_law 1381 = .ok (.pop, 1) := ldc_at ldc_15_ok (q := (1381, .pop, 1)) 15 rfl
theorem dL_law_1382 : decode cL_law 1382 = .ok (.aload_n 2, 1) := ldc_at ldc_15_ok (q := (1382, .aload_n 2, 1)) 16 rfl
theorem dL_law_1383 : decode cL_law 1383 = .ok (.invokevirtual 283, 3) := ldc_at ldc_15_ok (q := (1383, .invokevirtual 283, 3)) 17 rfl
theorem dL_law_1386 : decode cL_law 1386 = .ok (.pop, 1) := ldc_at ldc_15_ok (q := (1386, .pop, 1)) 18 rfl
theorem dL_law_1387 : decode cL_law 1387 = .ok (.goto 579, 3) := ldc_at ldc_15_ok (q := (1387, .goto 579, 3)) 19 rfl
theorem dL_law_1390 : decode cL_law 1390 = .ok (.aload_n 1, 1) := ldc_at ldc_15_ok (q := (1390, .aload_n 1, 1)) 20 rfl
theorem dL_law_1391 : decode cL_law 1391 = .ok (.aload_n 0, 1) := ldc_at ldc_15_ok (q := (1391, .aload_n 0, 1)) 21 rfl
theorem dL_law_1392 : decode cL_law 1392 = .ok (.iload 5, 2) := ldc_at ldc_15_ok (q := (1392, .iload 5, 2)) 22 rfl
theorem dL_law_1394 : decode cL_law 1394 = .ok (.iconst 1, 1) := ldc_at ldc_15_ok (q := (1394, .iconst 1, 1)) 23 rfl
theorem dL_law_1395 : decode cL_law 1395 = .ok (.iadd, 1) := ldc_at ldc_15_ok (q := (1395, .iadd, 1)) 24 rfl
theorem dL_law_1396 : decode cL_law 1396 = .ok (.iaload, 1) := ldc_at ldc_15_ok (q := (1396, .iaload, 1)) 25 rfl
theorem dL_law_1397 : decode cL_law 1397 = .ok (.aload_n 3, 1) := ldc_at ldc_15_ok (q := (1397, .aload_n 3, 1)) 26 rfl
theorem dL_law_1398 : decode cL_law 1398 = .ok (.invokestatic 284, 3) := ldc_at ldc_15_ok (q := (1398, .invokestatic 284, 3)) 27 rfl
theorem dL_law_1401 : decode cL_law 1401 = .ok (.istore 6, 2) := ldc_at ldc_15_ok (q := (1401, .istore 6, 2)) 28 rfl
theorem dL_law_1403 : decode cL_law 1403 = .ok (.aload_n 2, 1) := ldc_at ldc_15_ok (q := (1403, .aload_n 2, 1)) 29 rfl
theorem dL_law_1404 : decode cL_law 1404 = .ok (.aload_n 0, 1) := ldc_at ldc_15_ok (q := (1404, .aload_n 0, 1)) 30 rfl
theorem dL_law_1405 : decode cL_law 1405 = .ok (.iload 5, 2) := ldc_at ldc_15_ok (q := (1405, .iload 5, 2)) 31 rfl
theorem dL_law_1407 : decode cL_law 1407 = .ok (.iconst 1, 1) := ldc_at ldc_15_ok (q := (1407, .iconst 1, 1)) 32 rfl
theorem dL_law_1408 : decode cL_law 1408 = .ok (.iadd, 1) := ldc_at ldc_15_ok (q := (1408, .iadd, 1)) 33 rfl
theorem dL_law_1409 : decode cL_law 1409 = .ok (.iaload, 1) := ldc_at ldc_15_ok (q := (1409, .iaload, 1)) 34 rfl
theorem dL_law_1410 : decode cL_law 1410 = .ok (.invokevirtual 286, 3) := ldc_at ldc_15_ok (q := (1410, .invokevirtual 286, 3)) 35 rfl
theorem dL_law_1413 : decode cL_law 1413 = .ok (.istore 7, 2) := ldc_at ldc_15_ok (q := (1413, .istore 7, 2)) 36 rfl
theorem dL_law_1415 : decode cL_law 1415 = .ok (.goto 551, 3) := ldc_at ldc_15_ok (q := (1415, .goto 551, 3)) 37 rfl
theorem dL_law_1418 : decode cL_law 1418 = .ok (.aload_n 1, 1) := ldc_at ldc_15_ok (q := (1418, .aload_n 1, 1)) 38 rfl
theorem dL_law_1419 : decode cL_law 1419 = .ok (.invokevirtual 287, 3) := ldc_at ldc_15_ok (q := (1419, .invokevirtual 287, 3)) 39 rfl
theorem dL_law_1422 : decode cL_law 1422 = .ok (.pop2, 1) := ldc_at ldc_15_ok (q := (1422, .pop2, 1)) 40 rfl
theorem dL_law_1423 : decode cL_law 1423 = .ok (.aload_n 2, 1) := ldc_at ldc_15_ok (q := (1423, .aload_n 2, 1)) 41 rfl
theorem dL_law_1424 : decode cL_law 1424 = .ok (.invokevirtual 290, 3) := ldc_at ldc_15_ok (q := (1424, .invokevirtual 290, 3)) 42 rfl
theorem dL_law_1427 : decode cL_law 1427 = .ok (.pop2, 1) := ldc_at ldc_15_ok (q := (1427, .pop2, 1)) 43 rfl
theorem dL_law_1428 : decode cL_law 1428 = .ok (.goto 538, 3) := ldc_at ldc_15_ok (q := (1428, .goto 538, 3)) 44 rfl
theorem dL_law_1431 : decode cL_law 1431 = .ok (.aload_n 1, 1) := ldc_at ldc_15_ok (q := (1431, .aload_n 1, 1)) 45 rfl
theorem dL_law_1432 : decode cL_law 1432 = .ok (.aload_n 0, 1) := ldc_at ldc_15_ok (q := (1432, .aload_n 0, 1)) 46 rfl
theorem dL_law_1433 : decode cL_law 1433 = .ok (.iload 5, 2) := ldc_at ldc_15_ok (q := (1433, .iload 5, 2)) 47 rfl
noncomputable def ldc_16 : List (Nat × Jvm.ClassFile.Instr × Nat) := [(1435, .iconst 1, 1), (1436, .iadd, 1), (1437, .iaload, 1), (1438, .aload_n 3, 1), (1439, .invokestatic 291, 3), (1442, .istore 6, 2), (1444, .aload_n 2, 1), (1445, .aload_n 0, 1), (1446, .iload 5, 2), (1448, .iconst 1, 1), (1449, .iadd, 1), (1450, .iaload, 1), (1451, .invokevirtual 293, 3), (1454, .lstore 7, 2), (1456, .goto 510, 3), (1459, .aload_n 1, 1), (1460, .aload 4, 2), (1462, .invokestatic 294, 3), (1465, .istore 6, 2), (1467, .aload_n 2, 1), (1468, .invokevirtual 297, 3), (1471, .dstore 7, 2), (1473, .goto 493, 3), (1476, .aload_n 1, 1), (1477, .invokevirtual 298, 3), (1480, .pop, 1), (1481, .aload_n 2, 1), (1482, .invokevirtual 301, 3), (1485, .pop, 1), (1486, .goto 480, 3), (1489, .aload_n 1, 1), (1490, .invokevirtual 302, 3), (1493, .pop, 1), (1494, .aload_n 2, 1), (1495, .invokevirtual 305, 3), (1498, .pop, 1), (1499, .goto 467, 3), (1502, .aload_n 1, 1), (1503, .aload_n 0, 1), (1504, .iload 5, 2), (1506, .iconst 1, 1), (1507, .iadd, 1), (1508, .iaload, 1), (1509, .aload_n 0, 1), (1510, .iload 5, 2), (1512, .iconst 2, 1), (1513, .iadd, 1), (1514, .iaload, 1)]
set_option maxRecDepth 100000 in
theorem ldc_16_ok : ldc_16.all (fun q => decide (decode cL_law q.1 = .ok (q.2.1, q.2.2))) = true := by decide +kernel
theorem dL_law_1435 : decode cL_law 1435 = .ok (.iconst 1, 1) := ldc_at ldc_16_ok (q := (1435, .iconst 1, 1)) 0 rfl
theorem dL_law_1436 : decode cL_law 1436 = .ok (.iadd, 1) := ldc_at ldc_16_ok (q := (1436, .iadd, 1)) 1 rfl
theorem dL_law_1437 : decode cL_law 1437 = .ok (.iaload, 1) := ldc_at ldc_16_ok (q := (1437, .iaload, 1)) 2 rfl
theorem dL_law_1438 : decode cL_law 1438 = .ok (.aload_n 3, 1) := ldc_at ldc_16_ok (q := (1438, .aload_n 3, 1)) 3 rfl
theorem dL_law_1439 : decode cL_law 1439 = .ok (.invokestatic 291, 3) := ldc_at ldc_16_ok (q := (1439, .invokestatic 291, 3)) 4 rfl
theorem dL_law_1442 : decode cL_law 1442 = .ok (.istore 6, 2) := ldc_at ldc_16_ok (q := (1442, .istore 6, 2)) 5 rfl
theorem dL_law_1444 : decode cL_law 1444 = .ok (.aload_n 2, 1) := ldc_at ldc_16_ok (q := (1444, .aload_n 2, 1)) 6 rfl
theorem dL_law_1445 : decode cL_law 1445 = .ok (.aload_n 0, 1) := ldc_at ldc_16_ok (q := (1445, .aload_n 0, 1)) 7 rfl
theorem dL_law_1446 : decode cL_law 1446 = .ok (.iload 5, 2) := ldc_at ldc_16_ok (q := (1446, .iload 5, 2)) 8 rfl
theorem dL_law_1448 : decode cL_law 1448 = .ok (.iconst 1, 1) := ldc_at ldc_16_ok (q := (1448, .iconst 1, 1)) 9 rfl
theorem dL_law_1449 : decode cL_law 1449 = .ok (.iadd, 1) := ldc_at ldc_16_ok (q := (1449, .iadd, 1)) 10 rfl
theorem dL_law_1450 : decode cL_law 1450 = .ok (.iaload, 1) := ldc_at ldc_16_ok (q := (1450, .iaload, 1)) 11 rfl
theorem dL_law_1451 : decode cL_law 1451 = .ok (.invokevirtual 293, 3) := ldc_at ldc_16_ok (q := (1451, .invokevirtual 293, 3)) 12 rfl
theorem dL_law_1454 : decode cL_law 1454 = .ok (.lstore 7, 2) := ldc_at ldc_16_ok (q := (1454, .lstore 7, 2)) 13 rfl
theorem dL_law_1456 : decode cL_law 1456 = .ok (.goto 510, 3) := ldc_at ldc_16_ok (q := (1456, .goto 510, 3)) 14 rfl
theorem dL_law_1459 : decode cL_law 1459 = .ok (.aload_n 1, 1) := ldc_at ldc_16_ok (q := (1459, .aload_n 1, 1)) 15 rfl
theorem dL_law_1460 : decode cL_law 1460 = .ok (.aload 4, 2) := ldc_at ldc_16_ok (q := (1460, .aload 4, 2)) 16 rfl
theorem dL_law_1462 : decode cL_law 1462 = .ok (.invokestatic 294, 3) := ldc_at ldc_16_ok (q := (1462, .invokestatic 294, 3)) 17 rfl
theorem dL_law_1465 : decode cL_law 1465 = .ok (.istore 6, 2) := ldc_at ldc_16_ok (q := (1465, .istore 6, 2)) 18 rfl
theorem dL_law_1467 : decode cL_law 1467 = .ok (.aload_n 2, 1) := ldc_at ldc_16_ok (q := (1467, .aload_n 2, 1)) 19 rfl
theorem dL_law_1468 : decode cL_law 1468 = .ok (.invokevirtual 297, 3) := ldc_at ldc_16_ok (q := (1468, .invokevirtual 297, 3)) 20 rfl
theorem dL_law_1471 : decode cL_law 1471 = .ok (.dstore 7, 2) := ldc_at ldc_16_ok (q := (1471, .dstore 7, 2)) 21 rfl
theorem dL_law_1473 : decode cL_law 1473 = .ok (.goto 493, 3) := ldc_at ldc_16_ok (q := (1473, .goto 493, 3)) 22 rfl
theorem dL_law_1476 : decode cL_law 1476 = .ok (.aload_n 1, 1) := ldc_at ldc_16_ok (q := (1476, .aload_n 1, 1)) 23 rfl
theorem dL_law_1477 : decode cL_law 1477 = .ok (.invokevirtual 298, 3) := ldc_at ldc_16_ok (q := (1477, .invokevirtual 298, 3)) 24 rfl
theorem dL_law_1480 : decode cL_law 1480 = .ok (.pop, 1) := ldc_at ldc_16_ok (q := (1480, .pop, 1)) 25 rfl
theorem dL_law_1481 : decode cL_law 1481 = .ok (.aload_n 2, 1) := ldc_at ldc_16_ok (q := (1481, .aload_n 2, 1)) 26 rfl
theorem dL_law_1482 : decode cL_law 1482 = .ok (.invokevirtual 301, 3) := ldc_at ldc_16_ok (q := (1482, .invokevirtual 301, 3)) 27 rfl
theorem dL_law_1485 : decode cL_law 1485 = .ok (.pop, 1) := ldc_at ldc_16_ok (q := (1485, .pop, 1)) 28 rfl
theorem dL_law_1486 : decode cL_law 1486 = .ok (.goto 480, 3) := ldc_at ldc_16_ok (q := (1486, .goto 480, 3)) 29 rfl
theorem dL_law_1489 : decode cL_law 1489 = .ok (.aload_n 1, 1) := ldc_at ldc_16_ok (q := (1489, .aload_n 1, 1)) 30 rfl
theorem dL_law_1490 : decode cL_law 1490 = .ok (.invokevirtual 302, 3) := ldc_at ldc_16_ok (q := (1490, .invokevirtual 302, 3)) 31 rfl
theorem dL_law_1493 : decode cL_law 1493 = .ok (.pop, 1) := ldc_at ldc_16_ok (q := (1493, .pop, 1)) 32 rfl
theorem dL_law_1494 : decode cL_law 1494 = .ok (.aload_n 2, 1) := ldc_at ldc_16_ok (q := (1494, .aload_n 2, 1)) 33 rfl
theorem dL_law_1495 : decode cL_law 1495 = .ok (.invokevirtual 305, 3) := ldc_at ldc_16_ok (q := (1495, .invokevirtual 305, 3)) 34 rfl
theorem dL_law_1498 : decode cL_law 1498 = .ok (.pop, 1) := ldc_at ldc_16_ok (q := (1498, .pop, 1)) 35 rfl
theorem dL_law_1499 : decode cL_law 1499 = .ok (.goto 467, 3) := ldc_at ldc_16_ok (q := (1499, .goto 467, 3)) 36 rfl
theorem dL_law_1502 : decode cL_law 1502 = .ok (.aload_n 1, 1) := ldc_at ldc_16_ok (q := (1502, .aload_n 1, 1)) 37 rfl
theorem dL_law_1503 : decode cL_law 1503 = .ok (.aload_n 0, 1) := ldc_at ldc_16_ok (q := (1503, .aload_n 0, 1)) 38 rfl
theorem dL_law_1504 : decode cL_law 1504 = .ok (.iload 5, 2) := ldc_at ldc_16_ok (q := (1504, .iload 5, 2)) 39 rfl
theorem dL_law_1506 : decode cL_law 1506 = .ok (.iconst 1, 1) := ldc_at ldc_16_ok (q := (1506, .iconst 1, 1)) 40 rfl
theorem dL_law_1507 : decode cL_law 1507 = .ok (.iadd, 1) := ldc_at ldc_16_ok (q := (1507, .iadd, 1)) 41 rfl
theorem dL_law_1508 : decode cL_law 1508 = .ok (.iaload, 1) := ldc_at ldc_16_ok (q := (1508, .iaload, 1)) 42 rfl
theorem dL_law_1509 : decode cL_law 1509 = .ok (.aload_n 0, 1) := ldc_at ldc_16_ok (q := (1509, .aload_n 0, 1)) 43 rfl
theorem dL_law_1510 : decode cL_law 1510 = .ok (.iload 5, 2) := ldc_at ldc_16_ok (q := (1510, .iload 5, 2)) 44 rfl
theorem dL_law_1512 : decode cL_law 1512 = .ok (.iconst 2, 1) := ldc_at ldc_16_ok (q := (1512, .iconst 2, 1)) 45 rfl
theorem dL_law_1513 : decode cL_law 1513 = .ok (.iadd, 1) := ldc_at ldc_16_ok (q := (1513, .iadd, 1)) 46 rfl
theorem dL_law_1514 : decode cL_law 1514 = .ok (.iaload, 1) := ldc_at ldc_16_ok (q := (1514, .iaload, 1)) 47 rfl
noncomputable def ldc_17 : List (Nat × Jvm.ClassFile.Instr × Nat) := [(1515, .aload_n 3, 1), (1516, .invokestatic 306, 3), (1519, .istore 6, 2), (1521, .aload_n 2, 1), (1522, .aload_n 0, 1), (1523, .iload 5, 2), (1525, .iconst 1, 1), (1526, .iadd, 1), (1527, .iaload, 1), (1528, .aload_n 0, 1), (1529, .iload 5, 2), (1531, .iconst 2, 1), (1532, .iadd, 1), (1533, .iaload, 1), (1534, .invokevirtual 308, 3), (1537, .istore 7, 2), (1539, .goto 427, 3), (1542, .aload_n 1, 1), (1543, .aload_n 0, 1), (1544, .iload 5, 2), (1546, .iconst 1, 1), (1547, .iadd, 1), (1548, .iaload, 1), (1549, .aload_n 0, 1), (1550, .iload 5, 2), (1552, .iconst 2, 1), (1553, .iadd, 1), (1554, .iaload, 1), (1555, .aload_n 0, 1), (1556, .iload 5, 2), (1558, .iconst 3, 1), (1559, .iadd, 1), (1560, .iaload, 1), (1561, .aload_n 0, 1), (1562, .iload 5, 2), (1564, .iconst 4, 1), (1565, .iadd, 1), (1566, .iaload, 1), (1567, .invokevirtual 309, 3), (1570, .pop, 1), (1571, .aload_n 2, 1), (1572, .aload_n 0, 1), (1573, .iload 5, 2), (1575, .iconst 1, 1), (1576, .iadd, 1), (1577, .iaload, 1), (1578, .aload_n 0, 1), (1579, .iload 5, 2)]
set_option maxRecDepth 100000 in
theorem ldc_17_ok : ldc_17.all (fun q => decide (decode cL_law q.1 = .ok (q.2.1, q.2.2))) = true := by decide +kernel
theorem dL_law_1515 : decode cL_law 1515 = .ok (.aload_n 3, 1) := ldc_at ldc_17_ok (q := (1515, .aload_n 3, 1)) 0 rfl
theorem dL_law_1516 : decode cL_law 1516 = .ok (.invokestatic 306, 3) := ldc_at ldc_17_ok (q := (1516, .invokestatic 306, 3)) 1 rfl
theorem dL_law_1519 : decode cL_law 1519 = .ok (.istore 6, 2) := ldc_at ldc_17_ok (q := (1519, .istore 6, 2)) 2 rfl
theorem dL_law_1521 : decode cL_law 1521 = .ok (.aload_n 2, 1) := ldc_at ldc_17_ok (q := (1521, .aload_n 2, 1)) 3 rfl
theorem dL_law_1522 : decode cL_law 1522 = .ok (.aload_n 0, 1) := ldc_at ldc_17_ok (q := (1522, .aload_n 0, 1)) 4 rfl
theorem dL_law_1523 : decode cL_law 1523 = .ok (.iload 5, 2) := ldc_at ldc_17_ok (q := (1523, .iload 5, 2)) 5 rfl
theorem dL_law_1525 : decode cL_law 1525 = .ok (.iconst 1, 1) := ldc_at ldc_17_ok (q := (1525, .iconst 1, 1)) 6 rfl
theorem dL_law_1526 : decode cL_law 1526 = .ok (.iadd, 1) := ldc_at ldc_17_ok (q := (1526, .iadd, 1)) 7 rfl
theorem dL_law_1527 : decode cL_law 1527 = .ok (.iaload, 1) := ldc_at ldc_17_ok (q := (1527, .iaload, 1)) 8 rfl
theorem dL_law_1528 : decode cL_law 1528 = .ok (.aload_n 0, 1) := ldc_at ldc_17_ok (q := (1528, .aload_n 0, 1)) 9 rfl
theorem dL_law_1529 : decode cL_law 1529 = .ok (.iload 5, 2) := ldc_at ldc_17_ok (q := (1529, .iload 5, 2)) 10 rfl
theorem dL_law_1531 : decode cL_law 1531 = .ok (.iconst 2, 1) := ldc_at ldc_17_ok (q := (1531, .iconst 2, 1)) 11 rfl
theorem dL_law_1532 : decode cL_law 1532 = .ok (.iadd, 1) := ldc_at ldc_17_ok (q := (1532, .iadd, 1)) 12 rfl
theorem dL_law_1533 : decode cL_law 1533 = .ok (.iaload, 1) := ldc_at ldc_17_ok (q := (1533, .iaload, 1)) 13 rfl
theorem dL_law_1534 : decode cL_law 1534 = .ok (.invokevirtual 308, 3) := ldc_at ldc_17_ok (q := (1534, .invokevirtual 308, 3)) 14 rfl
theorem dL_law_1537 : decode cL_law 1537 = .ok (.istore 7, 2) := ldc_at ldc_17_ok (q := (1537, .istore 7, 2)) 15 rfl
theorem dL_law_1539 : decode cL_law 1539 = .ok (.goto 427, 3) := ldc_at ldc_17_ok (q := (1539, .goto 427, 3)) 16 rfl
theorem dL_law_1542 : decode cL_law 1542 = .ok (.aload_n 1, 1) := ldc_at ldc_17_ok (q := (1542, .aload_n 1, 1)) 17 rfl
theorem dL_law_1543 : decode cL_law 1543 = .ok (.aload_n 0, 1) := ldc_at ldc_17_ok (q := (1543, .aload_n 0, 1)) 18 rfl
theorem dL_law_1544 : decode cL_law 1544 = .ok (.iload 5, 2) := ldc_at ldc_17_ok (q := (1544, .iload 5, 2)) 19 rfl
theorem dL_law_1546 : decode cL_law 1546 = .ok (.iconst 1, 1) := ldc_at ldc_17_ok (q := (1546, .iconst 1, 1)) 20 rfl
theorem dL_law_1547 : decode cL_law 1547 = .ok (.iadd, 1) := ldc_at ldc_17_ok (q := (1547, .iadd, 1)) 21 rfl
theorem dL_law_1548 : decode cL_law 1548 = .ok (.iaload, 1) := ldc_at ldc_17_ok (q := (1548, .iaload, 1)) 22 rfl
theorem dL_law_1549 : decode cL_law 1549 = .ok (.aload_n 0, 1) := ldc_at ldc_17_ok (q := (1549, .aload_n 0, 1)) 23 rfl
theorem dL_law_1550 : decode cL_law 1550 = .ok (.iload 5, 2) := ldc_at ldc_17_ok (q := (1550, .iload 5, 2)) 24 rfl
theorem dL_law_1552 : decode cL_law 1552 = .ok (.iconst 2, 1) := ldc_at ldc_17_ok (q := (1552, .iconst 2, 1)) 25 rfl
theorem dL_law_1553 : decode cL_law 1553 = .ok (.iadd, 1) := ldc_at ldc_17_ok (q := (1553, .iadd, 1)) 26 rfl
theorem dL_law_1554 : decode cL_law 1554 = .ok (.iaload, 1) := ldc_at ldc_17_ok (q := (1554, .iaload, 1)) 27 rfl
theorem dL_law_1555 : decode cL_law 1555 = .ok (.aload_n 0, 1) := ldc_at ldc_17_ok (q := (1555, .aload_n 0, 1)) 28 rfl
theorem dL_law_1556 : decode cL_law 1556 = .ok (.iload 5, 2) := ldc_at ldc_17_ok (q := (1556, .iload 5, 2)) 29 rfl
theorem dL_law_1558 : decode cL_law 1558 = .ok (.iconst 3, 1) := ldc_at ldc_17_ok (q := (1558, .iconst 3, 1)) 30 rfl
theorem dL_law_1559 : decode cL_law 1559 = .ok (.iadd, 1) := ldc_at ldc_17_ok (q := (1559, .iadd, 1)) 31 rfl
theorem dL_law_1560 : decode cL_law 1560 = .ok (.iaload, 1) := ldc_at ldc_17_ok (q := (1560, .iaload, 1)) 32 rfl
theorem dL_law_1561 : decode cL_law 1561 = .ok (.aload_n 0, 1) := ldc_at ldc_17_ok (q := (1561, .aload_n 0, 1)) 33 rfl
theorem dL_law_1562 : decode cL_law 1562 = .ok (.iload 5, 2) := ldc_at ldc_17_ok (q := (1562, .iload 5, 2)) 34 rfl
theorem dL_law_1564 : decode cL_law 1564 = .ok (.iconst 4, 1) := ldc_at ldc_17_ok (q := (1564, .iconst 4, 1)) 35 rfl
theorem dL_law_1565 : decode cL_law 1565 = .ok (.iadd, 1) := ldc_at ldc_17_ok (q := (1565, .iadd, 1)) 36 rfl
theorem dL_law_1566 : decode cL_law 1566 = .ok (.iaload, 1) := ldc_at ldc_17_ok (q := (1566, .iaload, 1)) 37 rfl
theorem dL_law_1567 : decode cL_law 1567 = .ok (.invokevirtual 309, 3) := ldc_at ldc_17_ok (q := (1567, .invokevirtual 309, 3)) 38 rfl
theorem dL_law_1570 : decode cL_law 1570 = .ok (.pop, 1) := ldc_at ldc_17_ok (q := (1570, .pop, 1)) 39 rfl
theorem dL_law_1571 : decode cL_law 1571 = .ok (.aload_n 2, 1) := ldc_at ldc_17_ok (q := (1571, .aload_n 2, 1)) 40 rfl
theorem dL_law_1572 : decode cL_law 1572 = .ok (.aload_n 0, 1) := ldc_at ldc_17_ok (q := (1572, .aload_n 0, 1)) 41 rfl
theorem dL_law_1573 : decode cL_law 1573 = .ok (.iload 5, 2) := ldc_at ldc_17_ok (q := (1573, .iload 5, 2)) 42 rfl
theorem dL_law_1575 : decode cL_law 1575 = .ok (.iconst 1, 1) := ldc_at ldc_17_ok (q := (1575, .iconst 1, 1)) 43 rfl
theorem dL_law_1576 : decode cL_law 1576 = .ok (.iadd, 1) := ldc_at ldc_17_ok (q := (1576, .iadd, 1)) 44 rfl
theorem dL_law_1577 : decode cL_law 1577 = .ok (.iaload, 1) := ldc_at ldc_17_ok (q := (1577, .iaload, 1)) 45 rfl
theorem dL_law_1578 : decode cL_law 1578 = .ok (.aload_n 0, 1) := ldc_at ldc_17_ok (q := (1578, .aload_n 0, 1)) 46 rfl
theorem dL_law_1579 : decode cL_law 1579 = .ok (.iload 5, 2) := ldc_at ldc_17_ok (q := (1579, .iload 5, 2)) 47 rfl
noncomputable def ldc_18 : List (Nat × Jvm.ClassFile.Instr × Nat) := [(1581, .iconst 2, 1), (1582, .iadd, 1), (1583, .iaload, 1), (1584, .aload_n 0, 1), (1585, .iload 5, 2), (1587, .iconst 3, 1), (1588, .iadd, 1), (1589, .iaload, 1), (1590, .aload_n 0, 1), (1591, .iload 5, 2), (1593, .iconst 4, 1), (1594, .iadd, 1), (1595, .iaload, 1), (1596, .invokevirtual 313, 3), (1599, .pop, 1), (1600, .goto 366, 3), (1603, .aload_n 1, 1), (1604, .aload_n 0, 1), (1605, .iload 5, 2), (1607, .iconst 1, 1), (1608, .iadd, 1), (1609, .iaload, 1), (1610, .aload_n 0, 1), (1611, .iload 5, 2), (1613, .iconst 2, 1), (1614, .iadd, 1), (1615, .iaload, 1), (1616, .aload_n 3, 1), (1617, .invokestatic 314, 3), (1620, .istore 6, 2), (1622, .aload_n 2, 1), (1623, .aload_n 0, 1), (1624, .iload 5, 2), (1626, .iconst 1, 1), (1627, .iadd, 1), (1628, .iaload, 1), (1629, .aload_n 0, 1), (1630, .iload 5, 2), (1632, .iconst 2, 1), (1633, .iadd, 1), (1634, .iaload, 1), (1635, .invokevirtual 316, 3), (1638, .lstore 7, 2), (1640, .goto 326, 3), (1643, .aload_n 1, 1), (1644, .aload_n 0, 1), (1645, .iload 5, 2), (1647, .iconst 1, 1)]
set_option maxRecDepth 100000 in
theorem ldc_18_ok : ldc_18.all (fun q => decide (decode cL_law q.1 = .ok (q.2.1, q.2.2))) = true := by decide +kernel
theorem dL_law_1581 : decode cL_law 1581 = .ok (.iconst 2, 1) := ldc_at ldc_18_ok (q := (1581, .iconst 2, 1)) 0 rfl
theorem dL_law_1582 : decode cL_law 1582 = .ok (.iadd, 1) := ldc_at ldc_18_ok (q := (1582, .iadd, 1)) 1 rfl
theorem dL_law_1583 : decode cL_law 1583 = .ok (.iaload, 1) := ldc_at ldc_18_ok (q := (1583, .iaload, 1)) 2 rfl
theorem dL_law_1584 : decode cL_law 1584 = .ok (.aload_n 0, 1) := ldc_at ldc_18_ok (q := (1584, .aload_n 0, 1)) 3 rfl
theorem dL_law_1585 : decode cL_law 1585 = .ok (.iload 5, 2) := ldc_at ldc_18_ok (q := (1585, .iload 5, 2)) 4 rfl
theorem dL_law_1587 : decode cL_law 1587 = .ok (.iconst 3, 1) := ldc_at ldc_18_ok (q := (1587, .iconst 3, 1)) 5 rfl
theorem dL_law_1588 : decode cL_law 1588 = .ok (.iadd, 1) := ldc_at ldc_18_ok (q := (1588, .iadd, 1)) 6 rfl
theorem dL_law_1589 : decode cL_law 1589 = .ok (.iaload, 1) := ldc_at ldc_18_ok (q := (1589, .iaload, 1)) 7 rfl
theorem dL_law_1590 : decode cL_law 1590 = .ok (.aload_n 0, 1) := ldc_at ldc_18_ok (q := (1590, .aload_n 0, 1)) 8 rfl
theorem dL_law_1591 : decode cL_law 1591 = .ok (.iload 5, 2) := ldc_at ldc_18_ok (q := (1591, .iload 5, 2)) 9 rfl
theorem dL_law_1593 : decode cL_law 1593 = .ok (.iconst 4, 1) := ldc_at ldc_18_ok (q := (1593, .iconst 4, 1)) 10 rfl
theorem dL_law_1594 : decode cL_law 1594 = .ok (.iadd, 1) := ldc_at ldc_18_ok (q := (1594, .iadd, 1)) 11 rfl
theorem dL_law_1595 : decode cL_law 1595 = .ok (.iaload, 1) := ldc_at ldc_18_ok (q := (1595, .iaload, 1)) 12 rfl
theorem dL_law_1596 : decode cL_law 1596 = .ok (.invokevirtual 313, 3) := ldc_at ldc_18_ok (q := (1596, .invokevirtual 313, 3)) 13 rfl
theorem dL_law_1599 : decode cL_law 1599 = .ok (.pop, 1) := ldc_at ldc_18_ok (q := (1599, .pop, 1)) 14 rfl
theorem dL_law_1600 : decode cL_law 1600 = .ok (.goto 366, 3) := ldc_at ldc_18_ok (q := (1600, .goto 366, 3)) 15 rfl
theorem dL_law_1603 : decode cL_law 1603 = .ok (.aload_n 1, 1) := ldc_at ldc_18_ok (q := (1603, .aload_n 1, 1)) 16 rfl
theorem dL_law_1604 : decode cL_law 1604 = .ok (.aload_n 0, 1) := ldc_at ldc_18_ok (q := (1604, .aload_n 0, 1)) 17 rfl
theorem dL_law_1605 : decode cL_law 1605 = .ok (.iload 5, 2) := ldc_at ldc_18_ok (q := (1605, .iload 5, 2)) 18 rfl
theorem dL_law_1607 : decode cL_law 1607 = .ok (.iconst 1, 1) := ldc_at ldc_18_ok (q := (1607, .iconst 1, 1)) 19 rfl
theorem dL_law_1608 : decode cL_law 1608 = .ok (.iadd, 1) := ldc_at ldc_18_ok (q := (1608, .iadd, 1)) 20 rfl
theorem dL_law_1609 : decode cL_law 1609 = .ok (.iaload, 1) := ldc_at ldc_18_ok (q := (1609, .iaload, 1)) 21 rfl
theorem dL_law_1610 : decode cL_law 1610 = .ok (.aload_n 0, 1) := ldc_at ldc_18_ok (q := (1610, .aload_n 0, 1)) 22 rfl
theorem dL_law_1611 : decode cL_law 1611 = .ok (.iload 5, 2) := ldc_at ldc_18_ok (q := (1611, .iload 5, 2)) 23 rfl
theorem dL_law_1613 : decode cL_law 1613 = .ok (.iconst 2, 1) := ldc_at ldc_18_ok (q := (1613, .iconst 2, 1)) 24 rfl
theorem dL_law_1614 : decode cL_law 1614 = .ok (.iadd, 1) := ldc_at ldc_18_ok (q := (1614, .iadd, 1)) 25 rfl
theorem dL_law_1615 : decode cL_law 1615 = .ok (.iaload, 1) := ldc_at ldc_18_ok (q := (1615, .iaload, 1)) 26 rfl
theorem dL_law_1616 : decode cL_law 1616 = .ok (.aload_n 3, 1) := ldc_at ldc_18_ok (q := (1616, .aload_n 3, 1)) 27 rfl
theorem dL_law_1617 : decode cL_law 1617 = .ok (.invokestatic 314, 3) := ldc_at ldc_18_ok (q := (1617, .invokestatic 314, 3)) 28 rfl
theorem dL_law_1620 : decode cL_law 1620 = .ok (.istore 6, 2) := ldc_at ldc_18_ok (q := (1620, .istore 6, 2)) 29 rfl
theorem dL_law_1622 : decode cL_law 1622 = .ok (.aload_n 2, 1) := ldc_at ldc_18_ok (q := (1622, .aload_n 2, 1)) 30 rfl
theorem dL_law_1623 : decode cL_law 1623 = .ok (.aload_n 0, 1) := ldc_at ldc_18_ok (q := (1623, .aload_n 0, 1)) 31 rfl
theorem dL_law_1624 : decode cL_law 1624 = .ok (.iload 5, 2) := ldc_at ldc_18_ok (q := (1624, .iload 5, 2)) 32 rfl
theorem dL_law_1626 : decode cL_law 1626 = .ok (.iconst 1, 1) := ldc_at ldc_18_ok (q := (1626, .iconst 1, 1)) 33 rfl
theorem dL_law_1627 : decode cL_law 1627 = .ok (.iadd, 1) := ldc_at ldc_18_ok (q := (1627, .iadd, 1)) 34 rfl
theorem dL_law_1628 : decode cL_law 1628 = .ok (.iaload, 1) := ldc_at ldc_18_ok (q := (1628, .iaload, 1)) 35 rfl
theorem dL_law_1629 : decode cL_law 1629 = .ok (.aload_n 0, 1) := ldc_at ldc_18_ok (q := (1629, .aload_n 0, 1)) 36 rfl
theorem dL_law_1630 : decode cL_law 1630 = .ok (.iload 5, 2) := ldc_at ldc_18_ok (q := (1630, .iload 5, 2)) 37 rfl
theorem dL_law_1632 : decode cL_law 1632 = .ok (.iconst 2, 1) := ldc_at ldc_18_ok (q := (1632, .iconst 2, 1)) 38 rfl
theorem dL_law_1633 : decode cL_law 1633 = .ok (.iadd, 1) := ldc_at ldc_18_ok (q := (1633, .iadd, 1)) 39 rfl
theorem dL_law_1634 : decode cL_law 1634 = .ok (.iaload, 1) := ldc_at ldc_18_ok (q := (1634, .iaload, 1)) 40 rfl
theorem dL_law_1635 : decode cL_law 1635 = .ok (.invokevirtual 316, 3) := ldc_at ldc_18_ok (q := (1635, .invokevirtual 316, 3)) 41 rfl
theorem dL_law_1638 : decode cL_law 1638 = .ok (.lstore 7, 2) := ldc_at ldc_18_ok (q := (1638, .lstore 7, 2)) 42 rfl
theorem dL_law_1640 : decode cL_law 1640 = .ok (.goto 326, 3) := ldc_at ldc_18_ok (q := (1640, .goto 326, 3)) 43 rfl
theorem dL_law_1643 : decode cL_law 1643 = .ok (.aload_n 1, 1) := ldc_at ldc_18_ok (q := (1643, .aload_n 1, 1)) 44 rfl
theorem dL_law_1644 : decode cL_law 1644 = .ok (.aload_n 0, 1) := ldc_at ldc_18_ok (q := (1644, .aload_n 0, 1)) 45 rfl
theorem dL_law_1645 : decode cL_law 1645 = .ok (.iload 5, 2) := ldc_at ldc_18_ok (q := (1645, .iload 5, 2)) 46 rfl
theorem dL_law_1647 : decode cL_law 1647 = .ok (.iconst 1, 1) := ldc_at ldc_18_ok (q := (1647, .iconst 1, 1)) 47 rfl
noncomputable def ldc_19 : List (Nat × Jvm.ClassFile.Instr × Nat) := [(1648, .iadd, 1), (1649, .iaload, 1), (1650, .aload_n 0, 1), (1651, .iload 5, 2), (1653, .iconst 2, 1), (1654, .iadd, 1), (1655, .iaload, 1), (1656, .aload_n 3, 1), (1657, .invokestatic 317, 3), (1660, .istore 6, 2), (1662, .aload_n 2, 1), (1663, .aload_n 0, 1), (1664, .iload 5, 2), (1666, .iconst 1, 1), (1667, .iadd, 1), (1668, .iaload, 1), (1669, .aload_n 0, 1), (1670, .iload 5, 2), (1672, .iconst 2, 1), (1673, .iadd, 1), (1674, .iaload, 1), (1675, .invokevirtual 319, 3), (1678, .lstore 7, 2), (1680, .goto 286, 3), (1683, .aload_n 1, 1), (1684, .aload_n 0, 1), (1685, .iload 5, 2), (1687, .iconst 1, 1), (1688, .iadd, 1), (1689, .iaload, 1), (1690, .aload_n 0, 1), (1691, .iload 5, 2), (1693, .iconst 2, 1), (1694, .iadd, 1), (1695, .iaload, 1), (1696, .aload 4, 2), (1698, .invokestatic 320, 3), (1701, .istore 6, 2), (1703, .aload_n 2, 1), (1704, .aload_n 0, 1), (1705, .iload 5, 2), (1707, .iconst 1, 1), (1708, .iadd, 1), (1709, .iaload, 1), (1710, .aload_n 0, 1), (1711, .iload 5, 2), (1713, .iconst 2, 1), (1714, .iadd, 1)]
set_option maxRecDepth 100000 in
theorem ldc_19_ok : ldc_19.all (fun q => decide (decode cL_law q.1 = .ok (q.2.1, q.2.2))) = true := by decide +kernel
theorem dL_law_1648 : decode cL_law 1648 = .ok (.iadd, 1) := ldc_at ldc_19_ok (q := (1648, .iadd, 1)) 0 rfl
theorem dL_law_1649 : decode cL_law 1649 = .ok (.iaload, 1) := ldc_at ldc_19_ok (q := (1649, .iaload, 1)) 1 rfl
theorem dL_law_1650 : decode cL_law 1650 = .ok (.aload_n 0, 1) := ldc_at ldc_19_ok (q := (1650, .aload_n 0, 1)) 2 rfl
theorem dL_law_1651 : decode cL_law 1651 = .ok (.iload 5, 2) := ldc_at ldc_19_ok (q := (1651, .iload 5, 2)) 3 rfl
theorem dL_law_1653 : decode cL_law 1653 = .ok (.iconst 2, 1) := ldc_at ldc_19_ok (q := (1653, .iconst 2, 1)) 4 rfl
theorem dL_law_1654 : decode cL_law 1654 = .ok (.iadd, 1) := ldc_at ldc_19_ok (q := (1654, .iadd, 1)) 5 rfl
theorem dL_law_1655 : decode cL_law 1655 = .ok (.iaload, 1) := ldc_at ldc_19_ok (q := (1655, .iaload, 1)) 6 rfl
theorem dL_law_1656 : decode cL_law 1656 = .ok (.aload_n 3, 1) := ldc_at ldc_19_ok (q := (1656, .aload_n 3, 1)) 7 rfl
theorem dL_law_1657 : decode cL_law 1657 = .ok (.invokestatic 317, 3) := ldc_at ldc_19_ok (q := (1657, .invokestatic 317, 3)) 8 rfl
theorem dL_law_1660 : decode cL_law 1660 = .ok (.istore 6, 2) := ldc_at ldc_19_ok (q := (1660, .istore 6, 2)) 9 rfl
theorem dL_law_1662 : decode cL_law 1662 = .ok (.aload_n 2, 1) := ldc_at ldc_19_ok (q := (1662, .aload_n 2, 1)) 10 rfl
theorem dL_law_1663 : decode cL_law 1663 = .ok (.aload_n 0, 1) := ldc_at ldc_19_ok (q := (1663, .aload_n 0, 1)) 11 rfl
theorem dL_law_1664 : decode cL_law 1664 = .ok (.iload 5, 2) := ldc_at ldc_19_ok (q := (1664, .iload 5, 2)) 12 rfl
theorem dL_law_1666 : decode cL_law 1666 = .ok (.iconst 1, 1) := ldc_at ldc_19_ok (q := (1666, .iconst 1, 1)) 13 rfl
theorem dL_law_1667 : decode cL_law 1667 = .ok (.iadd, 1) := ldc_at ldc_19_ok (q := (1667, .iadd, 1)) 14 rfl
theorem dL_law_1668 : decode cL_law 1668 = .ok (.iaload, 1) := ldc_at ldc_19_ok (q := (1668, .iaload, 1)) 15 rfl
theorem dL_law_1669 : decode cL_law 1669 = .ok (.aload_n 0, 1) := ldc_at ldc_19_ok (q := (1669, .aload_n 0, 1)) 16 rfl
theorem dL_law_1670 : decode cL_law 1670 = .ok (.iload 5, 2) := ldc_at ldc_19_ok (q := (1670, .iload 5, 2)) 17 rfl
theorem dL_law_1672 : decode cL_law 1672 = .ok (.iconst 2, 1) := ldc_at ldc_19_ok (q := (1672, .iconst 2, 1)) 18 rfl
theorem dL_law_1673 : decode cL_law 1673 = .ok (.iadd, 1) := ldc_at ldc_19_ok (q := (1673, .iadd, 1)) 19 rfl
theorem dL_law_1674 : decode cL_law 1674 = .ok (.iaload, 1) := ldc_at ldc_19_ok (q := (1674, .iaload, 1)) 20 rfl
theorem dL_law_1675 : decode cL_law 1675 = .ok (.invokevirtual 319, 3) := ldc_at ldc_19_ok (q := (1675, .invokevirtual 319, 3)) 21 rfl
theorem dL_law_1678 : decode cL_law 1678 = .ok (.lstore 7, 2) := ldc_at ldc_19_ok (q := (1678, .lstore 7, 2)) 22 rfl
theorem dL_law_1680 : decode cL_law 1680 = .ok (.goto 286, 3) := ldc_at ldc_19_ok (q := (1680, .goto 286, 3)) 23 rfl
theorem dL_law_1683 : decode cL_law 1683 = .ok (.aload_n 1, 1) := ldc_at ldc_19_ok (q := (1683, .aload_n 1, 1)) 24 rfl
theorem dL_law_1684 : decode cL_law 1684 = .ok (.aload_n 0, 1) := ldc_at ldc_19_ok (q := (1684, .aload_n 0, 1)) 25 rfl
theorem dL_law_1685 : decode cL_law 1685 = .ok (.iload 5, 2) := ldc_at ldc_19_ok (q := (1685, .iload 5, 2)) 26 rfl
theorem dL_law_1687 : decode cL_law 1687 = .ok (.iconst 1, 1) := ldc_at ldc_19_ok (q := (1687, .iconst 1, 1)) 27 rfl
theorem dL_law_1688 : decode cL_law 1688 = .ok (.iadd, 1) := ldc_at ldc_19_ok (q := (1688, .iadd, 1)) 28 rfl
theorem dL_law_1689 : decode cL_law 1689 = .ok (.iaload, 1) := ldc_at ldc_19_ok (q := (1689, .iaload, 1)) 29 rfl
theorem dL_law_1690 : decode cL_law 1690 = .ok (.aload_n 0, 1) := ldc_at ldc_19_ok (q := (1690, .aload_n 0, 1)) 30 rfl
theorem dL_law_1691 : decode cL_law 1691 = .ok (.iload 5, 2) := ldc_at ldc_19_ok (q := (1691, .iload 5, 2)) 31 rfl
theorem dL_law_1693 : decode cL_law 1693 = .ok (.iconst 2, 1) := ldc_at ldc_19_ok (q := (1693, .iconst 2, 1)) 32 rfl
theorem dL_law_1694 : decode cL_law 1694 = .ok (.iadd, 1) := ldc_at ldc_19_ok (q := (1694, .iadd, 1)) 33 rfl
theorem dL_law_1695 : decode cL_law 1695 = .ok (.iaload, 1) := ldc_at ldc_19_ok (q := (1695, .iaload, 1)) 34 rfl
theorem dL_law_1696 : decode cL_law 1696 = .ok (.aload 4, 2) := ldc_at ldc_19_ok (q := (1696, .aload 4, 2)) 35 rfl
theorem dL_law_1698 : decode cL_law 1698 = .ok (.invokestatic 320, 3) := ldc_at ldc_19_ok (q := (1698, .invokestatic 320, 3)) 36 rfl
theorem dL_law_1701 : decode cL_law 1701 = .ok (.istore 6, 2) := ldc_at ldc_19_ok (q := (1701, .istore 6, 2)) 37 rfl
theorem dL_law_1703 : decode cL_law 1703 = .ok (.aload_n 2, 1) := ldc_at ldc_19_ok (q := (1703, .aload_n 2, 1)) 38 rfl
theorem dL_law_1704 : decode cL_law 1704 = .ok (.aload_n 0, 1) := ldc_at ldc_19_ok (q := (1704, .aload_n 0, 1)) 39 rfl
theorem dL_law_1705 : decode cL_law 1705 = .ok (.iload 5, 2) := ldc_at ldc_19_ok (q := (1705, .iload 5, 2)) 40 rfl
theorem dL_law_1707 : decode cL_law 1707 = .ok (.iconst 1, 1) := ldc_at ldc_19_ok (q := (1707, .iconst 1, 1)) 41 rfl
theorem dL_law_1708 : decode cL_law 1708 = .ok (.iadd, 1) := ldc_at ldc_19_ok (q := (1708, .iadd, 1)) 42 rfl
theorem dL_law_1709 : decode cL_law 1709 = .ok (.iaload, 1) := ldc_at ldc_19_ok (q := (1709, .iaload, 1)) 43 rfl
theorem dL_law_1710 : decode cL_law 1710 = .ok (.aload_n 0, 1) := ldc_at ldc_19_ok (q := (1710, .aload_n 0, 1)) 44 rfl
theorem dL_law_1711 : decode cL_law 1711 = .ok (.iload 5, 2) := ldc_at ldc_19_ok (q := (1711, .iload 5, 2)) 45 rfl
theorem dL_law_1713 : decode cL_law 1713 = .ok (.iconst 2, 1) := ldc_at ldc_19_ok (q := (1713, .iconst 2, 1)) 46 rfl
theorem dL_law_1714 : decode cL_law 1714 = .ok (.iadd, 1) := ldc_at ldc_19_ok (q := (1714, .iadd, 1)) 47 rfl
noncomputable def ldc_20 : List (Nat × Jvm.ClassFile.Instr × Nat) := [(1715, .iaload, 1), (1716, .invokevirtual 323, 3), (1719, .dstore 7, 2), (1721, .goto 245, 3), (1724, .aload_n 1, 1), (1725, .aload_n 0, 1), (1726, .iload 5, 2), (1728, .iconst 1, 1), (1729, .iadd, 1), (1730, .iaload, 1), (1731, .aload_n 0, 1), (1732, .iload 5, 2), (1734, .iconst 2, 1), (1735, .iadd, 1), (1736, .iaload, 1), (1737, .aload 4, 2), (1739, .invokestatic 324, 3), (1742, .istore 6, 2), (1744, .aload_n 2, 1), (1745, .aload_n 0, 1), (1746, .iload 5, 2), (1748, .iconst 1, 1), (1749, .iadd, 1), (1750, .iaload, 1), (1751, .aload_n 0, 1), (1752, .iload 5, 2), (1754, .iconst 2, 1), (1755, .iadd, 1), (1756, .iaload, 1), (1757, .invokevirtual 326, 3), (1760, .dstore 7, 2), (1762, .goto 204, 3), (1765, .aload_n 1, 1), (1766, .aload_n 0, 1), (1767, .iload 5, 2), (1769, .iconst 1, 1), (1770, .iadd, 1), (1771, .iaload, 1), (1772, .aload_n 0, 1), (1773, .iload 5, 2), (1775, .iconst 2, 1), (1776, .iadd, 1), (1777, .iaload, 1), (1778, .aload_n 0, 1), (1779, .iload 5, 2), (1781, .iconst 3, 1), (1782, .iadd, 1), (1783, .iaload, 1)]
set_option maxRecDepth 100000 in
theorem ldc_20_ok : ldc_20.all (fun q => decide (decode cL_law q.1 = .ok (q.2.1, q.2.2))) = true := by decide +kernel
theorem dL_law_1715 : decode cL_law 1715 = .ok (.iaload, 1) := ldc_at ldc_20_ok (q := (1715, .iaload, 1)) 0 rfl
theorem dL_law_1716 : decode cL_law 1716 = .ok (.invokevirtual 323, 3) := ldc_at ldc_20_ok (q := (1716, .invokevirtual 323, 3)) 1 rfl
theorem dL_law_1719 : decode cL_law 1719 = .ok (.dstore 7, 2) := ldc_at ldc_20_ok (q := (1719, .dstore 7, 2)) 2 rfl
theorem dL_law_1721 : decode cL_law 1721 = .ok (.goto 245, 3) := ldc_at ldc_20_ok (q := (1721, .goto 245, 3)) 3 rfl
theorem dL_law_1724 : decode cL_law 1724 = .ok (.aload_n 1, 1) := ldc_at ldc_20_ok (q := (1724, .aload_n 1, 1)) 4 rfl
theorem dL_law_1725 : decode cL_law 1725 = .ok (.aload_n 0, 1) := ldc_at ldc_20_ok (q := (1725, .aload_n 0, 1)) 5 rfl
theorem dL_law_1726 : decode cL_law 1726 = .ok (.iload 5, 2) := ldc_at ldc_20_ok (q := (1726, .iload 5, 2)) 6 rfl
theorem dL_law_1728 : decode cL_law 1728 = .ok (.iconst 1, 1) := ldc_at ldc_20_ok (q := (1728, .iconst 1, 1)) 7 rfl
theorem dL_law_1729 : decode cL_law 1729 = .ok (.iadd, 1) := ldc_at ldc_20_ok (q := (1729, .iadd, 1)) 8 rfl
theorem dL_law_1730 : decode cL_law 1730 = .ok (.iaload, 1) := ldc_at ldc_20_ok (q := (1730, .iaload, 1)) 9 rfl
theorem dL_law_1731 : decode cL_law 1731 = .ok (.aload_n 0, 1) := ldc_at ldc_20_ok (q := (1731, .aload_n 0, 1)) 10 rfl
theorem dL_law_1732 : decode cL_law 1732 = .ok (.iload 5, 2) := ldc_at ldc_20_ok (q := (1732, .iload 5, 2)) 11 rfl
theorem dL_law_1734 : decode cL_law 1734 = .ok (.iconst 2, 1) := ldc_at ldc_20_ok (q := (1734, .iconst 2, 1)) 12 rfl
theorem dL_law_1735 : decode cL_law 1735 = .ok (.iadd, 1) := ldc_at ldc_20_ok (q := (1735, .iadd, 1)) 13 rfl
theorem dL_law_1736 : decode cL_law 1736 = .ok (.iaload, 1) := ldc_at ldc_20_ok (q := (1736, .iaload, 1)) 14 rfl
theorem dL_law_1737 : decode cL_law 1737 = .ok (.aload 4, 2) := ldc_at ldc_20_ok (q := (1737, .aload 4, 2)) 15 rfl
theorem dL_law_1739 : decode cL_law 1739 = .ok (.invokestatic 324, 3) := ldc_at ldc_20_ok (q := (1739, .invokestatic 324, 3)) 16 rfl
theorem dL_law_1742 : decode cL_law 1742 = .ok (.istore 6, 2) := ldc_at ldc_20_ok (q := (1742, .istore 6, 2)) 17 rfl
theorem dL_law_1744 : decode cL_law 1744 = .ok (.aload_n 2, 1) := ldc_at ldc_20_ok (q := (1744, .aload_n 2, 1)) 18 rfl
theorem dL_law_1745 : decode cL_law 1745 = .ok (.aload_n 0, 1) := ldc_at ldc_20_ok (q := (1745, .aload_n 0, 1)) 19 rfl
theorem dL_law_1746 : decode cL_law 1746 = .ok (.iload 5, 2) := ldc_at ldc_20_ok (q := (1746, .iload 5, 2)) 20 rfl
theorem dL_law_1748 : decode cL_law 1748 = .ok (.iconst 1, 1) := ldc_at ldc_20_ok (q := (1748, .iconst 1, 1)) 21 rfl
theorem dL_law_1749 : decode cL_law 1749 = .ok (.iadd, 1) := ldc_at ldc_20_ok (q := (1749, .iadd, 1)) 22 rfl
theorem dL_law_1750 : decode cL_law 1750 = .ok (.iaload, 1) := ldc_at ldc_20_ok (q := (1750, .iaload, 1)) 23 rfl
theorem dL_law_1751 : decode cL_law 1751 = .ok (.aload_n 0, 1) := ldc_at ldc_20_ok (q := (1751, .aload_n 0, 1)) 24 rfl
theorem dL_law_1752 : decode cL_law 1752 = .ok (.iload 5, 2) := ldc_at ldc_20_ok (q := (1752, .iload 5, 2)) 25 rfl
theorem dL_law_1754 : decode cL_law 1754 = .ok (.iconst 2, 1) := ldc_at ldc_20_ok (q := (1754, .iconst 2, 1)) 26 rfl
theorem dL_law_1755 : decode cL_law 1755 = .ok (.iadd, 1) := ldc_at ldc_20_ok (q := (1755, .iadd, 1)) 27 rfl
theorem dL_law_1756 : decode cL_law 1756 = .ok (.iaload, 1) := ldc_at ldc_20_ok (q := (1756, .iaload, 1)) 28 rfl
theorem dL_law_1757 : decode cL_law 1757 = .ok (.invokevirtual 326, 3) := ldc_at ldc_20_ok (q := (1757, .invokevirtual 326, 3)) 29 rfl
theorem dL_law_1760 : decode cL_law 1760 = .ok (.dstore 7, 2) := ldc_at ldc_20_ok (q := (1760, .dstore 7, 2)) 30 rfl
theorem dL_law_1762 : decode cL_law 1762 = .ok (.goto 204, 3) := ldc_at ldc_20_ok (q := (1762, .goto 204, 3)) 31 rfl
theorem dL_law_1765 : decode cL_law 1765 = .ok (.aload_n 1, 1) := ldc_at ldc_20_ok (q := (1765, .aload_n 1, 1)) 32 rfl
theorem dL_law_1766 : decode cL_law 1766 = .ok (.aload_n 0, 1) := ldc_at ldc_20_ok (q := (1766, .aload_n 0, 1)) 33 rfl
theorem dL_law_1767 : decode cL_law 1767 = .ok (.iload 5, 2) := ldc_at ldc_20_ok (q := (1767, .iload 5, 2)) 34 rfl
theorem dL_law_1769 : decode cL_law 1769 = .ok (.iconst 1, 1) := ldc_at ldc_20_ok (q := (1769, .iconst 1, 1)) 35 rfl
theorem dL_law_1770 : decode cL_law 1770 = .ok (.iadd, 1) := ldc_at ldc_20_ok (q := (1770, .iadd, 1)) 36 rfl
theorem dL_law_1771 : decode cL_law 1771 = .ok (.iaload, 1) := ldc_at ldc_20_ok (q := (1771, .iaload, 1)) 37 rfl
theorem dL_law_1772 : decode cL_law 1772 = .ok (.aload_n 0, 1) := ldc_at ldc_20_ok (q := (1772, .aload_n 0, 1)) 38 rfl
theorem dL_law_1773 : decode cL_law 1773 = .ok (.iload 5, 2) := ldc_at ldc_20_ok (q := (1773, .iload 5, 2)) 39 rfl
theorem dL_law_1775 : decode cL_law 1775 = .ok (.iconst 2, 1) := ldc_at ldc_20_ok (q := (1775, .iconst 2, 1)) 40 rfl
theorem dL_law_1776 : decode cL_law 1776 = .ok (.iadd, 1) := ldc_at ldc_20_ok (q := (1776, .iadd, 1)) 41 rfl
theorem dL_law_1777 : decode cL_law 1777 = .ok (.iaload, 1) := ldc_at ldc_20_ok (q := (1777, .iaload, 1)) 42 rfl
theorem dL_law_1778 : decode cL_law 1778 = .ok (.aload_n 0, 1) := ldc_at ldc_20_ok (q := (1778, .aload_n 0, 1)) 43 rfl
theorem dL_law_1779 : decode cL_law 1779 = .ok (.iload 5, 2) := ldc_at ldc_20_ok (q := (1779, .iload 5, 2)) 44 rfl
theorem dL_law_1781 : decode cL_law 1781 = .ok (.iconst 3, 1) := ldc_at ldc_20_ok (q := (1781, .iconst 3, 1)) 45 rfl
theorem dL_law_1782 : decode cL_law 1782 = .ok (.iadd, 1) := ldc_at ldc_20_ok (q := (1782, .iadd, 1)) 46 rfl
theorem dL_law_1783 : decode cL_law 1783 = .ok (.iaload, 1) := ldc_at ldc_20_ok (q := (1783, .iaload, 1)) 47 rfl
noncomputable def ldc_21 : List (Nat × Jvm.ClassFile.Instr × Nat) := [(1784, .aload_n 0, 1), (1785, .iload 5, 2), (1787, .iconst 4, 1), (1788, .iadd, 1), (1789, .iaload, 1), (1790, .aload_n 0, 1), (1791, .iload 5, 2), (1793, .iconst 5, 1), (1794, .iadd, 1), (1795, .iaload, 1), (1796, .aload_n 3, 1), (1797, .invokestatic 327, 3), (1800, .istore 6, 2), (1802, .aload_n 2, 1), (1803, .aload_n 0, 1), (1804, .iload 5, 2), (1806, .iconst 1, 1), (1807, .iadd, 1), (1808, .iaload, 1), (1809, .aload_n 0, 1), (1810, .iload 5, 2), (1812, .iconst 2, 1), (1813, .iadd, 1), (1814, .iaload, 1), (1815, .aload_n 0, 1), (1816, .iload 5, 2), (1818, .iconst 3, 1), (1819, .iadd, 1), (1820, .iaload, 1), (1821, .aload_n 0, 1), (1822, .iload 5, 2), (1824, .iconst 4, 1), (1825, .iadd, 1), (1826, .iaload, 1), (1827, .aload_n 0, 1), (1828, .iload 5, 2), (1830, .iconst 5, 1), (1831, .iadd, 1), (1832, .iaload, 1), (1833, .invokevirtual 329, 3), (1836, .lstore 7, 2), (1838, .goto 128, 3), (1841, .aload_n 1, 1), (1842, .aload_n 0, 1), (1843, .iload 5, 2), (1845, .iconst 1, 1), (1846, .iadd, 1), (1847, .iaload, 1)]
set_option maxRecDepth 100000 in
theorem ldc_21_ok : ldc_21.all (fun q => decide (decode cL_law q.1 = .ok (q.2.1, q.2.2))) = true := by decide +kernel
theorem dL_law_1784 : decode cL_law 1784 = .ok (.aload_n 0, 1) := ldc_at ldc_21_ok (q := (1784, .aload_n 0, 1)) 0 rfl
theorem dL_law_1785 : decode cL_law 1785 = .ok (.iload 5, 2) := ldc_at ldc_21_ok (q := (1785, .iload 5, 2)) 1 rfl
theorem dL_law_1787 : decode cL_law 1787 = .ok (.iconst 4, 1) := ldc_at ldc_21_ok (q := (1787, .iconst 4, 1)) 2 rfl
theorem dL_law_1788 : decode cL_law 1788 = .ok (.iadd, 1) := ldc_at ldc_21_ok (q := (1788, .iadd, 1)) 3 rfl
theorem dL_law_1789 : decode cL_law 1789 = .ok (.iaload, 1) := ldc_at ldc_21_ok (q := (1789, .iaload, 1)) 4 rfl
theorem dL_law_1790 : decode cL_law 1790 = .ok (.aload_n 0, 1) := ldc_at ldc_21_ok (q := (1790, .aload_n 0, 1)) 5 rfl
theorem dL_law_1791 : decode cL_law 1791 = .ok (.iload 5, 2) := ldc_at ldc_21_ok (q := (1791, .iload 5, 2)) 6 rfl
theorem dL_law_1793 : decode cL_law 1793 = .ok (.iconst 5, 1) := ldc_at ldc_21_ok (q := (1793, .iconst 5, 1)) 7 rfl
theorem dL_law_1794 : decode cL_law 1794 = .ok (.iadd, 1) := ldc_at ldc_21_ok (q := (1794, .iadd, 1)) 8 rfl
theorem dL_law_1795 : decode cL_law 1795 = .ok (.iaload, 1) := ldc_at ldc_21_ok (q := (1795, .iaload, 1)) 9 rfl
theorem dL_law_1796 : decode cL_law 1796 = .ok (.aload_n 3, 1) := ldc_at ldc_21_ok (q := (1796, .aload_n 3, 1)) 10 rfl
theorem dL_law_1797 : decode cL_law 1797 = .ok (.invokestatic 327, 3) := ldc_at ldc_21_ok (q := (1797, .invokestatic 327, 3)) 11 rfl
theorem dL_law_1800 : decode cL_law 1800 = .ok (.istore 6, 2) := ldc_at ldc_21_ok (q := (1800, .istore 6, 2)) 12 rfl
theorem dL_law_1802 : decode cL_law 1802 = .ok (.aload_n 2, 1) := ldc_at ldc_21_ok (q := (1802, .aload_n 2, 1)) 13 rfl
theorem dL_law_1803 : decode cL_law 1803 = .ok (.aload_n 0, 1) := ldc_at ldc_21_ok (q := (1803, .aload_n 0, 1)) 14 rfl
theorem dL_law_1804 : decode cL_law 1804 = .ok (.iload 5, 2) := ldc_at ldc_21_ok (q := (1804, .iload 5, 2)) 15 rfl
theorem dL_law_1806 : decode cL_law 1806 = .ok (.iconst 1, 1) := ldc_at ldc_21_ok (q := (1806, .iconst 1, 1)) 16 rfl
theorem dL_law_1807 : decode cL_law 1807 = .ok (.iadd, 1) := ldc_at ldc_21_ok (q := (1807, .iadd, 1)) 17 rfl
theorem dL_law_1808 : decode cL_law 1808 = .ok (.iaload, 1) := ldc_at ldc_21_ok (q := (1808, .iaload, 1)) 18 rfl
theorem dL_law_1809 : decode cL_law 1809 = .ok (.aload_n 0, 1) := ldc_at ldc_21_ok (q := (1809, .aload_n 0, 1)) 19 rfl
theorem dL_law_1810 : decode cL_law 1810 = .ok (.iload 5, 2) := ldc_at ldc_21_ok (q := (1810, .iload 5, 2)) 20 rfl
theorem dL_law_1812 : decode cL_law 1812 = .ok (.iconst 2, 1) := ldc_at ldc_21_ok (q := (1812, .iconst 2, 1)) 21 rfl
theorem dL_law_1813 : decode cL_law 1813 = .ok (.iadd, 1) := ldc_at ldc_21_ok (q := (1813, .iadd, 1)) 22 rfl
theorem dL_law_1814 : decode cL_law 1814 = .ok (.iaload, 1) := ldc_at ldc_21_ok (q := (1814, .iaload, 1)) 23 rfl
theorem dL_law_1815 : decode cL_law 1815 = .ok (.aload_n 0, 1) := ldc_at ldc_21_ok (q := (1815, .aload_n 0, 1)) 24 rfl
theorem dL_law_1816 : decode cL_law 1816 = .ok (.iload 5, 2) := ldc_at ldc_21_ok (q := (1816, .iload 5, 2)) 25 rfl
theorem dL_law_1818 : decode cL_law 1818 = .ok (.iconst 3, 1) := ldc_at ldc_21_ok (q := (1818, .iconst 3, 1)) 26 rfl
theorem dL_law_1819 : decode cL_law 1819 = .ok (.iadd, 1) := ldc_at ldc_21_ok (q := (1819, .iadd, 1)) 27 rfl
theorem dL_law_1820 : decode cL_law 1820 = .ok (.iaload, 1) := ldc_at ldc_21_ok (q := (1820, .iaload, 1)) 28 rfl
theorem dL_law_1821 : decode cL_law 1821 = .ok (.aload_n 0, 1) := ldc_at ldc_21_ok (q := (1821, .aload_n 0, 1)) 29 rfl
theorem dL_law_1822 : decode cL_law 1822 = .ok (.iload 5, 2) := ldc_at ldc_21_ok (q := (1822, .iload 5, 2)) 30 rfl
theorem dL_law_1824 : decode cL_law 1824 = .ok (.iconst 4, 1) := ldc_at ldc_21_ok (q := (1824, .iconst 4, 1)) 31 rfl
theorem dL_law_1825 : decode cL_law 1825 = .ok (.iadd, 1) := ldc_at ldc_21_ok (q := (1825, .iadd, 1)) 32 rfl
theorem dL_law_1826 : decode cL_law 1826 = .ok (.iaload, 1) := ldc_at ldc_21_ok (q := (1826, .iaload, 1)) 33 rfl
theorem dL_law_1827 : decode cL_law 1827 = .ok (.aload_n 0, 1) := ldc_at ldc_21_ok (q := (1827, .aload_n 0, 1)) 34 rfl
theorem dL_law_1828 : decode cL_law 1828 = .ok (.iload 5, 2) := ldc_at ldc_21_ok (q := (1828, .iload 5, 2)) 35 rfl
theorem dL_law_1830 : decode cL_law 1830 = .ok (.iconst 5, 1) := ldc_at ldc_21_ok (q := (1830, .iconst 5, 1)) 36 rfl
theorem dL_law_1831 : decode cL_law 1831 = .ok (.iadd, 1) := ldc_at ldc_21_ok (q := (1831, .iadd, 1)) 37 rfl
theorem dL_law_1832 : decode cL_law 1832 = .ok (.iaload, 1) := ldc_at ldc_21_ok (q := (1832, .iaload, 1)) 38 rfl
theorem dL_law_1833 : decode cL_law 1833 = .ok (.invokevirtual 329, 3) := ldc_at ldc_21_ok (q := (1833, .invokevirtual 329, 3)) 39 rfl
theorem dL_law_1836 : decode cL_law 1836 = .ok (.lstore 7, 2) := ldc_at ldc_21_ok (q := (1836, .lstore 7, 2)) 40 rfl
theorem dL_law_1838 : decode cL_law 1838 = .ok (.goto 128, 3) := ldc_at ldc_21_ok (q := (1838, .goto 128, 3)) 41 rfl
theorem dL_law_1841 : decode cL_law 1841 = .ok (.aload_n 1, 1) := ldc_at ldc_21_ok (q := (1841, .aload_n 1, 1)) 42 rfl
theorem dL_law_1842 : decode cL_law 1842 = .ok (.aload_n 0, 1) := ldc_at ldc_21_ok (q := (1842, .aload_n 0, 1)) 43 rfl
theorem dL_law_1843 : decode cL_law 1843 = .ok (.iload 5, 2) := ldc_at ldc_21_ok (q := (1843, .iload 5, 2)) 44 rfl
theorem dL_law_1845 : decode cL_law 1845 = .ok (.iconst 1, 1) := ldc_at ldc_21_ok (q := (1845, .iconst 1, 1)) 45 rfl
theorem dL_law_1846 : decode cL_law 1846 = .ok (.iadd, 1) := ldc_at ldc_21_ok (q := (1846, .iadd, 1)) 46 rfl
theorem dL_law_1847 : decode cL_law 1847 = .ok (.iaload, 1) := ldc_at ldc_21_ok (q := (1847, .iaload, 1)) 47 rfl
noncomputable def ldc_22 : List (Nat × Jvm.ClassFile.Instr × Nat) := [(1848, .aload_n 3, 1), (1849, .invokestatic 330, 3), (1852, .istore 6, 2), (1854, .aload_n 2, 1), (1855, .aload_n 0, 1), (1856, .iload 5, 2), (1858, .iconst 1, 1), (1859, .iadd, 1), (1860, .iaload, 1), (1861, .invokevirtual 332, 3), (1864, .istore 7, 2), (1866, .goto 100, 3), (1869, .aload_n 1, 1), (1870, .aload_n 0, 1), (1871, .iload 5, 2), (1873, .iconst 1, 1), (1874, .iadd, 1), (1875, .iaload, 1), (1876, .aload_n 3, 1), (1877, .invokestatic 333, 3), (1880, .istore 6, 2), (1882, .aload_n 2, 1), (1883, .aload_n 0, 1), (1884, .iload 5, 2), (1886, .iconst 1, 1), (1887, .iadd, 1), (1888, .iaload, 1), (1889, .invokevirtual 335, 3), (1892, .lstore 7, 2), (1894, .goto 72, 3), (1897, .aload_n 1, 1), (1898, .aload_n 0, 1), (1899, .iload 5, 2), (1901, .iconst 1, 1), (1902, .iadd, 1), (1903, .iaload, 1), (1904, .aload 4, 2), (1906, .invokestatic 336, 3), (1909, .istore 6, 2), (1911, .aload_n 2, 1), (1912, .aload_n 0, 1), (1913, .iload 5, 2), (1915, .iconst 1, 1), (1916, .iadd, 1), (1917, .iaload, 1), (1918, .invokevirtual 339, 3), (1921, .dstore 7, 2), (1923, .goto 43, 3)]
set_option maxRecDepth 100000 in
theorem ldc_22_ok : ldc_22.all (fun q => decide (decode cL_law q.1 = .ok (q.2.1, q.2.2))) = true := by decide +kernel
theorem dL_law_1848 : decode cL_law 1848 = .ok (.aload_n 3, 1) := ldc_at ldc_22_ok (q := (1848, .aload_n 3, 1)) 0 rfl
theorem dL_law_1849 : decode cL_law 1849 = .ok (.invokestatic 330, 3) := ldc_at ldc_22_ok (q := (1849, .invokestatic 330, 3)) 1 rfl
theorem dL_law_1852 : decode cL_law 1852 = .ok (.istore 6, 2) := ldc_at ldc_22_ok (q := (1852, .istore 6, 2)) 2 rfl
theorem dL_law_1854 : decode cL_law 1854 = .ok (.aload_n 2, 1) := ldc_at ldc_22_ok (q := (1854, .aload_n 2, 1)) 3 rfl
theorem dL_law_1855 : decode cL_law 1855 = .ok (.aload_n 0, 1) := ldc_at ldc_22_ok (q := (1855, .aload_n 0, 1)) 4 rfl
theorem dL_law_1856 : decode cL_law 1856 = .ok (.iload 5, 2) := ldc_at ldc_22_ok (q := (1856, .iload 5, 2)) 5 rfl
theorem dL_law_1858 : decode cL_law 1858 = .ok (.iconst 1, 1) := ldc_at ldc_22_ok (q := (1858, .iconst 1, 1)) 6 rfl
theorem dL_law_1859 : decode cL_law 1859 = .ok (.iadd, 1) := ldc_at ldc_22_ok (q := (1859, .iadd, 1)) 7 rfl
theorem dL_law_1860 : decode cL_law 1860 = .ok (.iaload, 1) := ldc_at ldc_22_ok (q := (1860, .iaload, 1)) 8 rfl
theorem dL_law_1861 : decode cL_law 1861 = .ok (.invokevirtual 332, 3) := ldc_at ldc_22_ok (q := (1861, .invokevirtual 332, 3)) 9 rfl
theorem dL_law_1864 : decode cL_law 1864 = .ok (.istore 7, 2) := ldc_at ldc_22_ok (q := (1864, .istore 7, 2)) 10 rfl
theorem dL_law_1866 : decode cL_law 1866 = .ok (.goto 100, 3) := ldc_at ldc_22_ok (q := (1866, .goto 100, 3)) 11 rfl
theorem dL_law_1869 : decode cL_law 1869 = .ok (.aload_n 1, 1) := ldc_at ldc_22_ok (q := (1869, .aload_n 1, 1)) 12 rfl
theorem dL_law_1870 : decode cL_law 1870 = .ok (.aload_n 0, 1) := ldc_at ldc_22_ok (q := (1870, .aload_n 0, 1)) 13 rfl
theorem dL_law_1871 : decode cL_law 1871 = .ok (.iload 5, 2) := ldc_at ldc_22_ok (q := (1871, .iload 5, 2)) 14 rfl
theorem dL_law_1873 : decode cL_law 1873 = .ok (.iconst 1, 1) := ldc_at ldc_22_ok (q := (1873, .iconst 1, 1)) 15 rfl
theorem dL_law_1874 : decode cL_law 1874 = .ok (.iadd, 1) := ldc_at ldc_22_ok (q := (1874, .iadd, 1)) 16 rfl
theorem dL_law_1875 : decode cL_law 1875 = .ok (.iaload, 1) := ldc_at ldc_22_ok (q := (1875, .iaload, 1)) 17 rfl
theorem dL_law_1876 : decode cL_law 1876 = .ok (.aload_n 3, 1) := ldc_at ldc_22_ok (q := (1876, .aload_n 3, 1)) 18 rfl
theorem dL_law_1877 : decode cL_law 1877 = .ok (.invokestatic 333, 3) := ldc_at ldc_22_ok (q := (1877, .invokestatic 333, 3)) 19 rfl
theorem dL_law_1880 : decode cL_law 1880 = .ok (.istore 6, 2) := ldc_at ldc_22_ok (q := (1880, .istore 6, 2)) 20 rfl
theorem dL_law_1882 : decode cL_law 1882 = .ok (.aload_n 2, 1) := ldc_at ldc_22_ok (q := (1882, .aload_n 2, 1)) 21 rfl
theorem dL_law_1883 : decode cL_law 1883 = .ok (.aload_n 0, 1) := ldc_at ldc_22_ok (q := (1883, .aload_n 0, 1)) 22 rfl
theorem dL_law_1884 : decode cL_law 1884 = .ok (.iload 5, 2) := ldc_at ldc_22_ok (q := (1884, .iload 5, 2)) 23 rfl
theorem dL_law_1886 : decode cL_law 1886 = .ok (.iconst 1, 1) := ldc_at ldc_22_ok (q := (1886, .iconst 1, 1)) 24 rfl
theorem dL_law_1887 : decode cL_law 1887 = .ok (.iadd, 1) := ldc_at ldc_22_ok (q := (1887, .iadd, 1)) 25 rfl
theorem dL_law_1888 : decode cL_law 1888 = .ok (.iaload, 1) := ldc_at ldc_22_ok (q := (1888, .iaload, 1)) 26 rfl
theorem dL_law_1889 : decode cL_law 1889 = .ok (.invokevirtual 335, 3) := ldc_at ldc_22_ok (q := (1889, .invokevirtual 335, 3)) 27 rfl
theorem dL_law_1892 : decode cL_law 1892 = .ok (.lstore 7, 2) := ldc_at ldc_22_ok (q := (1892, .lstore 7, 2)) 28 rfl
theorem dL_law_1894 : decode cL_law 1894 = .ok (.goto 72, 3) := ldc_at ldc_22_ok (q := (1894, .goto 72, 3)) 29 rfl
theorem dL_law_1897 : decode cL_law 1897 = .ok (.aload_n 1, 1) := ldc_at ldc_22_ok (q := (1897, .aload_n 1, 1)) 30 rfl
theorem dL_law_1898 : decode cL_law 1898 = .ok (.aload_n 0, 1) := ldc_at ldc_22_ok (q := (1898, .aload_n 0, 1)) 31 rfl
theorem dL_law_1899 : decode cL_law 1899 = .ok (.iload 5, 2) := ldc_at ldc_22_ok (q := (1899, .iload 5, 2)) 32 rfl
theorem dL_law_1901 : decode cL_law 1901 = .ok (.iconst 1, 1) := ldc_at ldc_22_ok (q := (1901, .iconst 1, 1)) 33 rfl
theorem dL_law_1902 : decode cL_law 1902 = .ok (.iadd, 1) := ldc_at ldc_22_ok (q := (1902, .iadd, 1)) 34 rfl
theorem dL_law_1903 : decode cL_law 1903 = .ok (.iaload, 1) := ldc_at ldc_22_ok (q := (1903, .iaload, 1)) 35 rfl
theorem dL_law_1904 : decode cL_law 1904 = .ok (.aload 4, 2) := ldc_at ldc_22_ok (q := (1904, .aload 4, 2)) 36 rfl
theorem dL_law_1906 : decode cL_law 1906 = .ok (.invokestatic 336, 3) := ldc_at ldc_22_ok (q := (1906, .invokestatic 336, 3)) 37 rfl
theorem dL_law_1909 : decode cL_law 1909 = .ok (.istore 6, 2) := ldc_at ldc_22_ok (q := (1909, .istore 6, 2)) 38 rfl
theorem dL_law_1911 : decode cL_law 1911 = .ok (.aload_n 2, 1) := ldc_at ldc_22_ok (q := (1911, .aload_n 2, 1)) 39 rfl
theorem dL_law_1912 : decode cL_law 1912 = .ok (.aload_n 0, 1) := ldc_at ldc_22_ok (q := (1912, .aload_n 0, 1)) 40 rfl
theorem dL_law_1913 : decode cL_law 1913 = .ok (.iload 5, 2) := ldc_at ldc_22_ok (q := (1913, .iload 5, 2)) 41 rfl
theorem dL_law_1915 : decode cL_law 1915 = .ok (.iconst 1, 1) := ldc_at ldc_22_ok (q := (1915, .iconst 1, 1)) 42 rfl
theorem dL_law_1916 : decode cL_law 1916 = .ok (.iadd, 1) := ldc_at ldc_22_ok (q := (1916, .iadd, 1)) 43 rfl
theorem dL_law_1917 : decode cL_law 1917 = .ok (.iaload, 1) := ldc_at ldc_22_ok (q := (1917, .iaload, 1)) 44 rfl
theorem dL_law_1918 : decode cL_law 1918 = .ok (.invokevirtual 339, 3) := ldc_at ldc_22_ok (q := (1918, .invokevirtual 339, 3)) 45 rfl
theorem dL_law_1921 : decode cL_law 1921 = .ok (.dstore 7, 2) := ldc_at ldc_22_ok (q := (1921, .dstore 7, 2)) 46 rfl
theorem dL_law_1923 : decode cL_law 1923 = .ok (.goto 43, 3) := ldc_at ldc_22_ok (q := (1923, .goto 43, 3)) 47 rfl
noncomputable def ldc_23 : List (Nat × Jvm.ClassFile.Instr × Nat) := [(1926, .aload_n 1, 1), (1927, .aload_n 0, 1), (1928, .iload 5, 2), (1930, .iconst 1, 1), (1931, .iadd, 1), (1932, .iaload, 1), (1933, .aload_n 0, 1), (1934, .iload 5, 2), (1936, .iconst 2, 1), (1937, .iadd, 1), (1938, .iaload, 1), (1939, .aload_n 3, 1), (1940, .invokestatic 340, 3), (1943, .istore 6, 2), (1945, .aload_n 2, 1), (1946, .aload_n 0, 1), (1947, .iload 5, 2), (1949, .iconst 1, 1), (1950, .iadd, 1), (1951, .iaload, 1), (1952, .aload_n 0, 1), (1953, .iload 5, 2), (1955, .iconst 2, 1), (1956, .iadd, 1), (1957, .iaload, 1), (1958, .invokevirtual 342, 3), (1961, .istore 7, 2), (1963, .goto 3, 3), (1966, .iinc 5 7, 3), (1969, .goto (-1941), 3), (1972, .iconst 1, 1), (1973, .ireturn, 1)]
set_option maxRecDepth 100000 in
theorem ldc_23_ok : ldc_23.all (fun q => decide (decode cL_law q.1 = .ok (q.2.1, q.2.2))) = true := by decide +kernel
theorem dL_law_1926 : decode cL_law 1926 = .ok (.aload_n 1, 1) := ldc_at ldc_23_ok (q := (1926, .aload_n 1, 1)) 0 rfl
theorem dL_law_1927 : decode cL_law 1927 = .ok (.aload_n 0, 1) := ldc_at ldc_23_ok (q := (1927, .aload_n 0, 1)) 1 rfl
theorem dL_law_1928 : decode cL_law 1928 = .ok (.iload 5, 2) := ldc_at ldc_23_ok (q := (1928, .iload 5, 2)) 2 rfl
theorem dL_law_1930 : decode cL_law 1930 = .ok (.iconst 1, 1) := ldc_at ldc_23_ok (q := (1930, .iconst 1, 1)) 3 rfl
theorem dL_law_1931 : decode cL_law 1931 = .ok (.iadd, 1) := ldc_at ldc_23_ok (q := (1931, .iadd, 1)) 4 rfl
theorem dL_law_1932 : decode cL_law 1932 = .ok (.iaload, 1) := ldc_at ldc_23_ok (q := (1932, .iaload, 1)) 5 rfl
theorem dL_law_1933 : decode cL_law 1933 = .ok (.aload_n 0, 1) := ldc_at ldc_23_ok (q := (1933, .aload_n 0, 1)) 6 rfl
theorem dL_law_1934 : decode cL_law 1934 = .ok (.iload 5, 2) := ldc_at ldc_23_ok (q := (1934, .iload 5, 2)) 7 rfl
theorem dL_law_1936 : decode cL_law 1936 = .ok (.iconst 2, 1) := ldc_at ldc_23_ok (q := (1936, .iconst 2, 1)) 8 rfl
theorem dL_law_1937 : decode cL_law 1937 = .ok (.iadd, 1) := ldc_at ldc_23_ok (q := (1937, .iadd, 1)) 9 rfl
theorem dL_law_1938 : decode cL_law 1938 = .ok (.iaload, 1) := ldc_at ldc_23_ok (q := (1938, .iaload, 1)) 10 rfl
theorem dL_law_1939 : decode cL_law 1939 = .ok (.aload_n 3, 1) := ldc_at ldc_23_ok (q := (1939, .aload_n 3, 1)) 11 rfl
theorem dL_law_1940 : decode cL_law 1940 = .ok (.invokestatic 340, 3) := ldc_at ldc_23_ok (q := (1940, .invokestatic 340, 3)) 12 rfl
theorem dL_law_1943 : decode cL_law 1943 = .ok (.istore 6, 2) := ldc_at ldc_23_ok (q := (1943, .istore 6, 2)) 13 rfl
theorem dL_law_1945 : decode cL_law 1945 = .ok (.aload_n 2, 1) := ldc_at ldc_23_ok (q := (1945, .aload_n 2, 1)) 14 rfl
theorem dL_law_1946 : decode cL_law 1946 = .ok (.aload_n 0, 1) := ldc_at ldc_23_ok (q := (1946, .aload_n 0, 1)) 15 rfl
theorem dL_law_1947 : decode cL_law 1947 = .ok (.iload 5, 2) := ldc_at ldc_23_ok (q := (1947, .iload 5, 2)) 16 rfl
theorem dL_law_1949 : decode cL_law 1949 = .ok (.iconst 1, 1) := ldc_at ldc_23_ok (q := (1949, .iconst 1, 1)) 17 rfl
theorem dL_law_1950 : decode cL_law 1950 = .ok (.iadd, 1) := ldc_at ldc_23_ok (q := (1950, .iadd, 1)) 18 rfl
theorem dL_law_1951 : decode cL_law 1951 = .ok (.iaload, 1) := ldc_at ldc_23_ok (q := (1951, .iaload, 1)) 19 rfl
theorem dL_law_1952 : decode cL_law 1952 = .ok (.aload_n 0, 1) := ldc_at ldc_23_ok (q := (1952, .aload_n 0, 1)) 20 rfl
theorem dL_law_1953 : decode cL_law 1953 = .ok (.iload 5, 2) := ldc_at ldc_23_ok (q := (1953, .iload 5, 2)) 21 rfl
theorem dL_law_1955 : decode cL_law 1955 = .ok (.iconst 2, 1) := ldc_at ldc_23_ok (q := (1955, .iconst 2, 1)) 22 rfl
theorem dL_law_1956 : decode cL_law 1956 = .ok (.iadd, 1) := ldc_at ldc_23_ok (q := (1956, .iadd, 1)) 23 rfl
theorem dL_law_1957 : decode cL_law 1957 = .ok (.iaload, 1) := ldc_at ldc_23_ok (q := (1957, .iaload, 1)) 24 rfl
theorem dL_law_1958 : decode cL_law 1958 = .ok (.invokevirtual 342, 3) := ldc_at ldc_23_ok (q := (1958, .invokevirtual 342, 3)) 25 rfl
theorem dL_law_1961 : decode cL_law 1961 = .ok (.istore 7, 2) := ldc_at ldc_23_ok (q := (1961, .istore 7, 2)) 26 rfl
theorem dL_law_1963 : decode cL_law 1963 = .ok (.goto 3, 3) := ldc_at ldc_23_ok (q := (1963, .goto 3, 3)) 27 rfl
theorem dL_law_1966 : decode cL_law 1966 = .ok (.iinc 5 7, 3) := ldc_at ldc_23_ok (q := (1966, .iinc 5 7, 3)) 28 rfl
theorem dL_law_1969 : decode cL_law 1969 = .ok (.goto (-1941), 3) := ldc_at ldc_23_ok (q := (1969, .goto (-1941), 3)) 29 rfl
theorem dL_law_1972 : decode cL_law 1972 = .ok (.iconst 1, 1) := ldc_at ldc_23_ok (q := (1972, .iconst 1, 1)) 30 rfl
theorem dL_law_1973 : decode cL_law 1973 = .ok (.ireturn, 1) := ldc_at ldc_23_ok (q := (1973, .ireturn, 1)) 31 rfl

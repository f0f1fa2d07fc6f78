theorem ldc_at {L : List (Nat × Jvm.ClassFile.Instr × Nat)} (h : L.all (fun q => decide (decode cL_law q.1 = .ok (q.2.1, q.2.2))) = true) {q : Nat × Jvm.ClassFile.Instr × Nat} (n : Nat) (e : L[n]? = some q) : decode cL_law q.1 = .ok (q.2.1, q.2.2) := of_decide_eq_true (List.all_eq_true.mp h q (List.mem_of_getElem? e))
def ldc_0 : List (Nat × Jvm.ClassFile.Instr × Nat) := [(296, .aload_n 1, 1), (297, .aload_n 0, 1), (298, .iload 5, 2), (300, .iconst 1, 1), (301, .iadd, 1), (302, .iaload, 1), (303, .aload_n 0, 1), (304, .iload 5, 2), (306, .iconst 2, 1), (307, .iadd, 1), (308, .iaload, 1), (309, .aload_n 0, 1), (310, .iload 5, 2), (312, .iconst 3, 1), (313, .iadd, 1), (314, .iaload, 1), (315, .aload_n 0, 1), (316, .iload 5, 2), (318, .iconst 4, 1), (319, .iadd, 1), (320, .iaload, 1), (321, .aload_n 0, 1), (322, .iload 5, 2), (324, .iconst 5, 1), (325, .iadd, 1), (326, .iaload, 1), (327, .invokevirtual 121, 3), (330, .aload_n 2, 1), (331, .aload_n 0, 1), (332, .iload 5, 2), (334, .iconst 1, 1), (335, .iadd, 1), (336, .iaload, 1), (337, .aload_n 0, 1), (338, .iload 5, 2), (340, .iconst 2, 1), (341, .iadd, 1), (342, .iaload, 1), (343, .aload_n 0, 1), (344, .iload 5, 2), (346, .iconst 3, 1), (347, .iadd, 1), (348, .iaload, 1), (349, .aload_n 0, 1), (350, .iload 5, 2), (352, .iconst 4, 1), (353, .iadd, 1), (354, .iaload, 1)]
set_option maxRecDepth 100000 in
theorem ldc_0_ok : ldc_0.all (fun q => decide (decode cL_law q.1 = .ok (q.2.1, q.2.2))) = true := by decide +kernel
theorem dL_law_296 : decode cL_law 296 = .ok (.aload_n 1, 1) := ldc_at ldc_0_ok (q := (296, .aload_n 1, 1)) 0 rfl
theorem dL_law_297 : decode cL_law 297 = .ok (.aload_n 0, 1) := ldc_at ldc_0_ok (q := (297, .aload_n 0, 1)) 1 rfl
theorem dL_law_298 : decode cL_law 298 = .ok (.iload 5, 2) := ldc_at ldc_0_ok (q := (298, .iload 5, 2)) 2 rfl
theorem dL_law_300 : decode cL_law 300 = .ok (.iconst 1, 1) := ldc_at ldc_0_ok (q := (300, .iconst 1, 1)) 3 rfl
theorem dL_law_301 : decode cL_law 301 = .ok (.iadd, 1) := ldc_at ldc_0_ok (q := (301, .iadd, 1)) 4 rfl
theorem dL_law_302 : decode cL_law 302 = .ok (.iaload, 1) := ldc_at ldc_0_ok (q := (302, .iaload, 1)) 5 rfl
theorem dL_law_303 : decode cL_law 303 = .ok (.aload_n 0, 1) := ldc_at ldc_0_ok (q := (303, .aload_n 0, 1)) 6 rfl
theorem dL_law_304 : decode cL_law 304 = .ok (.iload 5, 2) := ldc_at ldc_0_ok (q := (304, .iload 5, 2)) 7 rfl
theorem dL_law_306 : decode cL_law 306 = .ok (.iconst 2, 1) := ldc_at ldc_0_ok (q := (306, .iconst 2, 1)) 8 rfl
theorem dL_law_307 : decode cL_law 307 = .ok (.iadd, 1) := ldc_at ldc_0_ok (q := (307, .iadd, 1)) 9 rfl
theorem dL_law_308 : decode cL_law 308 = .ok (.iaload, 1) := ldc_at ldc_0_ok (q := (308, .iaload, 1)) 10 rfl
theorem dL_law_309 : decode cL_law 309 = .ok (.aload_n 0, 1) := ldc_at ldc_0_ok (q := (309, .aload_n 0, 1)) 11 rfl
theorem dL_law_310 : decode cL_law 310 = .ok (.iload 5, 2) := ldc_at ldc_0_ok (q := (310, .iload 5, 2)) 12 rfl
theorem dL_law_312 : decode cL_law 312 = .ok (.iconst 3, 1) := ldc_at ldc_0_ok (q := (312, .iconst 3, 1)) 13 rfl
theorem dL_law_313 : decode cL_law 313 = .ok (.iadd, 1) := ldc_at ldc_0_ok (q := (313, .iadd, 1)) 14 rfl
theorem dL_law_314 : decode cL_law 314 = .ok (.iaload, 1) := ldc_at ldc_0_ok (q := (314, .iaload, 1)) 15 rfl
theorem dL_law_315 : decode cL_law 315 = .ok (.aload_n 0, 1) := ldc_at ldc_0_ok (q := (315, .aload_n 0, 1)) 16 rfl
theorem dL_law_316 : decode cL_law 316 = .ok (.iload 5, 2) := ldc_at ldc_0_ok (q := (316, .iload 5, 2)) 17 rfl
theorem dL_law_318 : decode cL_law 318 = .ok (.iconst 4, 1) := ldc_at ldc_0_ok (q := (318, .iconst 4, 1)) 18 rfl
theorem dL_law_319 : decode cL_law 319 = .ok (.iadd, 1) := ldc_at ldc_0_ok (q := (319, .iadd, 1)) 19 rfl
theorem dL_law_320 : decode cL_law 320 = .ok (.iaload, 1) := ldc_at ldc_0_ok (q := (320, .iaload, 1)) 20 rfl
theorem dL_law_321 : decode cL_law 321 = .ok (.aload_n 0, 1) := ldc_at ldc_0_ok (q := (321, .aload_n 0, 1)) 21 rfl
theorem dL_law_322 : decode cL_law 322 = .ok (.iload 5, 2) := ldc_at ldc_0_ok (q := (322, .iload 5, 2)) 22 rfl
theorem dL_law_324 : decode cL_law 324 = .ok (.iconst 5, 1) := ldc_at ldc_0_ok (q := (324, .iconst 5, 1)) 23 rfl
theorem dL_law_325 : decode cL_law 325 = .ok (.iadd, 1) := ldc_at ldc_0_ok (q := (325, .iadd, 1)) 24 rfl
theorem dL_law_326 : decode cL_law 326 = .ok (.iaload, 1) := ldc_at ldc_0_ok (q := (326, .iaload, 1)) 25 rfl
theorem dL_law_327 : decode cL_law 327 = .ok (.invokevirtual 121, 3) := ldc_at ldc_0_ok (q := (327, .invokevirtual 121, 3)) 26 rfl
theorem dL_law_330 : decode cL_law 330 = .ok (.aload_n 2, 1) := ldc_at ldc_0_ok (q := (330, .aload_n 2, 1)) 27 rfl
theorem dL_law_331 : decode cL_law 331 = .ok (.aload_n 0, 1) := ldc_at ldc_0_ok (q := (331, .aload_n 0, 1)) 28 rfl
theorem dL_law_332 : decode cL_law 332 = .ok (.iload 5, 2) := ldc_at ldc_0_ok (q := (332, .iload 5, 2)) 29 rfl
theorem dL_law_334 : decode cL_law 334 = .ok (.iconst 1, 1) := ldc_at ldc_0_ok (q := (334, .iconst 1, 1)) 30 rfl
theorem dL_law_335 : decode cL_law 335 = .ok (.iadd, 1) := ldc_at ldc_0_ok (q := (335, .iadd, 1)) 31 rfl
theorem dL_law_336 : decode cL_law 336 = .ok (.iaload, 1) := ldc_at ldc_0_ok (q := (336, .iaload, 1)) 32 rfl
theorem dL_law_337 : decode cL_law 337 = .ok (.aload_n 0, 1) := ldc_at ldc_0_ok (q := (337, .aload_n 0, 1)) 33 rfl
theorem dL_law_338 : decode cL_law 338 = .ok (.iload 5, 2) := ldc_at ldc_0_ok (q := (338, .iload 5, 2)) 34 rfl
theorem dL_law_340 : decode cL_law 340 = .ok (.iconst 2, 1) := ldc_at ldc_0_ok (q := (340, .iconst 2, 1)) 35 rfl
theorem dL_law_341 : decode cL_law 341 = .ok (.iadd, 1) := ldc_at ldc_0_ok (q := (341, .iadd, 1)) 36 rfl
theorem dL_law_342 : decode cL_law 342 = .ok (.iaload, 1) := ldc_at ldc_0_ok (q := (342, .iaload, 1)) 37 rfl
theorem dL_law_343 : decode cL_law 343 = .ok (.aload_n 0, 1) := ldc_at ldc_0_ok (q := (343, .aload_n 0, 1)) 38 rfl
theorem dL_law_344 : decode cL_law 344 = .ok (.iload 5, 2) := ldc_at ldc_0_ok (q := (344, .iload 5, 2)) 39 rfl
theorem dL_law_346 : decode cL_law 346 = .ok (.iconst 3, 1) := ldc_at ldc_0_ok (q := (346, .iconst 3, 1)) 40 rfl
theorem dL_law_347 : decode cL_law 347 = .ok (.iadd, 1) := ldc_at ldc_0_ok (q := (347, .iadd, 1)) 41 rfl
theorem dL_law_348 : decode cL_law 348 = .ok (.iaload, 1) := ldc_at ldc_0_ok (q := (348, .iaload, 1)) 42 rfl
theorem dL_law_349 : decode cL_law 349 = .ok (.aload_n 0, 1) := ldc_at ldc_0_ok (q := (349, .aload_n 0, 1)) 43 rfl
theorem dL_law_350 : decode cL_law 350 = .ok (.iload 5, 2) := ldc_at ldc_0_ok (q := (350, .iload 5, 2)) 44 rfl
theorem dL_law_352 : decode cL_law 352 = .ok (.iconst 4, 1) := ldc_at ldc_0_ok (q := (352, .iconst 4, 1)) 45 rfl
theorem dL_law_353 : decode cL_law 353 = .ok (.iadd, 1) := ldc_at ldc_0_ok (q := (353, .iadd, 1)) 46 rfl
theorem dL_law_354 : decode cL_law 354 = .ok (.iaload, 1) := ldc_at ldc_0_ok (q := (354, .iaload, 1)) 47 rfl
def ldc_1 : List (Nat × Jvm.ClassFile.Instr × Nat) := [(355, .aload_n 0, 1), (356, .iload 5, 2), (358, .iconst 5, 1), (359, .iadd, 1), (360, .iaload, 1), (361, .invokevirtual 125, 3), (364, .if_icmp .eq 2529, 3), (369, .aload_n 1, 1), (370, .aload_n 0, 1), (371, .iload 5, 2), (373, .iconst 1, 1), (374, .iadd, 1), (375, .iaload, 1), (376, .invokevirtual 126, 3), (379, .aload_n 2, 1), (380, .aload_n 0, 1), (381, .iload 5, 2), (383, .iconst 1, 1), (384, .iadd, 1), (385, .iaload, 1), (386, .invokevirtual 129, 3), (389, .if_icmp .eq 2504, 3), (394, .aload_n 1, 1), (395, .invokevirtual 130, 3), (398, .aload_n 2, 1), (399, .invokevirtual 134, 3), (402, .if_icmp .eq 2491, 3), (407, .aload_n 1, 1), (408, .invokevirtual 135, 3), (411, .aload_n 2, 1), (412, .invokevirtual 138, 3), (415, .if_icmp .eq 2478, 3), (420, .aload_n 1, 1), (421, .invokevirtual 139, 3), (424, .aload_n 2, 1), (425, .invokevirtual 142, 3), (428, .if_icmp .eq 2465, 3), (433, .aload_n 1, 1), (434, .invokevirtual 143, 3), (437, .aload_n 2, 1), (438, .invokevirtual 146, 3), (441, .if_icmp .eq 2452, 3), (446, .aload_n 1, 1), (447, .aload_n 0, 1), (448, .iload 5, 2), (450, .iconst 1, 1), (451, .iadd, 1), (452, .iaload, 1)]
set_option maxRecDepth 100000 in
theorem ldc_1_ok : ldc_1.all (fun q => decide (decode cL_law q.1 = .ok (q.2.1, q.2.2))) = true := by decide +kernel
theorem dL_law_355 : decode cL_law 355 = .ok (.aload_n 0, 1) := ldc_at ldc_1_ok (q := (355, .aload_n 0, 1)) 0 rfl
theorem dL_law_356 : decode cL_law 356 = .ok (.iload 5, 2) := ldc_at ldc_1_ok (q := (356, .iload 5, 2)) 1 rfl
theorem dL_law_358 : decode cL_law 358 = .ok (.iconst 5, 1) := ldc_at ldc_1_ok (q := (358, .iconst 5, 1)) 2 rfl
theorem dL_law_359 : decode cL_law 359 = .ok (.iadd, 1) := ldc_at ldc_1_ok (q := (359, .iadd, 1)) 3 rfl
theorem dL_law_360 : decode cL_law 360 = .ok (.iaload, 1) := ldc_at ldc_1_ok (q := (360, .iaload, 1)) 4 rfl
theorem dL_law_361 : decode cL_law 361 = .ok (.invokevirtual 125, 3) := ldc_at ldc_1_ok (q := (361, .invokevirtual 125, 3)) 5 rfl
theorem dL_law_364 : decode cL_law 364 = .ok (.if_icmp .eq 2529, 3) := ldc_at ldc_1_ok (q := (364, .if_icmp .eq 2529, 3)) 6 rfl
theorem dL_law_369 : decode cL_law 369 = .ok (.aload_n 1, 1) := ldc_at ldc_1_ok (q := (369, .aload_n 1, 1)) 7 rfl
theorem dL_law_370 : decode cL_law 370 = .ok (.aload_n 0, 1) := ldc_at ldc_1_ok (q := (370, .aload_n 0, 1)) 8 rfl
theorem dL_law_371 : decode cL_law 371 = .ok (.iload 5, 2) := ldc_at ldc_1_ok (q := (371, .iload 5, 2)) 9 rfl
theorem dL_law_373 : decode cL_law 373 = .ok (.iconst 1, 1) := ldc_at ldc_1_ok (q := (373, .iconst 1, 1)) 10 rfl
theorem dL_law_374 : decode cL_law 374 = .ok (.iadd, 1) := ldc_at ldc_1_ok (q := (374, .iadd, 1)) 11 rfl
theorem dL_law_375 : decode cL_law 375 = .ok (.iaload, 1) := ldc_at ldc_1_ok (q := (375, .iaload, 1)) 12 rfl
theorem dL_law_376 : decode cL_law 376 = .ok (.invokevirtual 126, 3) := ldc_at ldc_1_ok (q := (376, .invokevirtual 126, 3)) 13 rfl
theorem dL_law_379 : decode cL_law 379 = .ok (.aload_n 2, 1) := ldc_at ldc_1_ok (q := (379, .aload_n 2, 1)) 14 rfl
theorem dL_law_380 : decode cL_law 380 = .ok (.aload_n 0, 1) := ldc_at ldc_1_ok (q := (380, .aload_n 0, 1)) 15 rfl
theorem dL_law_381 : decode cL_law 381 = .ok (.iload 5, 2) := ldc_at ldc_1_ok (q := (381, .iload 5, 2)) 16 rfl
theorem dL_law_383 : decode cL_law 383 = .ok (.iconst 1, 1) := ldc_at ldc_1_ok (q := (383, .iconst 1, 1)) 17 rfl
theorem dL_law_384 : decode cL_law 384 = .ok (.iadd, 1) := ldc_at ldc_1_ok (q := (384, .iadd, 1)) 18 rfl
theorem dL_law_385 : decode cL_law 385 = .ok (.iaload, 1) := ldc_at ldc_1_ok (q := (385, .iaload, 1)) 19 rfl
theorem dL_law_386 : decode cL_law 386 = .ok (.invokevirtual 129, 3) := ldc_at ldc_1_ok (q := (386, .invokevirtual 129, 3)) 20 rfl
theorem dL_law_389 : decode cL_law 389 = .ok (.if_icmp .eq 2504, 3) := ldc_at ldc_1_ok (q := (389, .if_icmp .eq 2504, 3)) 21 rfl
theorem dL_law_394 : decode cL_law 394 = .ok (.aload_n 1, 1) := ldc_at ldc_1_ok (q := (394, .aload_n 1, 1)) 22 rfl
theorem dL_law_395 : decode cL_law 395 = .ok (.invokevirtual 130, 3) := ldc_at ldc_1_ok (q := (395, .invokevirtual 130, 3)) 23 rfl
theorem dL_law_398 : decode cL_law 398 = .ok (.aload_n 2, 1) := ldc_at ldc_1_ok (q := (398, .aload_n 2, 1)) 24 rfl
theorem dL_law_399 : decode cL_law 399 = .ok (.invokevirtual 134, 3) := ldc_at ldc_1_ok (q := (399, .invokevirtual 134, 3)) 25 rfl
theorem dL_law_402 : decode cL_law 402 = .ok (.if_icmp .eq 2491, 3) := ldc_at ldc_1_ok (q := (402, .if_icmp .eq 2491, 3)) 26 rfl
theorem dL_law_407 : decode cL_law 407 = .ok (.aload_n 1, 1) := ldc_at ldc_1_ok (q := (407, .aload_n 1, 1)) 27 rfl
theorem dL_law_408 : decode cL_law 408 = .ok (.invokevirtual 135, 3) := ldc_at ldc_1_ok (q := (408, .invokevirtual 135, 3)) 28 rfl
theorem dL_law_411 : decode cL_law 411 = .ok (.aload_n 2, 1) := ldc_at ldc_1_ok (q := (411, .aload_n 2, 1)) 29 rfl
theorem dL_law_412 : decode cL_law 412 = .ok (.invokevirtual 138, 3) := ldc_at ldc_1_ok (q := (412, .invokevirtual 138, 3)) 30 rfl
theorem dL_law_415 : decode cL_law 415 = .ok (.if_icmp .eq 2478, 3) := ldc_at ldc_1_ok (q := (415, .if_icmp .eq 2478, 3)) 31 rfl
theorem dL_law_420 : decode cL_law 420 = .ok (.aload_n 1, 1) := ldc_at ldc_1_ok (q := (420, .aload_n 1, 1)) 32 rfl
theorem dL_law_421 : decode cL_law 421 = .ok (.invokevirtual 139, 3) := ldc_at ldc_1_ok (q := (421, .invokevirtual 139, 3)) 33 rfl
theorem dL_law_424 : decode cL_law 424 = .ok (.aload_n 2, 1) := ldc_at ldc_1_ok (q := (424, .aload_n 2, 1)) 34 rfl
theorem dL_law_425 : decode cL_law 425 = .ok (.invokevirtual 142, 3) := ldc_at ldc_1_ok (q := (425, .invokevirtual 142, 3)) 35 rfl
theorem dL_law_428 : decode cL_law 428 = .ok (.if_icmp .eq 2465, 3) := ldc_at ldc_1_ok (q := (428, .if_icmp .eq 2465, 3)) 36 rfl
theorem dL_law_433 : decode cL_law 433 = .ok (.aload_n 1, 1) := ldc_at ldc_1_ok (q := (433, .aload_n 1, 1)) 37 rfl
theorem dL_law_434 : decode cL_law 434 = .ok (.invokevirtual 143, 3) := ldc_at ldc_1_ok (q := (434, .invokevirtual 143, 3)) 38 rfl
theorem dL_law_437 : decode cL_law 437 = .ok (.aload_n 2, 1) := ldc_at ldc_1_ok (q := (437, .aload_n 2, 1)) 39 rfl
theorem dL_law_438 : decode cL_law 438 = .ok (.invokevirtual 146, 3) := ldc_at ldc_1_ok (q := (438, .invokevirtual 146, 3)) 40 rfl
theorem dL_law_441 : decode cL_law 441 = .ok (.if_icmp .eq 2452, 3) := ldc_at ldc_1_ok (q := (441, .if_icmp .eq 2452, 3)) 41 rfl
theorem dL_law_446 : decode cL_law 446 = .ok (.aload_n 1, 1) := ldc_at ldc_1_ok (q := (446, .aload_n 1, 1)) 42 rfl
theorem dL_law_447 : decode cL_law 447 = .ok (.aload_n 0, 1) := ldc_at ldc_1_ok (q := (447, .aload_n 0, 1)) 43 rfl
theorem dL_law_448 : decode cL_law 448 = .ok (.iload 5, 2) := ldc_at ldc_1_ok (q := (448, .iload 5, 2)) 44 rfl
theorem dL_law_450 : decode cL_law 450 = .ok (.iconst 1, 1) := ldc_at ldc_1_ok (q := (450, .iconst 1, 1)) 45 rfl
theorem dL_law_451 : decode cL_law 451 = .ok (.iadd, 1) := ldc_at ldc_1_ok (q := (451, .iadd, 1)) 46 rfl
theorem dL_law_452 : decode cL_law 452 = .ok (.iaload, 1) := ldc_at ldc_1_ok (q := (452, .iaload, 1)) 47 rfl
def ldc_2 : List (Nat × Jvm.ClassFile.Instr × Nat) := [(453, .aload_n 0, 1), (454, .iload 5, 2), (456, .iconst 2, 1), (457, .iadd, 1), (458, .iaload, 1), (459, .aload_n 0, 1), (460, .iload 5, 2), (462, .iconst 3, 1), (463, .iadd, 1), (464, .iaload, 1), (465, .aload_n 0, 1), (466, .iload 5, 2), (468, .iconst 4, 1), (469, .iadd, 1), (470, .iaload, 1), (471, .aload_n 0, 1), (472, .iload 5, 2), (474, .iconst 5, 1), (475, .iadd, 1), (476, .iaload, 1), (477, .aload_n 3, 1), (478, .invokestatic 147, 3), (481, .istore 6, 2), (483, .aload_n 2, 1), (484, .aload_n 0, 1), (485, .iload 5, 2), (487, .iconst 1, 1), (488, .iadd, 1), (489, .iaload, 1), (490, .aload_n 0, 1), (491, .iload 5, 2), (493, .iconst 2, 1), (494, .iadd, 1), (495, .iaload, 1), (496, .aload_n 0, 1), (497, .iload 5, 2), (499, .iconst 3, 1), (500, .iadd, 1), (501, .iaload, 1), (502, .aload_n 0, 1), (503, .iload 5, 2), (505, .iconst 4, 1), (506, .iadd, 1), (507, .iaload, 1), (508, .aload_n 0, 1), (509, .iload 5, 2), (511, .iconst 5, 1), (512, .iadd, 1)]
set_option maxRecDepth 100000 in
theorem ldc_2_ok : ldc_2.all (fun q => decide (decode cL_law q.1 = .ok (q.2.1, q.2.2))) = true := by decide +kernel
theorem dL_law_453 : decode cL_law 453 = .ok (.aload_n 0, 1) := ldc_at ldc_2_ok (q := (453, .aload_n 0, 1)) 0 rfl
theorem dL_law_454 : decode cL_law 454 = .ok (.iload 5, 2) := ldc_at ldc_2_ok (q := (454, .iload 5, 2)) 1 rfl
theorem dL_law_456 : decode cL_law 456 = .ok (.iconst 2, 1) := ldc_at ldc_2_ok (q := (456, .iconst 2, 1)) 2 rfl
theorem dL_law_457 : decode cL_law 457 = .ok (.iadd, 1) := ldc_at ldc_2_ok (q := (457, .iadd, 1)) 3 rfl
theorem dL_law_458 : decode cL_law 458 = .ok (.iaload, 1) := ldc_at ldc_2_ok (q := (458, .iaload, 1)) 4 rfl
theorem dL_law_459 : decode cL_law 459 = .ok (.aload_n 0, 1) := ldc_at ldc_2_ok (q := (459, .aload_n 0, 1)) 5 rfl
theorem dL_law_460 : decode cL_law 460 = .ok (.iload 5, 2) := ldc_at ldc_2_ok (q := (460, .iload 5, 2)) 6 rfl
theorem dL_law_462 : decode cL_law 462 = .ok (.iconst 3, 1) := ldc_at ldc_2_ok (q := (462, .iconst 3, 1)) 7 rfl
theorem dL_law_463 : decode cL_law 463 = .ok (.iadd, 1) := ldc_at ldc_2_ok (q := (463, .iadd, 1)) 8 rfl
theorem dL_law_464 : decode cL_law 464 = .ok (.iaload, 1) := ldc_at ldc_2_ok (q := (464, .iaload, 1)) 9 rfl
theorem dL_law_465 : decode cL_law 465 = .ok (.aload_n 0, 1) := ldc_at ldc_2_ok (q := (465, .aload_n 0, 1)) 10 rfl
theorem dL_law_466 : decode cL_law 466 = .ok (.iload 5, 2) := ldc_at ldc_2_ok (q := (466, .iload 5, 2)) 11 rfl
theorem dL_law_468 : decode cL_law 468 = .ok (.iconst 4, 1) := ldc_at ldc_2_ok (q := (468, .iconst 4, 1)) 12 rfl
theorem dL_law_469 : decode cL_law 469 = .ok (.iadd, 1) := ldc_at ldc_2_ok (q := (469, .iadd, 1)) 13 rfl
theorem dL_law_470 : decode cL_law 470 = .ok (.iaload, 1) := ldc_at ldc_2_ok (q := (470, .iaload, 1)) 14 rfl
theorem dL_law_471 : decode cL_law 471 = .ok (.aload_n 0, 1) := ldc_at ldc_2_ok (q := (471, .aload_n 0, 1)) 15 rfl
theorem dL_law_472 : decode cL_law 472 = .ok (.iload 5, 2) := ldc_at ldc_2_ok (q := (472, .iload 5, 2)) 16 rfl
theorem dL_law_474 : decode cL_law 474 = .ok (.iconst 5, 1) := ldc_at ldc_2_ok (q := (474, .iconst 5, 1)) 17 rfl
theorem dL_law_475 : decode cL_law 475 = .ok (.iadd, 1) := ldc_at ldc_2_ok (q := (475, .iadd, 1)) 18 rfl
theorem dL_law_476 : decode cL_law 476 = .ok (.iaload, 1) := ldc_at ldc_2_ok (q := (476, .iaload, 1)) 19 rfl
theorem dL_law_477 : decode cL_law 477 = .ok (.aload_n 3, 1) := ldc_at ldc_2_ok (q := (477, .aload_n 3, 1)) 20 rfl
theorem dL_law_478 : decode cL_law 478 = .ok (.invokestatic 147, 3) := ldc_at ldc_2_ok (q := (478, .invokestatic 147, 3)) 21 rfl
theorem dL_law_481 : decode cL_law 481 = .ok (.istore 6, 2) := ldc_at ldc_2_ok (q := (481, .istore 6, 2)) 22 rfl
theorem dL_law_483 : decode cL_law 483 = .ok (.aload_n 2, 1) := ldc_at ldc_2_ok (q := (483, .aload_n 2, 1)) 23 rfl
theorem dL_law_484 : decode cL_law 484 = .ok (.aload_n 0, 1) := ldc_at ldc_2_ok (q := (484, .aload_n 0, 1)) 24 rfl
theorem dL_law_485 : decode cL_law 485 = .ok (.iload 5, 2) := ldc_at ldc_2_ok (q := (485, .iload 5, 2)) 25 rfl
theorem dL_law_487 : decode cL_law 487 = .ok (.iconst 1, 1) := ldc_at ldc_2_ok (q := (487, .iconst 1, 1)) 26 rfl
theorem dL_law_488 : decode cL_law 488 = .ok (.iadd, 1) := ldc_at ldc_2_ok (q := (488, .iadd, 1)) 27 rfl
theorem dL_law_489 : decode cL_law 489 = .ok (.iaload, 1) := ldc_at ldc_2_ok (q := (489, .iaload, 1)) 28 rfl
theorem dL_law_490 : decode cL_law 490 = .ok (.aload_n 0, 1) := ldc_at ldc_2_ok (q := (490, .aload_n 0, 1)) 29 rfl
theorem dL_law_491 : decode cL_law 491 = .ok (.iload 5, 2) := ldc_at ldc_2_ok (q := (491, .iload 5, 2)) 30 rfl
theorem dL_law_493 : decode cL_law 493 = .ok (.iconst 2, 1) := ldc_at ldc_2_ok (q := (493, .iconst 2, 1)) 31 rfl
theorem dL_law_494 : decode cL_law 494 = .ok (.iadd, 1) := ldc_at ldc_2_ok (q := (494, .iadd, 1)) 32 rfl
theorem dL_law_495 : decode cL_law 495 = .ok (.iaload, 1) := ldc_at ldc_2_ok (q := (495, .iaload, 1)) 33 rfl
theorem dL_law_496 : decode cL_law 496 = .ok (.aload_n 0, 1) := ldc_at ldc_2_ok (q := (496, .aload_n 0, 1)) 34 rfl
theorem dL_law_497 : decode cL_law 497 = .ok (.iload 5, 2) := ldc_at ldc_2_ok (q := (497, .iload 5, 2)) 35 rfl
theorem dL_law_499 : decode cL_law 499 = .ok (.iconst 3, 1) := ldc_at ldc_2_ok (q := (499, .iconst 3, 1)) 36 rfl
theorem dL_law_500 : decode cL_law 500 = .ok (.iadd, 1) := ldc_at ldc_2_ok (q := (500, .iadd, 1)) 37 rfl
theorem dL_law_501 : decode cL_law 501 = .ok (.iaload, 1) := ldc_at ldc_2_ok (q := (501, .iaload, 1)) 38 rfl
theorem dL_law_502 : decode cL_law 502 = .ok (.aload_n 0, 1) := ldc_at ldc_2_ok (q := (502, .aload_n 0, 1)) 39 rfl
theorem dL_law_503 : decode cL_law 503 = .ok (.iload 5, 2) := ldc_at ldc_2_ok (q := (503, .iload 5, 2)) 40 rfl
theorem dL_law_505 : decode cL_law 505 = .ok (.iconst 4, 1) := ldc_at ldc_2_ok (q := (505, .iconst 4, 1)) 41 rfl
theorem dL_law_506 : decode cL_law 506 = .ok (.iadd, 1) := ldc_at ldc_2_ok (q := (506, .iadd, 1)) 42 rfl
theorem dL_law_507 : decode cL_law 507 = .ok (.iaload, 1) := ldc_at ldc_2_ok (q := (507, .iaload, 1)) 43 rfl
theorem dL_law_508 : decode cL_law 508 = .ok (.aload_n 0, 1) := ldc_at ldc_2_ok (q := (508, .aload_n 0, 1)) 44 rfl
theorem dL_law_509 : decode cL_law 509 = .ok (.iload 5, 2) := ldc_at ldc_2_ok (q := (509, .iload 5, 2)) 45 rfl
theorem dL_law_511 : decode cL_law 511 = .ok (.iconst 5, 1) := ldc_at ldc_2_ok (q := (511, .iconst 5, 1)) 46 rfl
theorem dL_law_512 : decode cL_law 512 = .ok (.iadd, 1) := ldc_at ldc_2_ok (q := (512, .iadd, 1)) 47 rfl
def ldc_3 : List (Nat × Jvm.ClassFile.Instr × Nat) := [(513, .iaload, 1), (514, .invokevirtual 152, 3), (517, .istore 7, 2), (519, .aload_n 2, 1), (520, .invokevirtual 153, 3), (523, .iload 6, 2), (525, .if_icmp .eq 5, 3), (530, .iload 6, 2), (532, .ifCond .ne 22, 3), (535, .aload_n 3, 1), (536, .iconst 0, 1), (537, .laload, 1), (538, .iload 7, 2), (540, .ifCond .eq 7, 3), (543, .lconst 1, 1), (544, .goto 4, 3), (548, .lcmp, 1), (549, .ifCond .eq 5, 3), (554, .goto 2339, 3), (557, .aload_n 1, 1), (558, .aload_n 0, 1), (559, .iload 5, 2), (561, .iconst 1, 1), (562, .iadd, 1), (563, .iaload, 1), (564, .aload_n 0, 1), (565, .iload 5, 2), (567, .iconst 2, 1), (568, .iadd, 1), (569, .iaload, 1), (570, .aload_n 0, 1), (571, .iload 5, 2), (573, .iconst 3, 1), (574, .iadd, 1), (575, .iaload, 1), (576, .aload_n 0, 1), (577, .iload 5, 2), (579, .iconst 4, 1), (580, .iadd, 1), (581, .iaload, 1), (582, .aload_n 0, 1), (583, .iload 5, 2), (585, .iconst 5, 1), (586, .iadd, 1), (587, .iaload, 1), (588, .aload_n 0, 1), (589, .iload 5, 2), (591, .bipush 6, 2)]
set_option maxRecDepth 100000 in
theorem ldc_3_ok : ldc_3.all (fun q => decide (decode cL_law q.1 = .ok (q.2.1, q.2.2))) = true := by decide +kernel
theorem dL_law_513 : decode cL_law 513 = .ok (.iaload, 1) := ldc_at ldc_3_ok (q := (513, .iaload, 1)) 0 rfl
theorem dL_law_514 : decode cL_law 514 = .ok (.invokevirtual 152, 3) := ldc_at ldc_3_ok (q := (514, .invokevirtual 152, 3)) 1 rfl
theorem dL_law_517 : decode cL_law 517 = .ok (.istore 7, 2) := ldc_at ldc_3_ok (q := (517, .istore 7, 2)) 2 rfl
theorem dL_law_519 : decode cL_law 519 = .ok (.aload_n 2, 1) := ldc_at ldc_3_ok (q := (519, .aload_n 2, 1)) 3 rfl
theorem dL_law_520 : decode cL_law 520 = .ok (.invokevirtual 153, 3) := ldc_at ldc_3_ok (q := (520, .invokevirtual 153, 3)) 4 rfl
theorem dL_law_523 : decode cL_law 523 = .ok (.iload 6, 2) := ldc_at ldc_3_ok (q := (523, .iload 6, 2)) 5 rfl
theorem dL_law_525 : decode cL_law 525 = .ok (.if_icmp .eq 5, 3) := ldc_at ldc_3_ok (q := (525, .if_icmp .eq 5, 3)) 6 rfl
theorem dL_law_530 : decode cL_law 530 = .ok (.iload 6, 2) := ldc_at ldc_3_ok (q := (530, .iload 6, 2)) 7 rfl
theorem dL_law_532 : decode cL_law 532 = .ok (.ifCond .ne 22, 3) := ldc_at ldc_3_ok (q := (532, .ifCond .ne 22, 3)) 8 rfl
theorem dL_law_535 : decode cL_law 535 = .ok (.aload_n 3, 1) := ldc_at ldc_3_ok (q := (535, .aload_n 3, 1)) 9 rfl
theorem dL_law_536 : decode cL_law 536 = .ok (.iconst 0, 1) := ldc_at ldc_3_ok (q := (536, .iconst 0, 1)) 10 rfl
theorem dL_law_537 : decode cL_law 537 = .ok (.laload, 1) := ldc_at ldc_3_ok (q := (537, .laload, 1)) 11 rfl
theorem dL_law_538 : decode cL_law 538 = .ok (.iload 7, 2) := ldc_at ldc_3_ok (q := (538, .iload 7, 2)) 12 rfl
theorem dL_law_540 : decode cL_law 540 = .ok (.ifCond .eq 7, 3) := ldc_at ldc_3_ok (q := (540, .ifCond .eq 7, 3)) 13 rfl
theorem dL_law_543 : decode cL_law 543 = .ok (.lconst 1, 1) := ldc_at ldc_3_ok (q := (543, .lconst 1, 1)) 14 rfl
theorem dL_law_544 : decode cL_law 544 = .ok (.goto 4, 3) := ldc_at ldc_3_ok (q := (544, .goto 4, 3)) 15 rfl
theorem dL_law_548 : decode cL_law 548 = .ok (.lcmp, 1) := ldc_at ldc_3_ok (q := (548, .lcmp, 1)) 16 rfl
theorem dL_law_549 : decode cL_law 549 = .ok (.ifCond .eq 5, 3) := ldc_at ldc_3_ok (q := (549, .ifCond .eq 5, 3)) 17 rfl
theorem dL_law_554 : decode cL_law 554 = .ok (.goto 2339, 3) := ldc_at ldc_3_ok (q := (554, .goto 2339, 3)) 18 rfl
theorem dL_law_557 : decode cL_law 557 = .ok (.aload_n 1, 1) := ldc_at ldc_3_ok (q := (557, .aload_n 1, 1)) 19 rfl
theorem dL_law_558 : decode cL_law 558 = .ok (.aload_n 0, 1) := ldc_at ldc_3_ok (q := (558, .aload_n 0, 1)) 20 rfl
theorem dL_law_559 : decode cL_law 559 = .ok (.iload 5, 2) := ldc_at ldc_3_ok (q := (559, .iload 5, 2)) 21 rfl
theorem dL_law_561 : decode cL_law 561 = .ok (.iconst 1, 1) := ldc_at ldc_3_ok (q := (561, .iconst 1, 1)) 22 rfl
theorem dL_law_562 : decode cL_law 562 = .ok (.iadd, 1) := ldc_at ldc_3_ok (q := (562, .iadd, 1)) 23 rfl
theorem dL_law_563 : decode cL_law 563 = .ok (.iaload, 1) := ldc_at ldc_3_ok (q := (563, .iaload, 1)) 24 rfl
theorem dL_law_564 : decode cL_law 564 = .ok (.aload_n 0, 1) := ldc_at ldc_3_ok (q := (564, .aload_n 0, 1)) 25 rfl
theorem dL_law_565 : decode cL_law 565 = .ok (.iload 5, 2) := ldc_at ldc_3_ok (q := (565, .iload 5, 2)) 26 rfl
theorem dL_law_567 : decode cL_law 567 = .ok (.iconst 2, 1) := ldc_at ldc_3_ok (q := (567, .iconst 2, 1)) 27 rfl
theorem dL_law_568 : decode cL_law 568 = .ok (.iadd, 1) := ldc_at ldc_3_ok (q := (568, .iadd, 1)) 28 rfl
theorem dL_law_569 : decode cL_law 569 = .ok (.iaload, 1) := ldc_at ldc_3_ok (q := (569, .iaload, 1)) 29 rfl
theorem dL_law_570 : decode cL_law 570 = .ok (.aload_n 0, 1) := ldc_at ldc_3_ok (q := (570, .aload_n 0, 1)) 30 rfl
theorem dL_law_571 : decode cL_law 571 = .ok (.iload 5, 2) := ldc_at ldc_3_ok (q := (571, .iload 5, 2)) 31 rfl
theorem dL_law_573 : decode cL_law 573 = .ok (.iconst 3, 1) := ldc_at ldc_3_ok (q := (573, .iconst 3, 1)) 32 rfl
theorem dL_law_574 : decode cL_law 574 = .ok (.iadd, 1) := ldc_at ldc_3_ok (q := (574, .iadd, 1)) 33 rfl
theorem dL_law_575 : decode cL_law 575 = .ok (.iaload, 1) := ldc_at ldc_3_ok (q := (575, .iaload, 1)) 34 rfl
theorem dL_law_576 : decode cL_law 576 = .ok (.aload_n 0, 1) := ldc_at ldc_3_ok (q := (576, .aload_n 0, 1)) 35 rfl
theorem dL_law_577 : decode cL_law 577 = .ok (.iload 5, 2) := ldc_at ldc_3_ok (q := (577, .iload 5, 2)) 36 rfl
theorem dL_law_579 : decode cL_law 579 = .ok (.iconst 4, 1) := ldc_at ldc_3_ok (q := (579, .iconst 4, 1)) 37 rfl
theorem dL_law_580 : decode cL_law 580 = .ok (.iadd, 1) := ldc_at ldc_3_ok (q := (580, .iadd, 1)) 38 rfl
theorem dL_law_581 : decode cL_law 581 = .ok (.iaload, 1) := ldc_at ldc_3_ok (q := (581, .iaload, 1)) 39 rfl
theorem dL_law_582 : decode cL_law 582 = .ok (.aload_n 0, 1) := ldc_at ldc_3_ok (q := (582, .aload_n 0, 1)) 40 rfl
theorem dL_law_583 : decode cL_law 583 = .ok (.iload 5, 2) := ldc_at ldc_3_ok (q := (583, .iload 5, 2)) 41 rfl
theorem dL_law_585 : decode cL_law 585 = .ok (.iconst 5, 1) := ldc_at ldc_3_ok (q := (585, .iconst 5, 1)) 42 rfl
theorem dL_law_586 : decode cL_law 586 = .ok (.iadd, 1) := ldc_at ldc_3_ok (q := (586, .iadd, 1)) 43 rfl
theorem dL_law_587 : decode cL_law 587 = .ok (.iaload, 1) := ldc_at ldc_3_ok (q := (587, .iaload, 1)) 44 rfl
theorem dL_law_588 : decode cL_law 588 = .ok (.aload_n 0, 1) := ldc_at ldc_3_ok (q := (588, .aload_n 0, 1)) 45 rfl
theorem dL_law_589 : decode cL_law 589 = .ok (.iload 5, 2) := ldc_at ldc_3_ok (q := (589, .iload 5, 2)) 46 rfl
theorem dL_law_591 : decode cL_law 591 = .ok (.bipush 6, 2) := ldc_at ldc_3_ok (q := (591, .bipush 6, 2)) 47 rfl
def ldc_4 : List (Nat × Jvm.ClassFile.Instr × Nat) := [(593, .iadd, 1), (594, .iaload, 1), (595, .aload_n 3, 1), (596, .invokestatic 156, 3), (599, .istore 6, 2), (601, .aload_n 2, 1), (602, .aload_n 0, 1), (603, .iload 5, 2), (605, .iconst 1, 1), (606, .iadd, 1), (607, .iaload, 1), (608, .aload_n 0, 1), (609, .iload 5, 2), (611, .iconst 2, 1), (612, .iadd, 1), (613, .iaload, 1), (614, .aload_n 0, 1), (615, .iload 5, 2), (617, .iconst 3, 1), (618, .iadd, 1), (619, .iaload, 1), (620, .aload_n 0, 1), (621, .iload 5, 2), (623, .iconst 4, 1), (624, .iadd, 1), (625, .iaload, 1), (626, .aload_n 0, 1), (627, .iload 5, 2), (629, .iconst 5, 1), (630, .iadd, 1), (631, .iaload, 1), (632, .aload_n 0, 1), (633, .iload 5, 2), (635, .bipush 6, 2), (637, .iadd, 1), (638, .iaload, 1), (639, .invokevirtual 159, 3), (642, .istore 7, 2), (644, .aload_n 2, 1), (645, .invokevirtual 153, 3), (648, .iload 6, 2), (650, .if_icmp .eq 5, 3), (655, .iload 6, 2), (657, .ifCond .ne 15, 3), (660, .aload_n 3, 1), (661, .iconst 0, 1), (662, .laload, 1), (663, .iload 7, 2)]
set_option maxRecDepth 100000 in
theorem ldc_4_ok : ldc_4.all (fun q => decide (decode cL_law q.1 = .ok (q.2.1, q.2.2))) = true := by decide +kernel
theorem dL_law_593 : decode cL_law 593 = .ok (.iadd, 1) := ldc_at ldc_4_ok (q := (593, .iadd, 1)) 0 rfl
theorem dL_law_594 : decode cL_law 594 = .ok (.iaload, 1) := ldc_at ldc_4_ok (q := (594, .iaload, 1)) 1 rfl
theorem dL_law_595 : decode cL_law 595 = .ok (.aload_n 3, 1) := ldc_at ldc_4_ok (q := (595, .aload_n 3, 1)) 2 rfl
theorem dL_law_596 : decode cL_law 596 = .ok (.invokestatic 156, 3) := ldc_at ldc_4_ok (q := (596, .invokestatic 156, 3)) 3 rfl
theorem dL_law_599 : decode cL_law 599 = .ok (.istore 6, 2) := ldc_at ldc_4_ok (q := (599, .istore 6, 2)) 4 rfl
theorem dL_law_601 : decode cL_law 601 = .ok (.aload_n 2, 1) := ldc_at ldc_4_ok (q := (601, .aload_n 2, 1)) 5 rfl
theorem dL_law_602 : decode cL_law 602 = .ok (.aload_n 0, 1) := ldc_at ldc_4_ok (q := (602, .aload_n 0, 1)) 6 rfl
theorem dL_law_603 : decode cL_law 603 = .ok (.iload 5, 2) := ldc_at ldc_4_ok (q := (603, .iload 5, 2)) 7 rfl
theorem dL_law_605 : decode cL_law 605 = .ok (.iconst 1, 1) := ldc_at ldc_4_ok (q := (605, .iconst 1, 1)) 8 rfl
theorem dL_law_606 : decode cL_law 606 = .ok (.iadd, 1) := ldc_at ldc_4_ok (q := (606, .iadd, 1)) 9 rfl
theorem dL_law_607 : decode cL_law 607 = .ok (.iaload, 1) := ldc_at ldc_4_ok (q := (607, .iaload, 1)) 10 rfl
theorem dL_law_608 : decode cL_law 608 = .ok (.aload_n 0, 1) := ldc_at ldc_4_ok (q := (608, .aload_n 0, 1)) 11 rfl
theorem dL_law_609 : decode cL_law 609 = .ok (.iload 5, 2) := ldc_at ldc_4_ok (q := (609, .iload 5, 2)) 12 rfl
theorem dL_law_611 : decode cL_law 611 = .ok (.iconst 2, 1) := ldc_at ldc_4_ok (q := (611, .iconst 2, 1)) 13 rfl
theorem dL_law_612 : decode cL_law 612 = .ok (.iadd, 1) := ldc_at ldc_4_ok (q := (612, .iadd, 1)) 14 rfl
theorem dL_law_613 : decode cL_law 613 = .ok (.iaload, 1) := ldc_at ldc_4_ok (q := (613, .iaload, 1)) 15 rfl
theorem dL_law_614 : decode cL_law 614 = .ok (.aload_n 0, 1) := ldc_at ldc_4_ok (q := (614, .aload_n 0, 1)) 16 rfl
theorem dL_law_615 : decode cL_law 615 = .ok (.iload 5, 2) := ldc_at ldc_4_ok (q := (615, .iload 5, 2)) 17 rfl
theorem dL_law_617 : decode cL_law 617 = .ok (.iconst 3, 1) := ldc_at ldc_4_ok (q := (617, .iconst 3, 1)) 18 rfl
theorem dL_law_618 : decode cL_law 618 = .ok (.iadd, 1) := ldc_at ldc_4_ok (q := (618, .iadd, 1)) 19 rfl
theorem dL_law_619 : decode cL_law 619 = .ok (.iaload, 1) := ldc_at ldc_4_ok (q := (619, .iaload, 1)) 20 rfl
theorem dL_law_620 : decode cL_law 620 = .ok (.aload_n 0, 1) := ldc_at ldc_4_ok (q := (620, .aload_n 0, 1)) 21 rfl
theorem dL_law_621 : decode cL_law 621 = .ok (.iload 5, 2) := ldc_at ldc_4_ok (q := (621, .iload 5, 2)) 22 rfl
theorem dL_law_623 : decode cL_law 623 = .ok (.iconst 4, 1) := ldc_at ldc_4_ok (q := (623, .iconst 4, 1)) 23 rfl
theorem dL_law_624 : decode cL_law 624 = .ok (.iadd, 1) := ldc_at ldc_4_ok (q := (624, .iadd, 1)) 24 rfl
theorem dL_law_625 : decode cL_law 625 = .ok (.iaload, 1) := ldc_at ldc_4_ok (q := (625, .iaload, 1)) 25 rfl
theorem dL_law_626 : decode cL_law 626 = .ok (.aload_n 0, 1) := ldc_at ldc_4_ok (q := (626, .aload_n 0, 1)) 26 rfl
theorem dL_law_627 : decode cL_law 627 = .ok (.iload 5, 2) := ldc_at ldc_4_ok (q := (627, .iload 5, 2)) 27 rfl
theorem dL_law_629 : decode cL_law 629 = .ok (.iconst 5, 1) := ldc_at ldc_4_ok (q := (629, .iconst 5, 1)) 28 rfl
theorem dL_law_630 : decode cL_law 630 = .ok (.iadd, 1) := ldc_at ldc_4_ok (q := (630, .iadd, 1)) 29 rfl
theorem dL_law_631 : decode cL_law 631 = .ok (.iaload, 1) := ldc_at ldc_4_ok (q := (631, .iaload, 1)) 30 rfl
theorem dL_law_632 : decode cL_law 632 = .ok (.aload_n 0, 1) := ldc_at ldc_4_ok (q := (632, .aload_n 0, 1)) 31 rfl
theorem dL_law_633 : decode cL_law 633 = .ok (.iload 5, 2) := ldc_at ldc_4_ok (q := (633, .iload 5, 2)) 32 rfl
theorem dL_law_635 : decode cL_law 635 = .ok (.bipush 6, 2) := ldc_at ldc_4_ok (q := (635, .bipush 6, 2)) 33 rfl
theorem dL_law_637 : decode cL_law 637 = .ok (.iadd, 1) := ldc_at ldc_4_ok (q := (637, .iadd, 1)) 34 rfl
theorem dL_law_638 : decode cL_law 638 = .ok (.iaload, 1) := ldc_at ldc_4_ok (q := (638, .iaload, 1)) 35 rfl
theorem dL_law_639 : decode cL_law 639 = .ok (.invokevirtual 159, 3) := ldc_at ldc_4_ok (q := (639, .invokevirtual 159, 3)) 36 rfl
theorem dL_law_642 : decode cL_law 642 = .ok (.istore 7, 2) := ldc_at ldc_4_ok (q := (642, .istore 7, 2)) 37 rfl
theorem dL_law_644 : decode cL_law 644 = .ok (.aload_n 2, 1) := ldc_at ldc_4_ok (q := (644, .aload_n 2, 1)) 38 rfl
theorem dL_law_645 : decode cL_law 645 = .ok (.invokevirtual 153, 3) := ldc_at ldc_4_ok (q := (645, .invokevirtual 153, 3)) 39 rfl
theorem dL_law_648 : decode cL_law 648 = .ok (.iload 6, 2) := ldc_at ldc_4_ok (q := (648, .iload 6, 2)) 40 rfl
theorem dL_law_650 : decode cL_law 650 = .ok (.if_icmp .eq 5, 3) := ldc_at ldc_4_ok (q := (650, .if_icmp .eq 5, 3)) 41 rfl
theorem dL_law_655 : decode cL_law 655 = .ok (.iload 6, 2) := ldc_at ldc_4_ok (q := (655, .iload 6, 2)) 42 rfl
theorem dL_law_657 : decode cL_law 657 = .ok (.ifCond .ne 15, 3) := ldc_at ldc_4_ok (q := (657, .ifCond .ne 15, 3)) 43 rfl
theorem dL_law_660 : decode cL_law 660 = .ok (.aload_n 3, 1) := ldc_at ldc_4_ok (q := (660, .aload_n 3, 1)) 44 rfl
theorem dL_law_661 : decode cL_law 661 = .ok (.iconst 0, 1) := ldc_at ldc_4_ok (q := (661, .iconst 0, 1)) 45 rfl
theorem dL_law_662 : decode cL_law 662 = .ok (.laload, 1) := ldc_at ldc_4_ok (q := (662, .laload, 1)) 46 rfl
theorem dL_law_663 : decode cL_law 663 = .ok (.iload 7, 2) := ldc_at ldc_4_ok (q := (663, .iload 7, 2)) 47 rfl
def ldc_5 : List (Nat × Jvm.ClassFile.Instr × Nat) := [(665, .i2l, 1), (666, .lcmp, 1), (667, .ifCond .eq 5, 3), (670, .iconst 0, 1), (671, .ireturn, 1), (672, .goto 2221, 3), (675, .aload_n 1, 1), (676, .aload_n 0, 1), (677, .iload 5, 2), (679, .iconst 1, 1), (680, .iadd, 1), (681, .iaload, 1), (682, .aload_n 3, 1), (683, .invokestatic 160, 3), (686, .istore 6, 2), (688, .aload_n 2, 1), (689, .aload_n 0, 1), (690, .iload 5, 2), (692, .iconst 1, 1), (693, .iadd, 1), (694, .iaload, 1), (695, .invokevirtual 163, 3), (698, .istore 7, 2), (700, .aload_n 2, 1), (701, .invokevirtual 153, 3), (704, .iload 6, 2), (706, .if_icmp .eq 5, 3), (711, .iload 6, 2), (713, .ifCond .ne 15, 3), (716, .aload_n 3, 1), (717, .iconst 0, 1), (718, .laload, 1), (719, .iload 7, 2), (721, .i2l, 1), (722, .lcmp, 1), (723, .ifCond .eq 5, 3), (728, .goto 2165, 3), (731, .aload_n 1, 1), (732, .invokevirtual 164, 3), (735, .aload_n 2, 1), (736, .invokevirtual 167, 3), (739, .if_icmp .eq 2154, 3), (744, .aload_n 1, 1), (745, .invokevirtual 168, 3), (748, .aload_n 2, 1), (749, .invokevirtual 171, 3), (752, .if_icmp .eq 2141, 3), (757, .aload_n 1, 1)]
set_option maxRecDepth 100000 in
theorem ldc_5_ok : ldc_5.all (fun q => decide (decode cL_law q.1 = .ok (q.2.1, q.2.2))) = true := by decide +kernel
theorem dL_law_665 : decode cL_law 665 = .ok (.i2l, 1) := ldc_at ldc_5_ok (q := (665, .i2l, 1)) 0 rfl
theorem dL_law_666 : decode cL_law 666 = .ok (.lcmp, 1) := ldc_at ldc_5_ok (q := (666, .lcmp, 1)) 1 rfl
theorem dL_law_667 : decode cL_law 667 = .ok (.ifCond .eq 5, 3) := ldc_at ldc_5_ok (q := (667, .ifCond .eq 5, 3)) 2 rfl
theorem dL_law_670 : decode cL_law 670 = .ok (.iconst 0, 1) := ldc_at ldc_5_ok (q := (670, .iconst 0, 1)) 3 rfl
theorem dL_law_671 : decode cL_law 671 = .ok (.ireturn, 1) := ldc_at ldc_5_ok (q := (671, .ireturn, 1)) 4 rfl
theorem dL_law_672 : decode cL_law 672 = .ok (.goto 2221, 3) := ldc_at ldc_5_ok (q := (672, .goto 2221, 3)) 5 rfl
theorem dL_law_675 : decode cL_law 675 = .ok (.aload_n 1, 1) := ldc_at ldc_5_ok (q := (675, .aload_n 1, 1)) 6 rfl
theorem dL_law_676 : decode cL_law 676 = .ok (.aload_n 0, 1) := ldc_at ldc_5_ok (q := (676, .aload_n 0, 1)) 7 rfl
theorem dL_law_677 : decode cL_law 677 = .ok (.iload 5, 2) := ldc_at ldc_5_ok (q := (677, .iload 5, 2)) 8 rfl
theorem dL_law_679 : decode cL_law 679 = .ok (.iconst 1, 1) := ldc_at ldc_5_ok (q := (679, .iconst 1, 1)) 9 rfl
theorem dL_law_680 : decode cL_law 680 = .ok (.iadd, 1) := ldc_at ldc_5_ok (q := (680, .iadd, 1)) 10 rfl
theorem dL_law_681 : decode cL_law 681 = .ok (.iaload, 1) := ldc_at ldc_5_ok (q := (681, .iaload, 1)) 11 rfl
theorem dL_law_682 : decode cL_law 682 = .ok (.aload_n 3, 1) := ldc_at ldc_5_ok (q := (682, .aload_n 3, 1)) 12 rfl
theorem dL_law_683 : decode cL_law 683 = .ok (.invokestatic 160, 3) := ldc_at ldc_5_ok (q := (683, .invokestatic 160, 3)) 13 rfl
theorem dL_law_686 : decode cL_law 686 = .ok (.istore 6, 2) := ldc_at ldc_5_ok (q := (686, .istore 6, 2)) 14 rfl
theorem dL_law_688 : decode cL_law 688 = .ok (.aload_n 2, 1) := ldc_at ldc_5_ok (q := (688, .aload_n 2, 1)) 15 rfl
theorem dL_law_689 : decode cL_law 689 = .ok (.aload_n 0, 1) := ldc_at ldc_5_ok (q := (689, .aload_n 0, 1)) 16 rfl
theorem dL_law_690 : decode cL_law 690 = .ok (.iload 5, 2) := ldc_at ldc_5_ok (q := (690, .iload 5, 2)) 17 rfl
theorem dL_law_692 : decode cL_law 692 = .ok (.iconst 1, 1) := ldc_at ldc_5_ok (q := (692, .iconst 1, 1)) 18 rfl
theorem dL_law_693 : decode cL_law 693 = .ok (.iadd, 1) := ldc_at ldc_5_ok (q := (693, .iadd, 1)) 19 rfl
theorem dL_law_694 : decode cL_law 694 = .ok (.iaload, 1) := ldc_at ldc_5_ok (q := (694, .iaload, 1)) 20 rfl
theorem dL_law_695 : decode cL_law 695 = .ok (.invokevirtual 163, 3) := ldc_at ldc_5_ok (q := (695, .invokevirtual 163, 3)) 21 rfl
theorem dL_law_698 : decode cL_law 698 = .ok (.istore 7, 2) := ldc_at ldc_5_ok (q := (698, .istore 7, 2)) 22 rfl
theorem dL_law_700 : decode cL_law 700 = .ok (.aload_n 2, 1) := ldc_at ldc_5_ok (q := (700, .aload_n 2, 1)) 23 rfl
theorem dL_law_701 : decode cL_law 701 = .ok (.invokevirtual 153, 3) := ldc_at ldc_5_ok (q := (701, .invokevirtual 153, 3)) 24 rfl
theorem dL_law_704 : decode cL_law 704 = .ok (.iload 6, 2) := ldc_at ldc_5_ok (q := (704, .iload 6, 2)) 25 rfl
theorem dL_law_706 : decode cL_law 706 = .ok (.if_icmp .eq 5, 3) := ldc_at ldc_5_ok (q := (706, .if_icmp .eq 5, 3)) 26 rfl
theorem dL_law_711 : decode cL_law 711 = .ok (.iload 6, 2) := ldc_at ldc_5_ok (q := (711, .iload 6, 2)) 27 rfl
theorem dL_law_713 : decode cL_law 713 = .ok (.ifCond .ne 15, 3) := ldc_at ldc_5_ok (q := (713, .ifCond .ne 15, 3)) 28 rfl
theorem dL_law_716 : decode cL_law 716 = .ok (.aload_n 3, 1) := ldc_at ldc_5_ok (q := (716, .aload_n 3, 1)) 29 rfl
theorem dL_law_717 : decode cL_law 717 = .ok (.iconst 0, 1) := ldc_at ldc_5_ok (q := (717, .iconst 0, 1)) 30 rfl
theorem dL_law_718 : decode cL_law 718 = .ok (.laload, 1) := ldc_at ldc_5_ok (q := (718, .laload, 1)) 31 rfl
theorem dL_law_719 : decode cL_law 719 = .ok (.iload 7, 2) := ldc_at ldc_5_ok (q := (719, .iload 7, 2)) 32 rfl
theorem dL_law_721 : decode cL_law 721 = .ok (.i2l, 1) := ldc_at ldc_5_ok (q := (721, .i2l, 1)) 33 rfl
theorem dL_law_722 : decode cL_law 722 = .ok (.lcmp, 1) := ldc_at ldc_5_ok (q := (722, .lcmp, 1)) 34 rfl
theorem dL_law_723 : decode cL_law 723 = .ok (.ifCond .eq 5, 3) := ldc_at ldc_5_ok (q := (723, .ifCond .eq 5, 3)) 35 rfl
theorem dL_law_728 : decode cL_law 728 = .ok (.goto 2165, 3) := ldc_at ldc_5_ok (q := (728, .goto 2165, 3)) 36 rfl
theorem dL_law_731 : decode cL_law 731 = .ok (.aload_n 1, 1) := ldc_at ldc_5_ok (q := (731, .aload_n 1, 1)) 37 rfl
theorem dL_law_732 : decode cL_law 732 = .ok (.invokevirtual 164, 3) := ldc_at ldc_5_ok (q := (732, .invokevirtual 164, 3)) 38 rfl
theorem dL_law_735 : decode cL_law 735 = .ok (.aload_n 2, 1) := ldc_at ldc_5_ok (q := (735, .aload_n 2, 1)) 39 rfl
theorem dL_law_736 : decode cL_law 736 = .ok (.invokevirtual 167, 3) := ldc_at ldc_5_ok (q := (736, .invokevirtual 167, 3)) 40 rfl
theorem dL_law_739 : decode cL_law 739 = .ok (.if_icmp .eq 2154, 3) := ldc_at ldc_5_ok (q := (739, .if_icmp .eq 2154, 3)) 41 rfl
theorem dL_law_744 : decode cL_law 744 = .ok (.aload_n 1, 1) := ldc_at ldc_5_ok (q := (744, .aload_n 1, 1)) 42 rfl
theorem dL_law_745 : decode cL_law 745 = .ok (.invokevirtual 168, 3) := ldc_at ldc_5_ok (q := (745, .invokevirtual 168, 3)) 43 rfl
theorem dL_law_748 : decode cL_law 748 = .ok (.aload_n 2, 1) := ldc_at ldc_5_ok (q := (748, .aload_n 2, 1)) 44 rfl
theorem dL_law_749 : decode cL_law 749 = .ok (.invokevirtual 171, 3) := ldc_at ldc_5_ok (q := (749, .invokevirtual 171, 3)) 45 rfl
theorem dL_law_752 : decode cL_law 752 = .ok (.if_icmp .eq 2141, 3) := ldc_at ldc_5_ok (q := (752, .if_icmp .eq 2141, 3)) 46 rfl
theorem dL_law_757 : decode cL_law 757 = .ok (.aload_n 1, 1) := ldc_at ldc_5_ok (q := (757, .aload_n 1, 1)) 47 rfl
def ldc_6 : List (Nat × Jvm.ClassFile.Instr × Nat) := [(758, .aload_n 0, 1), (759, .iload 5, 2), (761, .iconst 1, 1), (762, .iadd, 1), (763, .iaload, 1), (764, .aload_n 0, 1), (765, .iload 5, 2), (767, .iconst 2, 1), (768, .iadd, 1), (769, .iaload, 1), (770, .aload_n 3, 1), (771, .invokestatic 172, 3), (774, .istore 6, 2), (776, .aload_n 2, 1), (777, .aload_n 0, 1), (778, .iload 5, 2), (780, .iconst 1, 1), (781, .iadd, 1), (782, .iaload, 1), (783, .aload_n 0, 1), (784, .iload 5, 2), (786, .iconst 2, 1), (787, .iadd, 1), (788, .iaload, 1), (789, .invokevirtual 175, 3), (792, .lstore 7, 2), (794, .aload_n 2, 1), (795, .invokevirtual 153, 3), (798, .iload 6, 2), (800, .if_icmp .eq 5, 3), (805, .iload 6, 2), (807, .ifCond .ne 14, 3), (821, .goto 2072, 3), (824, .aload_n 1, 1), (825, .invokevirtual 176, 3), (828, .aload_n 2, 1), (829, .invokevirtual 179, 3), (832, .if_icmp .eq 2061, 3), (837, .aload_n 1, 1), (838, .invokevirtual 180, 3), (841, .aload_n 2, 1), (842, .invokevirtual 183, 3), (845, .if_icmp .eq 2048, 3), (850, .aload_n 1, 1), (851, .aload_n 0, 1), (852, .iload 5, 2), (854, .iconst 1, 1), (855, .iadd, 1)]
set_option maxRecDepth 100000 in
theorem ldc_6_ok : ldc_6.all (fun q => decide (decode cL_law q.1 = .ok (q.2.1, q.2.2))) = true := by decide +kernel
theorem dL_law_758 : decode cL_law 758 = .ok (.aload_n 0, 1) := ldc_at ldc_6_ok (q := (758, .aload_n 0, 1)) 0 rfl
theorem dL_law_759 : decode cL_law 759 = .ok (.iload 5, 2) := ldc_at ldc_6_ok (q := (759, .iload 5, 2)) 1 rfl
theorem dL_law_761 : decode cL_law 761 = .ok (.iconst 1, 1) := ldc_at ldc_6_ok (q := (761, .iconst 1, 1)) 2 rfl
theorem dL_law_762 : decode cL_law 762 = .ok (.iadd, 1) := ldc_at ldc_6_ok (q := (762, .iadd, 1)) 3 rfl
theorem dL_law_763 : decode cL_law 763 = .ok (.iaload, 1) := ldc_at ldc_6_ok (q := (763, .iaload, 1)) 4 rfl
theorem dL_law_764 : decode cL_law 764 = .ok (.aload_n 0, 1) := ldc_at ldc_6_ok (q := (764, .aload_n 0, 1)) 5 rfl
theorem dL_law_765 : decode cL_law 765 = .ok (.iload 5, 2) := ldc_at ldc_6_ok (q := (765, .iload 5, 2)) 6 rfl
theorem dL_law_767 : decode cL_law 767 = .ok (.iconst 2, 1) := ldc_at ldc_6_ok (q := (767, .iconst 2, 1)) 7 rfl
theorem dL_law_768 : decode cL_law 768 = .ok (.iadd, 1) := ldc_at ldc_6_ok (q := (768, .iadd, 1)) 8 rfl
theorem dL_law_769 : decode cL_law 769 = .ok (.iaload, 1) := ldc_at ldc_6_ok (q := (769, .iaload, 1)) 9 rfl
theorem dL_law_770 : decode cL_law 770 = .ok (.aload_n 3, 1) := ldc_at ldc_6_ok (q := (770, .aload_n 3, 1)) 10 rfl
theorem dL_law_771 : decode cL_law 771 = .ok (.invokestatic 172, 3) := ldc_at ldc_6_ok (q := (771, .invokestatic 172, 3)) 11 rfl
theorem dL_law_774 : decode cL_law 774 = .ok (.istore 6, 2) := ldc_at ldc_6_ok (q := (774, .istore 6, 2)) 12 rfl
theorem dL_law_776 : decode cL_law 776 = .ok (.aload_n 2, 1) := ldc_at ldc_6_ok (q := (776, .aload_n 2, 1)) 13 rfl
theorem dL_law_777 : decode cL_law 777 = .ok (.aload_n 0, 1) := ldc_at ldc_6_ok (q := (777, .aload_n 0, 1)) 14 rfl
theorem dL_law_778 : decode cL_law 778 = .ok (.iload 5, 2) := ldc_at ldc_6_ok (q := (778, .iload 5, 2)) 15 rfl
theorem dL_law_780 : decode cL_law 780 = .ok (.iconst 1, 1) := ldc_at ldc_6_ok (q := (780, .iconst 1, 1)) 16 rfl
theorem dL_law_781 : decode cL_law 781 = .ok (.iadd, 1) := ldc_at ldc_6_ok (q := (781, .iadd, 1)) 17 rfl
theorem dL_law_782 : decode cL_law 782 = .ok (.iaload, 1) := ldc_at ldc_6_ok (q := (782, .iaload, 1)) 18 rfl
theorem dL_law_783 : decode cL_law 783 = .ok (.aload_n 0, 1) := ldc_at ldc_6_ok (q := (783, .aload_n 0, 1)) 19 rfl
theorem dL_law_784 : decode cL_law 784 = .ok (.iload 5, 2) := ldc_at ldc_6_ok (q := (784, .iload 5, 2)) 20 rfl
theorem dL_law_786 : decode cL_law 786 = .ok (.iconst 2, 1) := ldc_at ldc_6_ok (q := (786, .iconst 2, 1)) 21 rfl
theorem dL_law_787 : decode cL_law 787 = .ok (.iadd, 1) := ldc_at ldc_6_ok (q := (787, .iadd, 1)) 22 rfl
theorem dL_law_788 : decode cL_law 788 = .ok (.iaload, 1) := ldc_at ldc_6_ok (q := (788, .iaload, 1)) 23 rfl
theorem dL_law_789 : decode cL_law 789 = .ok (.invokevirtual 175, 3) := ldc_at ldc_6_ok (q := (789, .invokevirtual 175, 3)) 24 rfl
theorem dL_law_792 : decode cL_law 792 = .ok (.lstore 7, 2) := ldc_at ldc_6_ok (q := (792, .lstore 7, 2)) 25 rfl
theorem dL_law_794 : decode cL_law 794 = .ok (.aload_n 2, 1) := ldc_at ldc_6_ok (q := (794, .aload_n 2, 1)) 26 rfl
theorem dL_law_795 : decode cL_law 795 = .ok (.invokevirtual 153, 3) := ldc_at ldc_6_ok (q := (795, .invokevirtual 153, 3)) 27 rfl
theorem dL_law_798 : decode cL_law 798 = .ok (.iload 6, 2) := ldc_at ldc_6_ok (q := (798, .iload 6, 2)) 28 rfl
theorem dL_law_800 : decode cL_law 800 = .ok (.if_icmp .eq 5, 3) := ldc_at ldc_6_ok (q := (800, .if_icmp .eq 5, 3)) 29 rfl
theorem dL_law_805 : decode cL_law 805 = .ok (.iload 6, 2) := ldc_at ldc_6_ok (q := (805, .iload 6, 2)) 30 rfl
theorem dL_law_807 : decode cL_law 807 = .ok (.ifCond .ne 14, 3) := ldc_at ldc_6_ok (q := (807, .ifCond .ne 14, 3)) 31 rfl
theorem dL_law_821 : decode cL_law 821 = .ok (.goto 2072, 3) := ldc_at ldc_6_ok (q := (821, .goto 2072, 3)) 32 rfl
theorem dL_law_824 : decode cL_law 824 = .ok (.aload_n 1, 1) := ldc_at ldc_6_ok (q := (824, .aload_n 1, 1)) 33 rfl
theorem dL_law_825 : decode cL_law 825 = .ok (.invokevirtual 176, 3) := ldc_at ldc_6_ok (q := (825, .invokevirtual 176, 3)) 34 rfl
theorem dL_law_828 : decode cL_law 828 = .ok (.aload_n 2, 1) := ldc_at ldc_6_ok (q := (828, .aload_n 2, 1)) 35 rfl
theorem dL_law_829 : decode cL_law 829 = .ok (.invokevirtual 179, 3) := ldc_at ldc_6_ok (q := (829, .invokevirtual 179, 3)) 36 rfl
theorem dL_law_832 : decode cL_law 832 = .ok (.if_icmp .eq 2061, 3) := ldc_at ldc_6_ok (q := (832, .if_icmp .eq 2061, 3)) 37 rfl
theorem dL_law_837 : decode cL_law 837 = .ok (.aload_n 1, 1) := ldc_at ldc_6_ok (q := (837, .aload_n 1, 1)) 38 rfl
theorem dL_law_838 : decode cL_law 838 = .ok (.invokevirtual 180, 3) := ldc_at ldc_6_ok (q := (838, .invokevirtual 180, 3)) 39 rfl
theorem dL_law_841 : decode cL_law 841 = .ok (.aload_n 2, 1) := ldc_at ldc_6_ok (q := (841, .aload_n 2, 1)) 40 rfl
theorem dL_law_842 : decode cL_law 842 = .ok (.invokevirtual 183, 3) := ldc_at ldc_6_ok (q := (842, .invokevirtual 183, 3)) 41 rfl
theorem dL_law_845 : decode cL_law 845 = .ok (.if_icmp .eq 2048, 3) := ldc_at ldc_6_ok (q := (845, .if_icmp .eq 2048, 3)) 42 rfl
theorem dL_law_850 : decode cL_law 850 = .ok (.aload_n 1, 1) := ldc_at ldc_6_ok (q := (850, .aload_n 1, 1)) 43 rfl
theorem dL_law_851 : decode cL_law 851 = .ok (.aload_n 0, 1) := ldc_at ldc_6_ok (q := (851, .aload_n 0, 1)) 44 rfl
theorem dL_law_852 : decode cL_law 852 = .ok (.iload 5, 2) := ldc_at ldc_6_ok (q := (852, .iload 5, 2)) 45 rfl
theorem dL_law_854 : decode cL_law 854 = .ok (.iconst 1, 1) := ldc_at ldc_6_ok (q := (854, .iconst 1, 1)) 46 rfl
theorem dL_law_855 : decode cL_law 855 = .ok (.iadd, 1) := ldc_at ldc_6_ok (q := (855, .iadd, 1)) 47 rfl
def ldc_7 : List (Nat × Jvm.ClassFile.Instr × Nat) := [(856, .iaload, 1), (857, .invokevirtual 184, 3), (860, .aload_n 2, 1), (861, .aload_n 0, 1), (862, .iload 5, 2), (864, .iconst 1, 1), (865, .iadd, 1), (866, .iaload, 1), (867, .invokevirtual 187, 3), (870, .if_icmp .eq 2023, 3), (875, .aload_n 1, 1), (876, .aload_n 0, 1), (877, .iload 5, 2), (879, .iconst 1, 1), (880, .iadd, 1), (881, .iaload, 1), (882, .ifCond .eq 7, 3), (885, .iconst 1, 1), (886, .goto 4, 3), (889, .iconst 0, 1), (890, .invokevirtual 188, 3), (893, .aload_n 2, 1), (894, .aload_n 0, 1), (895, .iload 5, 2), (897, .iconst 1, 1), (898, .iadd, 1), (899, .iaload, 1), (900, .ifCond .eq 7, 3), (903, .iconst 1, 1), (904, .goto 4, 3), (907, .iconst 0, 1), (908, .invokevirtual 192, 3), (911, .if_icmp .eq 1982, 3), (916, .aload_n 1, 1), (917, .aload_n 0, 1), (918, .iload 5, 2), (920, .iconst 1, 1), (921, .iadd, 1), (922, .iaload, 1), (923, .invokevirtual 193, 3), (926, .aload_n 2, 1), (927, .aload_n 0, 1), (928, .iload 5, 2), (930, .iconst 1, 1), (931, .iadd, 1), (932, .iaload, 1), (933, .invokevirtual 196, 3), (936, .if_icmp .eq 1957, 3)]
set_option maxRecDepth 100000 in
theorem ldc_7_ok : ldc_7.all (fun q => decide (decode cL_law q.1 = .ok (q.2.1, q.2.2))) = true := by decide +kernel
theorem dL_law_856 : decode cL_law 856 = .ok (.iaload, 1) := ldc_at ldc_7_ok (q := (856, .iaload, 1)) 0 rfl
theorem dL_law_857 : decode cL_law 857 = .ok (.invokevirtual 184, 3) := ldc_at ldc_7_ok (q := (857, .invokevirtual 184, 3)) 1 rfl
theorem dL_law_860 : decode cL_law 860 = .ok (.aload_n 2, 1) := ldc_at ldc_7_ok (q := (860, .aload_n 2, 1)) 2 rfl
theorem dL_law_861 : decode cL_law 861 = .ok (.aload_n 0, 1) := ldc_at ldc_7_ok (q := (861, .aload_n 0, 1)) 3 rfl
theorem dL_law_862 : decode cL_law 862 = .ok (.iload 5, 2) := ldc_at ldc_7_ok (q := (862, .iload 5, 2)) 4 rfl
theorem dL_law_864 : decode cL_law 864 = .ok (.iconst 1, 1) := ldc_at ldc_7_ok (q := (864, .iconst 1, 1)) 5 rfl
theorem dL_law_865 : decode cL_law 865 = .ok (.iadd, 1) := ldc_at ldc_7_ok (q := (865, .iadd, 1)) 6 rfl
theorem dL_law_866 : decode cL_law 866 = .ok (.iaload, 1) := ldc_at ldc_7_ok (q := (866, .iaload, 1)) 7 rfl
theorem dL_law_867 : decode cL_law 867 = .ok (.invokevirtual 187, 3) := ldc_at ldc_7_ok (q := (867, .invokevirtual 187, 3)) 8 rfl
theorem dL_law_870 : decode cL_law 870 = .ok (.if_icmp .eq 2023, 3) := ldc_at ldc_7_ok (q := (870, .if_icmp .eq 2023, 3)) 9 rfl
theorem dL_law_875 : decode cL_law 875 = .ok (.aload_n 1, 1) := ldc_at ldc_7_ok (q := (875, .aload_n 1, 1)) 10 rfl
theorem dL_law_876 : decode cL_law 876 = .ok (.aload_n 0, 1) := ldc_at ldc_7_ok (q := (876, .aload_n 0, 1)) 11 rfl
theorem dL_law_877 : decode cL_law 877 = .ok (.iload 5, 2) := ldc_at ldc_7_ok (q := (877, .iload 5, 2)) 12 rfl
theorem dL_law_879 : decode cL_law 879 = .ok (.iconst 1, 1) := ldc_at ldc_7_ok (q := (879, .iconst 1, 1)) 13 rfl
theorem dL_law_880 : decode cL_law 880 = .ok (.iadd, 1) := ldc_at ldc_7_ok (q := (880, .iadd, 1)) 14 rfl
theorem dL_law_881 : decode cL_law 881 = .ok (.iaload, 1) := ldc_at ldc_7_ok (q := (881, .iaload, 1)) 15 rfl
theorem dL_law_882 : decode cL_law 882 = .ok (.ifCond .eq 7, 3) := ldc_at ldc_7_ok (q := (882, .ifCond .eq 7, 3)) 16 rfl
theorem dL_law_885 : decode cL_law 885 = .ok (.iconst 1, 1) := ldc_at ldc_7_ok (q := (885, .iconst 1, 1)) 17 rfl
theorem dL_law_886 : decode cL_law 886 = .ok (.goto 4, 3) := ldc_at ldc_7_ok (q := (886, .goto 4, 3)) 18 rfl
theorem dL_law_889 : decode cL_law 889 = .ok (.iconst 0, 1) := ldc_at ldc_7_ok (q := (889, .iconst 0, 1)) 19 rfl
theorem dL_law_890 : decode cL_law 890 = .ok (.invokevirtual 188, 3) := ldc_at ldc_7_ok (q := (890, .invokevirtual 188, 3)) 20 rfl
theorem dL_law_893 : decode cL_law 893 = .ok (.aload_n 2, 1) := ldc_at ldc_7_ok (q := (893, .aload_n 2, 1)) 21 rfl
theorem dL_law_894 : decode cL_law 894 = .ok (.aload_n 0, 1) := ldc_at ldc_7_ok (q := (894, .aload_n 0, 1)) 22 rfl
theorem dL_law_895 : decode cL_law 895 = .ok (.iload 5, 2) := ldc_at ldc_7_ok (q := (895, .iload 5, 2)) 23 rfl
theorem dL_law_897 : decode cL_law 897 = .ok (.iconst 1, 1) := ldc_at ldc_7_ok (q := (897, .iconst 1, 1)) 24 rfl
theorem dL_law_898 : decode cL_law 898 = .ok (.iadd, 1) := ldc_at ldc_7_ok (q := (898, .iadd, 1)) 25 rfl
theorem dL_law_899 : decode cL_law 899 = .ok (.iaload, 1) := ldc_at ldc_7_ok (q := (899, .iaload, 1)) 26 rfl
theorem dL_law_900 : decode cL_law 900 = .ok (.ifCond .eq 7, 3) := ldc_at ldc_7_ok (q := (900, .ifCond .eq 7, 3)) 27 rfl
theorem dL_law_903 : decode cL_law 903 = .ok (.iconst 1, 1) := ldc_at ldc_7_ok (q := (903, .iconst 1, 1)) 28 rfl
theorem dL_law_904 : decode cL_law 904 = .ok (.goto 4, 3) := ldc_at ldc_7_ok (q := (904, .goto 4, 3)) 29 rfl
theorem dL_law_907 : decode cL_law 907 = .ok (.iconst 0, 1) := ldc_at ldc_7_ok (q := (907, .iconst 0, 1)) 30 rfl
theorem dL_law_908 : decode cL_law 908 = .ok (.invokevirtual 192, 3) := ldc_at ldc_7_ok (q := (908, .invokevirtual 192, 3)) 31 rfl
theorem dL_law_911 : decode cL_law 911 = .ok (.if_icmp .eq 1982, 3) := ldc_at ldc_7_ok (q := (911, .if_icmp .eq 1982, 3)) 32 rfl
theorem dL_law_916 : decode cL_law 916 = .ok (.aload_n 1, 1) := ldc_at ldc_7_ok (q := (916, .aload_n 1, 1)) 33 rfl
theorem dL_law_917 : decode cL_law 917 = .ok (.aload_n 0, 1) := ldc_at ldc_7_ok (q := (917, .aload_n 0, 1)) 34 rfl
theorem dL_law_918 : decode cL_law 918 = .ok (.iload 5, 2) := ldc_at ldc_7_ok (q := (918, .iload 5, 2)) 35 rfl
theorem dL_law_920 : decode cL_law 920 = .ok (.iconst 1, 1) := ldc_at ldc_7_ok (q := (920, .iconst 1, 1)) 36 rfl
theorem dL_law_921 : decode cL_law 921 = .ok (.iadd, 1) := ldc_at ldc_7_ok (q := (921, .iadd, 1)) 37 rfl
theorem dL_law_922 : decode cL_law 922 = .ok (.iaload, 1) := ldc_at ldc_7_ok (q := (922, .iaload, 1)) 38 rfl
theorem dL_law_923 : decode cL_law 923 = .ok (.invokevirtual 193, 3) := ldc_at ldc_7_ok (q := (923, .invokevirtual 193, 3)) 39 rfl
theorem dL_law_926 : decode cL_law 926 = .ok (.aload_n 2, 1) := ldc_at ldc_7_ok (q := (926, .aload_n 2, 1)) 40 rfl
theorem dL_law_927 : decode cL_law 927 = .ok (.aload_n 0, 1) := ldc_at ldc_7_ok (q := (927, .aload_n 0, 1)) 41 rfl
theorem dL_law_928 : decode cL_law 928 = .ok (.iload 5, 2) := ldc_at ldc_7_ok (q := (928, .iload 5, 2)) 42 rfl
theorem dL_law_930 : decode cL_law 930 = .ok (.iconst 1, 1) := ldc_at ldc_7_ok (q := (930, .iconst 1, 1)) 43 rfl
theorem dL_law_931 : decode cL_law 931 = .ok (.iadd, 1) := ldc_at ldc_7_ok (q := (931, .iadd, 1)) 44 rfl
theorem dL_law_932 : decode cL_law 932 = .ok (.iaload, 1) := ldc_at ldc_7_ok (q := (932, .iaload, 1)) 45 rfl
theorem dL_law_933 : decode cL_law 933 = .ok (.invokevirtual 196, 3) := ldc_at ldc_7_ok (q := (933, .invokevirtual 196, 3)) 46 rfl
theorem dL_law_936 : decode cL_law 936 = .ok (.if_icmp .eq 1957, 3) := ldc_at ldc_7_ok (q := (936, .if_icmp .eq 1957, 3)) 47 rfl
def ldc_8 : List (Nat × Jvm.ClassFile.Instr × Nat) := [(941, .aload_n 1, 1), (942, .invokevirtual 197, 3), (945, .aload_n 2, 1), (946, .invokevirtual 200, 3), (949, .if_icmp .eq 1944, 3), (954, .aload_n 1, 1), (955, .aload_n 0, 1), (956, .iload 5, 2), (958, .iconst 1, 1), (959, .iadd, 1), (960, .iaload, 1), (961, .aload_n 3, 1), (962, .invokestatic 201, 3), (965, .istore 6, 2), (967, .aload_n 2, 1), (968, .aload_n 0, 1), (969, .iload 5, 2), (971, .iconst 1, 1), (972, .iadd, 1), (973, .iaload, 1), (974, .invokevirtual 203, 3), (977, .istore 7, 2), (979, .aload_n 2, 1), (980, .invokevirtual 153, 3), (983, .iload 6, 2), (985, .if_icmp .eq 5, 3), (990, .iload 6, 2), (992, .ifCond .ne 15, 3), (995, .aload_n 3, 1), (996, .iconst 0, 1), (997, .laload, 1), (998, .iload 7, 2), (1000, .i2l, 1), (1001, .lcmp, 1), (1002, .ifCond .eq 5, 3), (1007, .goto 1886, 3), (1010, .aload_n 1, 1), (1011, .aload_n 0, 1), (1012, .iload 5, 2), (1014, .iconst 1, 1), (1015, .iadd, 1), (1016, .iaload, 1), (1017, .aload_n 3, 1), (1018, .invokestatic 204, 3), (1021, .istore 6, 2), (1023, .aload_n 2, 1), (1024, .aload_n 0, 1), (1025, .iload 5, 2)]
set_option maxRecDepth 100000 in
theorem ldc_8_ok : ldc_8.all (fun q => decide (decode cL_law q.1 = .ok (q.2.1, q.2.2))) = true := by decide +kernel
theorem dL_law_941 : decode cL_law 941 = .ok (.aload_n 1, 1) := ldc_at ldc_8_ok (q := (941, .aload_n 1, 1)) 0 rfl
theorem dL_law_942 : decode cL_law 942 = .ok (.invokevirtual 197, 3) := ldc_at ldc_8_ok (q := (942, .invokevirtual 197, 3)) 1 rfl
theorem dL_law_945 : decode cL_law 945 = .ok (.aload_n 2, 1) := ldc_at ldc_8_ok (q := (945, .aload_n 2, 1)) 2 rfl
theorem dL_law_946 : decode cL_law 946 = .ok (.invokevirtual 200, 3) := ldc_at ldc_8_ok (q := (946, .invokevirtual 200, 3)) 3 rfl
theorem dL_law_949 : decode cL_law 949 = .ok (.if_icmp .eq 1944, 3) := ldc_at ldc_8_ok (q := (949, .if_icmp .eq 1944, 3)) 4 rfl
theorem dL_law_954 : decode cL_law 954 = .ok (.aload_n 1, 1) := ldc_at ldc_8_ok (q := (954, .aload_n 1, 1)) 5 rfl
theorem dL_law_955 : decode cL_law 955 = .ok (.aload_n 0, 1) := ldc_at ldc_8_ok (q := (955, .aload_n 0, 1)) 6 rfl
theorem dL_law_956 : decode cL_law 956 = .ok (.iload 5, 2) := ldc_at ldc_8_ok (q := (956, .iload 5, 2)) 7 rfl
theorem dL_law_958 : decode cL_law 958 = .ok (.iconst 1, 1) := ldc_at ldc_8_ok (q := (958, .iconst 1, 1)) 8 rfl
theorem dL_law_959 : decode cL_law 959 = .ok (.iadd, 1) := ldc_at ldc_8_ok (q := (959, .iadd, 1)) 9 rfl
theorem dL_law_960 : decode cL_law 960 = .ok (.iaload, 1) := ldc_at ldc_8_ok (q := (960, .iaload, 1)) 10 rfl
theorem dL_law_961 : decode cL_law 961 = .ok (.aload_n 3, 1) := ldc_at ldc_8_ok (q := (961, .aload_n 3, 1)) 11 rfl
theorem dL_law_962 : decode cL_law 962 = .ok (.invokestatic 201, 3) := ldc_at ldc_8_ok (q := (962, .invokestatic 201, 3)) 12 rfl
theorem dL_law_965 : decode cL_law 965 = .ok (.istore 6, 2) := ldc_at ldc_8_ok (q := (965, .istore 6, 2)) 13 rfl
theorem dL_law_967 : decode cL_law 967 = .ok (.aload_n 2, 1) := ldc_at ldc_8_ok (q := (967, .aload_n 2, 1)) 14 rfl
theorem dL_law_968 : decode cL_law 968 = .ok (.aload_n 0, 1) := ldc_at ldc_8_ok (q := (968, .aload_n 0, 1)) 15 rfl
theorem dL_law_969 : decode cL_law 969 = .ok (.iload 5, 2) := ldc_at ldc_8_ok (q := (969, .iload 5, 2)) 16 rfl
theorem dL_law_971 : decode cL_law 971 = .ok (.iconst 1, 1) := ldc_at ldc_8_ok (q := (971, .iconst 1, 1)) 17 rfl
theorem dL_law_972 : decode cL_law 972 = .ok (.iadd, 1) := ldc_at ldc_8_ok (q := (972, .iadd, 1)) 18 rfl
theorem dL_law_973 : decode cL_law 973 = .ok (.iaload, 1) := ldc_at ldc_8_ok (q := (973, .iaload, 1)) 19 rfl
theorem dL_law_974 : decode cL_law 974 = .ok (.invokevirtual 203, 3) := ldc_at ldc_8_ok (q := (974, .invokevirtual 203, 3)) 20 rfl
theorem dL_law_977 : decode cL_law 977 = .ok (.istore 7, 2) := ldc_at ldc_8_ok (q := (977, .istore 7, 2)) 21 rfl
theorem dL_law_979 : decode cL_law 979 = .ok (.aload_n 2, 1) := ldc_at ldc_8_ok (q := (979, .aload_n 2, 1)) 22 rfl
theorem dL_law_980 : decode cL_law 980 = .ok (.invokevirtual 153, 3) := ldc_at ldc_8_ok (q := (980, .invokevirtual 153, 3)) 23 rfl
theorem dL_law_983 : decode cL_law 983 = .ok (.iload 6, 2) := ldc_at ldc_8_ok (q := (983, .iload 6, 2)) 24 rfl
theorem dL_law_985 : decode cL_law 985 = .ok (.if_icmp .eq 5, 3) := ldc_at ldc_8_ok (q := (985, .if_icmp .eq 5, 3)) 25 rfl
theorem dL_law_990 : decode cL_law 990 = .ok (.iload 6, 2) := ldc_at ldc_8_ok (q := (990, .iload 6, 2)) 26 rfl
theorem dL_law_992 : decode cL_law 992 = .ok (.ifCond .ne 15, 3) := ldc_at ldc_8_ok (q := (992, .ifCond .ne 15, 3)) 27 rfl
theorem dL_law_995 : decode cL_law 995 = .ok (.aload_n 3, 1) := ldc_at ldc_8_ok (q := (995, .aload_n 3, 1)) 28 rfl
theorem dL_law_996 : decode cL_law 996 = .ok (.iconst 0, 1) := ldc_at ldc_8_ok (q := (996, .iconst 0, 1)) 29 rfl
theorem dL_law_997 : decode cL_law 997 = .ok (.laload, 1) := ldc_at ldc_8_ok (q := (997, .laload, 1)) 30 rfl
theorem dL_law_998 : decode cL_law 998 = .ok (.iload 7, 2) := ldc_at ldc_8_ok (q := (998, .iload 7, 2)) 31 rfl
theorem dL_law_1000 : decode cL_law 1000 = .ok (.i2l, 1) := ldc_at ldc_8_ok (q := (1000, .i2l, 1)) 32 rfl
theorem dL_law_1001 : decode cL_law 1001 = .ok (.lcmp, 1) := ldc_at ldc_8_ok (q := (1001, .lcmp, 1)) 33 rfl
theorem dL_law_1002 : decode cL_law 1002 = .ok (.ifCond .eq 5, 3) := ldc_at ldc_8_ok (q := (1002, .ifCond .eq 5, 3)) 34 rfl
theorem dL_law_1007 : decode cL_law 1007 = .ok (.goto 1886, 3) := ldc_at ldc_8_ok (q := (1007, .goto 1886, 3)) 35 rfl
theorem dL_law_1010 : decode cL_law 1010 = .ok (.aload_n 1, 1) := ldc_at ldc_8_ok (q := (1010, .aload_n 1, 1)) 36 rfl
theorem dL_law_1011 : decode cL_law 1011 = .ok (.aload_n 0, 1) := ldc_at ldc_8_ok (q := (1011, .aload_n 0, 1)) 37 rfl
theorem dL_law_1012 : decode cL_law 1012 = .ok (.iload 5, 2) := ldc_at ldc_8_ok (q := (1012, .iload 5, 2)) 38 rfl
theorem dL_law_1014 : decode cL_law 1014 = .ok (.iconst 1, 1) := ldc_at ldc_8_ok (q := (1014, .iconst 1, 1)) 39 rfl
theorem dL_law_1015 : decode cL_law 1015 = .ok (.iadd, 1) := ldc_at ldc_8_ok (q := (1015, .iadd, 1)) 40 rfl
theorem dL_law_1016 : decode cL_law 1016 = .ok (.iaload, 1) := ldc_at ldc_8_ok (q := (1016, .iaload, 1)) 41 rfl
theorem dL_law_1017 : decode cL_law 1017 = .ok (.aload_n 3, 1) := ldc_at ldc_8_ok (q := (1017, .aload_n 3, 1)) 42 rfl
theorem dL_law_1018 : decode cL_law 1018 = .ok (.invokestatic 204, 3) := ldc_at ldc_8_ok (q := (1018, .invokestatic 204, 3)) 43 rfl
theorem dL_law_1021 : decode cL_law 1021 = .ok (.istore 6, 2) := ldc_at ldc_8_ok (q := (1021, .istore 6, 2)) 44 rfl
theorem dL_law_1023 : decode cL_law 1023 = .ok (.aload_n 2, 1) := ldc_at ldc_8_ok (q := (1023, .aload_n 2, 1)) 45 rfl
theorem dL_law_1024 : decode cL_law 1024 = .ok (.aload_n 0, 1) := ldc_at ldc_8_ok (q := (1024, .aload_n 0, 1)) 46 rfl
theorem dL_law_1025 : decode cL_law 1025 = .ok (.iload 5, 2) := ldc_at ldc_8_ok (q := (1025, .iload 5, 2)) 47 rfl
def ldc_9 : List (Nat × Jvm.ClassFile.Instr × Nat) := [(1027, .iconst 1, 1), (1028, .iadd, 1), (1029, .iaload, 1), (1030, .invokevirtual 206, 3), (1033, .istore 7, 2), (1035, .aload_n 2, 1), (1036, .invokevirtual 153, 3), (1039, .iload 6, 2), (1041, .if_icmp .eq 5, 3), (1046, .iload 6, 2), (1048, .ifCond .ne 15, 3), (1051, .aload_n 3, 1), (1052, .iconst 0, 1), (1053, .laload, 1), (1054, .iload 7, 2), (1056, .i2l, 1), (1057, .lcmp, 1), (1058, .ifCond .eq 5, 3), (1063, .goto 1830, 3), (1066, .aload_n 1, 1), (1067, .aload_n 0, 1), (1068, .iload 5, 2), (1070, .iconst 1, 1), (1071, .iadd, 1), (1072, .iaload, 1), (1073, .aload_n 0, 1), (1074, .iload 5, 2), (1076, .iconst 2, 1), (1077, .iadd, 1), (1078, .iaload, 1), (1079, .aload_n 3, 1), (1080, .invokestatic 207, 3), (1083, .istore 6, 2), (1085, .aload_n 2, 1), (1086, .aload_n 0, 1), (1087, .iload 5, 2), (1089, .iconst 1, 1), (1090, .iadd, 1), (1091, .iaload, 1), (1092, .aload_n 0, 1), (1093, .iload 5, 2), (1095, .iconst 2, 1), (1096, .iadd, 1), (1097, .iaload, 1), (1098, .invokevirtual 209, 3), (1101, .istore 7, 2), (1103, .aload_n 2, 1), (1104, .invokevirtual 153, 3)]
set_option maxRecDepth 100000 in
theorem ldc_9_ok : ldc_9.all (fun q => decide (decode cL_law q.1 = .ok (q.2.1, q.2.2))) = true := by decide +kernel
theorem dL_law_1027 : decode cL_law 1027 = .ok (.iconst 1, 1) := ldc_at ldc_9_ok (q := (1027, .iconst 1, 1)) 0 rfl
theorem dL_law_1028 : decode cL_law 1028 = .ok (.iadd, 1) := ldc_at ldc_9_ok (q := (1028, .iadd, 1)) 1 rfl
theorem dL_law_1029 : decode cL_law 1029 = .ok (.iaload, 1) := ldc_at ldc_9_ok (q := (1029, .iaload, 1)) 2 rfl
theorem dL_law_1030 : decode cL_law 1030 = .ok (.invokevirtual 206, 3) := ldc_at ldc_9_ok (q := (1030, .invokevirtual 206, 3)) 3 rfl
theorem dL_law_1033 : decode cL_law 1033 = .ok (.istore 7, 2) := ldc_at ldc_9_ok (q := (1033, .istore 7, 2)) 4 rfl
theorem dL_law_1035 : decode cL_law 1035 = .ok (.aload_n 2, 1) := ldc_at ldc_9_ok (q := (1035, .aload_n 2, 1)) 5 rfl
theorem dL_law_1036 : decode cL_law 1036 = .ok (.invokevirtual 153, 3) := ldc_at ldc_9_ok (q := (1036, .invokevirtual 153, 3)) 6 rfl
theorem dL_law_1039 : decode cL_law 1039 = .ok (.iload 6, 2) := ldc_at ldc_9_ok (q := (1039, .iload 6, 2)) 7 rfl
theorem dL_law_1041 : decode cL_law 1041 = .ok (.if_icmp .eq 5, 3) := ldc_at ldc_9_ok (q := (1041, .if_icmp .eq 5, 3)) 8 rfl
theorem dL_law_1046 : decode cL_law 1046 = .ok (.iload 6, 2) := ldc_at ldc_9_ok (q := (1046, .iload 6, 2)) 9 rfl
theorem dL_law_1048 : decode cL_law 1048 = .ok (.ifCond .ne 15, 3) := ldc_at ldc_9_ok (q := (1048, .ifCond .ne 15, 3)) 10 rfl
theorem dL_law_1051 : decode cL_law 1051 = .ok (.aload_n 3, 1) := ldc_at ldc_9_ok (q := (1051, .aload_n 3, 1)) 11 rfl
theorem dL_law_1052 : decode cL_law 1052 = .ok (.iconst 0, 1) := ldc_at ldc_9_ok (q := (1052, .iconst 0, 1)) 12 rfl
theorem dL_law_1053 : decode cL_law 1053 = .ok (.laload, 1) := ldc_at ldc_9_ok (q := (1053, .laload, 1)) 13 rfl
theorem dL_law_1054 : decode cL_law 1054 = .ok (.iload 7, 2) := ldc_at ldc_9_ok (q := (1054, .iload 7, 2)) 14 rfl
theorem dL_law_1056 : decode cL_law 1056 = .ok (.i2l, 1) := ldc_at ldc_9_ok (q := (1056, .i2l, 1)) 15 rfl
theorem dL_law_1057 : decode cL_law 1057 = .ok (.lcmp, 1) := ldc_at ldc_9_ok (q := (1057, .lcmp, 1)) 16 rfl
theorem dL_law_1058 : decode cL_law 1058 = .ok (.ifCond .eq 5, 3) := ldc_at ldc_9_ok (q := (1058, .ifCond .eq 5, 3)) 17 rfl
theorem dL_law_1063 : decode cL_law 1063 = .ok (.goto 1830, 3) := ldc_at ldc_9_ok (q := (1063, .goto 1830, 3)) 18 rfl
theorem dL_law_1066 : decode cL_law 1066 = .ok (.aload_n 1, 1) := ldc_at ldc_9_ok (q := (1066, .aload_n 1, 1)) 19 rfl
theorem dL_law_1067 : decode cL_law 1067 = .ok (.aload_n 0, 1) := ldc_at ldc_9_ok (q := (1067, .aload_n 0, 1)) 20 rfl
theorem dL_law_1068 : decode cL_law 1068 = .ok (.iload 5, 2) := ldc_at ldc_9_ok (q := (1068, .iload 5, 2)) 21 rfl
theorem dL_law_1070 : decode cL_law 1070 = .ok (.iconst 1, 1) := ldc_at ldc_9_ok (q := (1070, .iconst 1, 1)) 22 rfl
theorem dL_law_1071 : decode cL_law 1071 = .ok (.iadd, 1) := ldc_at ldc_9_ok (q := (1071, .iadd, 1)) 23 rfl
theorem dL_law_1072 : decode cL_law 1072 = .ok (.iaload, 1) := ldc_at ldc_9_ok (q := (1072, .iaload, 1)) 24 rfl
theorem dL_law_1073 : decode cL_law 1073 = .ok (.aload_n 0, 1) := ldc_at ldc_9_ok (q := (1073, .aload_n 0, 1)) 25 rfl
theorem dL_law_1074 : decode cL_law 1074 = .ok (.iload 5, 2) := ldc_at ldc_9_ok (q := (1074, .iload 5, 2)) 26 rfl
theorem dL_law_1076 : decode cL_law 1076 = .ok (.iconst 2, 1) := ldc_at ldc_9_ok (q := (1076, .iconst 2, 1)) 27 rfl
theorem dL_law_1077 : decode cL_law 1077 = .ok (.iadd, 1) := ldc_at ldc_9_ok (q := (1077, .iadd, 1)) 28 rfl
theorem dL_law_1078 : decode cL_law 1078 = .ok (.iaload, 1) := ldc_at ldc_9_ok (q := (1078, .iaload, 1)) 29 rfl
theorem dL_law_1079 : decode cL_law 1079 = .ok (.aload_n 3, 1) := ldc_at ldc_9_ok (q := (1079, .aload_n 3, 1)) 30 rfl
theorem dL_law_1080 : decode cL_law 1080 = .ok (.invokestatic 207, 3) := ldc_at ldc_9_ok (q := (1080, .invokestatic 207, 3)) 31 rfl
theorem dL_law_1083 : decode cL_law 1083 = .ok (.istore 6, 2) := ldc_at ldc_9_ok (q := (1083, .istore 6, 2)) 32 rfl
theorem dL_law_1085 : decode cL_law 1085 = .ok (.aload_n 2, 1) := ldc_at ldc_9_ok (q := (1085, .aload_n 2, 1)) 33 rfl
theorem dL_law_1086 : decode cL_law 1086 = .ok (.aload_n 0, 1) := ldc_at ldc_9_ok (q := (1086, .aload_n 0, 1)) 34 rfl
theorem dL_law_1087 : decode cL_law 1087 = .ok (.iload 5, 2) := ldc_at ldc_9_ok (q := (1087, .iload 5, 2)) 35 rfl
theorem dL_law_1089 : decode cL_law 1089 = .ok (.iconst 1, 1) := ldc_at ldc_9_ok (q := (1089, .iconst 1, 1)) 36 rfl
theorem dL_law_1090 : decode cL_law 1090 = .ok (.iadd, 1) := ldc_at ldc_9_ok (q := (1090, .iadd, 1)) 37 rfl
theorem dL_law_1091 : decode cL_law 1091 = .ok (.iaload, 1) := ldc_at ldc_9_ok (q := (1091, .iaload, 1)) 38 rfl
theorem dL_law_1092 : decode cL_law 1092 = .ok (.aload_n 0, 1) := ldc_at ldc_9_ok (q := (1092, .aload_n 0, 1)) 39 rfl
theorem dL_law_1093 : decode cL_law 1093 = .ok (.iload 5, 2) := ldc_at ldc_9_ok (q := (1093, .iload 5, 2)) 40 rfl
theorem dL_law_1095 : decode cL_law 1095 = .ok (.iconst 2, 1) := ldc_at ldc_9_ok (q := (1095, .iconst 2, 1)) 41 rfl
theorem dL_law_1096 : decode cL_law 1096 = .ok (.iadd, 1) := ldc_at ldc_9_ok (q := (1096, .iadd, 1)) 42 rfl
theorem dL_law_1097 : decode cL_law 1097 = .ok (.iaload, 1) := ldc_at ldc_9_ok (q := (1097, .iaload, 1)) 43 rfl
theorem dL_law_1098 : decode cL_law 1098 = .ok (.invokevirtual 209, 3) := ldc_at ldc_9_ok (q := (1098, .invokevirtual 209, 3)) 44 rfl
theorem dL_law_1101 : decode cL_law 1101 = .ok (.istore 7, 2) := ldc_at ldc_9_ok (q := (1101, .istore 7, 2)) 45 rfl
theorem dL_law_1103 : decode cL_law 1103 = .ok (.aload_n 2, 1) := ldc_at ldc_9_ok (q := (1103, .aload_n 2, 1)) 46 rfl
theorem dL_law_1104 : decode cL_law 1104 = .ok (.invokevirtual 153, 3) := ldc_at ldc_9_ok (q := (1104, .invokevirtual 153, 3)) 47 rfl
def ldc_10 : List (Nat × Jvm.ClassFile.Instr × Nat) := [(1107, .iload 6, 2), (1109, .if_icmp .eq 5, 3), (1114, .iload 6, 2), (1116, .ifCond .ne 15, 3), (1119, .aload_n 3, 1), (1120, .iconst 0, 1), (1121, .laload, 1), (1122, .iload 7, 2), (1124, .i2l, 1), (1125, .lcmp, 1), (1126, .ifCond .eq 5, 3), (1131, .goto 1762, 3), (1134, .aload_n 1, 1), (1135, .aload_n 0, 1), (1136, .iload 5, 2), (1138, .iconst 1, 1), (1139, .iadd, 1), (1140, .iaload, 1), (1141, .aload_n 3, 1), (1142, .invokestatic 210, 3), (1145, .istore 6, 2), (1147, .aload_n 2, 1), (1148, .aload_n 0, 1), (1149, .iload 5, 2), (1151, .iconst 1, 1), (1152, .iadd, 1), (1153, .iaload, 1), (1154, .invokevirtual 212, 3), (1157, .istore 7, 2), (1159, .aload_n 2, 1), (1160, .invokevirtual 153, 3), (1163, .iload 6, 2), (1165, .if_icmp .eq 5, 3), (1170, .iload 6, 2), (1172, .ifCond .ne 15, 3), (1175, .aload_n 3, 1), (1176, .iconst 0, 1), (1177, .laload, 1), (1178, .iload 7, 2), (1180, .i2l, 1), (1181, .lcmp, 1), (1182, .ifCond .eq 5, 3), (1187, .goto 1706, 3), (1190, .aload_n 1, 1), (1191, .aload_n 0, 1), (1192, .iload 5, 2), (1194, .iconst 1, 1), (1195, .iadd, 1)]
set_option maxRecDepth 100000 in
theorem ldc_10_ok : ldc_10.all (fun q => decide (decode cL_law q.1 = .ok (q.2.1, q.2.2))) = true := by decide +kernel
theorem dL_law_1107 : decode cL_law 1107 = .ok (.iload 6, 2) := ldc_at ldc_10_ok (q := (1107, .iload 6, 2)) 0 rfl
theorem dL_law_1109 : decode cL_law 1109 = .ok (.if_icmp .eq 5, 3) := ldc_at ldc_10_ok (q := (1109, .if_icmp .eq 5, 3)) 1 rfl
theorem dL_law_1114 : decode cL_law 1114 = .ok (.iload 6, 2) := ldc_at ldc_10_ok (q := (1114, .iload 6, 2)) 2 rfl
theorem dL_law_1116 : decode cL_law 1116 = .ok (.ifCond .ne 15, 3) := ldc_at ldc_10_ok (q := (1116, .ifCond .ne 15, 3)) 3 rfl
theorem dL_law_1119 : decode cL_law 1119 = .ok (.aload_n 3, 1) := ldc_at ldc_10_ok (q := (1119, .aload_n 3, 1)) 4 rfl
theorem dL_law_1120 : decode cL_law 1120 = .ok (.iconst 0, 1) := ldc_at ldc_10_ok (q := (1120, .iconst 0, 1)) 5 rfl
theorem dL_law_1121 : decode cL_law 1121 = .ok (.laload, 1) := ldc_at ldc_10_ok (q := (1121, .laload, 1)) 6 rfl
theorem dL_law_1122 : decode cL_law 1122 = .ok (.iload 7, 2) := ldc_at ldc_10_ok (q := (1122, .iload 7, 2)) 7 rfl
theorem dL_law_1124 : decode cL_law 1124 = .ok (.i2l, 1) := ldc_at ldc_10_ok (q := (1124, .i2l, 1)) 8 rfl
theorem dL_law_1125 : decode cL_law 1125 = .ok (.lcmp, 1) := ldc_at ldc_10_ok (q := (1125, .lcmp, 1)) 9 rfl
theorem dL_law_1126 : decode cL_law 1126 = .ok (.ifCond .eq 5, 3) := ldc_at ldc_10_ok (q := (1126, .ifCond .eq 5, 3)) 10 rfl
theorem dL_law_1131 : decode cL_law 1131 = .ok (.goto 1762, 3) := ldc_at ldc_10_ok (q := (1131, .goto 1762, 3)) 11 rfl
theorem dL_law_1134 : decode cL_law 1134 = .ok (.aload_n 1, 1) := ldc_at ldc_10_ok (q := (1134, .aload_n 1, 1)) 12 rfl
theorem dL_law_1135 : decode cL_law 1135 = .ok (.aload_n 0, 1) := ldc_at ldc_10_ok (q := (1135, .aload_n 0, 1)) 13 rfl
theorem dL_law_1136 : decode cL_law 1136 = .ok (.iload 5, 2) := ldc_at ldc_10_ok (q := (1136, .iload 5, 2)) 14 rfl
theorem dL_law_1138 : decode cL_law 1138 = .ok (.iconst 1, 1) := ldc_at ldc_10_ok (q := (1138, .iconst 1, 1)) 15 rfl
theorem dL_law_1139 : decode cL_law 1139 = .ok (.iadd, 1) := ldc_at ldc_10_ok (q := (1139, .iadd, 1)) 16 rfl
theorem dL_law_1140 : decode cL_law 1140 = .ok (.iaload, 1) := ldc_at ldc_10_ok (q := (1140, .iaload, 1)) 17 rfl
theorem dL_law_1141 : decode cL_law 1141 = .ok (.aload_n 3, 1) := ldc_at ldc_10_ok (q := (1141, .aload_n 3, 1)) 18 rfl
theorem dL_law_1142 : decode cL_law 1142 = .ok (.invokestatic 210, 3) := ldc_at ldc_10_ok (q := (1142, .invokestatic 210, 3)) 19 rfl
theorem dL_law_1145 : decode cL_law 1145 = .ok (.istore 6, 2) := ldc_at ldc_10_ok (q := (1145, .istore 6, 2)) 20 rfl
theorem dL_law_1147 : decode cL_law 1147 = .ok (.aload_n 2, 1) := ldc_at ldc_10_ok (q := (1147, .aload_n 2, 1)) 21 rfl
theorem dL_law_1148 : decode cL_law 1148 = .ok (.aload_n 0, 1) := ldc_at ldc_10_ok (q := (1148, .aload_n 0, 1)) 22 rfl
theorem dL_law_1149 : decode cL_law 1149 = .ok (.iload 5, 2) := ldc_at ldc_10_ok (q := (1149, .iload 5, 2)) 23 rfl
theorem dL_law_1151 : decode cL_law 1151 = .ok (.iconst 1, 1) := ldc_at ldc_10_ok (q := (1151, .iconst 1, 1)) 24 rfl
theorem dL_law_1152 : decode cL_law 1152 = .ok (.iadd, 1) := ldc_at ldc_10_ok (q := (1152, .iadd, 1)) 25 rfl
theorem dL_law_1153 : decode cL_law 1153 = .ok (.iaload, 1) := ldc_at ldc_10_ok (q := (1153, .iaload, 1)) 26 rfl
theorem dL_law_1154 : decode cL_law 1154 = .ok (.invokevirtual 212, 3) := ldc_at ldc_10_ok (q := (1154, .invokevirtual 212, 3)) 27 rfl
theorem dL_law_1157 : decode cL_law 1157 = .ok (.istore 7, 2) := ldc_at ldc_10_ok (q := (1157, .istore 7, 2)) 28 rfl
theorem dL_law_1159 : decode cL_law 1159 = .ok (.aload_n 2, 1) := ldc_at ldc_10_ok (q := (1159, .aload_n 2, 1)) 29 rfl
theorem dL_law_1160 : decode cL_law 1160 = .ok (.invokevirtual 153, 3) := ldc_at ldc_10_ok (q := (1160, .invokevirtual 153, 3)) 30 rfl
theorem dL_law_1163 : decode cL_law 1163 = .ok (.iload 6, 2) := ldc_at ldc_10_ok (q := (1163, .iload 6, 2)) 31 rfl
theorem dL_law_1165 : decode cL_law 1165 = .ok (.if_icmp .eq 5, 3) := ldc_at ldc_10_ok (q := (1165, .if_icmp .eq 5, 3)) 32 rfl
theorem dL_law_1170 : decode cL_law 1170 = .ok (.iload 6, 2) := ldc_at ldc_10_ok (q := (1170, .iload 6, 2)) 33 rfl
theorem dL_law_1172 : decode cL_law 1172 = .ok (.ifCond .ne 15, 3) := ldc_at ldc_10_ok (q := (1172, .ifCond .ne 15, 3)) 34 rfl
theorem dL_law_1175 : decode cL_law 1175 = .ok (.aload_n 3, 1) := ldc_at ldc_10_ok (q := (1175, .aload_n 3, 1)) 35 rfl
theorem dL_law_1176 : decode cL_law 1176 = .ok (.iconst 0, 1) := ldc_at ldc_10_ok (q := (1176, .iconst 0, 1)) 36 rfl
theorem dL_law_1177 : decode cL_law 1177 = .ok (.laload, 1) := ldc_at ldc_10_ok (q := (1177, .laload, 1)) 37 rfl
theorem dL_law_1178 : decode cL_law 1178 = .ok (.iload 7, 2) := ldc_at ldc_10_ok (q := (1178, .iload 7, 2)) 38 rfl
theorem dL_law_1180 : decode cL_law 1180 = .ok (.i2l, 1) := ldc_at ldc_10_ok (q := (1180, .i2l, 1)) 39 rfl
theorem dL_law_1181 : decode cL_law 1181 = .ok (.lcmp, 1) := ldc_at ldc_10_ok (q := (1181, .lcmp, 1)) 40 rfl
theorem dL_law_1182 : decode cL_law 1182 = .ok (.ifCond .eq 5, 3) := ldc_at ldc_10_ok (q := (1182, .ifCond .eq 5, 3)) 41 rfl
theorem dL_law_1187 : decode cL_law 1187 = .ok (.goto 1706, 3) := ldc_at ldc_10_ok (q := (1187, .goto 1706, 3)) 42 rfl
theorem dL_law_1190 : decode cL_law 1190 = .ok (.aload_n 1, 1) := ldc_at ldc_10_ok (q := (1190, .aload_n 1, 1)) 43 rfl
theorem dL_law_1191 : decode cL_law 1191 = .ok (.aload_n 0, 1) := ldc_at ldc_10_ok (q := (1191, .aload_n 0, 1)) 44 rfl
theorem dL_law_1192 : decode cL_law 1192 = .ok (.iload 5, 2) := ldc_at ldc_10_ok (q := (1192, .iload 5, 2)) 45 rfl
theorem dL_law_1194 : decode cL_law 1194 = .ok (.iconst 1, 1) := ldc_at ldc_10_ok (q := (1194, .iconst 1, 1)) 46 rfl
theorem dL_law_1195 : decode cL_law 1195 = .ok (.iadd, 1) := ldc_at ldc_10_ok (q := (1195, .iadd, 1)) 47 rfl
def ldc_11 : List (Nat × Jvm.ClassFile.Instr × Nat) := [(1196, .iaload, 1), (1197, .aload_n 0, 1), (1198, .iload 5, 2), (1200, .iconst 2, 1), (1201, .iadd, 1), (1202, .iaload, 1), (1203, .ifCond .eq 7, 3), (1206, .iconst 1, 1), (1207, .goto 4, 3), (1210, .iconst 0, 1), (1211, .aload_n 3, 1), (1212, .invokestatic 213, 3), (1215, .istore 6, 2), (1217, .aload_n 2, 1), (1218, .aload_n 0, 1), (1219, .iload 5, 2), (1221, .iconst 1, 1), (1222, .iadd, 1), (1223, .iaload, 1), (1224, .aload_n 0, 1), (1225, .iload 5, 2), (1227, .iconst 2, 1), (1228, .iadd, 1), (1229, .iaload, 1), (1230, .ifCond .eq 7, 3), (1233, .iconst 1, 1), (1234, .goto 4, 3), (1237, .iconst 0, 1), (1238, .invokevirtual 216, 3), (1241, .istore 7, 2), (1243, .aload_n 2, 1), (1244, .invokevirtual 153, 3), (1247, .iload 6, 2), (1249, .if_icmp .eq 5, 3), (1254, .iload 6, 2), (1256, .ifCond .ne 22, 3), (1259, .aload_n 3, 1), (1260, .iconst 0, 1), (1261, .laload, 1), (1262, .iload 7, 2), (1264, .ifCond .eq 7, 3), (1267, .lconst 1, 1), (1268, .goto 4, 3), (1272, .lcmp, 1), (1273, .ifCond .eq 5, 3), (1278, .goto 1615, 3), (1281, .aload_n 1, 1), (1282, .invokevirtual 217, 3)]
set_option maxRecDepth 100000 in
theorem ldc_11_ok : ldc_11.all (fun q => decide (decode cL_law q.1 = .ok (q.2.1, q.2.2))) = true := by decide +kernel
theorem dL_law_1196 : decode cL_law 1196 = .ok (.iaload, 1) := ldc_at ldc_11_ok (q := (1196, .iaload, 1)) 0 rfl
theorem dL_law_1197 : decode cL_law 1197 = .ok (.aload_n 0, 1) := ldc_at ldc_11_ok (q := (1197, .aload_n 0, 1)) 1 rfl
theorem dL_law_1198 : decode cL_law 1198 = .ok (.iload 5, 2) := ldc_at ldc_11_ok (q := (1198, .iload 5, 2)) 2 rfl
theorem dL_law_1200 : decode cL_law 1200 = .ok (.iconst 2, 1) := ldc_at ldc_11_ok (q := (1200, .iconst 2, 1)) 3 rfl
theorem dL_law_1201 : decode cL_law 1201 = .ok (.iadd, 1) := ldc_at ldc_11_ok (q := (1201, .iadd, 1)) 4 rfl
theorem dL_law_1202 : decode cL_law 1202 = .ok (.iaload, 1) := ldc_at ldc_11_ok (q := (1202, .iaload, 1)) 5 rfl
theorem dL_law_1203 : decode cL_law 1203 = .ok (.ifCond .eq 7, 3) := ldc_at ldc_11_ok (q := (1203, .ifCond .eq 7, 3)) 6 rfl
theorem dL_law_1206 : decode cL_law 1206 = .ok (.iconst 1, 1) := ldc_at ldc_11_ok (q := (1206, .iconst 1, 1)) 7 rfl
theorem dL_law_1207 : decode cL_law 1207 = .ok (.goto 4, 3) := ldc_at ldc_11_ok (q := (1207, .goto 4, 3)) 8 rfl
theorem dL_law_1210 : decode cL_law 1210 = .ok (.iconst 0, 1) := ldc_at ldc_11_ok (q := (1210, .iconst 0, 1)) 9 rfl
theorem dL_law_1211 : decode cL_law 1211 = .ok (.aload_n 3, 1) := ldc_at ldc_11_ok (q := (1211, .aload_n 3, 1)) 10 rfl
theorem dL_law_1212 : decode cL_law 1212 = .ok (.invokestatic 213, 3) := ldc_at ldc_11_ok (q := (1212, .invokestatic 213, 3)) 11 rfl
theorem dL_law_1215 : decode cL_law 1215 = .ok (.istore 6, 2) := ldc_at ldc_11_ok (q := (1215, .istore 6, 2)) 12 rfl
theorem dL_law_1217 : decode cL_law 1217 = .ok (.aload_n 2, 1) := ldc_at ldc_11_ok (q := (1217, .aload_n 2, 1)) 13 rfl
theorem dL_law_1218 : decode cL_law 1218 = .ok (.aload_n 0, 1) := ldc_at ldc_11_ok (q := (1218, .aload_n 0, 1)) 14 rfl
theorem dL_law_1219 : decode cL_law 1219 = .ok (.iload 5, 2) := ldc_at ldc_11_ok (q := (1219, .iload 5, 2)) 15 rfl
theorem dL_law_1221 : decode cL_law 1221 = .ok (.iconst 1, 1) := ldc_at ldc_11_ok (q := (1221, .iconst 1, 1)) 16 rfl
theorem dL_law_1222 : decode cL_law 1222 = .ok (.iadd, 1) := ldc_at ldc_11_ok (q := (1222, .iadd, 1)) 17 rfl
theorem dL_law_1223 : decode cL_law 1223 = .ok (.iaload, 1) := ldc_at ldc_11_ok (q := (1223, .iaload, 1)) 18 rfl
theorem dL_law_1224 : decode cL_law 1224 = .ok (.aload_n 0, 1) := ldc_at ldc_11_ok (q := (1224, .aload_n 0, 1)) 19 rfl
theorem dL_law_1225 : decode cL_law 1225 = .ok (.iload 5, 2) := ldc_at ldc_11_ok (q := (1225, .iload 5, 2)) 20 rfl
theorem dL_law_1227 : decode cL_law 1227 = .ok (.iconst 2, 1) := ldc_at ldc_11_ok (q := (1227, .iconst 2, 1)) 21 rfl
theorem dL_law_1228 : decode cL_law 1228 = .ok (.iadd, 1) := ldc_at ldc_11_ok (q := (1228, .iadd, 1)) 22 rfl
theorem dL_law_1229 : decode cL_law 1229 = .ok (.iaload, 1) := ldc_at ldc_11_ok (q := (1229, .iaload, 1)) 23 rfl
theorem dL_law_1230 : decode cL_law 1230 = .ok (.ifCond .eq 7, 3) := ldc_at ldc_11_ok (q := (1230, .ifCond .eq 7, 3)) 24 rfl
theorem dL_law_1233 : decode cL_law 1233 = .ok (.iconst 1, 1) := ldc_at ldc_11_ok (q := (1233, .iconst 1, 1)) 25 rfl
theorem dL_law_1234 : decode cL_law 1234 = .ok (.goto 4, 3) := ldc_at ldc_11_ok (q := (1234, .goto 4, 3)) 26 rfl
theorem dL_law_1237 : decode cL_law 1237 = .ok (.iconst 0, 1) := ldc_at ldc_11_ok (q := (1237, .iconst 0, 1)) 27 rfl
theorem dL_law_1238 : decode cL_law 1238 = .ok (.invokevirtual 216, 3) := ldc_at ldc_11_ok (q := (1238, .invokevirtual 216, 3)) 28 rfl
theorem dL_law_1241 : decode cL_law 1241 = .ok (.istore 7, 2) := ldc_at ldc_11_ok (q := (1241, .istore 7, 2)) 29 rfl
theorem dL_law_1243 : decode cL_law 1243 = .ok (.aload_n 2, 1) := ldc_at ldc_11_ok (q := (1243, .aload_n 2, 1)) 30 rfl
theorem dL_law_1244 : decode cL_law 1244 = .ok (.invokevirtual 153, 3) := ldc_at ldc_11_ok (q := (1244, .invokevirtual 153, 3)) 31 rfl
theorem dL_law_1247 : decode cL_law 1247 = .ok (.iload 6, 2) := ldc_at ldc_11_ok (q := (1247, .iload 6, 2)) 32 rfl
theorem dL_law_1249 : decode cL_law 1249 = .ok (.if_icmp .eq 5, 3) := ldc_at ldc_11_ok (q := (1249, .if_icmp .eq 5, 3)) 33 rfl
theorem dL_law_1254 : decode cL_law 1254 = .ok (.iload 6, 2) := ldc_at ldc_11_ok (q := (1254, .iload 6, 2)) 34 rfl
theorem dL_law_1256 : decode cL_law 1256 = .ok (.ifCond .ne 22, 3) := ldc_at ldc_11_ok (q := (1256, .ifCond .ne 22, 3)) 35 rfl
theorem dL_law_1259 : decode cL_law 1259 = .ok (.aload_n 3, 1) := ldc_at ldc_11_ok (q := (1259, .aload_n 3, 1)) 36 rfl
theorem dL_law_1260 : decode cL_law 1260 = .ok (.iconst 0, 1) := ldc_at ldc_11_ok (q := (1260, .iconst 0, 1)) 37 rfl
theorem dL_law_1261 : decode cL_law 1261 = .ok (.laload, 1) := ldc_at ldc_11_ok (q := (1261, .laload, 1)) 38 rfl
theorem dL_law_1262 : decode cL_law 1262 = .ok (.iload 7, 2) := ldc_at ldc_11_ok (q := (1262, .iload 7, 2)) 39 rfl
theorem dL_law_1264 : decode cL_law 1264 = .ok (.ifCond .eq 7, 3) := ldc_at ldc_11_ok (q := (1264, .ifCond .eq 7, 3)) 40 rfl
theorem dL_law_1267 : decode cL_law 1267 = .ok (.lconst 1, 1) := ldc_at ldc_11_ok (q := (1267, .lconst 1, 1)) 41 rfl
theorem dL_law_1268 : decode cL_law 1268 = .ok (.goto 4, 3) := ldc_at ldc_11_ok (q := (1268, .goto 4, 3)) 42 rfl
theorem dL_law_1272 : decode cL_law 1272 = .ok (.lcmp, 1) := ldc_at ldc_11_ok (q := (1272, .lcmp, 1)) 43 rfl
theorem dL_law_1273 : decode cL_law 1273 = .ok (.ifCond .eq 5, 3) := ldc_at ldc_11_ok (q := (1273, .ifCond .eq 5, 3)) 44 rfl
theorem dL_law_1278 : decode cL_law 1278 = .ok (.goto 1615, 3) := ldc_at ldc_11_ok (q := (1278, .goto 1615, 3)) 45 rfl
theorem dL_law_1281 : decode cL_law 1281 = .ok (.aload_n 1, 1) := ldc_at ldc_11_ok (q := (1281, .aload_n 1, 1)) 46 rfl
theorem dL_law_1282 : decode cL_law 1282 = .ok (.invokevirtual 217, 3) := ldc_at ldc_11_ok (q := (1282, .invokevirtual 217, 3)) 47 rfl
def ldc_12 : List (Nat × Jvm.ClassFile.Instr × Nat) := [(1285, .aload_n 2, 1), (1286, .invokevirtual 220, 3), (1289, .goto 1604, 3), (1292, .aload_n 1, 1), (1293, .aload_n 0, 1), (1294, .iload 5, 2), (1296, .iconst 1, 1), (1297, .iadd, 1), (1298, .iaload, 1), (1299, .aload_n 3, 1), (1300, .invokestatic 221, 3), (1303, .istore 6, 2), (1305, .aload_n 2, 1), (1306, .aload_n 0, 1), (1307, .iload 5, 2), (1309, .iconst 1, 1), (1310, .iadd, 1), (1311, .iaload, 1), (1312, .invokevirtual 223, 3), (1315, .istore 7, 2), (1317, .aload_n 2, 1), (1318, .invokevirtual 153, 3), (1321, .iload 6, 2), (1323, .if_icmp .eq 5, 3), (1328, .iload 6, 2), (1330, .ifCond .ne 22, 3), (1333, .aload_n 3, 1), (1334, .iconst 0, 1), (1335, .laload, 1), (1336, .iload 7, 2), (1338, .ifCond .eq 7, 3), (1341, .lconst 1, 1), (1342, .goto 4, 3), (1346, .lcmp, 1), (1347, .ifCond .eq 5, 3), (1352, .goto 1541, 3), (1355, .aload_n 1, 1), (1356, .invokevirtual 224, 3), (1359, .aload_n 2, 1), (1360, .invokevirtual 227, 3), (1363, .if_icmp .eq 1530, 3), (1368, .aload_n 1, 1), (1369, .invokevirtual 228, 3), (1372, .aload_n 2, 1), (1373, .invokevirtual 232, 3), (1376, .lcmp, 1), (1377, .ifCond .eq 1516, 3), (1382, .aload_n 1, 1)]
set_option maxRecDepth 100000 in
theorem ldc_12_ok : ldc_12.all (fun q => decide (decode cL_law q.1 = .ok (q.2.1, q.2.2))) = true := by decide +kernel
theorem dL_law_1285 : decode cL_law 1285 = .ok (.aload_n 2, 1) := ldc_at ldc_12_ok (q := (1285, .aload_n 2, 1)) 0 rfl
theorem dL_law_1286 : decode cL_law 1286 = .ok (.invokevirtual 220, 3) := ldc_at ldc_12_ok (q := (1286, .invokevirtual 220, 3)) 1 rfl
theorem dL_law_1289 : decode cL_law 1289 = .ok (.goto 1604, 3) := ldc_at ldc_12_ok (q := (1289, .goto 1604, 3)) 2 rfl
theorem dL_law_1292 : decode cL_law 1292 = .ok (.aload_n 1, 1) := ldc_at ldc_12_ok (q := (1292, .aload_n 1, 1)) 3 rfl
theorem dL_law_1293 : decode cL_law 1293 = .ok (.aload_n 0, 1) := ldc_at ldc_12_ok (q := (1293, .aload_n 0, 1)) 4 rfl
theorem dL_law_1294 : decode cL_law 1294 = .ok (.iload 5, 2) := ldc_at ldc_12_ok (q := (1294, .iload 5, 2)) 5 rfl
theorem dL_law_1296 : decode cL_law 1296 = .ok (.iconst 1, 1) := ldc_at ldc_12_ok (q := (1296, .iconst 1, 1)) 6 rfl
theorem dL_law_1297 : decode cL_law 1297 = .ok (.iadd, 1) := ldc_at ldc_12_ok (q := (1297, .iadd, 1)) 7 rfl
theorem dL_law_1298 : decode cL_law 1298 = .ok (.iaload, 1) := ldc_at ldc_12_ok (q := (1298, .iaload, 1)) 8 rfl
theorem dL_law_1299 : decode cL_law 1299 = .ok (.aload_n 3, 1) := ldc_at ldc_12_ok (q := (1299, .aload_n 3, 1)) 9 rfl
theorem dL_law_1300 : decode cL_law 1300 = .ok (.invokestatic 221, 3) := ldc_at ldc_12_ok (q := (1300, .invokestatic 221, 3)) 10 rfl
theorem dL_law_1303 : decode cL_law 1303 = .ok (.istore 6, 2) := ldc_at ldc_12_ok (q := (1303, .istore 6, 2)) 11 rfl
theorem dL_law_1305 : decode cL_law 1305 = .ok (.aload_n 2, 1) := ldc_at ldc_12_ok (q := (1305, .aload_n 2, 1)) 12 rfl
theorem dL_law_1306 : decode cL_law 1306 = .ok (.aload_n 0, 1) := ldc_at ldc_12_ok (q := (1306, .aload_n 0, 1)) 13 rfl
theorem dL_law_1307 : decode cL_law 1307 = .ok (.iload 5, 2) := ldc_at ldc_12_ok (q := (1307, .iload 5, 2)) 14 rfl
theorem dL_law_1309 : decode cL_law 1309 = .ok (.iconst 1, 1) := ldc_at ldc_12_ok (q := (1309, .iconst 1, 1)) 15 rfl
theorem dL_law_1310 : decode cL_law 1310 = .ok (.iadd, 1) := ldc_at ldc_12_ok (q := (1310, .iadd, 1)) 16 rfl
theorem dL_law_1311 : decode cL_law 1311 = .ok (.iaload, 1) := ldc_at ldc_12_ok (q := (1311, .iaload, 1)) 17 rfl
theorem dL_law_1312 : decode cL_law 1312 = .ok (.invokevirtual 223, 3) := ldc_at ldc_12_ok (q := (1312, .invokevirtual 223, 3)) 18 rfl
theorem dL_law_1315 : decode cL_law 1315 = .ok (.istore 7, 2) := ldc_at ldc_12_ok (q := (1315, .istore 7, 2)) 19 rfl
theorem dL_law_1317 : decode cL_law 1317 = .ok (.aload_n 2, 1) := ldc_at ldc_12_ok (q := (1317, .aload_n 2, 1)) 20 rfl
theorem dL_law_1318 : decode cL_law 1318 = .ok (.invokevirtual 153, 3) := ldc_at ldc_12_ok (q := (1318, .invokevirtual 153, 3)) 21 rfl
theorem dL_law_1321 : decode cL_law 1321 = .ok (.iload 6, 2) := ldc_at ldc_12_ok (q := (1321, .iload 6, 2)) 22 rfl
theorem dL_law_1323 : decode cL_law 1323 = .ok (.if_icmp .eq 5, 3) := ldc_at ldc_12_ok (q := (1323, .if_icmp .eq 5, 3)) 23 rfl
theorem dL_law_1328 : decode cL_law 1328 = .ok (.iload 6, 2) := ldc_at ldc_12_ok (q := (1328, .iload 6, 2)) 24 rfl
theorem dL_law_1330 : decode cL_law 1330 = .ok (.ifCond .ne 22, 3) := ldc_at ldc_12_ok (q := (1330, .ifCond .ne 22, 3)) 25 rfl
theorem dL_law_1333 : decode cL_law 1333 = .ok (.aload_n 3, 1) := ldc_at ldc_12_ok (q := (1333, .aload_n 3, 1)) 26 rfl
theorem dL_law_1334 : decode cL_law 1334 = .ok (.iconst 0, 1) := ldc_at ldc_12_ok (q := (1334, .iconst 0, 1)) 27 rfl
theorem dL_law_1335 : decode cL_law 1335 = .ok (.laload, 1) := ldc_at ldc_12_ok (q := (1335, .laload, 1)) 28 rfl
theorem dL_law_1336 : decode cL_law 1336 = .ok (.iload 7, 2) := ldc_at ldc_12_ok (q := (1336, .iload 7, 2)) 29 rfl
theorem dL_law_1338 : decode cL_law 1338 = .ok (.ifCond .eq 7, 3) := ldc_at ldc_12_ok (q := (1338, .ifCond .eq 7, 3)) 30 rfl
theorem dL_law_1341 : decode cL_law 1341 = .ok (.lconst 1, 1) := ldc_at ldc_12_ok (q := (1341, .lconst 1, 1)) 31 rfl
theorem dL_law_1342 : decode cL_law 1342 = .ok (.goto 4, 3) := ldc_at ldc_12_ok (q := (1342, .goto 4, 3)) 32 rfl
theorem dL_law_1346 : decode cL_law 1346 = .ok (.lcmp, 1) := ldc_at ldc_12_ok (q := (1346, .lcmp, 1)) 33 rfl
theorem dL_law_1347 : decode cL_law 1347 = .ok (.ifCond .eq 5, 3) := ldc_at ldc_12_ok (q := (1347, .ifCond .eq 5, 3)) 34 rfl
theorem dL_law_1352 : decode cL_law 1352 = .ok (.goto 1541, 3) := ldc_at ldc_12_ok (q := (1352, .goto 1541, 3)) 35 rfl
theorem dL_law_1355 : decode cL_law 1355 = .ok (.aload_n 1, 1) := ldc_at ldc_12_ok (q := (1355, .aload_n 1, 1)) 36 rfl
theorem dL_law_1356 : decode cL_law 1356 = .ok (.invokevirtual 224, 3) := ldc_at ldc_12_ok (q := (1356, .invokevirtual 224, 3)) 37 rfl
theorem dL_law_1359 : decode cL_law 1359 = .ok (.aload_n 2, 1) := ldc_at ldc_12_ok (q := (1359, .aload_n 2, 1)) 38 rfl
theorem dL_law_1360 : decode cL_law 1360 = .ok (.invokevirtual 227, 3) := ldc_at ldc_12_ok (q := (1360, .invokevirtual 227, 3)) 39 rfl
theorem dL_law_1363 : decode cL_law 1363 = .ok (.if_icmp .eq 1530, 3) := ldc_at ldc_12_ok (q := (1363, .if_icmp .eq 1530, 3)) 40 rfl
theorem dL_law_1368 : decode cL_law 1368 = .ok (.aload_n 1, 1) := ldc_at ldc_12_ok (q := (1368, .aload_n 1, 1)) 41 rfl
theorem dL_law_1369 : decode cL_law 1369 = .ok (.invokevirtual 228, 3) := ldc_at ldc_12_ok (q := (1369, .invokevirtual 228, 3)) 42 rfl
theorem dL_law_1372 : decode cL_law 1372 = .ok (.aload_n 2, 1) := ldc_at ldc_12_ok (q := (1372, .aload_n 2, 1)) 43 rfl
theorem dL_law_1373 : decode cL_law 1373 = .ok (.invokevirtual 232, 3) := ldc_at ldc_12_ok (q := (1373, .invokevirtual 232, 3)) 44 rfl
theorem dL_law_1376 : decode cL_law 1376 = .ok (.lcmp, 1) := ldc_at ldc_12_ok (q := (1376, .lcmp, 1)) 45 rfl
theorem dL_law_1377 : decode cL_law 1377 = .ok (.ifCond .eq 1516, 3) := ldc_at ldc_12_ok (q := (1377, .ifCond .eq 1516, 3)) 46 rfl
theorem dL_law_1382 : decode cL_law 1382 = .ok (.aload_n 1, 1) := ldc_at ldc_12_ok (q := (1382, .aload_n 1, 1)) 47 rfl
def ldc_13 : List (Nat × Jvm.ClassFile.Instr × Nat) := [(1383, .invokevirtual 233, 3), (1386, .aload_n 2, 1), (1387, .invokevirtual 236, 3), (1390, .lcmp, 1), (1391, .ifCond .eq 1502, 3), (1396, .aload_n 1, 1), (1397, .invokevirtual 237, 3), (1400, .aload_n 2, 1), (1401, .invokevirtual 240, 3), (1404, .lcmp, 1), (1405, .ifCond .eq 1488, 3), (1410, .aload_n 1, 1), (1411, .invokevirtual 241, 3), (1414, .aload_n 2, 1), (1415, .invokevirtual 244, 3), (1418, .lcmp, 1), (1419, .ifCond .eq 1474, 3), (1424, .aload_n 1, 1), (1425, .invokevirtual 245, 3), (1428, .aload_n 2, 1), (1429, .invokevirtual 248, 3), (1432, .if_icmp .eq 1461, 3), (1437, .aload_n 1, 1), (1438, .invokevirtual 249, 3), (1441, .aload_n 2, 1), (1442, .invokevirtual 252, 3), (1445, .lcmp, 1), (1446, .ifCond .eq 1447, 3), (1451, .aload_n 1, 1), (1452, .invokevirtual 253, 3), (1455, .aload_n 2, 1), (1456, .invokevirtual 256, 3), (1459, .if_icmp .eq 1434, 3), (1464, .aload_n 1, 1), (1465, .aload_n 0, 1), (1466, .iload 5, 2), (1468, .iconst 1, 1), (1469, .iadd, 1), (1470, .iaload, 1), (1471, .aload_n 3, 1), (1472, .invokestatic 257, 3), (1475, .istore 6, 2), (1477, .aload_n 2, 1), (1478, .aload_n 0, 1), (1479, .iload 5, 2), (1481, .iconst 1, 1), (1482, .iadd, 1), (1483, .iaload, 1)]
set_option maxRecDepth 100000 in
theorem ldc_13_ok : ldc_13.all (fun q => decide (decode cL_law q.1 = .ok (q.2.1, q.2.2))) = true := by decide +kernel
theorem dL_law_1383 : decode cL_law 1383 = .ok (.invokevirtual 233, 3) := ldc_at ldc_13_ok (q := (1383, .invokevirtual 233, 3)) 0 rfl
theorem dL_law_1386 : decode cL_law 1386 = .ok (.aload_n 2, 1) := ldc_at ldc_13_ok (q := (1386, .aload_n 2, 1)) 1 rfl
theorem dL_law_1387 : decode cL_law 1387 = .ok (.invokevirtual 236, 3) := ldc_at ldc_13_ok (q := (1387, .invokevirtual 236, 3)) 2 rfl
theorem dL_law_1390 : decode cL_law 1390 = .ok (.lcmp, 1) := ldc_at ldc_13_ok (q := (1390, .lcmp, 1)) 3 rfl
theorem dL_law_1391 : decode cL_law 1391 = .ok (.ifCond .eq 1502, 3) := ldc_at ldc_13_ok (q := (1391, .ifCond .eq 1502, 3)) 4 rfl
theorem dL_law_1396 : decode cL_law 1396 = .ok (.aload_n 1, 1) := ldc_at ldc_13_ok (q := (1396, .aload_n 1, 1)) 5 rfl
theorem dL_law_1397 : decode cL_law 1397 = .ok (.invokevirtual 237, 3) := ldc_at ldc_13_ok (q := (1397, .invokevirtual 237, 3)) 6 rfl
theorem dL_law_1400 : decode cL_law 1400 = .ok (.aload_n 2, 1) := ldc_at ldc_13_ok (q := (1400, .aload_n 2, 1)) 7 rfl
theorem dL_law_1401 : decode cL_law 1401 = .ok (.invokevirtual 240, 3) := ldc_at ldc_13_ok (q := (1401, .invokevirtual 240, 3)) 8 rfl
theorem dL_law_1404 : decode cL_law 1404 = .ok (.lcmp, 1) := ldc_at ldc_13_ok (q := (1404, .lcmp, 1)) 9 rfl
theorem dL_law_1405 : decode cL_law 1405 = .ok (.ifCond .eq 1488, 3) := ldc_at ldc_13_ok (q := (1405, .ifCond .eq 1488, 3)) 10 rfl
theorem dL_law_1410 : decode cL_law 1410 = .ok (.aload_n 1, 1) := ldc_at ldc_13_ok (q := (1410, .aload_n 1, 1)) 11 rfl
theorem dL_law_1411 : decode cL_law 1411 = .ok (.invokevirtual 241, 3) := ldc_at ldc_13_ok (q := (1411, .invokevirtual 241, 3)) 12 rfl
theorem dL_law_1414 : decode cL_law 1414 = .ok (.aload_n 2, 1) := ldc_at ldc_13_ok (q := (1414, .aload_n 2, 1)) 13 rfl
theorem dL_law_1415 : decode cL_law 1415 = .ok (.invokevirtual 244, 3) := ldc_at ldc_13_ok (q := (1415, .invokevirtual 244, 3)) 14 rfl
theorem dL_law_1418 : decode cL_law 1418 = .ok (.lcmp, 1) := ldc_at ldc_13_ok (q := (1418, .lcmp, 1)) 15 rfl
theorem dL_law_1419 : decode cL_law 1419 = .ok (.ifCond .eq 1474, 3) := ldc_at ldc_13_ok (q := (1419, .ifCond .eq 1474, 3)) 16 rfl
theorem dL_law_1424 : decode cL_law 1424 = .ok (.aload_n 1, 1) := ldc_at ldc_13_ok (q := (1424, .aload_n 1, 1)) 17 rfl
theorem dL_law_1425 : decode cL_law 1425 = .ok (.invokevirtual 245, 3) := ldc_at ldc_13_ok (q := (1425, .invokevirtual 245, 3)) 18 rfl
theorem dL_law_1428 : decode cL_law 1428 = .ok (.aload_n 2, 1) := ldc_at ldc_13_ok (q := (1428, .aload_n 2, 1)) 19 rfl
theorem dL_law_1429 : decode cL_law 1429 = .ok (.invokevirtual 248, 3) := ldc_at ldc_13_ok (q := (1429, .invokevirtual 248, 3)) 20 rfl
theorem dL_law_1432 : decode cL_law 1432 = .ok (.if_icmp .eq 1461, 3) := ldc_at ldc_13_ok (q := (1432, .if_icmp .eq 1461, 3)) 21 rfl
theorem dL_law_1437 : decode cL_law 1437 = .ok (.aload_n 1, 1) := ldc_at ldc_13_ok (q := (1437, .aload_n 1, 1)) 22 rfl
theorem dL_law_1438 : decode cL_law 1438 = .ok (.invokevirtual 249, 3) := ldc_at ldc_13_ok (q := (1438, .invokevirtual 249, 3)) 23 rfl
theorem dL_law_1441 : decode cL_law 1441 = .ok (.aload_n 2, 1) := ldc_at ldc_13_ok (q := (1441, .aload_n 2, 1)) 24 rfl
theorem dL_law_1442 : decode cL_law 1442 = .ok (.invokevirtual 252, 3) := ldc_at ldc_13_ok (q := (1442, .invokevirtual 252, 3)) 25 rfl
theorem dL_law_1445 : decode cL_law 1445 = .ok (.lcmp, 1) := ldc_at ldc_13_ok (q := (1445, .lcmp, 1)) 26 rfl
theorem dL_law_1446 : decode cL_law 1446 = .ok (.ifCond .eq 1447, 3) := ldc_at ldc_13_ok (q := (1446, .ifCond .eq 1447, 3)) 27 rfl
theorem dL_law_1451 : decode cL_law 1451 = .ok (.aload_n 1, 1) := ldc_at ldc_13_ok (q := (1451, .aload_n 1, 1)) 28 rfl
theorem dL_law_1452 : decode cL_law 1452 = .ok (.invokevirtual 253, 3) := ldc_at ldc_13_ok (q := (1452, .invokevirtual 253, 3)) 29 rfl
theorem dL_law_1455 : decode cL_law 1455 = .ok (.aload_n 2, 1) := ldc_at ldc_13_ok (q := (1455, .aload_n 2, 1)) 30 rfl
theorem dL_law_1456 : decode cL_law 1456 = .ok (.invokevirtual 256, 3) := ldc_at ldc_13_ok (q := (1456, .invokevirtual 256, 3)) 31 rfl
theorem dL_law_1459 : decode cL_law 1459 = .ok (.if_icmp .eq 1434, 3) := ldc_at ldc_13_ok (q := (1459, .if_icmp .eq 1434, 3)) 32 rfl
theorem dL_law_1464 : decode cL_law 1464 = .ok (.aload_n 1, 1) := ldc_at ldc_13_ok (q := (1464, .aload_n 1, 1)) 33 rfl
theorem dL_law_1465 : decode cL_law 1465 = .ok (.aload_n 0, 1) := ldc_at ldc_13_ok (q := (1465, .aload_n 0, 1)) 34 rfl
theorem dL_law_1466 : decode cL_law 1466 = .ok (.iload 5, 2) := ldc_at ldc_13_ok (q := (1466, .iload 5, 2)) 35 rfl
theorem dL_law_1468 : decode cL_law 1468 = .ok (.iconst 1, 1) := ldc_at ldc_13_ok (q := (1468, .iconst 1, 1)) 36 rfl
theorem dL_law_1469 : decode cL_law 1469 = .ok (.iadd, 1) := ldc_at ldc_13_ok (q := (1469, .iadd, 1)) 37 rfl
theorem dL_law_1470 : decode cL_law 1470 = .ok (.iaload, 1) := ldc_at ldc_13_ok (q := (1470, .iaload, 1)) 38 rfl
theorem dL_law_1471 : decode cL_law 1471 = .ok (.aload_n 3, 1) := ldc_at ldc_13_ok (q := (1471, .aload_n 3, 1)) 39 rfl
theorem dL_law_1472 : decode cL_law 1472 = .ok (.invokestatic 257, 3) := ldc_at ldc_13_ok (q := (1472, .invokestatic 257, 3)) 40 rfl
theorem dL_law_1475 : decode cL_law 1475 = .ok (.istore 6, 2) := ldc_at ldc_13_ok (q := (1475, .istore 6, 2)) 41 rfl
theorem dL_law_1477 : decode cL_law 1477 = .ok (.aload_n 2, 1) := ldc_at ldc_13_ok (q := (1477, .aload_n 2, 1)) 42 rfl
theorem dL_law_1478 : decode cL_law 1478 = .ok (.aload_n 0, 1) := ldc_at ldc_13_ok (q := (1478, .aload_n 0, 1)) 43 rfl
theorem dL_law_1479 : decode cL_law 1479 = .ok (.iload 5, 2) := ldc_at ldc_13_ok (q := (1479, .iload 5, 2)) 44 rfl
theorem dL_law_1481 : decode cL_law 1481 = .ok (.iconst 1, 1) := ldc_at ldc_13_ok (q := (1481, .iconst 1, 1)) 45 rfl
theorem dL_law_1482 : decode cL_law 1482 = .ok (.iadd, 1) := ldc_at ldc_13_ok (q := (1482, .iadd, 1)) 46 rfl
theorem dL_law_1483 : decode cL_law 1483 = .ok (.iaload, 1) := ldc_at ldc_13_ok (q := (1483, .iaload, 1)) 47 rfl
def ldc_14 : List (Nat × Jvm.ClassFile.Instr × Nat) := [(1484, .invokevirtual 259, 3), (1487, .istore 7, 2), (1489, .aload_n 2, 1), (1490, .invokevirtual 153, 3), (1493, .iload 6, 2), (1495, .if_icmp .eq 5, 3), (1500, .iload 6, 2), (1502, .ifCond .ne 15, 3), (1517, .goto 1376, 3), (1520, .aload_n 1, 1), (1521, .aload_n 0, 1), (1522, .iload 5, 2), (1524, .iconst 1, 1), (1525, .iadd, 1), (1526, .iaload, 1), (1527, .aload_n 0, 1), (1528, .iload 5, 2), (1530, .iconst 2, 1), (1531, .iadd, 1), (1532, .iaload, 1), (1533, .aload_n 3, 1), (1534, .invokestatic 260, 3), (1537, .istore 6, 2), (1539, .aload_n 2, 1), (1540, .aload_n 0, 1), (1541, .iload 5, 2), (1543, .iconst 1, 1), (1544, .iadd, 1), (1545, .iaload, 1), (1546, .aload_n 0, 1), (1547, .iload 5, 2), (1549, .iconst 2, 1), (1550, .iadd, 1), (1551, .iaload, 1), (1552, .invokevirtual 262, 3), (1555, .istore 7, 2), (1557, .aload_n 2, 1), (1558, .invokevirtual 153, 3), (1561, .iload 6, 2), (1563, .if_icmp .eq 5, 3), (1568, .iload 6, 2), (1570, .ifCond .ne 15, 3), (1585, .goto 1308, 3), (1588, .aload_n 1, 1), (1589, .aload_n 0, 1), (1590, .iload 5, 2), (1592, .iconst 1, 1), (1593, .iadd, 1)]
set_option maxRecDepth 100000 in
theorem ldc_14_ok : ldc_14.all (fun q => decide (decode cL_law q.1 = .ok (q.2.1, q.2.2))) = true := by decide +kernel
theorem dL_law_1484 : decode cL_law 1484 = .ok (.invokevirtual 259, 3) := ldc_at ldc_14_ok (q := (1484, .invokevirtual 259, 3)) 0 rfl
theorem dL_law_1487 : decode cL_law 1487 = .ok (.istore 7, 2) := ldc_at ldc_14_ok (q := (1487, .istore 7, 2)) 1 rfl
theorem dL_law_1489 : decode cL_law 1489 = .ok (.aload_n 2, 1) := ldc_at ldc_14_ok (q := (1489, .aload_n 2, 1)) 2 rfl
theorem dL_law_1490 : decode cL_law 1490 = .ok (.invokevirtual 153, 3) := ldc_at ldc_14_ok (q := (1490, .invokevirtual 153, 3)) 3 rfl
theorem dL_law_1493 : decode cL_law 1493 = .ok (.iload 6, 2) := ldc_at ldc_14_ok (q := (1493, .iload 6, 2)) 4 rfl
theorem dL_law_1495 : decode cL_law 1495 = .ok (.if_icmp .eq 5, 3) := ldc_at ldc_14_ok (q := (1495, .if_icmp .eq 5, 3)) 5 rfl
theorem dL_law_1500 : decode cL_law 1500 = .ok (.iload 6, 2) := ldc_at ldc_14_ok (q := (1500, .iload 6, 2)) 6 rfl
theorem dL_law_1502 : decode cL_law 1502 = .ok (.ifCond .ne 15, 3) := ldc_at ldc_14_ok (q := (1502, .ifCond .ne 15, 3)) 7 rfl
theorem dL_law_1517 : decode cL_law 1517 = .ok (.goto 1376, 3) := ldc_at ldc_14_ok (q := (1517, .goto 1376, 3)) 8 rfl
theorem dL_law_1520 : decode cL_law 1520 = .ok (.aload_n 1, 1) := ldc_at ldc_14_ok (q := (1520, .aload_n 1, 1)) 9 rfl
theorem dL_law_1521 : decode cL_law 1521 = .ok (.aload_n 0, 1) := ldc_at ldc_14_ok (q := (1521, .aload_n 0, 1)) 10 rfl
theorem dL_law_1522 : decode cL_law 1522 = .ok (.iload 5, 2) := ldc_at ldc_14_ok (q := (1522, .iload 5, 2)) 11 rfl
theorem dL_law_1524 : decode cL_law 1524 = .ok (.iconst 1, 1) := ldc_at ldc_14_ok (q := (1524, .iconst 1, 1)) 12 rfl
theorem dL_law_1525 : decode cL_law 1525 = .ok (.iadd, 1) := ldc_at ldc_14_ok (q := (1525, .iadd, 1)) 13 rfl
theorem dL_law_1526 : decode cL_law 1526 = .ok (.iaload, 1) := ldc_at ldc_14_ok (q := (1526, .iaload, 1)) 14 rfl
theorem dL_law_1527 : decode cL_law 1527 = .ok (.aload_n 0, 1) := ldc_at ldc_14_ok (q := (1527, .aload_n 0, 1)) 15 rfl
theorem dL_law_1528 : decode cL_law 1528 = .ok (.iload 5, 2) := ldc_at ldc_14_ok (q := (1528, .iload 5, 2)) 16 rfl
theorem dL_law_1530 : decode cL_law 1530 = .ok (.iconst 2, 1) := ldc_at ldc_14_ok (q := (1530, .iconst 2, 1)) 17 rfl
theorem dL_law_1531 : decode cL_law 1531 = .ok (.iadd, 1) := ldc_at ldc_14_ok (q := (1531, .iadd, 1)) 18 rfl
theorem dL_law_1532 : decode cL_law 1532 = .ok (.iaload, 1) := ldc_at ldc_14_ok (q := (1532, .iaload, 1)) 19 rfl
theorem dL_law_1533 : decode cL_law 1533 = .ok (.aload_n 3, 1) := ldc_at ldc_14_ok (q := (1533, .aload_n 3, 1)) 20 rfl
theorem dL_law_1534 : decode cL_law 1534 = .ok (.invokestatic 260, 3) := ldc_at ldc_14_ok (q := (1534, .invokestatic 260, 3)) 21 rfl
theorem dL_law_1537 : decode cL_law 1537 = .ok (.istore 6, 2) := ldc_at ldc_14_ok (q := (1537, .istore 6, 2)) 22 rfl
theorem dL_law_1539 : decode cL_law 1539 = .ok (.aload_n 2, 1) := ldc_at ldc_14_ok (q := (1539, .aload_n 2, 1)) 23 rfl
theorem dL_law_1540 : decode cL_law 1540 = .ok (.aload_n 0, 1) := ldc_at ldc_14_ok (q := (1540, .aload_n 0, 1)) 24 rfl
theorem dL_law_1541 : decode cL_law 1541 = .ok (.iload 5, 2) := ldc_at ldc_14_ok (q := (1541, .iload 5, 2)) 25 rfl
theorem dL_law_1543 : decode cL_law 1543 = .ok (.iconst 1, 1) := ldc_at ldc_14_ok (q := (1543, .iconst 1, 1)) 26 rfl
theorem dL_law_1544 : decode cL_law 1544 = .ok (.iadd, 1) := ldc_at ldc_14_ok (q := (1544, .iadd, 1)) 27 rfl
theorem dL_law_1545 : decode cL_law 1545 = .ok (.iaload, 1) := ldc_at ldc_14_ok (q := (1545, .iaload, 1)) 28 rfl
theorem dL_law_1546 : decode cL_law 1546 = .ok (.aload_n 0, 1) := ldc_at ldc_14_ok (q := (1546, .aload_n 0, 1)) 29 rfl
theorem dL_law_1547 : decode cL_law 1547 = .ok (.iload 5, 2) := ldc_at ldc_14_ok (q := (1547, .iload 5, 2)) 30 rfl
theorem dL_law_1549 : decode cL_law 1549 = .ok (.iconst 2, 1) := ldc_at ldc_14_ok (q := (1549, .iconst 2, 1)) 31 rfl
theorem dL_law_1550 : decode cL_law 1550 = .ok (.iadd, 1) := ldc_at ldc_14_ok (q := (1550, .iadd, 1)) 32 rfl
theorem dL_law_1551 : decode cL_law 1551 = .ok (.iaload, 1) := ldc_at ldc_14_ok (q := (1551, .iaload, 1)) 33 rfl
theorem dL_law_1552 : decode cL_law 1552 = .ok (.invokevirtual 262, 3) := ldc_at ldc_14_ok (q := (1552, .invokevirtual 262, 3)) 34 rfl
theorem dL_law_1555 : decode cL_law 1555 = .ok (.istore 7, 2) := ldc_at ldc_14_ok (q := (1555, .istore 7, 2)) 35 rfl
theorem dL_law_1557 : decode cL_law 1557 = .ok (.aload_n 2, 1) := ldc_at ldc_14_ok (q := (1557, .aload_n 2, 1)) 36 rfl
theorem dL_law_1558 : decode cL_law 1558 = .ok (.invokevirtual 153, 3) := ldc_at ldc_14_ok (q := (1558, .invokevirtual 153, 3)) 37 rfl
theorem dL_law_1561 : decode cL_law 1561 = .ok (.iload 6, 2) := ldc_at ldc_14_ok (q := (1561, .iload 6, 2)) 38 rfl
theorem dL_law_1563 : decode cL_law 1563 = .ok (.if_icmp .eq 5, 3) := ldc_at ldc_14_ok (q := (1563, .if_icmp .eq 5, 3)) 39 rfl
theorem dL_law_1568 : decode cL_law 1568 = .ok (.iload 6, 2) := ldc_at ldc_14_ok (q := (1568, .iload 6, 2)) 40 rfl
theorem dL_law_1570 : decode cL_law 1570 = .ok (.ifCond .ne 15, 3) := ldc_at ldc_14_ok (q := (1570, .ifCond .ne 15, 3)) 41 rfl
theorem dL_law_1585 : decode cL_law 1585 = .ok (.goto 1308, 3) := ldc_at ldc_14_ok (q := (1585, .goto 1308, 3)) 42 rfl
theorem dL_law_1588 : decode cL_law 1588 = .ok (.aload_n 1, 1) := ldc_at ldc_14_ok (q := (1588, .aload_n 1, 1)) 43 rfl
theorem dL_law_1589 : decode cL_law 1589 = .ok (.aload_n 0, 1) := ldc_at ldc_14_ok (q := (1589, .aload_n 0, 1)) 44 rfl
theorem dL_law_1590 : decode cL_law 1590 = .ok (.iload 5, 2) := ldc_at ldc_14_ok (q := (1590, .iload 5, 2)) 45 rfl
theorem dL_law_1592 : decode cL_law 1592 = .ok (.iconst 1, 1) := ldc_at ldc_14_ok (q := (1592, .iconst 1, 1)) 46 rfl
theorem dL_law_1593 : decode cL_law 1593 = .ok (.iadd, 1) := ldc_at ldc_14_ok (q := (1593, .iadd, 1)) 47 rfl
def ldc_15 : List (Nat × Jvm.ClassFile.Instr × Nat) := [(1594, .iaload, 1), (1595, .aload_n 3, 1), (1596, .invokestatic 263, 3), (1599, .istore 6, 2), (1601, .aload_n 2, 1), (1602, .aload_n 0, 1), (1603, .iload 5, 2), (1605, .iconst 1, 1), (1606, .iadd, 1), (1607, .iaload, 1), (1608, .invokevirtual 265, 3), (1611, .istore 7, 2), (1613, .aload_n 2, 1), (1614, .invokevirtual 153, 3), (1617, .iload 6, 2), (1619, .if_icmp .eq 5, 3), (1624, .iload 6, 2), (1626, .ifCond .ne 15, 3), (1641, .goto 1252, 3), (1644, .aload_n 1, 1), (1645, .invokevirtual 266, 3), (1648, .aload_n 2, 1), (1649, .invokevirtual 269, 3), (1652, .if_icmp .eq 1241, 3), (1657, .aload_n 1, 1), (1658, .aload_n 0, 1), (1659, .iload 5, 2), (1661, .iconst 1, 1), (1662, .iadd, 1), (1663, .iaload, 1), (1664, .aload_n 3, 1), (1665, .invokestatic 270, 3), (1668, .istore 6, 2), (1670, .aload_n 2, 1), (1671, .aload_n 0, 1), (1672, .iload 5, 2), (1674, .iconst 1, 1), (1675, .iadd, 1), (1676, .iaload, 1), (1677, .invokevirtual 272, 3), (1680, .istore 7, 2), (1682, .aload_n 2, 1), (1683, .invokevirtual 153, 3), (1686, .iload 6, 2), (1688, .if_icmp .eq 5, 3), (1693, .iload 6, 2), (1695, .ifCond .ne 15, 3), (1710, .goto 1183, 3)]
set_option maxRecDepth 100000 in
theorem ldc_15_ok : ldc_15.all (fun q => decide (decode cL_law q.1 = .ok (q.2.1, q.2.2))) = true := by decide +kernel
theorem dL_law_1594 : decode cL_law 1594 = .ok (.iaload, 1) := ldc_at ldc_15_ok (q := (1594, .iaload, 1)) 0 rfl
theorem dL_law_1595 : decode cL_law 1595 = .ok (.aload_n 3, 1) := ldc_at ldc_15_ok (q := (1595, .aload_n 3, 1)) 1 rfl
theorem dL_law_1596 : decode cL_law 1596 = .ok (.invokestatic 263, 3) := ldc_at ldc_15_ok (q := (1596, .invokestatic 263, 3)) 2 rfl
theorem dL_law_1599 : decode cL_law 1599 = .ok (.istore 6, 2) := ldc_at ldc_15_ok (q := (1599, .istore 6, 2)) 3 rfl
theorem dL_law_1601 : decode cL_law 1601 = .ok (.aload_n 2, 1) := ldc_at ldc_15_ok (q := (1601, .aload_n 2, 1)) 4 rfl
theorem dL_law_1602 : decode cL_law 1602 = .ok (.aload_n 0, 1) := ldc_at ldc_15_ok (q := (1602, .aload_n 0, 1)) 5 rfl
theorem dL_law_1603 : decode cL_law 1603 = .ok (.iload 5, 2) := ldc_at ldc_15_ok (q := (1603, .iload 5, 2)) 6 rfl
theorem dL_law_1605 : decode cL_law 1605 = .ok (.iconst 1, 1) := ldc_at ldc_15_ok (q := (1605, .iconst 1, 1)) 7 rfl
theorem dL_law_1606 : decode cL_law 1606 = .ok (.iadd, 1) := ldc_at ldc_15_ok (q := (1606, .iadd, 1)) 8 rfl
theorem dL_law_1607 : decode cL_law 1607 = .ok (.iaload, 1) := ldc_at ldc_15_ok (q := (1607, .iaload, 1)) 9 rfl
theorem dL_law_1608 : decode cL_law 1608 = .ok (.invokevirtual 265, 3) := ldc_at ldc_15_ok (q := (1608, .invokevirtual 265, 3)) 10 rfl
theorem dL_law_1611 : decode cL_law 1611 = .ok (.istore 7, 2) := ldc_at ldc_15_ok (q := (1611, .istore 7, 2)) 11 rfl
theorem dL_law_1613 : decode cL_law 1613 = .ok (.aload_n 2, 1) := ldc_at ldc_15_ok (q := (1613, .aload_n 2, 1)) 12 rfl
theorem dL_law_1614 : decode cL_law 1614 = .ok (.invokevirtual 153, 3) := ldc_at ldc_15_ok (q := (1614, .invokevirtual 153, 3)) 13 rfl
theorem dL_law_1617 : decode cL_law 1617 = .ok (.iload 6, 2) := ldc_at ldc_15_ok (q := (1617, .iload 6, 2)) 14 rfl
theorem dL_law_1619 : decode cL_law 1619 = .ok (.if_icmp .eq 5, 3) := ldc_at ldc_15_ok (q := (1619, .if_icmp .eq 5, 3)) 15 rfl
theorem dL_law_1624 : decode cL_law 1624 = .ok (.iload 6, 2) := ldc_at ldc_15_ok (q := (1624, .iload 6, 2)) 16 rfl
theorem dL_law_1626 : decode cL_law 1626 = .ok (.ifCond .ne 15, 3) := ldc_at ldc_15_ok (q := (1626, .ifCond .ne 15, 3)) 17 rfl
theorem dL_law_1641 : decode cL_law 1641 = .ok (.goto 1252, 3) := ldc_at ldc_15_ok (q := (1641, .goto 1252, 3)) 18 rfl
theorem dL_law_1644 : decode cL_law 1644 = .ok (.aload_n 1, 1) := ldc_at ldc_15_ok (q := (1644, .aload_n 1, 1)) 19 rfl
theorem dL_law_1645 : decode cL_law 1645 = .ok (.invokevirtual 266, 3) := ldc_at ldc_15_ok (q := (1645, .invokevirtual 266, 3)) 20 rfl
theorem dL_law_1648 : decode cL_law 1648 = .ok (.aload_n 2, 1) := ldc_at ldc_15_ok (q := (1648, .aload_n 2, 1)) 21 rfl
theorem dL_law_1649 : decode cL_law 1649 = .ok (.invokevirtual 269, 3) := ldc_at ldc_15_ok (q := (1649, .invokevirtual 269, 3)) 22 rfl
theorem dL_law_1652 : decode cL_law 1652 = .ok (.if_icmp .eq 1241, 3) := ldc_at ldc_15_ok (q := (1652, .if_icmp .eq 1241, 3)) 23 rfl
theorem dL_law_1657 : decode cL_law 1657 = .ok (.aload_n 1, 1) := ldc_at ldc_15_ok (q := (1657, .aload_n 1, 1)) 24 rfl
theorem dL_law_1658 : decode cL_law 1658 = .ok (.aload_n 0, 1) := ldc_at ldc_15_ok (q := (1658, .aload_n 0, 1)) 25 rfl
theorem dL_law_1659 : decode cL_law 1659 = .ok (.iload 5, 2) := ldc_at ldc_15_ok (q := (1659, .iload 5, 2)) 26 rfl
theorem dL_law_1661 : decode cL_law 1661 = .ok (.iconst 1, 1) := ldc_at ldc_15_ok (q := (1661, .iconst 1, 1)) 27 rfl
theorem dL_law_1662 : decode cL_law 1662 = .ok (.iadd, 1) := ldc_at ldc_15_ok (q := (1662, .iadd, 1)) 28 rfl
theorem dL_law_1663 : decode cL_law 1663 = .ok (.iaload, 1) := ldc_at ldc_15_ok (q := (1663, .iaload, 1)) 29 rfl
theorem dL_law_1664 : decode cL_law 1664 = .ok (.aload_n 3, 1) := ldc_at ldc_15_ok (q := (1664, .aload_n 3, 1)) 30 rfl
theorem dL_law_1665 : decode cL_law 1665 = .ok (.invokestatic 270, 3) := ldc_at ldc_15_ok (q := (1665, .invokestatic 270, 3)) 31 rfl
theorem dL_law_1668 : decode cL_law 1668 = .ok (.istore 6, 2) := ldc_at ldc_15_ok (q := (1668, .istore 6, 2)) 32 rfl
theorem dL_law_1670 : decode cL_law 1670 = .ok (.aload_n 2, 1) := ldc_at ldc_15_ok (q := (1670, .aload_n 2, 1)) 33 rfl
theorem dL_law_1671 : decode cL_law 1671 = .ok (.aload_n 0, 1) := ldc_at ldc_15_ok (q := (1671, .aload_n 0, 1)) 34 rfl
theorem dL_law_1672 : decode cL_law 1672 = .ok (.iload 5, 2) := ldc_at ldc_15_ok (q := (1672, .iload 5, 2)) 35 rfl
theorem dL_law_1674 : decode cL_law 1674 = .ok (.iconst 1, 1) := ldc_at ldc_15_ok (q := (1674, .iconst 1, 1)) 36 rfl
theorem dL_law_1675 : decode cL_law 1675 = .ok (.iadd, 1) := ldc_at ldc_15_ok (q := (1675, .iadd, 1)) 37 rfl
theorem dL_law_1676 : decode cL_law 1676 = .ok (.iaload, 1) := ldc_at ldc_15_ok (q := (1676, .iaload, 1)) 38 rfl
theorem dL_law_1677 : decode cL_law 1677 = .ok (.invokevirtual 272, 3) := ldc_at ldc_15_ok (q := (1677, .invokevirtual 272, 3)) 39 rfl
theorem dL_law_1680 : decode cL_law 1680 = .ok (.istore 7, 2) := ldc_at ldc_15_ok (q := (1680, .istore 7, 2)) 40 rfl
theorem dL_law_1682 : decode cL_law 1682 = .ok (.aload_n 2, 1) := ldc_at ldc_15_ok (q := (1682, .aload_n 2, 1)) 41 rfl
theorem dL_law_1683 : decode cL_law 1683 = .ok (.invokevirtual 153, 3) := ldc_at ldc_15_ok (q := (1683, .invokevirtual 153, 3)) 42 rfl
theorem dL_law_1686 : decode cL_law 1686 = .ok (.iload 6, 2) := ldc_at ldc_15_ok (q := (1686, .iload 6, 2)) 43 rfl
theorem dL_law_1688 : decode cL_law 1688 = .ok (.if_icmp .eq 5, 3) := ldc_at ldc_15_ok (q := (1688, .if_icmp .eq 5, 3)) 44 rfl
theorem dL_law_1693 : decode cL_law 1693 = .ok (.iload 6, 2) := ldc_at ldc_15_ok (q := (1693, .iload 6, 2)) 45 rfl
theorem dL_law_1695 : decode cL_law 1695 = .ok (.ifCond .ne 15, 3) := ldc_at ldc_15_ok (q := (1695, .ifCond .ne 15, 3)) 46 rfl
theorem dL_law_1710 : decode cL_law 1710 = .ok (.goto 1183, 3) := ldc_at ldc_15_ok (q := (1710, .goto 1183, 3)) 47 rfl
def ldc_16 : List (Nat × Jvm.ClassFile.Instr × Nat) := [(1713, .aload_n 1, 1), (1714, .aload_n 0, 1), (1715, .iload 5, 2), (1717, .iconst 1, 1), (1718, .iadd, 1), (1719, .iaload, 1), (1720, .aload_n 3, 1), (1721, .invokestatic 273, 3), (1724, .istore 6, 2), (1726, .aload_n 2, 1), (1727, .aload_n 0, 1), (1728, .iload 5, 2), (1730, .iconst 1, 1), (1731, .iadd, 1), (1732, .iaload, 1), (1733, .invokevirtual 275, 3), (1736, .istore 7, 2), (1738, .aload_n 2, 1), (1739, .invokevirtual 153, 3), (1742, .iload 6, 2), (1744, .if_icmp .eq 5, 3), (1749, .iload 6, 2), (1751, .ifCond .ne 22, 3), (1773, .goto 1120, 3), (1776, .aload_n 1, 1), (1777, .aload_n 0, 1), (1778, .iload 5, 2), (1780, .iconst 1, 1), (1781, .iadd, 1), (1782, .iaload, 1), (1783, .aload_n 0, 1), (1784, .iload 5, 2), (1786, .iconst 2, 1), (1787, .iadd, 1), (1788, .iaload, 1), (1789, .aload_n 3, 1), (1790, .invokestatic 276, 3), (1793, .istore 6, 2), (1795, .aload_n 2, 1), (1796, .aload_n 0, 1), (1797, .iload 5, 2), (1799, .iconst 1, 1), (1800, .iadd, 1), (1801, .iaload, 1), (1802, .aload_n 0, 1), (1803, .iload 5, 2), (1805, .iconst 2, 1), (1806, .iadd, 1)]
set_option maxRecDepth 100000 in
theorem ldc_16_ok : ldc_16.all (fun q => decide (decode cL_law q.1 = .ok (q.2.1, q.2.2))) = true := by decide +kernel
theorem dL_law_1713 : decode cL_law 1713 = .ok (.aload_n 1, 1) := ldc_at ldc_16_ok (q := (1713, .aload_n 1, 1)) 0 rfl
theorem dL_law_1714 : decode cL_law 1714 = .ok (.aload_n 0, 1) := ldc_at ldc_16_ok (q := (1714, .aload_n 0, 1)) 1 rfl
theorem dL_law_1715 : decode cL_law 1715 = .ok (.iload 5, 2) := ldc_at ldc_16_ok (q := (1715, .iload 5, 2)) 2 rfl
theorem dL_law_1717 : decode cL_law 1717 = .ok (.iconst 1, 1) := ldc_at ldc_16_ok (q := (1717, .iconst 1, 1)) 3 rfl
theorem dL_law_1718 : decode cL_law 1718 = .ok (.iadd, 1) := ldc_at ldc_16_ok (q := (1718, .iadd, 1)) 4 rfl
theorem dL_law_1719 : decode cL_law 1719 = .ok (.iaload, 1) := ldc_at ldc_16_ok (q := (1719, .iaload, 1)) 5 rfl
theorem dL_law_1720 : decode cL_law 1720 = .ok (.aload_n 3, 1) := ldc_at ldc_16_ok (q := (1720, .aload_n 3, 1)) 6 rfl
theorem dL_law_1721 : decode cL_law 1721 = .ok (.invokestatic 273, 3) := ldc_at ldc_16_ok (q := (1721, .invokestatic 273, 3)) 7 rfl
theorem dL_law_1724 : decode cL_law 1724 = .ok (.istore 6, 2) := ldc_at ldc_16_ok (q := (1724, .istore 6, 2)) 8 rfl
theorem dL_law_1726 : decode cL_law 1726 = .ok (.aload_n 2, 1) := ldc_at ldc_16_ok (q := (1726, .aload_n 2, 1)) 9 rfl
theorem dL_law_1727 : decode cL_law 1727 = .ok (.aload_n 0, 1) := ldc_at ldc_16_ok (q := (1727, .aload_n 0, 1)) 10 rfl
theorem dL_law_1728 : decode cL_law 1728 = .ok (.iload 5, 2) := ldc_at ldc_16_ok (q := (1728, .iload 5, 2)) 11 rfl
theorem dL_law_1730 : decode cL_law 1730 = .ok (.iconst 1, 1) := ldc_at ldc_16_ok (q := (1730, .iconst 1, 1)) 12 rfl
theorem dL_law_1731 : decode cL_law 1731 = .ok (.iadd, 1) := ldc_at ldc_16_ok (q := (1731, .iadd, 1)) 13 rfl
theorem dL_law_1732 : decode cL_law 1732 = .ok (.iaload, 1) := ldc_at ldc_16_ok (q := (1732, .iaload, 1)) 14 rfl
theorem dL_law_1733 : decode cL_law 1733 = .ok (.invokevirtual 275, 3) := ldc_at ldc_16_ok (q := (1733, .invokevirtual 275, 3)) 15 rfl
theorem dL_law_1736 : decode cL_law 1736 = .ok (.istore 7, 2) := ldc_at ldc_16_ok (q := (1736, .istore 7, 2)) 16 rfl
theorem dL_law_1738 : decode cL_law 1738 = .ok (.aload_n 2, 1) := ldc_at ldc_16_ok (q := (1738, .aload_n 2, 1)) 17 rfl
theorem dL_law_1739 : decode cL_law 1739 = .ok (.invokevirtual 153, 3) := ldc_at ldc_16_ok (q := (1739, .invokevirtual 153, 3)) 18 rfl
theorem dL_law_1742 : decode cL_law 1742 = .ok (.iload 6, 2) := ldc_at ldc_16_ok (q := (1742, .iload 6, 2)) 19 rfl
theorem dL_law_1744 : decode cL_law 1744 = .ok (.if_icmp .eq 5, 3) := ldc_at ldc_16_ok (q := (1744, .if_icmp .eq 5, 3)) 20 rfl
theorem dL_law_1749 : decode cL_law 1749 = .ok (.iload 6, 2) := ldc_at ldc_16_ok (q := (1749, .iload 6, 2)) 21 rfl
theorem dL_law_1751 : decode cL_law 1751 = .ok (.ifCond .ne 22, 3) := ldc_at ldc_16_ok (q := (1751, .ifCond .ne 22, 3)) 22 rfl
theorem dL_law_1773 : decode cL_law 1773 = .ok (.goto 1120, 3) := ldc_at ldc_16_ok (q := (1773, .goto 1120, 3)) 23 rfl
theorem dL_law_1776 : decode cL_law 1776 = .ok (.aload_n 1, 1) := ldc_at ldc_16_ok (q := (1776, .aload_n 1, 1)) 24 rfl
theorem dL_law_1777 : decode cL_law 1777 = .ok (.aload_n 0, 1) := ldc_at ldc_16_ok (q := (1777, .aload_n 0, 1)) 25 rfl
theorem dL_law_1778 : decode cL_law 1778 = .ok (.iload 5, 2) := ldc_at ldc_16_ok (q := (1778, .iload 5, 2)) 26 rfl
theorem dL_law_1780 : decode cL_law 1780 = .ok (.iconst 1, 1) := ldc_at ldc_16_ok (q := (1780, .iconst 1, 1)) 27 rfl
theorem dL_law_1781 : decode cL_law 1781 = .ok (.iadd, 1) := ldc_at ldc_16_ok (q := (1781, .iadd, 1)) 28 rfl
theorem dL_law_1782 : decode cL_law 1782 = .ok (.iaload, 1) := ldc_at ldc_16_ok (q := (1782, .iaload, 1)) 29 rfl
theorem dL_law_1783 : decode cL_law 1783 = .ok (.aload_n 0, 1) := ldc_at ldc_16_ok (q := (1783, .aload_n 0, 1)) 30 rfl
theorem dL_law_1784 : decode cL_law 1784 = .ok (.iload 5, 2) := ldc_at ldc_16_ok (q := (1784, .iload 5, 2)) 31 rfl
theorem dL_law_1786 : decode cL_law 1786 = .ok (.iconst 2, 1) := ldc_at ldc_16_ok (q := (1786, .iconst 2, 1)) 32 rfl
theorem dL_law_1787 : decode cL_law 1787 = .ok (.iadd, 1) := ldc_at ldc_16_ok (q := (1787, .iadd, 1)) 33 rfl
theorem dL_law_1788 : decode cL_law 1788 = .ok (.iaload, 1) := ldc_at ldc_16_ok (q := (1788, .iaload, 1)) 34 rfl
theorem dL_law_1789 : decode cL_law 1789 = .ok (.aload_n 3, 1) := ldc_at ldc_16_ok (q := (1789, .aload_n 3, 1)) 35 rfl
theorem dL_law_1790 : decode cL_law 1790 = .ok (.invokestatic 276, 3) := ldc_at ldc_16_ok (q := (1790, .invokestatic 276, 3)) 36 rfl
theorem dL_law_1793 : decode cL_law 1793 = .ok (.istore 6, 2) := ldc_at ldc_16_ok (q := (1793, .istore 6, 2)) 37 rfl
theorem dL_law_1795 : decode cL_law 1795 = .ok (.aload_n 2, 1) := ldc_at ldc_16_ok (q := (1795, .aload_n 2, 1)) 38 rfl
theorem dL_law_1796 : decode cL_law 1796 = .ok (.aload_n 0, 1) := ldc_at ldc_16_ok (q := (1796, .aload_n 0, 1)) 39 rfl
theorem dL_law_1797 : decode cL_law 1797 = .ok (.iload 5, 2) := ldc_at ldc_16_ok (q := (1797, .iload 5, 2)) 40 rfl
theorem dL_law_1799 : decode cL_law 1799 = .ok (.iconst 1, 1) := ldc_at ldc_16_ok (q := (1799, .iconst 1, 1)) 41 rfl
theorem dL_law_1800 : decode cL_law 1800 = .ok (.iadd, 1) := ldc_at ldc_16_ok (q := (1800, .iadd, 1)) 42 rfl
theorem dL_law_1801 : decode cL_law 1801 = .ok (.iaload, 1) := ldc_at ldc_16_ok (q := (1801, .iaload, 1)) 43 rfl
theorem dL_law_1802 : decode cL_law 1802 = .ok (.aload_n 0, 1) := ldc_at ldc_16_ok (q := (1802, .aload_n 0, 1)) 44 rfl
theorem dL_law_1803 : decode cL_law 1803 = .ok (.iload 5, 2) := ldc_at ldc_16_ok (q := (1803, .iload 5, 2)) 45 rfl
theorem dL_law_1805 : decode cL_law 1805 = .ok (.iconst 2, 1) := ldc_at ldc_16_ok (q := (1805, .iconst 2, 1)) 46 rfl
theorem dL_law_1806 : decode cL_law 1806 = .ok (.iadd, 1) := ldc_at ldc_16_ok (q := (1806, .iadd, 1)) 47 rfl
def ldc_17 : List (Nat × Jvm.ClassFile.Instr × Nat) := [(1807, .iaload, 1), (1808, .invokevirtual 278, 3), (1811, .istore 7, 2), (1813, .aload_n 2, 1), (1814, .invokevirtual 153, 3), (1817, .iload 6, 2), (1819, .if_icmp .eq 5, 3), (1824, .iload 6, 2), (1826, .ifCond .ne 22, 3), (1848, .goto 1045, 3), (1851, .aload_n 1, 1), (1852, .invokevirtual 279, 3), (1855, .aload_n 2, 1), (1856, .invokevirtual 282, 3), (1859, .if_icmp .eq 1034, 3), (1864, .aload_n 1, 1), (1865, .invokevirtual 283, 3), (1868, .aload_n 2, 1), (1869, .invokevirtual 286, 3), (1872, .if_icmp .eq 1021, 3), (1877, .aload_n 1, 1), (1878, .aload_n 0, 1), (1879, .iload 5, 2), (1881, .iconst 1, 1), (1882, .iadd, 1), (1883, .iaload, 1), (1884, .aload_n 3, 1), (1885, .invokestatic 287, 3), (1888, .istore 6, 2), (1890, .aload_n 2, 1), (1891, .aload_n 0, 1), (1892, .iload 5, 2), (1894, .iconst 1, 1), (1895, .iadd, 1), (1896, .iaload, 1), (1897, .invokevirtual 289, 3), (1900, .istore 7, 2), (1902, .aload_n 2, 1), (1903, .invokevirtual 153, 3), (1906, .iload 6, 2), (1908, .if_icmp .eq 5, 3), (1913, .iload 6, 2), (1915, .ifCond .ne 15, 3), (1918, .aload_n 3, 1), (1919, .iconst 0, 1), (1920, .laload, 1), (1921, .iload 7, 2), (1923, .i2l, 1)]
set_option maxRecDepth 100000 in
theorem ldc_17_ok : ldc_17.all (fun q => decide (decode cL_law q.1 = .ok (q.2.1, q.2.2))) = true := by decide +kernel
theorem dL_law_1807 : decode cL_law 1807 = .ok (.iaload, 1) := ldc_at ldc_17_ok (q := (1807, .iaload, 1)) 0 rfl
theorem dL_law_1808 : decode cL_law 1808 = .ok (.invokevirtual 278, 3) := ldc_at ldc_17_ok (q := (1808, .invokevirtual 278, 3)) 1 rfl
theorem dL_law_1811 : decode cL_law 1811 = .ok (.istore 7, 2) := ldc_at ldc_17_ok (q := (1811, .istore 7, 2)) 2 rfl
theorem dL_law_1813 : decode cL_law 1813 = .ok (.aload_n 2, 1) := ldc_at ldc_17_ok (q := (1813, .aload_n 2, 1)) 3 rfl
theorem dL_law_1814 : decode cL_law 1814 = .ok (.invokevirtual 153, 3) := ldc_at ldc_17_ok (q := (1814, .invokevirtual 153, 3)) 4 rfl
theorem dL_law_1817 : decode cL_law 1817 = .ok (.iload 6, 2) := ldc_at ldc_17_ok (q := (1817, .iload 6, 2)) 5 rfl
theorem dL_law_1819 : decode cL_law 1819 = .ok (.if_icmp .eq 5, 3) := ldc_at ldc_17_ok (q := (1819, .if_icmp .eq 5, 3)) 6 rfl
theorem dL_law_1824 : decode cL_law 1824 = .ok (.iload 6, 2) := ldc_at ldc_17_ok (q := (1824, .iload 6, 2)) 7 rfl
theorem dL_law_1826 : decode cL_law 1826 = .ok (.ifCond .ne 22, 3) := ldc_at ldc_17_ok (q := (1826, .ifCond .ne 22, 3)) 8 rfl
theorem dL_law_1848 : decode cL_law 1848 = .ok (.goto 1045, 3) := ldc_at ldc_17_ok (q := (1848, .goto 1045, 3)) 9 rfl
theorem dL_law_1851 : decode cL_law 1851 = .ok (.aload_n 1, 1) := ldc_at ldc_17_ok (q := (1851, .aload_n 1, 1)) 10 rfl
theorem dL_law_1852 : decode cL_law 1852 = .ok (.invokevirtual 279, 3) := ldc_at ldc_17_ok (q := (1852, .invokevirtual 279, 3)) 11 rfl
theorem dL_law_1855 : decode cL_law 1855 = .ok (.aload_n 2, 1) := ldc_at ldc_17_ok (q := (1855, .aload_n 2, 1)) 12 rfl
theorem dL_law_1856 : decode cL_law 1856 = .ok (.invokevirtual 282, 3) := ldc_at ldc_17_ok (q := (1856, .invokevirtual 282, 3)) 13 rfl
theorem dL_law_1859 : decode cL_law 1859 = .ok (.if_icmp .eq 1034, 3) := ldc_at ldc_17_ok (q := (1859, .if_icmp .eq 1034, 3)) 14 rfl
theorem dL_law_1864 : decode cL_law 1864 = .ok (.aload_n 1, 1) := ldc_at ldc_17_ok (q := (1864, .aload_n 1, 1)) 15 rfl
theorem dL_law_1865 : decode cL_law 1865 = .ok (.invokevirtual 283, 3) := ldc_at ldc_17_ok (q := (1865, .invokevirtual 283, 3)) 16 rfl
theorem dL_law_1868 : decode cL_law 1868 = .ok (.aload_n 2, 1) := ldc_at ldc_17_ok (q := (1868, .aload_n 2, 1)) 17 rfl
theorem dL_law_1869 : decode cL_law 1869 = .ok (.invokevirtual 286, 3) := ldc_at ldc_17_ok (q := (1869, .invokevirtual 286, 3)) 18 rfl
theorem dL_law_1872 : decode cL_law 1872 = .ok (.if_icmp .eq 1021, 3) := ldc_at ldc_17_ok (q := (1872, .if_icmp .eq 1021, 3)) 19 rfl
theorem dL_law_1877 : decode cL_law 1877 = .ok (.aload_n 1, 1) := ldc_at ldc_17_ok (q := (1877, .aload_n 1, 1)) 20 rfl
theorem dL_law_1878 : decode cL_law 1878 = .ok (.aload_n 0, 1) := ldc_at ldc_17_ok (q := (1878, .aload_n 0, 1)) 21 rfl
theorem dL_law_1879 : decode cL_law 1879 = .ok (.iload 5, 2) := ldc_at ldc_17_ok (q := (1879, .iload 5, 2)) 22 rfl
theorem dL_law_1881 : decode cL_law 1881 = .ok (.iconst 1, 1) := ldc_at ldc_17_ok (q := (1881, .iconst 1, 1)) 23 rfl
theorem dL_law_1882 : decode cL_law 1882 = .ok (.iadd, 1) := ldc_at ldc_17_ok (q := (1882, .iadd, 1)) 24 rfl
theorem dL_law_1883 : decode cL_law 1883 = .ok (.iaload, 1) := ldc_at ldc_17_ok (q := (1883, .iaload, 1)) 25 rfl
theorem dL_law_1884 : decode cL_law 1884 = .ok (.aload_n 3, 1) := ldc_at ldc_17_ok (q := (1884, .aload_n 3, 1)) 26 rfl
theorem dL_law_1885 : decode cL_law 1885 = .ok (.invokestatic 287, 3) := ldc_at ldc_17_ok (q := (1885, .invokestatic 287, 3)) 27 rfl
theorem dL_law_1888 : decode cL_law 1888 = .ok (.istore 6, 2) := ldc_at ldc_17_ok (q := (1888, .istore 6, 2)) 28 rfl
theorem dL_law_1890 : decode cL_law 1890 = .ok (.aload_n 2, 1) := ldc_at ldc_17_ok (q := (1890, .aload_n 2, 1)) 29 rfl
theorem dL_law_1891 : decode cL_law 1891 = .ok (.aload_n 0, 1) := ldc_at ldc_17_ok (q := (1891, .aload_n 0, 1)) 30 rfl
theorem dL_law_1892 : decode cL_law 1892 = .ok (.iload 5, 2) := ldc_at ldc_17_ok (q := (1892, .iload 5, 2)) 31 rfl
theorem dL_law_1894 : decode cL_law 1894 = .ok (.iconst 1, 1) := ldc_at ldc_17_ok (q := (1894, .iconst 1, 1)) 32 rfl
theorem dL_law_1895 : decode cL_law 1895 = .ok (.iadd, 1) := ldc_at ldc_17_ok (q := (1895, .iadd, 1)) 33 rfl
theorem dL_law_1896 : decode cL_law 1896 = .ok (.iaload, 1) := ldc_at ldc_17_ok (q := (1896, .iaload, 1)) 34 rfl
theorem dL_law_1897 : decode cL_law 1897 = .ok (.invokevirtual 289, 3) := ldc_at ldc_17_ok (q := (1897, .invokevirtual 289, 3)) 35 rfl
theorem dL_law_1900 : decode cL_law 1900 = .ok (.istore 7, 2) := ldc_at ldc_17_ok (q := (1900, .istore 7, 2)) 36 rfl
theorem dL_law_1902 : decode cL_law 1902 = .ok (.aload_n 2, 1) := ldc_at ldc_17_ok (q := (1902, .aload_n 2, 1)) 37 rfl
theorem dL_law_1903 : decode cL_law 1903 = .ok (.invokevirtual 153, 3) := ldc_at ldc_17_ok (q := (1903, .invokevirtual 153, 3)) 38 rfl
theorem dL_law_1906 : decode cL_law 1906 = .ok (.iload 6, 2) := ldc_at ldc_17_ok (q := (1906, .iload 6, 2)) 39 rfl
theorem dL_law_1908 : decode cL_law 1908 = .ok (.if_icmp .eq 5, 3) := ldc_at ldc_17_ok (q := (1908, .if_icmp .eq 5, 3)) 40 rfl
theorem dL_law_1913 : decode cL_law 1913 = .ok (.iload 6, 2) := ldc_at ldc_17_ok (q := (1913, .iload 6, 2)) 41 rfl
theorem dL_law_1915 : decode cL_law 1915 = .ok (.ifCond .ne 15, 3) := ldc_at ldc_17_ok (q := (1915, .ifCond .ne 15, 3)) 42 rfl
theorem dL_law_1918 : decode cL_law 1918 = .ok (.aload_n 3, 1) := ldc_at ldc_17_ok (q := (1918, .aload_n 3, 1)) 43 rfl
theorem dL_law_1919 : decode cL_law 1919 = .ok (.iconst 0, 1) := ldc_at ldc_17_ok (q := (1919, .iconst 0, 1)) 44 rfl
theorem dL_law_1920 : decode cL_law 1920 = .ok (.laload, 1) := ldc_at ldc_17_ok (q := (1920, .laload, 1)) 45 rfl
theorem dL_law_1921 : decode cL_law 1921 = .ok (.iload 7, 2) := ldc_at ldc_17_ok (q := (1921, .iload 7, 2)) 46 rfl
theorem dL_law_1923 : decode cL_law 1923 = .ok (.i2l, 1) := ldc_at ldc_17_ok (q := (1923, .i2l, 1)) 47 rfl
def ldc_18 : List (Nat × Jvm.ClassFile.Instr × Nat) := [(1924, .lcmp, 1), (1925, .ifCond .eq 5, 3), (1930, .goto 963, 3), (1933, .aload_n 1, 1), (1934, .invokevirtual 290, 3), (1937, .aload_n 2, 1), (1938, .invokevirtual 293, 3), (1941, .lcmp, 1), (1942, .ifCond .eq 951, 3), (1947, .aload_n 1, 1), (1948, .aload_n 0, 1), (1949, .iload 5, 2), (1951, .iconst 1, 1), (1952, .iadd, 1), (1953, .iaload, 1), (1954, .aload_n 3, 1), (1955, .invokestatic 294, 3), (1958, .istore 6, 2), (1960, .aload_n 2, 1), (1961, .aload_n 0, 1), (1962, .iload 5, 2), (1964, .iconst 1, 1), (1965, .iadd, 1), (1966, .iaload, 1), (1967, .invokevirtual 296, 3), (1970, .lstore 7, 2), (1972, .aload_n 2, 1), (1973, .invokevirtual 153, 3), (1976, .iload 6, 2), (1978, .if_icmp .eq 5, 3), (1983, .iload 6, 2), (1985, .ifCond .ne 14, 3), (1988, .aload_n 3, 1), (1989, .iconst 0, 1), (1990, .laload, 1), (1991, .lload 7, 2), (1993, .lcmp, 1), (1994, .ifCond .eq 5, 3), (1999, .goto 894, 3), (2002, .aload_n 1, 1), (2003, .aload 4, 2), (2005, .invokestatic 297, 3), (2008, .istore 6, 2), (2010, .aload_n 2, 1), (2011, .invokevirtual 300, 3), (2014, .dstore 7, 2), (2016, .aload_n 2, 1), (2017, .invokevirtual 153, 3)]
set_option maxRecDepth 100000 in
theorem ldc_18_ok : ldc_18.all (fun q => decide (decode cL_law q.1 = .ok (q.2.1, q.2.2))) = true := by decide +kernel
theorem dL_law_1924 : decode cL_law 1924 = .ok (.lcmp, 1) := ldc_at ldc_18_ok (q := (1924, .lcmp, 1)) 0 rfl
theorem dL_law_1925 : decode cL_law 1925 = .ok (.ifCond .eq 5, 3) := ldc_at ldc_18_ok (q := (1925, .ifCond .eq 5, 3)) 1 rfl
theorem dL_law_1930 : decode cL_law 1930 = .ok (.goto 963, 3) := ldc_at ldc_18_ok (q := (1930, .goto 963, 3)) 2 rfl
theorem dL_law_1933 : decode cL_law 1933 = .ok (.aload_n 1, 1) := ldc_at ldc_18_ok (q := (1933, .aload_n 1, 1)) 3 rfl
theorem dL_law_1934 : decode cL_law 1934 = .ok (.invokevirtual 290, 3) := ldc_at ldc_18_ok (q := (1934, .invokevirtual 290, 3)) 4 rfl
theorem dL_law_1937 : decode cL_law 1937 = .ok (.aload_n 2, 1) := ldc_at ldc_18_ok (q := (1937, .aload_n 2, 1)) 5 rfl
theorem dL_law_1938 : decode cL_law 1938 = .ok (.invokevirtual 293, 3) := ldc_at ldc_18_ok (q := (1938, .invokevirtual 293, 3)) 6 rfl
theorem dL_law_1941 : decode cL_law 1941 = .ok (.lcmp, 1) := ldc_at ldc_18_ok (q := (1941, .lcmp, 1)) 7 rfl
theorem dL_law_1942 : decode cL_law 1942 = .ok (.ifCond .eq 951, 3) := ldc_at ldc_18_ok (q := (1942, .ifCond .eq 951, 3)) 8 rfl
theorem dL_law_1947 : decode cL_law 1947 = .ok (.aload_n 1, 1) := ldc_at ldc_18_ok (q := (1947, .aload_n 1, 1)) 9 rfl
theorem dL_law_1948 : decode cL_law 1948 = .ok (.aload_n 0, 1) := ldc_at ldc_18_ok (q := (1948, .aload_n 0, 1)) 10 rfl
theorem dL_law_1949 : decode cL_law 1949 = .ok (.iload 5, 2) := ldc_at ldc_18_ok (q := (1949, .iload 5, 2)) 11 rfl
theorem dL_law_1951 : decode cL_law 1951 = .ok (.iconst 1, 1) := ldc_at ldc_18_ok (q := (1951, .iconst 1, 1)) 12 rfl
theorem dL_law_1952 : decode cL_law 1952 = .ok (.iadd, 1) := ldc_at ldc_18_ok (q := (1952, .iadd, 1)) 13 rfl
theorem dL_law_1953 : decode cL_law 1953 = .ok (.iaload, 1) := ldc_at ldc_18_ok (q := (1953, .iaload, 1)) 14 rfl
theorem dL_law_1954 : decode cL_law 1954 = .ok (.aload_n 3, 1) := ldc_at ldc_18_ok (q := (1954, .aload_n 3, 1)) 15 rfl
theorem dL_law_1955 : decode cL_law 1955 = .ok (.invokestatic 294, 3) := ldc_at ldc_18_ok (q := (1955, .invokestatic 294, 3)) 16 rfl
theorem dL_law_1958 : decode cL_law 1958 = .ok (.istore 6, 2) := ldc_at ldc_18_ok (q := (1958, .istore 6, 2)) 17 rfl
theorem dL_law_1960 : decode cL_law 1960 = .ok (.aload_n 2, 1) := ldc_at ldc_18_ok (q := (1960, .aload_n 2, 1)) 18 rfl
theorem dL_law_1961 : decode cL_law 1961 = .ok (.aload_n 0, 1) := ldc_at ldc_18_ok (q := (1961, .aload_n 0, 1)) 19 rfl
theorem dL_law_1962 : decode cL_law 1962 = .ok (.iload 5, 2) := ldc_at ldc_18_ok (q := (1962, .iload 5, 2)) 20 rfl
theorem dL_law_1964 : decode cL_law 1964 = .ok (.iconst 1, 1) := ldc_at ldc_18_ok (q := (1964, .iconst 1, 1)) 21 rfl
theorem dL_law_1965 : decode cL_law 1965 = .ok (.iadd, 1) := ldc_at ldc_18_ok (q := (1965, .iadd, 1)) 22 rfl
theorem dL_law_1966 : decode cL_law 1966 = .ok (.iaload, 1) := ldc_at ldc_18_ok (q := (1966, .iaload, 1)) 23 rfl
theorem dL_law_1967 : decode cL_law 1967 = .ok (.invokevirtual 296, 3) := ldc_at ldc_18_ok (q := (1967, .invokevirtual 296, 3)) 24 rfl
theorem dL_law_1970 : decode cL_law 1970 = .ok (.lstore 7, 2) := ldc_at ldc_18_ok (q := (1970, .lstore 7, 2)) 25 rfl
theorem dL_law_1972 : decode cL_law 1972 = .ok (.aload_n 2, 1) := ldc_at ldc_18_ok (q := (1972, .aload_n 2, 1)) 26 rfl
theorem dL_law_1973 : decode cL_law 1973 = .ok (.invokevirtual 153, 3) := ldc_at ldc_18_ok (q := (1973, .invokevirtual 153, 3)) 27 rfl
theorem dL_law_1976 : decode cL_law 1976 = .ok (.iload 6, 2) := ldc_at ldc_18_ok (q := (1976, .iload 6, 2)) 28 rfl
theorem dL_law_1978 : decode cL_law 1978 = .ok (.if_icmp .eq 5, 3) := ldc_at ldc_18_ok (q := (1978, .if_icmp .eq 5, 3)) 29 rfl
theorem dL_law_1983 : decode cL_law 1983 = .ok (.iload 6, 2) := ldc_at ldc_18_ok (q := (1983, .iload 6, 2)) 30 rfl
theorem dL_law_1985 : decode cL_law 1985 = .ok (.ifCond .ne 14, 3) := ldc_at ldc_18_ok (q := (1985, .ifCond .ne 14, 3)) 31 rfl
theorem dL_law_1988 : decode cL_law 1988 = .ok (.aload_n 3, 1) := ldc_at ldc_18_ok (q := (1988, .aload_n 3, 1)) 32 rfl
theorem dL_law_1989 : decode cL_law 1989 = .ok (.iconst 0, 1) := ldc_at ldc_18_ok (q := (1989, .iconst 0, 1)) 33 rfl
theorem dL_law_1990 : decode cL_law 1990 = .ok (.laload, 1) := ldc_at ldc_18_ok (q := (1990, .laload, 1)) 34 rfl
theorem dL_law_1991 : decode cL_law 1991 = .ok (.lload 7, 2) := ldc_at ldc_18_ok (q := (1991, .lload 7, 2)) 35 rfl
theorem dL_law_1993 : decode cL_law 1993 = .ok (.lcmp, 1) := ldc_at ldc_18_ok (q := (1993, .lcmp, 1)) 36 rfl
theorem dL_law_1994 : decode cL_law 1994 = .ok (.ifCond .eq 5, 3) := ldc_at ldc_18_ok (q := (1994, .ifCond .eq 5, 3)) 37 rfl
theorem dL_law_1999 : decode cL_law 1999 = .ok (.goto 894, 3) := ldc_at ldc_18_ok (q := (1999, .goto 894, 3)) 38 rfl
theorem dL_law_2002 : decode cL_law 2002 = .ok (.aload_n 1, 1) := ldc_at ldc_18_ok (q := (2002, .aload_n 1, 1)) 39 rfl
theorem dL_law_2003 : decode cL_law 2003 = .ok (.aload 4, 2) := ldc_at ldc_18_ok (q := (2003, .aload 4, 2)) 40 rfl
theorem dL_law_2005 : decode cL_law 2005 = .ok (.invokestatic 297, 3) := ldc_at ldc_18_ok (q := (2005, .invokestatic 297, 3)) 41 rfl
theorem dL_law_2008 : decode cL_law 2008 = .ok (.istore 6, 2) := ldc_at ldc_18_ok (q := (2008, .istore 6, 2)) 42 rfl
theorem dL_law_2010 : decode cL_law 2010 = .ok (.aload_n 2, 1) := ldc_at ldc_18_ok (q := (2010, .aload_n 2, 1)) 43 rfl
theorem dL_law_2011 : decode cL_law 2011 = .ok (.invokevirtual 300, 3) := ldc_at ldc_18_ok (q := (2011, .invokevirtual 300, 3)) 44 rfl
theorem dL_law_2014 : decode cL_law 2014 = .ok (.dstore 7, 2) := ldc_at ldc_18_ok (q := (2014, .dstore 7, 2)) 45 rfl
theorem dL_law_2016 : decode cL_law 2016 = .ok (.aload_n 2, 1) := ldc_at ldc_18_ok (q := (2016, .aload_n 2, 1)) 46 rfl
theorem dL_law_2017 : decode cL_law 2017 = .ok (.invokevirtual 153, 3) := ldc_at ldc_18_ok (q := (2017, .invokevirtual 153, 3)) 47 rfl
def ldc_19 : List (Nat × Jvm.ClassFile.Instr × Nat) := [(2020, .iload 6, 2), (2022, .if_icmp .eq 5, 3), (2027, .iload 6, 2), (2029, .ifCond .ne 35, 3), (2064, .goto 829, 3), (2067, .aload_n 1, 1), (2068, .invokevirtual 301, 3), (2071, .aload_n 2, 1), (2072, .invokevirtual 304, 3), (2075, .if_icmp .eq 818, 3), (2080, .aload_n 1, 1), (2081, .invokevirtual 305, 3), (2084, .aload_n 2, 1), (2085, .invokevirtual 308, 3), (2088, .if_icmp .eq 805, 3), (2093, .aload_n 1, 1), (2094, .aload_n 0, 1), (2095, .iload 5, 2), (2097, .iconst 1, 1), (2098, .iadd, 1), (2099, .iaload, 1), (2100, .aload_n 0, 1), (2101, .iload 5, 2), (2103, .iconst 2, 1), (2104, .iadd, 1), (2105, .iaload, 1), (2106, .aload_n 3, 1), (2107, .invokestatic 309, 3), (2110, .istore 6, 2), (2112, .aload_n 2, 1), (2113, .aload_n 0, 1), (2114, .iload 5, 2), (2116, .iconst 1, 1), (2117, .iadd, 1), (2118, .iaload, 1), (2119, .aload_n 0, 1), (2120, .iload 5, 2), (2122, .iconst 2, 1), (2123, .iadd, 1), (2124, .iaload, 1), (2125, .invokevirtual 311, 3), (2128, .istore 7, 2), (2130, .aload_n 2, 1), (2131, .invokevirtual 153, 3), (2134, .iload 6, 2), (2136, .if_icmp .eq 5, 3), (2141, .iload 6, 2), (2143, .ifCond .ne 15, 3)]
set_option maxRecDepth 100000 in
theorem ldc_19_ok : ldc_19.all (fun q => decide (decode cL_law q.1 = .ok (q.2.1, q.2.2))) = true := by decide +kernel
theorem dL_law_2020 : decode cL_law 2020 = .ok (.iload 6, 2) := ldc_at ldc_19_ok (q := (2020, .iload 6, 2)) 0 rfl
theorem dL_law_2022 : decode cL_law 2022 = .ok (.if_icmp .eq 5, 3) := ldc_at ldc_19_ok (q := (2022, .if_icmp .eq 5, 3)) 1 rfl
theorem dL_law_2027 : decode cL_law 2027 = .ok (.iload 6, 2) := ldc_at ldc_19_ok (q := (2027, .iload 6, 2)) 2 rfl
theorem dL_law_2029 : decode cL_law 2029 = .ok (.ifCond .ne 35, 3) := ldc_at ldc_19_ok (q := (2029, .ifCond .ne 35, 3)) 3 rfl
theorem dL_law_2064 : decode cL_law 2064 = .ok (.goto 829, 3) := ldc_at ldc_19_ok (q := (2064, .goto 829, 3)) 4 rfl
theorem dL_law_2067 : decode cL_law 2067 = .ok (.aload_n 1, 1) := ldc_at ldc_19_ok (q := (2067, .aload_n 1, 1)) 5 rfl
theorem dL_law_2068 : decode cL_law 2068 = .ok (.invokevirtual 301, 3) := ldc_at ldc_19_ok (q := (2068, .invokevirtual 301, 3)) 6 rfl
theorem dL_law_2071 : decode cL_law 2071 = .ok (.aload_n 2, 1) := ldc_at ldc_19_ok (q := (2071, .aload_n 2, 1)) 7 rfl
theorem dL_law_2072 : decode cL_law 2072 = .ok (.invokevirtual 304, 3) := ldc_at ldc_19_ok (q := (2072, .invokevirtual 304, 3)) 8 rfl
theorem dL_law_2075 : decode cL_law 2075 = .ok (.if_icmp .eq 818, 3) := ldc_at ldc_19_ok (q := (2075, .if_icmp .eq 818, 3)) 9 rfl
theorem dL_law_2080 : decode cL_law 2080 = .ok (.aload_n 1, 1) := ldc_at ldc_19_ok (q := (2080, .aload_n 1, 1)) 10 rfl
theorem dL_law_2081 : decode cL_law 2081 = .ok (.invokevirtual 305, 3) := ldc_at ldc_19_ok (q := (2081, .invokevirtual 305, 3)) 11 rfl
theorem dL_law_2084 : decode cL_law 2084 = .ok (.aload_n 2, 1) := ldc_at ldc_19_ok (q := (2084, .aload_n 2, 1)) 12 rfl
theorem dL_law_2085 : decode cL_law 2085 = .ok (.invokevirtual 308, 3) := ldc_at ldc_19_ok (q := (2085, .invokevirtual 308, 3)) 13 rfl
theorem dL_law_2088 : decode cL_law 2088 = .ok (.if_icmp .eq 805, 3) := ldc_at ldc_19_ok (q := (2088, .if_icmp .eq 805, 3)) 14 rfl
theorem dL_law_2093 : decode cL_law 2093 = .ok (.aload_n 1, 1) := ldc_at ldc_19_ok (q := (2093, .aload_n 1, 1)) 15 rfl
theorem dL_law_2094 : decode cL_law 2094 = .ok (.aload_n 0, 1) := ldc_at ldc_19_ok (q := (2094, .aload_n 0, 1)) 16 rfl
theorem dL_law_2095 : decode cL_law 2095 = .ok (.iload 5, 2) := ldc_at ldc_19_ok (q := (2095, .iload 5, 2)) 17 rfl
theorem dL_law_2097 : decode cL_law 2097 = .ok (.iconst 1, 1) := ldc_at ldc_19_ok (q := (2097, .iconst 1, 1)) 18 rfl
theorem dL_law_2098 : decode cL_law 2098 = .ok (.iadd, 1) := ldc_at ldc_19_ok (q := (2098, .iadd, 1)) 19 rfl
theorem dL_law_2099 : decode cL_law 2099 = .ok (.iaload, 1) := ldc_at ldc_19_ok (q := (2099, .iaload, 1)) 20 rfl
theorem dL_law_2100 : decode cL_law 2100 = .ok (.aload_n 0, 1) := ldc_at ldc_19_ok (q := (2100, .aload_n 0, 1)) 21 rfl
theorem dL_law_2101 : decode cL_law 2101 = .ok (.iload 5, 2) := ldc_at ldc_19_ok (q := (2101, .iload 5, 2)) 22 rfl
theorem dL_law_2103 : decode cL_law 2103 = .ok (.iconst 2, 1) := ldc_at ldc_19_ok (q := (2103, .iconst 2, 1)) 23 rfl
theorem dL_law_2104 : decode cL_law 2104 = .ok (.iadd, 1) := ldc_at ldc_19_ok (q := (2104, .iadd, 1)) 24 rfl
theorem dL_law_2105 : decode cL_law 2105 = .ok (.iaload, 1) := ldc_at ldc_19_ok (q := (2105, .iaload, 1)) 25 rfl
theorem dL_law_2106 : decode cL_law 2106 = .ok (.aload_n 3, 1) := ldc_at ldc_19_ok (q := (2106, .aload_n 3, 1)) 26 rfl
theorem dL_law_2107 : decode cL_law 2107 = .ok (.invokestatic 309, 3) := ldc_at ldc_19_ok (q := (2107, .invokestatic 309, 3)) 27 rfl
theorem dL_law_2110 : decode cL_law 2110 = .ok (.istore 6, 2) := ldc_at ldc_19_ok (q := (2110, .istore 6, 2)) 28 rfl
theorem dL_law_2112 : decode cL_law 2112 = .ok (.aload_n 2, 1) := ldc_at ldc_19_ok (q := (2112, .aload_n 2, 1)) 29 rfl
theorem dL_law_2113 : decode cL_law 2113 = .ok (.aload_n 0, 1) := ldc_at ldc_19_ok (q := (2113, .aload_n 0, 1)) 30 rfl
theorem dL_law_2114 : decode cL_law 2114 = .ok (.iload 5, 2) := ldc_at ldc_19_ok (q := (2114, .iload 5, 2)) 31 rfl
theorem dL_law_2116 : decode cL_law 2116 = .ok (.iconst 1, 1) := ldc_at ldc_19_ok (q := (2116, .iconst 1, 1)) 32 rfl
theorem dL_law_2117 : decode cL_law 2117 = .ok (.iadd, 1) := ldc_at ldc_19_ok (q := (2117, .iadd, 1)) 33 rfl
theorem dL_law_2118 : decode cL_law 2118 = .ok (.iaload, 1) := ldc_at ldc_19_ok (q := (2118, .iaload, 1)) 34 rfl
theorem dL_law_2119 : decode cL_law 2119 = .ok (.aload_n 0, 1) := ldc_at ldc_19_ok (q := (2119, .aload_n 0, 1)) 35 rfl
theorem dL_law_2120 : decode cL_law 2120 = .ok (.iload 5, 2) := ldc_at ldc_19_ok (q := (2120, .iload 5, 2)) 36 rfl
theorem dL_law_2122 : decode cL_law 2122 = .ok (.iconst 2, 1) := ldc_at ldc_19_ok (q := (2122, .iconst 2, 1)) 37 rfl
theorem dL_law_2123 : decode cL_law 2123 = .ok (.iadd, 1) := ldc_at ldc_19_ok (q := (2123, .iadd, 1)) 38 rfl
theorem dL_law_2124 : decode cL_law 2124 = .ok (.iaload, 1) := ldc_at ldc_19_ok (q := (2124, .iaload, 1)) 39 rfl
theorem dL_law_2125 : decode cL_law 2125 = .ok (.invokevirtual 311, 3) := ldc_at ldc_19_ok (q := (2125, .invokevirtual 311, 3)) 40 rfl
theorem dL_law_2128 : decode cL_law 2128 = .ok (.istore 7, 2) := ldc_at ldc_19_ok (q := (2128, .istore 7, 2)) 41 rfl
theorem dL_law_2130 : decode cL_law 2130 = .ok (.aload_n 2, 1) := ldc_at ldc_19_ok (q := (2130, .aload_n 2, 1)) 42 rfl
theorem dL_law_2131 : decode cL_law 2131 = .ok (.invokevirtual 153, 3) := ldc_at ldc_19_ok (q := (2131, .invokevirtual 153, 3)) 43 rfl
theorem dL_law_2134 : decode cL_law 2134 = .ok (.iload 6, 2) := ldc_at ldc_19_ok (q := (2134, .iload 6, 2)) 44 rfl
theorem dL_law_2136 : decode cL_law 2136 = .ok (.if_icmp .eq 5, 3) := ldc_at ldc_19_ok (q := (2136, .if_icmp .eq 5, 3)) 45 rfl
theorem dL_law_2141 : decode cL_law 2141 = .ok (.iload 6, 2) := ldc_at ldc_19_ok (q := (2141, .iload 6, 2)) 46 rfl
theorem dL_law_2143 : decode cL_law 2143 = .ok (.ifCond .ne 15, 3) := ldc_at ldc_19_ok (q := (2143, .ifCond .ne 15, 3)) 47 rfl
def ldc_20 : List (Nat × Jvm.ClassFile.Instr × Nat) := [(2158, .goto 735, 3), (2161, .aload_n 1, 1), (2162, .aload_n 0, 1), (2163, .iload 5, 2), (2165, .iconst 1, 1), (2166, .iadd, 1), (2167, .iaload, 1), (2168, .aload_n 0, 1), (2169, .iload 5, 2), (2171, .iconst 2, 1), (2172, .iadd, 1), (2173, .iaload, 1), (2174, .aload_n 0, 1), (2175, .iload 5, 2), (2177, .iconst 3, 1), (2178, .iadd, 1), (2179, .iaload, 1), (2180, .aload_n 0, 1), (2181, .iload 5, 2), (2183, .iconst 4, 1), (2184, .iadd, 1), (2185, .iaload, 1), (2186, .invokevirtual 312, 3), (2189, .aload_n 2, 1), (2190, .aload_n 0, 1), (2191, .iload 5, 2), (2193, .iconst 1, 1), (2194, .iadd, 1), (2195, .iaload, 1), (2196, .aload_n 0, 1), (2197, .iload 5, 2), (2199, .iconst 2, 1), (2200, .iadd, 1), (2201, .iaload, 1), (2202, .aload_n 0, 1), (2203, .iload 5, 2), (2205, .iconst 3, 1), (2206, .iadd, 1), (2207, .iaload, 1), (2208, .aload_n 0, 1), (2209, .iload 5, 2), (2211, .iconst 4, 1), (2212, .iadd, 1), (2213, .iaload, 1), (2214, .invokevirtual 316, 3), (2217, .if_icmp .eq 676, 3), (2222, .aload_n 1, 1), (2223, .aload_n 0, 1)]
set_option maxRecDepth 100000 in
theorem ldc_20_ok : ldc_20.all (fun q => decide (decode cL_law q.1 = .ok (q.2.1, q.2.2))) = true := by decide +kernel
theorem dL_law_2158 : decode cL_law 2158 = .ok (.goto 735, 3) := ldc_at ldc_20_ok (q := (2158, .goto 735, 3)) 0 rfl
theorem dL_law_2161 : decode cL_law 2161 = .ok (.aload_n 1, 1) := ldc_at ldc_20_ok (q := (2161, .aload_n 1, 1)) 1 rfl
theorem dL_law_2162 : decode cL_law 2162 = .ok (.aload_n 0, 1) := ldc_at ldc_20_ok (q := (2162, .aload_n 0, 1)) 2 rfl
theorem dL_law_2163 : decode cL_law 2163 = .ok (.iload 5, 2) := ldc_at ldc_20_ok (q := (2163, .iload 5, 2)) 3 rfl
theorem dL_law_2165 : decode cL_law 2165 = .ok (.iconst 1, 1) := ldc_at ldc_20_ok (q := (2165, .iconst 1, 1)) 4 rfl
theorem dL_law_2166 : decode cL_law 2166 = .ok (.iadd, 1) := ldc_at ldc_20_ok (q := (2166, .iadd, 1)) 5 rfl
theorem dL_law_2167 : decode cL_law 2167 = .ok (.iaload, 1) := ldc_at ldc_20_ok (q := (2167, .iaload, 1)) 6 rfl
theorem dL_law_2168 : decode cL_law 2168 = .ok (.aload_n 0, 1) := ldc_at ldc_20_ok (q := (2168, .aload_n 0, 1)) 7 rfl
theorem dL_law_2169 : decode cL_law 2169 = .ok (.iload 5, 2) := ldc_at ldc_20_ok (q := (2169, .iload 5, 2)) 8 rfl
theorem dL_law_2171 : decode cL_law 2171 = .ok (.iconst 2, 1) := ldc_at ldc_20_ok (q := (2171, .iconst 2, 1)) 9 rfl
theorem dL_law_2172 : decode cL_law 2172 = .ok (.iadd, 1) := ldc_at ldc_20_ok (q := (2172, .iadd, 1)) 10 rfl
theorem dL_law_2173 : decode cL_law 2173 = .ok (.iaload, 1) := ldc_at ldc_20_ok (q := (2173, .iaload, 1)) 11 rfl
theorem dL_law_2174 : decode cL_law 2174 = .ok (.aload_n 0, 1) := ldc_at ldc_20_ok (q := (2174, .aload_n 0, 1)) 12 rfl
theorem dL_law_2175 : decode cL_law 2175 = .ok (.iload 5, 2) := ldc_at ldc_20_ok (q := (2175, .iload 5, 2)) 13 rfl
theorem dL_law_2177 : decode cL_law 2177 = .ok (.iconst 3, 1) := ldc_at ldc_20_ok (q := (2177, .iconst 3, 1)) 14 rfl
theorem dL_law_2178 : decode cL_law 2178 = .ok (.iadd, 1) := ldc_at ldc_20_ok (q := (2178, .iadd, 1)) 15 rfl
theorem dL_law_2179 : decode cL_law 2179 = .ok (.iaload, 1) := ldc_at ldc_20_ok (q := (2179, .iaload, 1)) 16 rfl
theorem dL_law_2180 : decode cL_law 2180 = .ok (.aload_n 0, 1) := ldc_at ldc_20_ok (q := (2180, .aload_n 0, 1)) 17 rfl
theorem dL_law_2181 : decode cL_law 2181 = .ok (.iload 5, 2) := ldc_at ldc_20_ok (q := (2181, .iload 5, 2)) 18 rfl
theorem dL_law_2183 : decode cL_law 2183 = .ok (.iconst 4, 1) := ldc_at ldc_20_ok (q := (2183, .iconst 4, 1)) 19 rfl
theorem dL_law_2184 : decode cL_law 2184 = .ok (.iadd, 1) := ldc_at ldc_20_ok (q := (2184, .iadd, 1)) 20 rfl
theorem dL_law_2185 : decode cL_law 2185 = .ok (.iaload, 1) := ldc_at ldc_20_ok (q := (2185, .iaload, 1)) 21 rfl
theorem dL_law_2186 : decode cL_law 2186 = .ok (.invokevirtual 312, 3) := ldc_at ldc_20_ok (q := (2186, .invokevirtual 312, 3)) 22 rfl
theorem dL_law_2189 : decode cL_law 2189 = .ok (.aload_n 2, 1) := ldc_at ldc_20_ok (q := (2189, .aload_n 2, 1)) 23 rfl
theorem dL_law_2190 : decode cL_law 2190 = .ok (.aload_n 0, 1) := ldc_at ldc_20_ok (q := (2190, .aload_n 0, 1)) 24 rfl
theorem dL_law_2191 : decode cL_law 2191 = .ok (.iload 5, 2) := ldc_at ldc_20_ok (q := (2191, .iload 5, 2)) 25 rfl
theorem dL_law_2193 : decode cL_law 2193 = .ok (.iconst 1, 1) := ldc_at ldc_20_ok (q := (2193, .iconst 1, 1)) 26 rfl
theorem dL_law_2194 : decode cL_law 2194 = .ok (.iadd, 1) := ldc_at ldc_20_ok (q := (2194, .iadd, 1)) 27 rfl
theorem dL_law_2195 : decode cL_law 2195 = .ok (.iaload, 1) := ldc_at ldc_20_ok (q := (2195, .iaload, 1)) 28 rfl
theorem dL_law_2196 : decode cL_law 2196 = .ok (.aload_n 0, 1) := ldc_at ldc_20_ok (q := (2196, .aload_n 0, 1)) 29 rfl
theorem dL_law_2197 : decode cL_law 2197 = .ok (.iload 5, 2) := ldc_at ldc_20_ok (q := (2197, .iload 5, 2)) 30 rfl
theorem dL_law_2199 : decode cL_law 2199 = .ok (.iconst 2, 1) := ldc_at ldc_20_ok (q := (2199, .iconst 2, 1)) 31 rfl
theorem dL_law_2200 : decode cL_law 2200 = .ok (.iadd, 1) := ldc_at ldc_20_ok (q := (2200, .iadd, 1)) 32 rfl
theorem dL_law_2201 : decode cL_law 2201 = .ok (.iaload, 1) := ldc_at ldc_20_ok (q := (2201, .iaload, 1)) 33 rfl
theorem dL_law_2202 : decode cL_law 2202 = .ok (.aload_n 0, 1) := ldc_at ldc_20_ok (q := (2202, .aload_n 0, 1)) 34 rfl
theorem dL_law_2203 : decode cL_law 2203 = .ok (.iload 5, 2) := ldc_at ldc_20_ok (q := (2203, .iload 5, 2)) 35 rfl
theorem dL_law_2205 : decode cL_law 2205 = .ok (.iconst 3, 1) := ldc_at ldc_20_ok (q := (2205, .iconst 3, 1)) 36 rfl
theorem dL_law_2206 : decode cL_law 2206 = .ok (.iadd, 1) := ldc_at ldc_20_ok (q := (2206, .iadd, 1)) 37 rfl
theorem dL_law_2207 : decode cL_law 2207 = .ok (.iaload, 1) := ldc_at ldc_20_ok (q := (2207, .iaload, 1)) 38 rfl
theorem dL_law_2208 : decode cL_law 2208 = .ok (.aload_n 0, 1) := ldc_at ldc_20_ok (q := (2208, .aload_n 0, 1)) 39 rfl
theorem dL_law_2209 : decode cL_law 2209 = .ok (.iload 5, 2) := ldc_at ldc_20_ok (q := (2209, .iload 5, 2)) 40 rfl
theorem dL_law_2211 : decode cL_law 2211 = .ok (.iconst 4, 1) := ldc_at ldc_20_ok (q := (2211, .iconst 4, 1)) 41 rfl
theorem dL_law_2212 : decode cL_law 2212 = .ok (.iadd, 1) := ldc_at ldc_20_ok (q := (2212, .iadd, 1)) 42 rfl
theorem dL_law_2213 : decode cL_law 2213 = .ok (.iaload, 1) := ldc_at ldc_20_ok (q := (2213, .iaload, 1)) 43 rfl
theorem dL_law_2214 : decode cL_law 2214 = .ok (.invokevirtual 316, 3) := ldc_at ldc_20_ok (q := (2214, .invokevirtual 316, 3)) 44 rfl
theorem dL_law_2217 : decode cL_law 2217 = .ok (.if_icmp .eq 676, 3) := ldc_at ldc_20_ok (q := (2217, .if_icmp .eq 676, 3)) 45 rfl
theorem dL_law_2222 : decode cL_law 2222 = .ok (.aload_n 1, 1) := ldc_at ldc_20_ok (q := (2222, .aload_n 1, 1)) 46 rfl
theorem dL_law_2223 : decode cL_law 2223 = .ok (.aload_n 0, 1) := ldc_at ldc_20_ok (q := (2223, .aload_n 0, 1)) 47 rfl
def ldc_21 : List (Nat × Jvm.ClassFile.Instr × Nat) := [(2224, .iload 5, 2), (2226, .iconst 1, 1), (2227, .iadd, 1), (2228, .iaload, 1), (2229, .aload_n 0, 1), (2230, .iload 5, 2), (2232, .iconst 2, 1), (2233, .iadd, 1), (2234, .iaload, 1), (2235, .aload_n 3, 1), (2236, .invokestatic 317, 3), (2239, .istore 6, 2), (2241, .aload_n 2, 1), (2242, .aload_n 0, 1), (2243, .iload 5, 2), (2245, .iconst 1, 1), (2246, .iadd, 1), (2247, .iaload, 1), (2248, .aload_n 0, 1), (2249, .iload 5, 2), (2251, .iconst 2, 1), (2252, .iadd, 1), (2253, .iaload, 1), (2254, .invokevirtual 319, 3), (2257, .lstore 7, 2), (2259, .aload_n 2, 1), (2260, .invokevirtual 153, 3), (2263, .iload 6, 2), (2265, .if_icmp .eq 5, 3), (2270, .iload 6, 2), (2272, .ifCond .ne 14, 3), (2286, .goto 607, 3), (2289, .aload_n 1, 1), (2290, .aload_n 0, 1), (2291, .iload 5, 2), (2293, .iconst 1, 1), (2294, .iadd, 1), (2295, .iaload, 1), (2296, .aload_n 0, 1), (2297, .iload 5, 2), (2299, .iconst 2, 1), (2300, .iadd, 1), (2301, .iaload, 1), (2302, .aload_n 3, 1), (2303, .invokestatic 320, 3), (2306, .istore 6, 2), (2308, .aload_n 2, 1), (2309, .aload_n 0, 1)]
set_option maxRecDepth 100000 in
theorem ldc_21_ok : ldc_21.all (fun q => decide (decode cL_law q.1 = .ok (q.2.1, q.2.2))) = true := by decide +kernel
theorem dL_law_2224 : decode cL_law 2224 = .ok (.iload 5, 2) := ldc_at ldc_21_ok (q := (2224, .iload 5, 2)) 0 rfl
theorem dL_law_2226 : decode cL_law 2226 = .ok (.iconst 1, 1) := ldc_at ldc_21_ok (q := (2226, .iconst 1, 1)) 1 rfl
theorem dL_law_2227 : decode cL_law 2227 = .ok (.iadd, 1) := ldc_at ldc_21_ok (q := (2227, .iadd, 1)) 2 rfl
theorem dL_law_2228 : decode cL_law 2228 = .ok (.iaload, 1) := ldc_at ldc_21_ok (q := (2228, .iaload, 1)) 3 rfl
theorem dL_law_2229 : decode cL_law 2229 = .ok (.aload_n 0, 1) := ldc_at ldc_21_ok (q := (2229, .aload_n 0, 1)) 4 rfl
theorem dL_law_2230 : decode cL_law 2230 = .ok (.iload 5, 2) := ldc_at ldc_21_ok (q := (2230, .iload 5, 2)) 5 rfl
theorem dL_law_2232 : decode cL_law 2232 = .ok (.iconst 2, 1) := ldc_at ldc_21_ok (q := (2232, .iconst 2, 1)) 6 rfl
theorem dL_law_2233 : decode cL_law 2233 = .ok (.iadd, 1) := ldc_at ldc_21_ok (q := (2233, .iadd, 1)) 7 rfl
theorem dL_law_2234 : decode cL_law 2234 = .ok (.iaload, 1) := ldc_at ldc_21_ok (q := (2234, .iaload, 1)) 8 rfl
theorem dL_law_2235 : decode cL_law 2235 = .ok (.aload_n 3, 1) := ldc_at ldc_21_ok (q := (2235, .aload_n 3, 1)) 9 rfl
theorem dL_law_2236 : decode cL_law 2236 = .ok (.invokestatic 317, 3) := ldc_at ldc_21_ok (q := (2236, .invokestatic 317, 3)) 10 rfl
theorem dL_law_2239 : decode cL_law 2239 = .ok (.istore 6, 2) := ldc_at ldc_21_ok (q := (2239, .istore 6, 2)) 11 rfl
theorem dL_law_2241 : decode cL_law 2241 = .ok (.aload_n 2, 1) := ldc_at ldc_21_ok (q := (2241, .aload_n 2, 1)) 12 rfl
theorem dL_law_2242 : decode cL_law 2242 = .ok (.aload_n 0, 1) := ldc_at ldc_21_ok (q := (2242, .aload_n 0, 1)) 13 rfl
theorem dL_law_2243 : decode cL_law 2243 = .ok (.iload 5, 2) := ldc_at ldc_21_ok (q := (2243, .iload 5, 2)) 14 rfl
theorem dL_law_2245 : decode cL_law 2245 = .ok (.iconst 1, 1) := ldc_at ldc_21_ok (q := (2245, .iconst 1, 1)) 15 rfl
theorem dL_law_2246 : decode cL_law 2246 = .ok (.iadd, 1) := ldc_at ldc_21_ok (q := (2246, .iadd, 1)) 16 rfl
theorem dL_law_2247 : decode cL_law 2247 = .ok (.iaload, 1) := ldc_at ldc_21_ok (q := (2247, .iaload, 1)) 17 rfl
theorem dL_law_2248 : decode cL_law 2248 = .ok (.aload_n 0, 1) := ldc_at ldc_21_ok (q := (2248, .aload_n 0, 1)) 18 rfl
theorem dL_law_2249 : decode cL_law 2249 = .ok (.iload 5, 2) := ldc_at ldc_21_ok (q := (2249, .iload 5, 2)) 19 rfl
theorem dL_law_2251 : decode cL_law 2251 = .ok (.iconst 2, 1) := ldc_at ldc_21_ok (q := (2251, .iconst 2, 1)) 20 rfl
theorem dL_law_2252 : decode cL_law 2252 = .ok (.iadd, 1) := ldc_at ldc_21_ok (q := (2252, .iadd, 1)) 21 rfl
theorem dL_law_2253 : decode cL_law 2253 = .ok (.iaload, 1) := ldc_at ldc_21_ok (q := (2253, .iaload, 1)) 22 rfl
theorem dL_law_2254 : decode cL_law 2254 = .ok (.invokevirtual 319, 3) := ldc_at ldc_21_ok (q := (2254, .invokevirtual 319, 3)) 23 rfl
theorem dL_law_2257 : decode cL_law 2257 = .ok (.lstore 7, 2) := ldc_at ldc_21_ok (q := (2257, .lstore 7, 2)) 24 rfl
theorem dL_law_2259 : decode cL_law 2259 = .ok (.aload_n 2, 1) := ldc_at ldc_21_ok (q := (2259, .aload_n 2, 1)) 25 rfl
theorem dL_law_2260 : decode cL_law 2260 = .ok (.invokevirtual 153, 3) := ldc_at ldc_21_ok (q := (2260, .invokevirtual 153, 3)) 26 rfl
theorem dL_law_2263 : decode cL_law 2263 = .ok (.iload 6, 2) := ldc_at ldc_21_ok (q := (2263, .iload 6, 2)) 27 rfl
theorem dL_law_2265 : decode cL_law 2265 = .ok (.if_icmp .eq 5, 3) := ldc_at ldc_21_ok (q := (2265, .if_icmp .eq 5, 3)) 28 rfl
theorem dL_law_2270 : decode cL_law 2270 = .ok (.iload 6, 2) := ldc_at ldc_21_ok (q := (2270, .iload 6, 2)) 29 rfl
theorem dL_law_2272 : decode cL_law 2272 = .ok (.ifCond .ne 14, 3) := ldc_at ldc_21_ok (q := (2272, .ifCond .ne 14, 3)) 30 rfl
theorem dL_law_2286 : decode cL_law 2286 = .ok (.goto 607, 3) := ldc_at ldc_21_ok (q := (2286, .goto 607, 3)) 31 rfl
theorem dL_law_2289 : decode cL_law 2289 = .ok (.aload_n 1, 1) := ldc_at ldc_21_ok (q := (2289, .aload_n 1, 1)) 32 rfl
theorem dL_law_2290 : decode cL_law 2290 = .ok (.aload_n 0, 1) := ldc_at ldc_21_ok (q := (2290, .aload_n 0, 1)) 33 rfl
theorem dL_law_2291 : decode cL_law 2291 = .ok (.iload 5, 2) := ldc_at ldc_21_ok (q := (2291, .iload 5, 2)) 34 rfl
theorem dL_law_2293 : decode cL_law 2293 = .ok (.iconst 1, 1) := ldc_at ldc_21_ok (q := (2293, .iconst 1, 1)) 35 rfl
theorem dL_law_2294 : decode cL_law 2294 = .ok (.iadd, 1) := ldc_at ldc_21_ok (q := (2294, .iadd, 1)) 36 rfl
theorem dL_law_2295 : decode cL_law 2295 = .ok (.iaload, 1) := ldc_at ldc_21_ok (q := (2295, .iaload, 1)) 37 rfl
theorem dL_law_2296 : decode cL_law 2296 = .ok (.aload_n 0, 1) := ldc_at ldc_21_ok (q := (2296, .aload_n 0, 1)) 38 rfl
theorem dL_law_2297 : decode cL_law 2297 = .ok (.iload 5, 2) := ldc_at ldc_21_ok (q := (2297, .iload 5, 2)) 39 rfl
theorem dL_law_2299 : decode cL_law 2299 = .ok (.iconst 2, 1) := ldc_at ldc_21_ok (q := (2299, .iconst 2, 1)) 40 rfl
theorem dL_law_2300 : decode cL_law 2300 = .ok (.iadd, 1) := ldc_at ldc_21_ok (q := (2300, .iadd, 1)) 41 rfl
theorem dL_law_2301 : decode cL_law 2301 = .ok (.iaload, 1) := ldc_at ldc_21_ok (q := (2301, .iaload, 1)) 42 rfl
theorem dL_law_2302 : decode cL_law 2302 = .ok (.aload_n 3, 1) := ldc_at ldc_21_ok (q := (2302, .aload_n 3, 1)) 43 rfl
theorem dL_law_2303 : decode cL_law 2303 = .ok (.invokestatic 320, 3) := ldc_at ldc_21_ok (q := (2303, .invokestatic 320, 3)) 44 rfl
theorem dL_law_2306 : decode cL_law 2306 = .ok (.istore 6, 2) := ldc_at ldc_21_ok (q := (2306, .istore 6, 2)) 45 rfl
theorem dL_law_2308 : decode cL_law 2308 = .ok (.aload_n 2, 1) := ldc_at ldc_21_ok (q := (2308, .aload_n 2, 1)) 46 rfl
theorem dL_law_2309 : decode cL_law 2309 = .ok (.aload_n 0, 1) := ldc_at ldc_21_ok (q := (2309, .aload_n 0, 1)) 47 rfl
def ldc_22 : List (Nat × Jvm.ClassFile.Instr × Nat) := [(2310, .iload 5, 2), (2312, .iconst 1, 1), (2313, .iadd, 1), (2314, .iaload, 1), (2315, .aload_n 0, 1), (2316, .iload 5, 2), (2318, .iconst 2, 1), (2319, .iadd, 1), (2320, .iaload, 1), (2321, .invokevirtual 322, 3), (2324, .lstore 7, 2), (2326, .aload_n 2, 1), (2327, .invokevirtual 153, 3), (2330, .iload 6, 2), (2332, .if_icmp .eq 5, 3), (2337, .iload 6, 2), (2339, .ifCond .ne 14, 3), (2353, .goto 540, 3), (2356, .aload_n 1, 1), (2357, .aload_n 0, 1), (2358, .iload 5, 2), (2360, .iconst 1, 1), (2361, .iadd, 1), (2362, .iaload, 1), (2363, .aload_n 0, 1), (2364, .iload 5, 2), (2366, .iconst 2, 1), (2367, .iadd, 1), (2368, .iaload, 1), (2369, .aload 4, 2), (2371, .invokestatic 323, 3), (2374, .istore 6, 2), (2376, .aload_n 2, 1), (2377, .aload_n 0, 1), (2378, .iload 5, 2), (2380, .iconst 1, 1), (2381, .iadd, 1), (2382, .iaload, 1), (2383, .aload_n 0, 1), (2384, .iload 5, 2), (2386, .iconst 2, 1), (2387, .iadd, 1), (2388, .iaload, 1), (2389, .invokevirtual 326, 3), (2392, .dstore 7, 2), (2394, .aload_n 2, 1), (2395, .invokevirtual 153, 3), (2398, .iload 6, 2)]
set_option maxRecDepth 100000 in
theorem ldc_22_ok : ldc_22.all (fun q => decide (decode cL_law q.1 = .ok (q.2.1, q.2.2))) = true := by decide +kernel
theorem dL_law_2310 : decode cL_law 2310 = .ok (.iload 5, 2) := ldc_at ldc_22_ok (q := (2310, .iload 5, 2)) 0 rfl
theorem dL_law_2312 : decode cL_law 2312 = .ok (.iconst 1, 1) := ldc_at ldc_22_ok (q := (2312, .iconst 1, 1)) 1 rfl
theorem dL_law_2313 : decode cL_law 2313 = .ok (.iadd, 1) := ldc_at ldc_22_ok (q := (2313, .iadd, 1)) 2 rfl
theorem dL_law_2314 : decode cL_law 2314 = .ok (.iaload, 1) := ldc_at ldc_22_ok (q := (2314, .iaload, 1)) 3 rfl
theorem dL_law_2315 : decode cL_law 2315 = .ok (.aload_n 0, 1) := ldc_at ldc_22_ok (q := (2315, .aload_n 0, 1)) 4 rfl
theorem dL_law_2316 : decode cL_law 2316 = .ok (.iload 5, 2) := ldc_at ldc_22_ok (q := (2316, .iload 5, 2)) 5 rfl
theorem dL_law_2318 : decode cL_law 2318 = .ok (.iconst 2, 1) := ldc_at ldc_22_ok (q := (2318, .iconst 2, 1)) 6 rfl
theorem dL_law_2319 : decode cL_law 2319 = .ok (.iadd, 1) := ldc_at ldc_22_ok (q := (2319, .iadd, 1)) 7 rfl
theorem dL_law_2320 : decode cL_law 2320 = .ok (.iaload, 1) := ldc_at ldc_22_ok (q := (2320, .iaload, 1)) 8 rfl
theorem dL_law_2321 : decode cL_law 2321 = .ok (.invokevirtual 322, 3) := ldc_at ldc_22_ok (q := (2321, .invokevirtual 322, 3)) 9 rfl
theorem dL_law_2324 : decode cL_law 2324 = .ok (.lstore 7, 2) := ldc_at ldc_22_ok (q := (2324, .lstore 7, 2)) 10 rfl
theorem dL_law_2326 : decode cL_law 2326 = .ok (.aload_n 2, 1) := ldc_at ldc_22_ok (q := (2326, .aload_n 2, 1)) 11 rfl
theorem dL_law_2327 : decode cL_law 2327 = .ok (.invokevirtual 153, 3) := ldc_at ldc_22_ok (q := (2327, .invokevirtual 153, 3)) 12 rfl
theorem dL_law_2330 : decode cL_law 2330 = .ok (.iload 6, 2) := ldc_at ldc_22_ok (q := (2330, .iload 6, 2)) 13 rfl
theorem dL_law_2332 : decode cL_law 2332 = .ok (.if_icmp .eq 5, 3) := ldc_at ldc_22_ok (q := (2332, .if_icmp .eq 5, 3)) 14 rfl
theorem dL_law_2337 : decode cL_law 2337 = .ok (.iload 6, 2) := ldc_at ldc_22_ok (q := (2337, .iload 6, 2)) 15 rfl
theorem dL_law_2339 : decode cL_law 2339 = .ok (.ifCond .ne 14, 3) := ldc_at ldc_22_ok (q := (2339, .ifCond .ne 14, 3)) 16 rfl
theorem dL_law_2353 : decode cL_law 2353 = .ok (.goto 540, 3) := ldc_at ldc_22_ok (q := (2353, .goto 540, 3)) 17 rfl
theorem dL_law_2356 : decode cL_law 2356 = .ok (.aload_n 1, 1) := ldc_at ldc_22_ok (q := (2356, .aload_n 1, 1)) 18 rfl
theorem dL_law_2357 : decode cL_law 2357 = .ok (.aload_n 0, 1) := ldc_at ldc_22_ok (q := (2357, .aload_n 0, 1)) 19 rfl
theorem dL_law_2358 : decode cL_law 2358 = .ok (.iload 5, 2) := ldc_at ldc_22_ok (q := (2358, .iload 5, 2)) 20 rfl
theorem dL_law_2360 : decode cL_law 2360 = .ok (.iconst 1, 1) := ldc_at ldc_22_ok (q := (2360, .iconst 1, 1)) 21 rfl
theorem dL_law_2361 : decode cL_law 2361 = .ok (.iadd, 1) := ldc_at ldc_22_ok (q := (2361, .iadd, 1)) 22 rfl
theorem dL_law_2362 : decode cL_law 2362 = .ok (.iaload, 1) := ldc_at ldc_22_ok (q := (2362, .iaload, 1)) 23 rfl
theorem dL_law_2363 : decode cL_law 2363 = .ok (.aload_n 0, 1) := ldc_at ldc_22_ok (q := (2363, .aload_n 0, 1)) 24 rfl
theorem dL_law_2364 : decode cL_law 2364 = .ok (.iload 5, 2) := ldc_at ldc_22_ok (q := (2364, .iload 5, 2)) 25 rfl
theorem dL_law_2366 : decode cL_law 2366 = .ok (.iconst 2, 1) := ldc_at ldc_22_ok (q := (2366, .iconst 2, 1)) 26 rfl
theorem dL_law_2367 : decode cL_law 2367 = .ok (.iadd, 1) := ldc_at ldc_22_ok (q := (2367, .iadd, 1)) 27 rfl
theorem dL_law_2368 : decode cL_law 2368 = .ok (.iaload, 1) := ldc_at ldc_22_ok (q := (2368, .iaload, 1)) 28 rfl
theorem dL_law_2369 : decode cL_law 2369 = .ok (.aload 4, 2) := ldc_at ldc_22_ok (q := (2369, .aload 4, 2)) 29 rfl
theorem dL_law_2371 : decode cL_law 2371 = .ok (.invokestatic 323, 3) := ldc_at ldc_22_ok (q := (2371, .invokestatic 323, 3)) 30 rfl
theorem dL_law_2374 : decode cL_law 2374 = .ok (.istore 6, 2) := ldc_at ldc_22_ok (q := (2374, .istore 6, 2)) 31 rfl
theorem dL_law_2376 : decode cL_law 2376 = .ok (.aload_n 2, 1) := ldc_at ldc_22_ok (q := (2376, .aload_n 2, 1)) 32 rfl
theorem dL_law_2377 : decode cL_law 2377 = .ok (.aload_n 0, 1) := ldc_at ldc_22_ok (q := (2377, .aload_n 0, 1)) 33 rfl
theorem dL_law_2378 : decode cL_law 2378 = .ok (.iload 5, 2) := ldc_at ldc_22_ok (q := (2378, .iload 5, 2)) 34 rfl
theorem dL_law_2380 : decode cL_law 2380 = .ok (.iconst 1, 1) := ldc_at ldc_22_ok (q := (2380, .iconst 1, 1)) 35 rfl
theorem dL_law_2381 : decode cL_law 2381 = .ok (.iadd, 1) := ldc_at ldc_22_ok (q := (2381, .iadd, 1)) 36 rfl
theorem dL_law_2382 : decode cL_law 2382 = .ok (.iaload, 1) := ldc_at ldc_22_ok (q := (2382, .iaload, 1)) 37 rfl
theorem dL_law_2383 : decode cL_law 2383 = .ok (.aload_n 0, 1) := ldc_at ldc_22_ok (q := (2383, .aload_n 0, 1)) 38 rfl
theorem dL_law_2384 : decode cL_law 2384 = .ok (.iload 5, 2) := ldc_at ldc_22_ok (q := (2384, .iload 5, 2)) 39 rfl
theorem dL_law_2386 : decode cL_law 2386 = .ok (.iconst 2, 1) := ldc_at ldc_22_ok (q := (2386, .iconst 2, 1)) 40 rfl
theorem dL_law_2387 : decode cL_law 2387 = .ok (.iadd, 1) := ldc_at ldc_22_ok (q := (2387, .iadd, 1)) 41 rfl
theorem dL_law_2388 : decode cL_law 2388 = .ok (.iaload, 1) := ldc_at ldc_22_ok (q := (2388, .iaload, 1)) 42 rfl
theorem dL_law_2389 : decode cL_law 2389 = .ok (.invokevirtual 326, 3) := ldc_at ldc_22_ok (q := (2389, .invokevirtual 326, 3)) 43 rfl
theorem dL_law_2392 : decode cL_law 2392 = .ok (.dstore 7, 2) := ldc_at ldc_22_ok (q := (2392, .dstore 7, 2)) 44 rfl
theorem dL_law_2394 : decode cL_law 2394 = .ok (.aload_n 2, 1) := ldc_at ldc_22_ok (q := (2394, .aload_n 2, 1)) 45 rfl
theorem dL_law_2395 : decode cL_law 2395 = .ok (.invokevirtual 153, 3) := ldc_at ldc_22_ok (q := (2395, .invokevirtual 153, 3)) 46 rfl
theorem dL_law_2398 : decode cL_law 2398 = .ok (.iload 6, 2) := ldc_at ldc_22_ok (q := (2398, .iload 6, 2)) 47 rfl
def ldc_23 : List (Nat × Jvm.ClassFile.Instr × Nat) := [(2400, .if_icmp .eq 5, 3), (2405, .iload 6, 2), (2407, .ifCond .ne 35, 3), (2442, .goto 451, 3), (2445, .aload_n 1, 1), (2446, .aload_n 0, 1), (2447, .iload 5, 2), (2449, .iconst 1, 1), (2450, .iadd, 1), (2451, .iaload, 1), (2452, .aload_n 0, 1), (2453, .iload 5, 2), (2455, .iconst 2, 1), (2456, .iadd, 1), (2457, .iaload, 1), (2458, .aload 4, 2), (2460, .invokestatic 327, 3), (2463, .istore 6, 2), (2465, .aload_n 2, 1), (2466, .aload_n 0, 1), (2467, .iload 5, 2), (2469, .iconst 1, 1), (2470, .iadd, 1), (2471, .iaload, 1), (2472, .aload_n 0, 1), (2473, .iload 5, 2), (2475, .iconst 2, 1), (2476, .iadd, 1), (2477, .iaload, 1), (2478, .invokevirtual 329, 3), (2481, .dstore 7, 2), (2483, .aload_n 2, 1), (2484, .invokevirtual 153, 3), (2487, .iload 6, 2), (2489, .if_icmp .eq 5, 3), (2494, .iload 6, 2), (2496, .ifCond .ne 35, 3), (2531, .goto 362, 3), (2534, .aload_n 1, 1), (2535, .aload_n 0, 1), (2536, .iload 5, 2), (2538, .iconst 1, 1), (2539, .iadd, 1), (2540, .iaload, 1), (2541, .aload_n 0, 1), (2542, .iload 5, 2), (2544, .iconst 2, 1), (2545, .iadd, 1)]
set_option maxRecDepth 100000 in
theorem ldc_23_ok : ldc_23.all (fun q => decide (decode cL_law q.1 = .ok (q.2.1, q.2.2))) = true := by decide +kernel
theorem dL_law_2400 : decode cL_law 2400 = .ok (.if_icmp .eq 5, 3) := ldc_at ldc_23_ok (q := (2400, .if_icmp .eq 5, 3)) 0 rfl
theorem dL_law_2405 : decode cL_law 2405 = .ok (.iload 6, 2) := ldc_at ldc_23_ok (q := (2405, .iload 6, 2)) 1 rfl
theorem dL_law_2407 : decode cL_law 2407 = .ok (.ifCond .ne 35, 3) := ldc_at ldc_23_ok (q := (2407, .ifCond .ne 35, 3)) 2 rfl
theorem dL_law_2442 : decode cL_law 2442 = .ok (.goto 451, 3) := ldc_at ldc_23_ok (q := (2442, .goto 451, 3)) 3 rfl
theorem dL_law_2445 : decode cL_law 2445 = .ok (.aload_n 1, 1) := ldc_at ldc_23_ok (q := (2445, .aload_n 1, 1)) 4 rfl
theorem dL_law_2446 : decode cL_law 2446 = .ok (.aload_n 0, 1) := ldc_at ldc_23_ok (q := (2446, .aload_n 0, 1)) 5 rfl
theorem dL_law_2447 : decode cL_law 2447 = .ok (.iload 5, 2) := ldc_at ldc_23_ok (q := (2447, .iload 5, 2)) 6 rfl
theorem dL_law_2449 : decode cL_law 2449 = .ok (.iconst 1, 1) := ldc_at ldc_23_ok (q := (2449, .iconst 1, 1)) 7 rfl
theorem dL_law_2450 : decode cL_law 2450 = .ok (.iadd, 1) := ldc_at ldc_23_ok (q := (2450, .iadd, 1)) 8 rfl
theorem dL_law_2451 : decode cL_law 2451 = .ok (.iaload, 1) := ldc_at ldc_23_ok (q := (2451, .iaload, 1)) 9 rfl
theorem dL_law_2452 : decode cL_law 2452 = .ok (.aload_n 0, 1) := ldc_at ldc_23_ok (q := (2452, .aload_n 0, 1)) 10 rfl
theorem dL_law_2453 : decode cL_law 2453 = .ok (.iload 5, 2) := ldc_at ldc_23_ok (q := (2453, .iload 5, 2)) 11 rfl
theorem dL_law_2455 : decode cL_law 2455 = .ok (.iconst 2, 1) := ldc_at ldc_23_ok (q := (2455, .iconst 2, 1)) 12 rfl
theorem dL_law_2456 : decode cL_law 2456 = .ok (.iadd, 1) := ldc_at ldc_23_ok (q := (2456, .iadd, 1)) 13 rfl
theorem dL_law_2457 : decode cL_law 2457 = .ok (.iaload, 1) := ldc_at ldc_23_ok (q := (2457, .iaload, 1)) 14 rfl
theorem dL_law_2458 : decode cL_law 2458 = .ok (.aload 4, 2) := ldc_at ldc_23_ok (q := (2458, .aload 4, 2)) 15 rfl
theorem dL_law_2460 : decode cL_law 2460 = .ok (.invokestatic 327, 3) := ldc_at ldc_23_ok (q := (2460, .invokestatic 327, 3)) 16 rfl
theorem dL_law_2463 : decode cL_law 2463 = .ok (.istore 6, 2) := ldc_at ldc_23_ok (q := (2463, .istore 6, 2)) 17 rfl
theorem dL_law_2465 : decode cL_law 2465 = .ok (.aload_n 2, 1) := ldc_at ldc_23_ok (q := (2465, .aload_n 2, 1)) 18 rfl
theorem dL_law_2466 : decode cL_law 2466 = .ok (.aload_n 0, 1) := ldc_at ldc_23_ok (q := (2466, .aload_n 0, 1)) 19 rfl
theorem dL_law_2467 : decode cL_law 2467 = .ok (.iload 5, 2) := ldc_at ldc_23_ok (q := (2467, .iload 5, 2)) 20 rfl
theorem dL_law_2469 : decode cL_law 2469 = .ok (.iconst 1, 1) := ldc_at ldc_23_ok (q := (2469, .iconst 1, 1)) 21 rfl
theorem dL_law_2470 : decode cL_law 2470 = .ok (.iadd, 1) := ldc_at ldc_23_ok (q := (2470, .iadd, 1)) 22 rfl
theorem dL_law_2471 : decode cL_law 2471 = .ok (.iaload, 1) := ldc_at ldc_23_ok (q := (2471, .iaload, 1)) 23 rfl
theorem dL_law_2472 : decode cL_law 2472 = .ok (.aload_n 0, 1) := ldc_at ldc_23_ok (q := (2472, .aload_n 0, 1)) 24 rfl
theorem dL_law_2473 : decode cL_law 2473 = .ok (.iload 5, 2) := ldc_at ldc_23_ok (q := (2473, .iload 5, 2)) 25 rfl
theorem dL_law_2475 : decode cL_law 2475 = .ok (.iconst 2, 1) := ldc_at ldc_23_ok (q := (2475, .iconst 2, 1)) 26 rfl
theorem dL_law_2476 : decode cL_law 2476 = .ok (.iadd, 1) := ldc_at ldc_23_ok (q := (2476, .iadd, 1)) 27 rfl
theorem dL_law_2477 : decode cL_law 2477 = .ok (.iaload, 1) := ldc_at ldc_23_ok (q := (2477, .iaload, 1)) 28 rfl
theorem dL_law_2478 : decode cL_law 2478 = .ok (.invokevirtual 329, 3) := ldc_at ldc_23_ok (q := (2478, .invokevirtual 329, 3)) 29 rfl
theorem dL_law_2481 : decode cL_law 2481 = .ok (.dstore 7, 2) := ldc_at ldc_23_ok (q := (2481, .dstore 7, 2)) 30 rfl
theorem dL_law_2483 : decode cL_law 2483 = .ok (.aload_n 2, 1) := ldc_at ldc_23_ok (q := (2483, .aload_n 2, 1)) 31 rfl
theorem dL_law_2484 : decode cL_law 2484 = .ok (.invokevirtual 153, 3) := ldc_at ldc_23_ok (q := (2484, .invokevirtual 153, 3)) 32 rfl
theorem dL_law_2487 : decode cL_law 2487 = .ok (.iload 6, 2) := ldc_at ldc_23_ok (q := (2487, .iload 6, 2)) 33 rfl
theorem dL_law_2489 : decode cL_law 2489 = .ok (.if_icmp .eq 5, 3) := ldc_at ldc_23_ok (q := (2489, .if_icmp .eq 5, 3)) 34 rfl
theorem dL_law_2494 : decode cL_law 2494 = .ok (.iload 6, 2) := ldc_at ldc_23_ok (q := (2494, .iload 6, 2)) 35 rfl
theorem dL_law_2496 : decode cL_law 2496 = .ok (.ifCond .ne 35, 3) := ldc_at ldc_23_ok (q := (2496, .ifCond .ne 35, 3)) 36 rfl
theorem dL_law_2531 : decode cL_law 2531 = .ok (.goto 362, 3) := ldc_at ldc_23_ok (q := (2531, .goto 362, 3)) 37 rfl
theorem dL_law_2534 : decode cL_law 2534 = .ok (.aload_n 1, 1) := ldc_at ldc_23_ok (q := (2534, .aload_n 1, 1)) 38 rfl
theorem dL_law_2535 : decode cL_law 2535 = .ok (.aload_n 0, 1) := ldc_at ldc_23_ok (q := (2535, .aload_n 0, 1)) 39 rfl
theorem dL_law_2536 : decode cL_law 2536 = .ok (.iload 5, 2) := ldc_at ldc_23_ok (q := (2536, .iload 5, 2)) 40 rfl
theorem dL_law_2538 : decode cL_law 2538 = .ok (.iconst 1, 1) := ldc_at ldc_23_ok (q := (2538, .iconst 1, 1)) 41 rfl
theorem dL_law_2539 : decode cL_law 2539 = .ok (.iadd, 1) := ldc_at ldc_23_ok (q := (2539, .iadd, 1)) 42 rfl
theorem dL_law_2540 : decode cL_law 2540 = .ok (.iaload, 1) := ldc_at ldc_23_ok (q := (2540, .iaload, 1)) 43 rfl
theorem dL_law_2541 : decode cL_law 2541 = .ok (.aload_n 0, 1) := ldc_at ldc_23_ok (q := (2541, .aload_n 0, 1)) 44 rfl
theorem dL_law_2542 : decode cL_law 2542 = .ok (.iload 5, 2) := ldc_at ldc_23_ok (q := (2542, .iload 5, 2)) 45 rfl
theorem dL_law_2544 : decode cL_law 2544 = .ok (.iconst 2, 1) := ldc_at ldc_23_ok (q := (2544, .iconst 2, 1)) 46 rfl
theorem dL_law_2545 : decode cL_law 2545 = .ok (.iadd, 1) := ldc_at ldc_23_ok (q := (2545, .iadd, 1)) 47 rfl
def ldc_24 : List (Nat × Jvm.ClassFile.Instr × Nat) := [(2546, .iaload, 1), (2547, .aload_n 0, 1), (2548, .iload 5, 2), (2550, .iconst 3, 1), (2551, .iadd, 1), (2552, .iaload, 1), (2553, .aload_n 0, 1), (2554, .iload 5, 2), (2556, .iconst 4, 1), (2557, .iadd, 1), (2558, .iaload, 1), (2559, .aload_n 0, 1), (2560, .iload 5, 2), (2562, .iconst 5, 1), (2563, .iadd, 1), (2564, .iaload, 1), (2565, .aload_n 3, 1), (2566, .invokestatic 330, 3), (2569, .istore 6, 2), (2571, .aload_n 2, 1), (2572, .aload_n 0, 1), (2573, .iload 5, 2), (2575, .iconst 1, 1), (2576, .iadd, 1), (2577, .iaload, 1), (2578, .aload_n 0, 1), (2579, .iload 5, 2), (2581, .iconst 2, 1), (2582, .iadd, 1), (2583, .iaload, 1), (2584, .aload_n 0, 1), (2585, .iload 5, 2), (2587, .iconst 3, 1), (2588, .iadd, 1), (2589, .iaload, 1), (2590, .aload_n 0, 1), (2591, .iload 5, 2), (2593, .iconst 4, 1), (2594, .iadd, 1), (2595, .iaload, 1), (2596, .aload_n 0, 1), (2597, .iload 5, 2), (2599, .iconst 5, 1), (2600, .iadd, 1), (2601, .iaload, 1), (2602, .invokevirtual 332, 3), (2605, .lstore 7, 2), (2607, .aload_n 2, 1)]
set_option maxRecDepth 100000 in
theorem ldc_24_ok : ldc_24.all (fun q => decide (decode cL_law q.1 = .ok (q.2.1, q.2.2))) = true := by decide +kernel
theorem dL_law_2546 : decode cL_law 2546 = .ok (.iaload, 1) := ldc_at ldc_24_ok (q := (2546, .iaload, 1)) 0 rfl
theorem dL_law_2547 : decode cL_law 2547 = .ok (.aload_n 0, 1) := ldc_at ldc_24_ok (q := (2547, .aload_n 0, 1)) 1 rfl
theorem dL_law_2548 : decode cL_law 2548 = .ok (.iload 5, 2) := ldc_at ldc_24_ok (q := (2548, .iload 5, 2)) 2 rfl
theorem dL_law_2550 : decode cL_law 2550 = .ok (.iconst 3, 1) := ldc_at ldc_24_ok (q := (2550, .iconst 3, 1)) 3 rfl
theorem dL_law_2551 : decode cL_law 2551 = .ok (.iadd, 1) := ldc_at ldc_24_ok (q := (2551, .iadd, 1)) 4 rfl
theorem dL_law_2552 : decode cL_law 2552 = .ok (.iaload, 1) := ldc_at ldc_24_ok (q := (2552, .iaload, 1)) 5 rfl
theorem dL_law_2553 : decode cL_law 2553 = .ok (.aload_n 0, 1) := ldc_at ldc_24_ok (q := (2553, .aload_n 0, 1)) 6 rfl
theorem dL_law_2554 : decode cL_law 2554 = .ok (.iload 5, 2) := ldc_at ldc_24_ok (q := (2554, .iload 5, 2)) 7 rfl
theorem dL_law_2556 : decode cL_law 2556 = .ok (.iconst 4, 1) := ldc_at ldc_24_ok (q := (2556, .iconst 4, 1)) 8 rfl
theorem dL_law_2557 : decode cL_law 2557 = .ok (.iadd, 1) := ldc_at ldc_24_ok (q := (2557, .iadd, 1)) 9 rfl
theorem dL_law_2558 : decode cL_law 2558 = .ok (.iaload, 1) := ldc_at ldc_24_ok (q := (2558, .iaload, 1)) 10 rfl
theorem dL_law_2559 : decode cL_law 2559 = .ok (.aload_n 0, 1) := ldc_at ldc_24_ok (q := (2559, .aload_n 0, 1)) 11 rfl
theorem dL_law_2560 : decode cL_law 2560 = .ok (.iload 5, 2) := ldc_at ldc_24_ok (q := (2560, .iload 5, 2)) 12 rfl
theorem dL_law_2562 : decode cL_law 2562 = .ok (.iconst 5, 1) := ldc_at ldc_24_ok (q := (2562, .iconst 5, 1)) 13 rfl
theorem dL_law_2563 : decode cL_law 2563 = .ok (.iadd, 1) := ldc_at ldc_24_ok (q := (2563, .iadd, 1)) 14 rfl
theorem dL_law_2564 : decode cL_law 2564 = .ok (.iaload, 1) := ldc_at ldc_24_ok (q := (2564, .iaload, 1)) 15 rfl
theorem dL_law_2565 : decode cL_law 2565 = .ok (.aload_n 3, 1) := ldc_at ldc_24_ok (q := (2565, .aload_n 3, 1)) 16 rfl
theorem dL_law_2566 : decode cL_law 2566 = .ok (.invokestatic 330, 3) := ldc_at ldc_24_ok (q := (2566, .invokestatic 330, 3)) 17 rfl
theorem dL_law_2569 : decode cL_law 2569 = .ok (.istore 6, 2) := ldc_at ldc_24_ok (q := (2569, .istore 6, 2)) 18 rfl
theorem dL_law_2571 : decode cL_law 2571 = .ok (.aload_n 2, 1) := ldc_at ldc_24_ok (q := (2571, .aload_n 2, 1)) 19 rfl
theorem dL_law_2572 : decode cL_law 2572 = .ok (.aload_n 0, 1) := ldc_at ldc_24_ok (q := (2572, .aload_n 0, 1)) 20 rfl
theorem dL_law_2573 : decode cL_law 2573 = .ok (.iload 5, 2) := ldc_at ldc_24_ok (q := (2573, .iload 5, 2)) 21 rfl
theorem dL_law_2575 : decode cL_law 2575 = .ok (.iconst 1, 1) := ldc_at ldc_24_ok (q := (2575, .iconst 1, 1)) 22 rfl
theorem dL_law_2576 : decode cL_law 2576 = .ok (.iadd, 1) := ldc_at ldc_24_ok (q := (2576, .iadd, 1)) 23 rfl
theorem dL_law_2577 : decode cL_law 2577 = .ok (.iaload, 1) := ldc_at ldc_24_ok (q := (2577, .iaload, 1)) 24 rfl
theorem dL_law_2578 : decode cL_law 2578 = .ok (.aload_n 0, 1) := ldc_at ldc_24_ok (q := (2578, .aload_n 0, 1)) 25 rfl
theorem dL_law_2579 : decode cL_law 2579 = .ok (.iload 5, 2) := ldc_at ldc_24_ok (q := (2579, .iload 5, 2)) 26 rfl
theorem dL_law_2581 : decode cL_law 2581 = .ok (.iconst 2, 1) := ldc_at ldc_24_ok (q := (2581, .iconst 2, 1)) 27 rfl
theorem dL_law_2582 : decode cL_law 2582 = .ok (.iadd, 1) := ldc_at ldc_24_ok (q := (2582, .iadd, 1)) 28 rfl
theorem dL_law_2583 : decode cL_law 2583 = .ok (.iaload, 1) := ldc_at ldc_24_ok (q := (2583, .iaload, 1)) 29 rfl
theorem dL_law_2584 : decode cL_law 2584 = .ok (.aload_n 0, 1) := ldc_at ldc_24_ok (q := (2584, .aload_n 0, 1)) 30 rfl
theorem dL_law_2585 : decode cL_law 2585 = .ok (.iload 5, 2) := ldc_at ldc_24_ok (q := (2585, .iload 5, 2)) 31 rfl
theorem dL_law_2587 : decode cL_law 2587 = .ok (.iconst 3, 1) := ldc_at ldc_24_ok (q := (2587, .iconst 3, 1)) 32 rfl
theorem dL_law_2588 : decode cL_law 2588 = .ok (.iadd, 1) := ldc_at ldc_24_ok (q := (2588, .iadd, 1)) 33 rfl
theorem dL_law_2589 : decode cL_law 2589 = .ok (.iaload, 1) := ldc_at ldc_24_ok (q := (2589, .iaload, 1)) 34 rfl
theorem dL_law_2590 : decode cL_law 2590 = .ok (.aload_n 0, 1) := ldc_at ldc_24_ok (q := (2590, .aload_n 0, 1)) 35 rfl
theorem dL_law_2591 : decode cL_law 2591 = .ok (.iload 5, 2) := ldc_at ldc_24_ok (q := (2591, .iload 5, 2)) 36 rfl
theorem dL_law_2593 : decode cL_law 2593 = .ok (.iconst 4, 1) := ldc_at ldc_24_ok (q := (2593, .iconst 4, 1)) 37 rfl
theorem dL_law_2594 : decode cL_law 2594 = .ok (.iadd, 1) := ldc_at ldc_24_ok (q := (2594, .iadd, 1)) 38 rfl
theorem dL_law_2595 : decode cL_law 2595 = .ok (.iaload, 1) := ldc_at ldc_24_ok (q := (2595, .iaload, 1)) 39 rfl
theorem dL_law_2596 : decode cL_law 2596 = .ok (.aload_n 0, 1) := ldc_at ldc_24_ok (q := (2596, .aload_n 0, 1)) 40 rfl
theorem dL_law_2597 : decode cL_law 2597 = .ok (.iload 5, 2) := ldc_at ldc_24_ok (q := (2597, .iload 5, 2)) 41 rfl
theorem dL_law_2599 : decode cL_law 2599 = .ok (.iconst 5, 1) := ldc_at ldc_24_ok (q := (2599, .iconst 5, 1)) 42 rfl
theorem dL_law_2600 : decode cL_law 2600 = .ok (.iadd, 1) := ldc_at ldc_24_ok (q := (2600, .iadd, 1)) 43 rfl
theorem dL_law_2601 : decode cL_law 2601 = .ok (.iaload, 1) := ldc_at ldc_24_ok (q := (2601, .iaload, 1)) 44 rfl
theorem dL_law_2602 : decode cL_law 2602 = .ok (.invokevirtual 332, 3) := ldc_at ldc_24_ok (q := (2602, .invokevirtual 332, 3)) 45 rfl
theorem dL_law_2605 : decode cL_law 2605 = .ok (.lstore 7, 2) := ldc_at ldc_24_ok (q := (2605, .lstore 7, 2)) 46 rfl
theorem dL_law_2607 : decode cL_law 2607 = .ok (.aload_n 2, 1) := ldc_at ldc_24_ok (q := (2607, .aload_n 2, 1)) 47 rfl
def ldc_25 : List (Nat × Jvm.ClassFile.Instr × Nat) := [(2608, .invokevirtual 153, 3), (2611, .iload 6, 2), (2613, .if_icmp .eq 5, 3), (2618, .iload 6, 2), (2620, .ifCond .ne 14, 3), (2623, .aload_n 3, 1), (2624, .iconst 0, 1), (2625, .laload, 1), (2626, .lload 7, 2), (2628, .lcmp, 1), (2629, .ifCond .eq 5, 3), (2634, .goto 259, 3), (2637, .aload_n 1, 1), (2638, .aload_n 0, 1), (2639, .iload 5, 2), (2641, .iconst 1, 1), (2642, .iadd, 1), (2643, .iaload, 1), (2644, .aload_n 3, 1), (2645, .invokestatic 333, 3), (2648, .istore 6, 2), (2650, .aload_n 2, 1), (2651, .aload_n 0, 1), (2652, .iload 5, 2), (2654, .iconst 1, 1), (2655, .iadd, 1), (2656, .iaload, 1), (2657, .invokevirtual 335, 3), (2660, .istore 7, 2), (2662, .aload_n 2, 1), (2663, .invokevirtual 153, 3), (2666, .iload 6, 2), (2668, .if_icmp .eq 5, 3), (2673, .iload 6, 2), (2675, .ifCond .ne 15, 3), (2678, .aload_n 3, 1), (2679, .iconst 0, 1), (2680, .laload, 1), (2681, .iload 7, 2), (2683, .i2l, 1), (2684, .lcmp, 1), (2685, .ifCond .eq 5, 3), (2690, .goto 203, 3), (2693, .aload_n 1, 1), (2694, .aload_n 0, 1), (2695, .iload 5, 2), (2697, .iconst 1, 1), (2698, .iadd, 1)]
set_option maxRecDepth 100000 in
theorem ldc_25_ok : ldc_25.all (fun q => decide (decode cL_law q.1 = .ok (q.2.1, q.2.2))) = true := by decide +kernel
theorem dL_law_2608 : decode cL_law 2608 = .ok (.invokevirtual 153, 3) := ldc_at ldc_25_ok (q := (2608, .invokevirtual 153, 3)) 0 rfl
theorem dL_law_2611 : decode cL_law 2611 = .ok (.iload 6, 2) := ldc_at ldc_25_ok (q := (2611, .iload 6, 2)) 1 rfl
theorem dL_law_2613 : decode cL_law 2613 = .ok (.if_icmp .eq 5, 3) := ldc_at ldc_25_ok (q := (2613, .if_icmp .eq 5, 3)) 2 rfl
theorem dL_law_2618 : decode cL_law 2618 = .ok (.iload 6, 2) := ldc_at ldc_25_ok (q := (2618, .iload 6, 2)) 3 rfl
theorem dL_law_2620 : decode cL_law 2620 = .ok (.ifCond .ne 14, 3) := ldc_at ldc_25_ok (q := (2620, .ifCond .ne 14, 3)) 4 rfl
theorem dL_law_2623 : decode cL_law 2623 = .ok (.aload_n 3, 1) := ldc_at ldc_25_ok (q := (2623, .aload_n 3, 1)) 5 rfl
theorem dL_law_2624 : decode cL_law 2624 = .ok (.iconst 0, 1) := ldc_at ldc_25_ok (q := (2624, .iconst 0, 1)) 6 rfl
theorem dL_law_2625 : decode cL_law 2625 = .ok (.laload, 1) := ldc_at ldc_25_ok (q := (2625, .laload, 1)) 7 rfl
theorem dL_law_2626 : decode cL_law 2626 = .ok (.lload 7, 2) := ldc_at ldc_25_ok (q := (2626, .lload 7, 2)) 8 rfl
theorem dL_law_2628 : decode cL_law 2628 = .ok (.lcmp, 1) := ldc_at ldc_25_ok (q := (2628, .lcmp, 1)) 9 rfl
theorem dL_law_2629 : decode cL_law 2629 = .ok (.ifCond .eq 5, 3) := ldc_at ldc_25_ok (q := (2629, .ifCond .eq 5, 3)) 10 rfl
theorem dL_law_2634 : decode cL_law 2634 = .ok (.goto 259, 3) := ldc_at ldc_25_ok (q := (2634, .goto 259, 3)) 11 rfl
theorem dL_law_2637 : decode cL_law 2637 = .ok (.aload_n 1, 1) := ldc_at ldc_25_ok (q := (2637, .aload_n 1, 1)) 12 rfl
theorem dL_law_2638 : decode cL_law 2638 = .ok (.aload_n 0, 1) := ldc_at ldc_25_ok (q := (2638, .aload_n 0, 1)) 13 rfl
theorem dL_law_2639 : decode cL_law 2639 = .ok (.iload 5, 2) := ldc_at ldc_25_ok (q := (2639, .iload 5, 2)) 14 rfl
theorem dL_law_2641 : decode cL_law 2641 = .ok (.iconst 1, 1) := ldc_at ldc_25_ok (q := (2641, .iconst 1, 1)) 15 rfl
theorem dL_law_2642 : decode cL_law 2642 = .ok (.iadd, 1) := ldc_at ldc_25_ok (q := (2642, .iadd, 1)) 16 rfl
theorem dL_law_2643 : decode cL_law 2643 = .ok (.iaload, 1) := ldc_at ldc_25_ok (q := (2643, .iaload, 1)) 17 rfl
theorem dL_law_2644 : decode cL_law 2644 = .ok (.aload_n 3, 1) := ldc_at ldc_25_ok (q := (2644, .aload_n 3, 1)) 18 rfl
theorem dL_law_2645 : decode cL_law 2645 = .ok (.invokestatic 333, 3) := ldc_at ldc_25_ok (q := (2645, .invokestatic 333, 3)) 19 rfl
theorem dL_law_2648 : decode cL_law 2648 = .ok (.istore 6, 2) := ldc_at ldc_25_ok (q := (2648, .istore 6, 2)) 20 rfl
theorem dL_law_2650 : decode cL_law 2650 = .ok (.aload_n 2, 1) := ldc_at ldc_25_ok (q := (2650, .aload_n 2, 1)) 21 rfl
theorem dL_law_2651 : decode cL_law 2651 = .ok (.aload_n 0, 1) := ldc_at ldc_25_ok (q := (2651, .aload_n 0, 1)) 22 rfl
theorem dL_law_2652 : decode cL_law 2652 = .ok (.iload 5, 2) := ldc_at ldc_25_ok (q := (2652, .iload 5, 2)) 23 rfl
theorem dL_law_2654 : decode cL_law 2654 = .ok (.iconst 1, 1) := ldc_at ldc_25_ok (q := (2654, .iconst 1, 1)) 24 rfl
theorem dL_law_2655 : decode cL_law 2655 = .ok (.iadd, 1) := ldc_at ldc_25_ok (q := (2655, .iadd, 1)) 25 rfl
theorem dL_law_2656 : decode cL_law 2656 = .ok (.iaload, 1) := ldc_at ldc_25_ok (q := (2656, .iaload, 1)) 26 rfl
theorem dL_law_2657 : decode cL_law 2657 = .ok (.invokevirtual 335, 3) := ldc_at ldc_25_ok (q := (2657, .invokevirtual 335, 3)) 27 rfl
theorem dL_law_2660 : decode cL_law 2660 = .ok (.istore 7, 2) := ldc_at ldc_25_ok (q := (2660, .istore 7, 2)) 28 rfl
theorem dL_law_2662 : decode cL_law 2662 = .ok (.aload_n 2, 1) := ldc_at ldc_25_ok (q := (2662, .aload_n 2, 1)) 29 rfl
theorem dL_law_2663 : decode cL_law 2663 = .ok (.invokevirtual 153, 3) := ldc_at ldc_25_ok (q := (2663, .invokevirtual 153, 3)) 30 rfl
theorem dL_law_2666 : decode cL_law 2666 = .ok (.iload 6, 2) := ldc_at ldc_25_ok (q := (2666, .iload 6, 2)) 31 rfl
theorem dL_law_2668 : decode cL_law 2668 = .ok (.if_icmp .eq 5, 3) := ldc_at ldc_25_ok (q := (2668, .if_icmp .eq 5, 3)) 32 rfl
theorem dL_law_2673 : decode cL_law 2673 = .ok (.iload 6, 2) := ldc_at ldc_25_ok (q := (2673, .iload 6, 2)) 33 rfl
theorem dL_law_2675 : decode cL_law 2675 = .ok (.ifCond .ne 15, 3) := ldc_at ldc_25_ok (q := (2675, .ifCond .ne 15, 3)) 34 rfl
theorem dL_law_2678 : decode cL_law 2678 = .ok (.aload_n 3, 1) := ldc_at ldc_25_ok (q := (2678, .aload_n 3, 1)) 35 rfl
theorem dL_law_2679 : decode cL_law 2679 = .ok (.iconst 0, 1) := ldc_at ldc_25_ok (q := (2679, .iconst 0, 1)) 36 rfl
theorem dL_law_2680 : decode cL_law 2680 = .ok (.laload, 1) := ldc_at ldc_25_ok (q := (2680, .laload, 1)) 37 rfl
theorem dL_law_2681 : decode cL_law 2681 = .ok (.iload 7, 2) := ldc_at ldc_25_ok (q := (2681, .iload 7, 2)) 38 rfl
theorem dL_law_2683 : decode cL_law 2683 = .ok (.i2l, 1) := ldc_at ldc_25_ok (q := (2683, .i2l, 1)) 39 rfl
theorem dL_law_2684 : decode cL_law 2684 = .ok (.lcmp, 1) := ldc_at ldc_25_ok (q := (2684, .lcmp, 1)) 40 rfl
theorem dL_law_2685 : decode cL_law 2685 = .ok (.ifCond .eq 5, 3) := ldc_at ldc_25_ok (q := (2685, .ifCond .eq 5, 3)) 41 rfl
theorem dL_law_2690 : decode cL_law 2690 = .ok (.goto 203, 3) := ldc_at ldc_25_ok (q := (2690, .goto 203, 3)) 42 rfl
theorem dL_law_2693 : decode cL_law 2693 = .ok (.aload_n 1, 1) := ldc_at ldc_25_ok (q := (2693, .aload_n 1, 1)) 43 rfl
theorem dL_law_2694 : decode cL_law 2694 = .ok (.aload_n 0, 1) := ldc_at ldc_25_ok (q := (2694, .aload_n 0, 1)) 44 rfl
theorem dL_law_2695 : decode cL_law 2695 = .ok (.iload 5, 2) := ldc_at ldc_25_ok (q := (2695, .iload 5, 2)) 45 rfl
theorem dL_law_2697 : decode cL_law 2697 = .ok (.iconst 1, 1) := ldc_at ldc_25_ok (q := (2697, .iconst 1, 1)) 46 rfl
theorem dL_law_2698 : decode cL_law 2698 = .ok (.iadd, 1) := ldc_at ldc_25_ok (q := (2698, .iadd, 1)) 47 rfl
def ldc_26 : List (Nat × Jvm.ClassFile.Instr × Nat) := [(2699, .iaload, 1), (2700, .aload_n 3, 1), (2701, .invokestatic 336, 3), (2704, .istore 6, 2), (2706, .aload_n 2, 1), (2707, .aload_n 0, 1), (2708, .iload 5, 2), (2710, .iconst 1, 1), (2711, .iadd, 1), (2712, .iaload, 1), (2713, .invokevirtual 338, 3), (2716, .lstore 7, 2), (2718, .aload_n 2, 1), (2719, .invokevirtual 153, 3), (2722, .iload 6, 2), (2724, .if_icmp .eq 5, 3), (2729, .iload 6, 2), (2731, .ifCond .ne 14, 3), (2734, .aload_n 3, 1), (2735, .iconst 0, 1), (2736, .laload, 1), (2737, .lload 7, 2), (2739, .lcmp, 1), (2740, .ifCond .eq 5, 3), (2745, .goto 148, 3), (2748, .aload_n 1, 1), (2749, .aload_n 0, 1), (2750, .iload 5, 2), (2752, .iconst 1, 1), (2753, .iadd, 1), (2754, .iaload, 1), (2755, .aload 4, 2), (2757, .invokestatic 339, 3), (2760, .istore 6, 2), (2762, .aload_n 2, 1), (2763, .aload_n 0, 1), (2764, .iload 5, 2), (2766, .iconst 1, 1), (2767, .iadd, 1), (2768, .iaload, 1), (2769, .invokevirtual 342, 3), (2772, .dstore 7, 2), (2774, .aload_n 2, 1), (2775, .invokevirtual 153, 3), (2778, .iload 6, 2), (2780, .if_icmp .eq 5, 3), (2785, .iload 6, 2), (2787, .ifCond .ne 35, 3)]
set_option maxRecDepth 100000 in
theorem ldc_26_ok : ldc_26.all (fun q => decide (decode cL_law q.1 = .ok (q.2.1, q.2.2))) = true := by decide +kernel
theorem dL_law_2699 : decode cL_law 2699 = .ok (.iaload, 1) := ldc_at ldc_26_ok (q := (2699, .iaload, 1)) 0 rfl
theorem dL_law_2700 : decode cL_law 2700 = .ok (.aload_n 3, 1) := ldc_at ldc_26_ok (q := (2700, .aload_n 3, 1)) 1 rfl
theorem dL_law_2701 : decode cL_law 2701 = .ok (.invokestatic 336, 3) := ldc_at ldc_26_ok (q := (2701, .invokestatic 336, 3)) 2 rfl
theorem dL_law_2704 : decode cL_law 2704 = .ok (.istore 6, 2) := ldc_at ldc_26_ok (q := (2704, .istore 6, 2)) 3 rfl
theorem dL_law_2706 : decode cL_law 2706 = .ok (.aload_n 2, 1) := ldc_at ldc_26_ok (q := (2706, .aload_n 2, 1)) 4 rfl
theorem dL_law_2707 : decode cL_law 2707 = .ok (.aload_n 0, 1) := ldc_at ldc_26_ok (q := (2707, .aload_n 0, 1)) 5 rfl
theorem dL_law_2708 : decode cL_law 2708 = .ok (.iload 5, 2) := ldc_at ldc_26_ok (q := (2708, .iload 5, 2)) 6 rfl
theorem dL_law_2710 : decode cL_law 2710 = .ok (.iconst 1, 1) := ldc_at ldc_26_ok (q := (2710, .iconst 1, 1)) 7 rfl
theorem dL_law_2711 : decode cL_law 2711 = .ok (.iadd, 1) := ldc_at ldc_26_ok (q := (2711, .iadd, 1)) 8 rfl
theorem dL_law_2712 : decode cL_law 2712 = .ok (.iaload, 1) := ldc_at ldc_26_ok (q := (2712, .iaload, 1)) 9 rfl
theorem dL_law_2713 : decode cL_law 2713 = .ok (.invokevirtual 338, 3) := ldc_at ldc_26_ok (q := (2713, .invokevirtual 338, 3)) 10 rfl
theorem dL_law_2716 : decode cL_law 2716 = .ok (.lstore 7, 2) := ldc_at ldc_26_ok (q := (2716, .lstore 7, 2)) 11 rfl
theorem dL_law_2718 : decode cL_law 2718 = .ok (.aload_n 2, 1) := ldc_at ldc_26_ok (q := (2718, .aload_n 2, 1)) 12 rfl
theorem dL_law_2719 : decode cL_law 2719 = .ok (.invokevirtual 153, 3) := ldc_at ldc_26_ok (q := (2719, .invokevirtual 153, 3)) 13 rfl
theorem dL_law_2722 : decode cL_law 2722 = .ok (.iload 6, 2) := ldc_at ldc_26_ok (q := (2722, .iload 6, 2)) 14 rfl
theorem dL_law_2724 : decode cL_law 2724 = .ok (.if_icmp .eq 5, 3) := ldc_at ldc_26_ok (q := (2724, .if_icmp .eq 5, 3)) 15 rfl
theorem dL_law_2729 : decode cL_law 2729 = .ok (.iload 6, 2) := ldc_at ldc_26_ok (q := (2729, .iload 6, 2)) 16 rfl
theorem dL_law_2731 : decode cL_law 2731 = .ok (.ifCond .ne 14, 3) := ldc_at ldc_26_ok (q := (2731, .ifCond .ne 14, 3)) 17 rfl
theorem dL_law_2734 : decode cL_law 2734 = .ok (.aload_n 3, 1) := ldc_at ldc_26_ok (q := (2734, .aload_n 3, 1)) 18 rfl
theorem dL_law_2735 : decode cL_law 2735 = .ok (.iconst 0, 1) := ldc_at ldc_26_ok (q := (2735, .iconst 0, 1)) 19 rfl
theorem dL_law_2736 : decode cL_law 2736 = .ok (.laload, 1) := ldc_at ldc_26_ok (q := (2736, .laload, 1)) 20 rfl
theorem dL_law_2737 : decode cL_law 2737 = .ok (.lload 7, 2) := ldc_at ldc_26_ok (q := (2737, .lload 7, 2)) 21 rfl
theorem dL_law_2739 : decode cL_law 2739 = .ok (.lcmp, 1) := ldc_at ldc_26_ok (q := (2739, .lcmp, 1)) 22 rfl
theorem dL_law_2740 : decode cL_law 2740 = .ok (.ifCond .eq 5, 3) := ldc_at ldc_26_ok (q := (2740, .ifCond .eq 5, 3)) 23 rfl
theorem dL_law_2745 : decode cL_law 2745 = .ok (.goto 148, 3) := ldc_at ldc_26_ok (q := (2745, .goto 148, 3)) 24 rfl
theorem dL_law_2748 : decode cL_law 2748 = .ok (.aload_n 1, 1) := ldc_at ldc_26_ok (q := (2748, .aload_n 1, 1)) 25 rfl
theorem dL_law_2749 : decode cL_law 2749 = .ok (.aload_n 0, 1) := ldc_at ldc_26_ok (q := (2749, .aload_n 0, 1)) 26 rfl
theorem dL_law_2750 : decode cL_law 2750 = .ok (.iload 5, 2) := ldc_at ldc_26_ok (q := (2750, .iload 5, 2)) 27 rfl
theorem dL_law_2752 : decode cL_law 2752 = .ok (.iconst 1, 1) := ldc_at ldc_26_ok (q := (2752, .iconst 1, 1)) 28 rfl
theorem dL_law_2753 : decode cL_law 2753 = .ok (.iadd, 1) := ldc_at ldc_26_ok (q := (2753, .iadd, 1)) 29 rfl
theorem dL_law_2754 : decode cL_law 2754 = .ok (.iaload, 1) := ldc_at ldc_26_ok (q := (2754, .iaload, 1)) 30 rfl
theorem dL_law_2755 : decode cL_law 2755 = .ok (.aload 4, 2) := ldc_at ldc_26_ok (q := (2755, .aload 4, 2)) 31 rfl
theorem dL_law_2757 : decode cL_law 2757 = .ok (.invokestatic 339, 3) := ldc_at ldc_26_ok (q := (2757, .invokestatic 339, 3)) 32 rfl
theorem dL_law_2760 : decode cL_law 2760 = .ok (.istore 6, 2) := ldc_at ldc_26_ok (q := (2760, .istore 6, 2)) 33 rfl
theorem dL_law_2762 : decode cL_law 2762 = .ok (.aload_n 2, 1) := ldc_at ldc_26_ok (q := (2762, .aload_n 2, 1)) 34 rfl
theorem dL_law_2763 : decode cL_law 2763 = .ok (.aload_n 0, 1) := ldc_at ldc_26_ok (q := (2763, .aload_n 0, 1)) 35 rfl
theorem dL_law_2764 : decode cL_law 2764 = .ok (.iload 5, 2) := ldc_at ldc_26_ok (q := (2764, .iload 5, 2)) 36 rfl
theorem dL_law_2766 : decode cL_law 2766 = .ok (.iconst 1, 1) := ldc_at ldc_26_ok (q := (2766, .iconst 1, 1)) 37 rfl
theorem dL_law_2767 : decode cL_law 2767 = .ok (.iadd, 1) := ldc_at ldc_26_ok (q := (2767, .iadd, 1)) 38 rfl
theorem dL_law_2768 : decode cL_law 2768 = .ok (.iaload, 1) := ldc_at ldc_26_ok (q := (2768, .iaload, 1)) 39 rfl
theorem dL_law_2769 : decode cL_law 2769 = .ok (.invokevirtual 342, 3) := ldc_at ldc_26_ok (q := (2769, .invokevirtual 342, 3)) 40 rfl
theorem dL_law_2772 : decode cL_law 2772 = .ok (.dstore 7, 2) := ldc_at ldc_26_ok (q := (2772, .dstore 7, 2)) 41 rfl
theorem dL_law_2774 : decode cL_law 2774 = .ok (.aload_n 2, 1) := ldc_at ldc_26_ok (q := (2774, .aload_n 2, 1)) 42 rfl
theorem dL_law_2775 : decode cL_law 2775 = .ok (.invokevirtual 153, 3) := ldc_at ldc_26_ok (q := (2775, .invokevirtual 153, 3)) 43 rfl
theorem dL_law_2778 : decode cL_law 2778 = .ok (.iload 6, 2) := ldc_at ldc_26_ok (q := (2778, .iload 6, 2)) 44 rfl
theorem dL_law_2780 : decode cL_law 2780 = .ok (.if_icmp .eq 5, 3) := ldc_at ldc_26_ok (q := (2780, .if_icmp .eq 5, 3)) 45 rfl
theorem dL_law_2785 : decode cL_law 2785 = .ok (.iload 6, 2) := ldc_at ldc_26_ok (q := (2785, .iload 6, 2)) 46 rfl
theorem dL_law_2787 : decode cL_law 2787 = .ok (.ifCond .ne 35, 3) := ldc_at ldc_26_ok (q := (2787, .ifCond .ne 35, 3)) 47 rfl
def ldc_27 : List (Nat × Jvm.ClassFile.Instr × Nat) := [(2790, .aload 4, 2), (2792, .iconst 0, 1), (2793, .daload, 1), (2794, .dload 7, 2), (2796, .dcmp .l, 1), (2797, .ifCond .eq 25, 3), (2822, .goto 71, 3), (2825, .aload_n 1, 1), (2826, .aload_n 0, 1), (2827, .iload 5, 2), (2829, .iconst 1, 1), (2830, .iadd, 1), (2831, .iaload, 1), (2832, .aload_n 0, 1), (2833, .iload 5, 2), (2835, .iconst 2, 1), (2836, .iadd, 1), (2837, .iaload, 1), (2838, .aload_n 3, 1), (2839, .invokestatic 343, 3), (2842, .istore 6, 2), (2844, .aload_n 2, 1), (2845, .aload_n 0, 1), (2846, .iload 5, 2), (2848, .iconst 1, 1), (2849, .iadd, 1), (2850, .iaload, 1), (2851, .aload_n 0, 1), (2852, .iload 5, 2), (2854, .iconst 2, 1), (2855, .iadd, 1), (2856, .iaload, 1), (2857, .invokevirtual 345, 3), (2860, .istore 7, 2), (2862, .aload_n 2, 1), (2863, .invokevirtual 153, 3), (2866, .iload 6, 2), (2868, .if_icmp .eq 5, 3), (2873, .iload 6, 2), (2875, .ifCond .ne 15, 3), (2878, .aload_n 3, 1), (2879, .iconst 0, 1), (2880, .laload, 1), (2881, .iload 7, 2), (2883, .i2l, 1), (2884, .lcmp, 1), (2885, .ifCond .eq 5, 3), (2890, .goto 3, 3)]
set_option maxRecDepth 100000 in
theorem ldc_27_ok : ldc_27.all (fun q => decide (decode cL_law q.1 = .ok (q.2.1, q.2.2))) = true := by decide +kernel
theorem dL_law_2790 : decode cL_law 2790 = .ok (.aload 4, 2) := ldc_at ldc_27_ok (q := (2790, .aload 4, 2)) 0 rfl
theorem dL_law_2792 : decode cL_law 2792 = .ok (.iconst 0, 1) := ldc_at ldc_27_ok (q := (2792, .iconst 0, 1)) 1 rfl
theorem dL_law_2793 : decode cL_law 2793 = .ok (.daload, 1) := ldc_at ldc_27_ok (q := (2793, .daload, 1)) 2 rfl
theorem dL_law_2794 : decode cL_law 2794 = .ok (.dload 7, 2) := ldc_at ldc_27_ok (q := (2794, .dload 7, 2)) 3 rfl
theorem dL_law_2796 : decode cL_law 2796 = .ok (.dcmp .l, 1) := ldc_at ldc_27_ok (q := (2796, .dcmp .l, 1)) 4 rfl
theorem dL_law_2797 : decode cL_law 2797 = .ok (.ifCond .eq 25, 3) := ldc_at ldc_27_ok (q := (2797, .ifCond .eq 25, 3)) 5 rfl
theorem dL_law_2822 : decode cL_law 2822 = .ok (.goto 71, 3) := ldc_at ldc_27_ok (q := (2822, .goto 71, 3)) 6 rfl
theorem dL_law_2825 : decode cL_law 2825 = .ok (.aload_n 1, 1) := ldc_at ldc_27_ok (q := (2825, .aload_n 1, 1)) 7 rfl
theorem dL_law_2826 : decode cL_law 2826 = .ok (.aload_n 0, 1) := ldc_at ldc_27_ok (q := (2826, .aload_n 0, 1)) 8 rfl
theorem dL_law_2827 : decode cL_law 2827 = .ok (.iload 5, 2) := ldc_at ldc_27_ok (q := (2827, .iload 5, 2)) 9 rfl
theorem dL_law_2829 : decode cL_law 2829 = .ok (.iconst 1, 1) := ldc_at ldc_27_ok (q := (2829, .iconst 1, 1)) 10 rfl
theorem dL_law_2830 : decode cL_law 2830 = .ok (.iadd, 1) := ldc_at ldc_27_ok (q := (2830, .iadd, 1)) 11 rfl
theorem dL_law_2831 : decode cL_law 2831 = .ok (.iaload, 1) := ldc_at ldc_27_ok (q := (2831, .iaload, 1)) 12 rfl
theorem dL_law_2832 : decode cL_law 2832 = .ok (.aload_n 0, 1) := ldc_at ldc_27_ok (q := (2832, .aload_n 0, 1)) 13 rfl
theorem dL_law_2833 : decode cL_law 2833 = .ok (.iload 5, 2) := ldc_at ldc_27_ok (q := (2833, .iload 5, 2)) 14 rfl
theorem dL_law_2835 : decode cL_law 2835 = .ok (.iconst 2, 1) := ldc_at ldc_27_ok (q := (2835, .iconst 2, 1)) 15 rfl
theorem dL_law_2836 : decode cL_law 2836 = .ok (.iadd, 1) := ldc_at ldc_27_ok (q := (2836, .iadd, 1)) 16 rfl
theorem dL_law_2837 : decode cL_law 2837 = .ok (.iaload, 1) := ldc_at ldc_27_ok (q := (2837, .iaload, 1)) 17 rfl
theorem dL_law_2838 : decode cL_law 2838 = .ok (.aload_n 3, 1) := ldc_at ldc_27_ok (q := (2838, .aload_n 3, 1)) 18 rfl
theorem dL_law_2839 : decode cL_law 2839 = .ok (.invokestatic 343, 3) := ldc_at ldc_27_ok (q := (2839, .invokestatic 343, 3)) 19 rfl
theorem dL_law_2842 : decode cL_law 2842 = .ok (.istore 6, 2) := ldc_at ldc_27_ok (q := (2842, .istore 6, 2)) 20 rfl
theorem dL_law_2844 : decode cL_law 2844 = .ok (.aload_n 2, 1) := ldc_at ldc_27_ok (q := (2844, .aload_n 2, 1)) 21 rfl
theorem dL_law_2845 : decode cL_law 2845 = .ok (.aload_n 0, 1) := ldc_at ldc_27_ok (q := (2845, .aload_n 0, 1)) 22 rfl
theorem dL_law_2846 : decode cL_law 2846 = .ok (.iload 5, 2) := ldc_at ldc_27_ok (q := (2846, .iload 5, 2)) 23 rfl
theorem dL_law_2848 : decode cL_law 2848 = .ok (.iconst 1, 1) := ldc_at ldc_27_ok (q := (2848, .iconst 1, 1)) 24 rfl
theorem dL_law_2849 : decode cL_law 2849 = .ok (.iadd, 1) := ldc_at ldc_27_ok (q := (2849, .iadd, 1)) 25 rfl
theorem dL_law_2850 : decode cL_law 2850 = .ok (.iaload, 1) := ldc_at ldc_27_ok (q := (2850, .iaload, 1)) 26 rfl
theorem dL_law_2851 : decode cL_law 2851 = .ok (.aload_n 0, 1) := ldc_at ldc_27_ok (q := (2851, .aload_n 0, 1)) 27 rfl
theorem dL_law_2852 : decode cL_law 2852 = .ok (.iload 5, 2) := ldc_at ldc_27_ok (q := (2852, .iload 5, 2)) 28 rfl
theorem dL_law_2854 : decode cL_law 2854 = .ok (.iconst 2, 1) := ldc_at ldc_27_ok (q := (2854, .iconst 2, 1)) 29 rfl
theorem dL_law_2855 : decode cL_law 2855 = .ok (.iadd, 1) := ldc_at ldc_27_ok (q := (2855, .iadd, 1)) 30 rfl
theorem dL_law_2856 : decode cL_law 2856 = .ok (.iaload, 1) := ldc_at ldc_27_ok (q := (2856, .iaload, 1)) 31 rfl
theorem dL_law_2857 : decode cL_law 2857 = .ok (.invokevirtual 345, 3) := ldc_at ldc_27_ok (q := (2857, .invokevirtual 345, 3)) 32 rfl
theorem dL_law_2860 : decode cL_law 2860 = .ok (.istore 7, 2) := ldc_at ldc_27_ok (q := (2860, .istore 7, 2)) 33 rfl
theorem dL_law_2862 : decode cL_law 2862 = .ok (.aload_n 2, 1) := ldc_at ldc_27_ok (q := (2862, .aload_n 2, 1)) 34 rfl
theorem dL_law_2863 : decode cL_law 2863 = .ok (.invokevirtual 153, 3) := ldc_at ldc_27_ok (q := (2863, .invokevirtual 153, 3)) 35 rfl
theorem dL_law_2866 : decode cL_law 2866 = .ok (.iload 6, 2) := ldc_at ldc_27_ok (q := (2866, .iload 6, 2)) 36 rfl
theorem dL_law_2868 : decode cL_law 2868 = .ok (.if_icmp .eq 5, 3) := ldc_at ldc_27_ok (q := (2868, .if_icmp .eq 5, 3)) 37 rfl
theorem dL_law_2873 : decode cL_law 2873 = .ok (.iload 6, 2) := ldc_at ldc_27_ok (q := (2873, .iload 6, 2)) 38 rfl
theorem dL_law_2875 : decode cL_law 2875 = .ok (.ifCond .ne 15, 3) := ldc_at ldc_27_ok (q := (2875, .ifCond .ne 15, 3)) 39 rfl
theorem dL_law_2878 : decode cL_law 2878 = .ok (.aload_n 3, 1) := ldc_at ldc_27_ok (q := (2878, .aload_n 3, 1)) 40 rfl
theorem dL_law_2879 : decode cL_law 2879 = .ok (.iconst 0, 1) := ldc_at ldc_27_ok (q := (2879, .iconst 0, 1)) 41 rfl
theorem dL_law_2880 : decode cL_law 2880 = .ok (.laload, 1) := ldc_at ldc_27_ok (q := (2880, .laload, 1)) 42 rfl
theorem dL_law_2881 : decode cL_law 2881 = .ok (.iload 7, 2) := ldc_at ldc_27_ok (q := (2881, .iload 7, 2)) 43 rfl
theorem dL_law_2883 : decode cL_law 2883 = .ok (.i2l, 1) := ldc_at ldc_27_ok (q := (2883, .i2l, 1)) 44 rfl
theorem dL_law_2884 : decode cL_law 2884 = .ok (.lcmp, 1) := ldc_at ldc_27_ok (q := (2884, .lcmp, 1)) 45 rfl
theorem dL_law_2885 : decode cL_law 2885 = .ok (.ifCond .eq 5, 3) := ldc_at ldc_27_ok (q := (2885, .ifCond .eq 5, 3)) 46 rfl
theorem dL_law_2890 : decode cL_law 2890 = .ok (.goto 3, 3) := ldc_at ldc_27_ok (q := (2890, .goto 3, 3)) 47 rfl

set_option maxRecDepth 100000 in
theorem ldc_0 : decode cL_law 0 = .ok (.new 8, 3) ∧ decode cL_law 3 = .ok (.dup, 1) ∧ decode cL_law 4 = .ok (.invokespecial 117, 3) ∧ decode cL_law 7 = .ok (.astore_n 1, 1) ∧ decode cL_law 8 = .ok (.new 118, 3) ∧ decode cL_law 11 = .ok (.dup, 1) ∧ decode cL_law 12 = .ok (.invokespecial 120, 3) ∧ decode cL_law 15 = .ok (.astore_n 2, 1) ∧ decode cL_law 16 = .ok (.iconst 1, 1) ∧ decode cL_law 17 = .ok (.newarray .long, 2) := by decide +kernel
theorem dL_law_0 : decode cL_law 0 = .ok (.new 8, 3) := ldc_0.1
theorem dL_law_3 : decode cL_law 3 = .ok (.dup, 1) := ldc_0.2.1
theorem dL_law_4 : decode cL_law 4 = .ok (.invokespecial 117, 3) := ldc_0.2.2.1
theorem dL_law_7 : decode cL_law 7 = .ok (.astore_n 1, 1) := ldc_0.2.2.2.1
theorem dL_law_8 : decode cL_law 8 = .ok (.new 118, 3) := ldc_0.2.2.2.2.1
theorem dL_law_11 : decode cL_law 11 = .ok (.dup, 1) := ldc_0.2.2.2.2.2.1
theorem dL_law_12 : decode cL_law 12 = .ok (.invokespecial 120, 3) := ldc_0.2.2.2.2.2.2.1
theorem dL_law_15 : decode cL_law 15 = .ok (.astore_n 2, 1) := ldc_0.2.2.2.2.2.2.2.1
theorem dL_law_16 : decode cL_law 16 = .ok (.iconst 1, 1) := ldc_0.2.2.2.2.2.2.2.2.1
theorem dL_law_17 : decode cL_law 17 = .ok (.newarray .long, 2) := ldc_0.2.2.2.2.2.2.2.2.2
set_option maxRecDepth 100000 in
theorem ldc_1 : decode cL_law 19 = .ok (.astore_n 3, 1) ∧ decode cL_law 20 = .ok (.iconst 1, 1) ∧ decode cL_law 21 = .ok (.newarray .double, 2) ∧ decode cL_law 23 = .ok (.astore 4, 2) ∧ decode cL_law 25 = .ok (.iconst 0, 1) ∧ decode cL_law 26 = .ok (.istore 5, 2) ∧ decode cL_law 28 = .ok (.iload 5, 2) ∧ decode cL_law 30 = .ok (.aload_n 0, 1) ∧ decode cL_law 31 = .ok (.arraylength, 1) ∧ decode cL_law 32 = .ok (.bipush 7, 2) := by decide +kernel
theorem dL_law_19 : decode cL_law 19 = .ok (.astore_n 3, 1) := ldc_1.1
theorem dL_law_20 : decode cL_law 20 = .ok (.iconst 1, 1) := ldc_1.2.1
theorem dL_law_21 : decode cL_law 21 = .ok (.newarray .double, 2) := ldc_1.2.2.1
theorem dL_law_23 : decode cL_law 23 = .ok (.astore 4, 2) := ldc_1.2.2.2.1
theorem dL_law_25 : decode cL_law 25 = .ok (.iconst 0, 1) := ldc_1.2.2.2.2.1
theorem dL_law_26 : decode cL_law 26 = .ok (.istore 5, 2) := ldc_1.2.2.2.2.2.1
theorem dL_law_28 : decode cL_law 28 = .ok (.iload 5, 2) := ldc_1.2.2.2.2.2.2.1
theorem dL_law_30 : decode cL_law 30 = .ok (.aload_n 0, 1) := ldc_1.2.2.2.2.2.2.2.1
theorem dL_law_31 : decode cL_law 31 = .ok (.arraylength, 1) := ldc_1.2.2.2.2.2.2.2.2.1
theorem dL_law_32 : decode cL_law 32 = .ok (.bipush 7, 2) := ldc_1.2.2.2.2.2.2.2.2.2
set_option maxRecDepth 100000 in
theorem ldc_2 : decode cL_law 34 = .ok (.isub, 1) ∧ decode cL_law 35 = .ok (.if_icmp .gt 1972, 3) ∧ decode cL_law 38 = .ok (.aload_n 0, 1) ∧ decode cL_law 39 = .ok (.iload 5, 2) ∧ decode cL_law 41 = .ok (.iaload, 1) ∧ decode cL_law 42 = .ok (.bipush 63, 2) ∧ decode cL_law 44 = .ok (.iand, 1) ∧ decode cL_law 45 = .ok (.tableswitch 1956 0 58 #[251, 324, 349, 362, 375, 388, 401, 477, 567, 595, 608, 621, 661, 674, 687, 712, 753, 778, 791, 819, 847, 887, 915, 971, 982, 1045, 1058, 1071, 1084, 1097, 1110, 1123, 1136, 1149, 1177, 1217, 1245, 1258, 1286, 1314, 1354, 1367, 1380, 1408, 1421, 1449, 1466, 1479, 1492, 1532, 1593, 1633, 1673, 1714, 1755, 1831, 1859, 1887, 1916], 251) ∧ decode cL_law 296 = .ok (.aload_n 1, 1) ∧ decode cL_law 297 = .ok (.aload_n 0, 1) := by decide +kernel
theorem dL_law_34 : decode cL_law 34 = .ok (.isub, 1) := ldc_2.1
theorem dL_law_35 : decode cL_law 35 = .ok (.if_icmp .gt 1972, 3) := ldc_2.2.1
theorem dL_law_38 : decode cL_law 38 = .ok (.aload_n 0, 1) := ldc_2.2.2.1
theorem dL_law_39 : decode cL_law 39 = .ok (.iload 5, 2) := ldc_2.2.2.2.1
theorem dL_law_41 : decode cL_law 41 = .ok (.iaload, 1) := ldc_2.2.2.2.2.1
theorem dL_law_42 : decode cL_law 42 = .ok (.bipush 63, 2) := ldc_2.2.2.2.2.2.1
theorem dL_law_44 : decode cL_law 44 = .ok (.iand, 1) := ldc_2.2.2.2.2.2.2.1
theorem dL_law_45 : decode cL_law 45 = .ok (.tableswitch 1956 0 58 #[251, 324, 349, 362, 375, 388, 401, 477, 567, 595, 608, 621, 661, 674, 687, 712, 753, 778, 791, 819, 847, 887, 915, 971, 982, 1045, 1058, 1071, 1084, 1097, 1110, 1123, 1136, 1149, 1177, 1217, 1245, 1258, 1286, 1314, 1354, 1367, 1380, 1408, 1421, 1449, 1466, 1479, 1492, 1532, 1593, 1633, 1673, 1714, 1755, 1831, 1859, 1887, 1916], 251) := ldc_2.2.2.2.2.2.2.2.1
theorem dL_law_296 : decode cL_law 296 = .ok (.aload_n 1, 1) := ldc_2.2.2.2.2.2.2.2.2.1
theorem dL_law_297 : decode cL_law 297 = .ok (.aload_n 0, 1) := ldc_2.2.2.2.2.2.2.2.2.2
set_option maxRecDepth 100000 in
theorem ldc_3 : decode cL_law 298 = .ok (.iload 5, 2) ∧ decode cL_law 300 = .ok (.iconst 1, 1) ∧ decode cL_law 301 = .ok (.iadd, 1) ∧ decode cL_law 302 = .ok (.iaload, 1) ∧ decode cL_law 303 = .ok (.aload_n 0, 1) ∧ decode cL_law 304 = .ok (.iload 5, 2) ∧ decode cL_law 306 = .ok (.iconst 2, 1) ∧ decode cL_law 307 = .ok (.iadd, 1) ∧ decode cL_law 308 = .ok (.iaload, 1) ∧ decode cL_law 309 = .ok (.aload_n 0, 1) := by decide +kernel
theorem dL_law_298 : decode cL_law 298 = .ok (.iload 5, 2) := ldc_3.1
theorem dL_law_300 : decode cL_law 300 = .ok (.iconst 1, 1) := ldc_3.2.1
theorem dL_law_301 : decode cL_law 301 = .ok (.iadd, 1) := ldc_3.2.2.1
theorem dL_law_302 : decode cL_law 302 = .ok (.iaload, 1) := ldc_3.2.2.2.1
theorem dL_law_303 : decode cL_law 303 = .ok (.aload_n 0, 1) := ldc_3.2.2.2.2.1
theorem dL_law_304 : decode cL_law 304 = .ok (.iload 5, 2) := ldc_3.2.2.2.2.2.1
theorem dL_law_306 : decode cL_law 306 = .ok (.iconst 2, 1) := ldc_3.2.2.2.2.2.2.1
theorem dL_law_307 : decode cL_law 307 = .ok (.iadd, 1) := ldc_3.2.2.2.2.2.2.2.1
theorem dL_law_308 : decode cL_law 308 = .ok (.iaload, 1) := ldc_3.2.2.2.2.2.2.2.2.1
theorem dL_law_309 : decode cL_law 309 = .ok (.aload_n 0, 1) := ldc_3.2.2.2.2.2.2.2.2.2
set_option maxRecDepth 100000 in
theorem ldc_4 : decode cL_law 310 = .ok (.iload 5, 2) ∧ decode cL_law 312 = .ok (.iconst 3, 1) ∧ decode cL_law 313 = .ok (.iadd, 1) ∧ decode cL_law 314 = .ok (.iaload, 1) ∧ decode cL_law 315 = .ok (.aload_n 0, 1) ∧ decode cL_law 316 = .ok (.iload 5, 2) ∧ decode cL_law 318 = .ok (.iconst 4, 1) ∧ decode cL_law 319 = .ok (.iadd, 1) ∧ decode cL_law 320 = .ok (.iaload, 1) ∧ decode cL_law 321 = .ok (.aload_n 0, 1) := by decide +kernel
theorem dL_law_310 : decode cL_law 310 = .ok (.iload 5, 2) := ldc_4.1
theorem dL_law_312 : decode cL_law 312 = .ok (.iconst 3, 1) := ldc_4.2.1
theorem dL_law_313 : decode cL_law 313 = .ok (.iadd, 1) := ldc_4.2.2.1
theorem dL_law_314 : decode cL_law 314 = .ok (.iaload, 1) := ldc_4.2.2.2.1
theorem dL_law_315 : decode cL_law 315 = .ok (.aload_n 0, 1) := ldc_4.2.2.2.2.1
theorem dL_law_316 : decode cL_law 316 = .ok (.iload 5, 2) := ldc_4.2.2.2.2.2.1
theorem dL_law_318 : decode cL_law 318 = .ok (.iconst 4, 1) := ldc_4.2.2.2.2.2.2.1
theorem dL_law_319 : decode cL_law 319 = .ok (.iadd, 1) := ldc_4.2.2.2.2.2.2.2.1
theorem dL_law_320 : decode cL_law 320 = .ok (.iaload, 1) := ldc_4.2.2.2.2.2.2.2.2.1
theorem dL_law_321 : decode cL_law 321 = .ok (.aload_n 0, 1) := ldc_4.2.2.2.2.2.2.2.2.2
set_option maxRecDepth 100000 in
theorem ldc_5 : decode cL_law 322 = .ok (.iload 5, 2) ∧ decode cL_law 324 = .ok (.iconst 5, 1) ∧ decode cL_law 325 = .ok (.iadd, 1) ∧ decode cL_law 326 = .ok (.iaload, 1) ∧ decode cL_law 327 = .ok (.invokevirtual 121, 3) ∧ decode cL_law 330 = .ok (.pop, 1) ∧ decode cL_law 331 = .ok (.aload_n 2, 1) ∧ decode cL_law 332 = .ok (.aload_n 0, 1) ∧ decode cL_law 333 = .ok (.iload 5, 2) ∧ decode cL_law 335 = .ok (.iconst 1, 1) := by decide +kernel
theorem dL_law_322 : decode cL_law 322 = .ok (.iload 5, 2) := ldc_5.1
theorem dL_law_324 : decode cL_law 324 = .ok (.iconst 5, 1) := ldc_5.2.1
theorem dL_law_325 : decode cL_law 325 = .ok (.iadd, 1) := ldc_5.2.2.1
theorem dL_law_326 : decode cL_law 326 = .ok (.iaload, 1) := ldc_5.2.2.2.1
theorem dL_law_327 : decode cL_law 327 = .ok (.invokevirtual 121, 3) := ldc_5.2.2.2.2.1
theorem dL_law_330 : decode cL_law 330 = .ok (.pop, 1) := ldc_5.2.2.2.2.2.1
theorem dL_law_331 : decode cL_law 331 = .ok (.aload_n 2, 1) := ldc_5.2.2.2.2.2.2.1
theorem dL_law_332 : decode cL_law 332 = .ok (.aload_n 0, 1) := ldc_5.2.2.2.2.2.2.2.1
theorem dL_law_333 : decode cL_law 333 = .ok (.iload 5, 2) := ldc_5.2.2.2.2.2.2.2.2.1
theorem dL_law_335 : decode cL_law 335 = .ok (.iconst 1, 1) := ldc_5.2.2.2.2.2.2.2.2.2
set_option maxRecDepth 100000 in
theorem ldc_6 : decode cL_law 336 = .ok (.iadd, 1) ∧ decode cL_law 337 = .ok (.iaload, 1) ∧ decode cL_law 338 = .ok (.aload_n 0, 1) ∧ decode cL_law 339 = .ok (.iload 5, 2) ∧ decode cL_law 341 = .ok (.iconst 2, 1) ∧ decode cL_law 342 = .ok (.iadd, 1) ∧ decode cL_law 343 = .ok (.iaload, 1) ∧ decode cL_law 344 = .ok (.aload_n 0, 1) ∧ decode cL_law 345 = .ok (.iload 5, 2) ∧ decode cL_law 347 = .ok (.iconst 3, 1) := by decide +kernel
theorem dL_law_336 : decode cL_law 336 = .ok (.iadd, 1) := ldc_6.1
theorem dL_law_337 : decode cL_law 337 = .ok (.iaload, 1) := ldc_6.2.1
theorem dL_law_338 : decode cL_law 338 = .ok (.aload_n 0, 1) := ldc_6.2.2.1
theorem dL_law_339 : decode cL_law 339 = .ok (.iload 5, 2) := ldc_6.2.2.2.1
theorem dL_law_341 : decode cL_law 341 = .ok (.iconst 2, 1) := ldc_6.2.2.2.2.1
theorem dL_law_342 : decode cL_law 342 = .ok (.iadd, 1) := ldc_6.2.2.2.2.2.1
theorem dL_law_343 : decode cL_law 343 = .ok (.iaload, 1) := ldc_6.2.2.2.2.2.2.1
theorem dL_law_344 : decode cL_law 344 = .ok (.aload_n 0, 1) := ldc_6.2.2.2.2.2.2.2.1
theorem dL_law_345 : decode cL_law 345 = .ok (.iload 5, 2) := ldc_6.2.2.2.2.2.2.2.2.1
theorem dL_law_347 : decode cL_law 347 = .ok (.iconst 3, 1) := ldc_6.2.2.2.2.2.2.2.2.2
set_option maxRecDepth 100000 in
theorem ldc_7 : decode cL_law 348 = .ok (.iadd, 1) ∧ decode cL_law 349 = .ok (.iaload, 1) ∧ decode cL_law 350 = .ok (.aload_n 0, 1) ∧ decode cL_law 351 = .ok (.iload 5, 2) ∧ decode cL_law 353 = .ok (.iconst 4, 1) ∧ decode cL_law 354 = .ok (.iadd, 1) ∧ decode cL_law 355 = .ok (.iaload, 1) ∧ decode cL_law 356 = .ok (.aload_n 0, 1) ∧ decode cL_law 357 = .ok (.iload 5, 2) ∧ decode cL_law 359 = .ok (.iconst 5, 1) := by decide +kernel
theorem dL_law_348 : decode cL_law 348 = .ok (.iadd, 1) := ldc_7.1
theorem dL_law_349 : decode cL_law 349 = .ok (.iaload, 1) := ldc_7.2.1
theorem dL_law_350 : decode cL_law 350 = .ok (.aload_n 0, 1) := ldc_7.2.2.1
theorem dL_law_351 : decode cL_law 351 = .ok (.iload 5, 2) := ldc_7.2.2.2.1
theorem dL_law_353 : decode cL_law 353 = .ok (.iconst 4, 1) := ldc_7.2.2.2.2.1
theorem dL_law_354 : decode cL_law 354 = .ok (.iadd, 1) := ldc_7.2.2.2.2.2.1
theorem dL_law_355 : decode cL_law 355 = .ok (.iaload, 1) := ldc_7.2.2.2.2.2.2.1
theorem dL_law_356 : decode cL_law 356 = .ok (.aload_n 0, 1) := ldc_7.2.2.2.2.2.2.2.1
theorem dL_law_357 : decode cL_law 357 = .ok (.iload 5, 2) := ldc_7.2.2.2.2.2.2.2.2.1
theorem dL_law_359 : decode cL_law 359 = .ok (.iconst 5, 1) := ldc_7.2.2.2.2.2.2.2.2.2
set_option maxRecDepth 100000 in
theorem ldc_8 : decode cL_law 360 = .ok (.iadd, 1) ∧ decode cL_law 361 = .ok (.iaload, 1) ∧ decode cL_law 362 = .ok (.invokevirtual 125, 3) ∧ decode cL_law 365 = .ok (.pop, 1) ∧ decode cL_law 366 = .ok (.goto 1635, 3) ∧ decode cL_law 369 = .ok (.aload_n 1, 1) ∧ decode cL_law 370 = .ok (.aload_n 0, 1) ∧ decode cL_law 371 = .ok (.iload 5, 2) ∧ decode cL_law 373 = .ok (.iconst 1, 1) ∧ decode cL_law 374 = .ok (.iadd, 1) := by decide +kernel
theorem dL_law_360 : decode cL_law 360 = .ok (.iadd, 1) := ldc_8.1
theorem dL_law_361 : decode cL_law 361 = .ok (.iaload, 1) := ldc_8.2.1
theorem dL_law_362 : decode cL_law 362 = .ok (.invokevirtual 125, 3) := ldc_8.2.2.1
theorem dL_law_365 : decode cL_law 365 = .ok (.pop, 1) := ldc_8.2.2.2.1
theorem dL_law_366 : decode cL_law 366 = .ok (.goto 1635, 3) := ldc_8.2.2.2.2.1
theorem dL_law_369 : decode cL_law 369 = .ok (.aload_n 1, 1) := ldc_8.2.2.2.2.2.1
theorem dL_law_370 : decode cL_law 370 = .ok (.aload_n 0, 1) := ldc_8.2.2.2.2.2.2.1
theorem dL_law_371 : decode cL_law 371 = .ok (.iload 5, 2) := ldc_8.2.2.2.2.2.2.2.1
theorem dL_law_373 : decode cL_law 373 = .ok (.iconst 1, 1) := ldc_8.2.2.2.2.2.2.2.2.1
theorem dL_law_374 : decode cL_law 374 = .ok (.iadd, 1) := ldc_8.2.2.2.2.2.2.2.2.2
set_option maxRecDepth 100000 in
theorem ldc_9 : decode cL_law 375 = .ok (.iaload, 1) ∧ decode cL_law 376 = .ok (.invokevirtual 126, 3) ∧ decode cL_law 379 = .ok (.pop, 1) ∧ decode cL_law 380 = .ok (.aload_n 2, 1) ∧ decode cL_law 381 = .ok (.aload_n 0, 1) ∧ decode cL_law 382 = .ok (.iload 5, 2) ∧ decode cL_law 384 = .ok (.iconst 1, 1) ∧ decode cL_law 385 = .ok (.iadd, 1) ∧ decode cL_law 386 = .ok (.iaload, 1) ∧ decode cL_law 387 = .ok (.invokevirtual 129, 3) := by decide +kernel
theorem dL_law_375 : decode cL_law 375 = .ok (.iaload, 1) := ldc_9.1
theorem dL_law_376 : decode cL_law 376 = .ok (.invokevirtual 126, 3) := ldc_9.2.1
theorem dL_law_379 : decode cL_law 379 = .ok (.pop, 1) := ldc_9.2.2.1
theorem dL_law_380 : decode cL_law 380 = .ok (.aload_n 2, 1) := ldc_9.2.2.2.1
theorem dL_law_381 : decode cL_law 381 = .ok (.aload_n 0, 1) := ldc_9.2.2.2.2.1
theorem dL_law_382 : decode cL_law 382 = .ok (.iload 5, 2) := ldc_9.2.2.2.2.2.1
theorem dL_law_384 : decode cL_law 384 = .ok (.iconst 1, 1) := ldc_9.2.2.2.2.2.2.1
theorem dL_law_385 : decode cL_law 385 = .ok (.iadd, 1) := ldc_9.2.2.2.2.2.2.2.1
theorem dL_law_386 : decode cL_law 386 = .ok (.iaload, 1) := ldc_9.2.2.2.2.2.2.2.2.1
theorem dL_law_387 : decode cL_law 387 = .ok (.invokevirtual 129, 3) := ldc_9.2.2.2.2.2.2.2.2.2
set_option maxRecDepth 100000 in
theorem ldc_10 : decode cL_law 390 = .ok (.pop, 1) ∧ decode cL_law 391 = .ok (.goto 1610, 3) ∧ decode cL_law 394 = .ok (.aload_n 1, 1) ∧ decode cL_law 395 = .ok (.invokevirtual 130, 3) ∧ decode cL_law 398 = .ok (.pop, 1) ∧ decode cL_law 399 = .ok (.aload_n 2, 1) ∧ decode cL_law 400 = .ok (.invokevirtual 134, 3) ∧ decode cL_law 403 = .ok (.pop, 1) ∧ decode cL_law 404 = .ok (.goto 1597, 3) ∧ decode cL_law 407 = .ok (.aload_n 1, 1) := by decide +kernel
theorem dL_law_390 : decode cL_law 390 = .ok (.pop, 1) := ldc_10.1
theorem dL_law_391 : decode cL_law 391 = .ok (.goto 1610, 3) := ldc_10.2.1
theorem dL_law_394 : decode cL_law 394 = .ok (.aload_n 1, 1) := ldc_10.2.2.1
theorem dL_law_395 : decode cL_law 395 = .ok (.invokevirtual 130, 3) := ldc_10.2.2.2.1
theorem dL_law_398 : decode cL_law 398 = .ok (.pop, 1) := ldc_10.2.2.2.2.1
theorem dL_law_399 : decode cL_law 399 = .ok (.aload_n 2, 1) := ldc_10.2.2.2.2.2.1
theorem dL_law_400 : decode cL_law 400 = .ok (.invokevirtual 134, 3) := ldc_10.2.2.2.2.2.2.1
theorem dL_law_403 : decode cL_law 403 = .ok (.pop, 1) := ldc_10.2.2.2.2.2.2.2.1
theorem dL_law_404 : decode cL_law 404 = .ok (.goto 1597, 3) := ldc_10.2.2.2.2.2.2.2.2.1
theorem dL_law_407 : decode cL_law 407 = .ok (.aload_n 1, 1) := ldc_10.2.2.2.2.2.2.2.2.2
set_option maxRecDepth 100000 in
theorem ldc_11 : decode cL_law 408 = .ok (.invokevirtual 135, 3) ∧ decode cL_law 411 = .ok (.pop, 1) ∧ decode cL_law 412 = .ok (.aload_n 2, 1) ∧ decode cL_law 413 = .ok (.invokevirtual 138, 3) ∧ decode cL_law 416 = .ok (.pop, 1) ∧ decode cL_law 417 = .ok (.goto 1584, 3) ∧ decode cL_law 420 = .ok (.aload_n 1, 1) ∧ decode cL_law 421 = .ok (.invokevirtual 139, 3) ∧ decode cL_law 424 = .ok (.pop, 1) ∧ decode cL_law 425 = .ok (.aload_n 2, 1) := by decide +kernel
theorem dL_law_408 : decode cL_law 408 = .ok (.invokevirtual 135, 3) := ldc_11.1
theorem dL_law_411 : decode cL_law 411 = .ok (.pop, 1) := ldc_11.2.1
theorem dL_law_412 : decode cL_law 412 = .ok (.aload_n 2, 1) := ldc_11.2.2.1
theorem dL_law_413 : decode cL_law 413 = .ok (.invokevirtual 138, 3) := ldc_11.2.2.2.1
theorem dL_law_416 : decode cL_law 416 = .ok (.pop, 1) := ldc_11.2.2.2.2.1
theorem dL_law_417 : decode cL_law 417 = .ok (.goto 1584, 3) := ldc_11.2.2.2.2.2.1
theorem dL_law_420 : decode cL_law 420 = .ok (.aload_n 1, 1) := ldc_11.2.2.2.2.2.2.1
theorem dL_law_421 : decode cL_law 421 = .ok (.invokevirtual 139, 3) := ldc_11.2.2.2.2.2.2.2.1
theorem dL_law_424 : decode cL_law 424 = .ok (.pop, 1) := ldc_11.2.2.2.2.2.2.2.2.1
theorem dL_law_425 : decode cL_law 425 = .ok (.aload_n 2, 1) := ldc_11.2.2.2.2.2.2.2.2.2
set_option maxRecDepth 100000 in
theorem ldc_12 : decode cL_law 426 = .ok (.invokevirtual 142, 3) ∧ decode cL_law 429 = .ok (.pop, 1) ∧ decode cL_law 430 = .ok (.goto 1571, 3) ∧ decode cL_law 433 = .ok (.aload_n 1, 1) ∧ decode cL_law 434 = .ok (.invokevirtual 143, 3) ∧ decode cL_law 437 = .ok (.pop, 1) ∧ decode cL_law 438 = .ok (.aload_n 2, 1) ∧ decode cL_law 439 = .ok (.invokevirtual 146, 3) ∧ decode cL_law 442 = .ok (.pop, 1) ∧ decode cL_law 443 = .ok (.goto 1558, 3) := by decide +kernel
theorem dL_law_426 : decode cL_law 426 = .ok (.invokevirtual 142, 3) := ldc_12.1
theorem dL_law_429 : decode cL_law 429 = .ok (.pop, 1) := ldc_12.2.1
theorem dL_law_430 : decode cL_law 430 = .ok (.goto 1571, 3) := ldc_12.2.2.1
theorem dL_law_433 : decode cL_law 433 = .ok (.aload_n 1, 1) := ldc_12.2.2.2.1
theorem dL_law_434 : decode cL_law 434 = .ok (.invokevirtual 143, 3) := ldc_12.2.2.2.2.1
theorem dL_law_437 : decode cL_law 437 = .ok (.pop, 1) := ldc_12.2.2.2.2.2.1
theorem dL_law_438 : decode cL_law 438 = .ok (.aload_n 2, 1) := ldc_12.2.2.2.2.2.2.1
theorem dL_law_439 : decode cL_law 439 = .ok (.invokevirtual 146, 3) := ldc_12.2.2.2.2.2.2.2.1
theorem dL_law_442 : decode cL_law 442 = .ok (.pop, 1) := ldc_12.2.2.2.2.2.2.2.2.1
theorem dL_law_443 : decode cL_law 443 = .ok (.goto 1558, 3) := ldc_12.2.2.2.2.2.2.2.2.2
set_option maxRecDepth 100000 in
theorem ldc_13 : decode cL_law 446 = .ok (.aload_n 1, 1) ∧ decode cL_law 447 = .ok (.aload_n 0, 1) ∧ decode cL_law 448 = .ok (.iload 5, 2) ∧ decode cL_law 450 = .ok (.iconst 1, 1) ∧ decode cL_law 451 = .ok (.iadd, 1) ∧ decode cL_law 452 = .ok (.iaload, 1) ∧ decode cL_law 453 = .ok (.aload_n 0, 1) ∧ decode cL_law 454 = .ok (.iload 5, 2) ∧ decode cL_law 456 = .ok (.iconst 2, 1) ∧ decode cL_law 457 = .ok (.iadd, 1) := by decide +kernel
theorem dL_law_446 : decode cL_law 446 = .ok (.aload_n 1, 1) := ldc_13.1
theorem dL_law_447 : decode cL_law 447 = .ok (.aload_n 0, 1) := ldc_13.2.1
theorem dL_law_448 : decode cL_law 448 = .ok (.iload 5, 2) := ldc_13.2.2.1
theorem dL_law_450 : decode cL_law 450 = .ok (.iconst 1, 1) := ldc_13.2.2.2.1
theorem dL_law_451 : decode cL_law 451 = .ok (.iadd, 1) := ldc_13.2.2.2.2.1
theorem dL_law_452 : decode cL_law 452 = .ok (.iaload, 1) := ldc_13.2.2.2.2.2.1
theorem dL_law_453 : decode cL_law 453 = .ok (.aload_n 0, 1) := ldc_13.2.2.2.2.2.2.1
theorem dL_law_454 : decode cL_law 454 = .ok (.iload 5, 2) := ldc_13.2.2.2.2.2.2.2.1
theorem dL_law_456 : decode cL_law 456 = .ok (.iconst 2, 1) := ldc_13.2.2.2.2.2.2.2.2.1
theorem dL_law_457 : decode cL_law 457 = .ok (.iadd, 1) := ldc_13.2.2.2.2.2.2.2.2.2
set_option maxRecDepth 100000 in
theorem ldc_14 : decode cL_law 458 = .ok (.iaload, 1) ∧ decode cL_law 459 = .ok (.aload_n 0, 1) ∧ decode cL_law 460 = .ok (.iload 5, 2) ∧ decode cL_law 462 = .ok (.iconst 3, 1) ∧ decode cL_law 463 = .ok (.iadd, 1) ∧ decode cL_law 464 = .ok (.iaload, 1) ∧ decode cL_law 465 = .ok (.aload_n 0, 1) ∧ decode cL_law 466 = .ok (.iload 5, 2) ∧ decode cL_law 468 = .ok (.iconst 4, 1) ∧ decode cL_law 469 = .ok (.iadd, 1) := by decide +kernel
theorem dL_law_458 : decode cL_law 458 = .ok (.iaload, 1) := ldc_14.1
theorem dL_law_459 : decode cL_law 459 = .ok (.aload_n 0, 1) := ldc_14.2.1
theorem dL_law_460 : decode cL_law 460 = .ok (.iload 5, 2) := ldc_14.2.2.1
theorem dL_law_462 : decode cL_law 462 = .ok (.iconst 3, 1) := ldc_14.2.2.2.1
theorem dL_law_463 : decode cL_law 463 = .ok (.iadd, 1) := ldc_14.2.2.2.2.1
theorem dL_law_464 : decode cL_law 464 = .ok (.iaload, 1) := ldc_14.2.2.2.2.2.1
theorem dL_law_465 : decode cL_law 465 = .ok (.aload_n 0, 1) := ldc_14.2.2.2.2.2.2.1
theorem dL_law_466 : decode cL_law 466 = .ok (.iload 5, 2) := ldc_14.2.2.2.2.2.2.2.1
theorem dL_law_468 : decode cL_law 468 = .ok (.iconst 4, 1) := ldc_14.2.2.2.2.2.2.2.2.1
theorem dL_law_469 : decode cL_law 469 = .ok (.iadd, 1) := ldc_14.2.2.2.2.2.2.2.2.2
set_option maxRecDepth 100000 in
theorem ldc_15 : decode cL_law 470 = .ok (.iaload, 1) ∧ decode cL_law 471 = .ok (.aload_n 0, 1) ∧ decode cL_law 472 = .ok (.iload 5, 2) ∧ decode cL_law 474 = .ok (.iconst 5, 1) ∧ decode cL_law 475 = .ok (.iadd, 1) ∧ decode cL_law 476 = .ok (.iaload, 1) ∧ decode cL_law 477 = .ok (.aload_n 3, 1) ∧ decode cL_law 478 = .ok (.invokestatic 147, 3) ∧ decode cL_law 481 = .ok (.istore 6, 2) ∧ decode cL_law 483 = .ok (.aload_n 2, 1) := by decide +kernel
theorem dL_law_470 : decode cL_law 470 = .ok (.iaload, 1) := ldc_15.1
theorem dL_law_471 : decode cL_law 471 = .ok (.aload_n 0, 1) := ldc_15.2.1
theorem dL_law_472 : decode cL_law 472 = .ok (.iload 5, 2) := ldc_15.2.2.1
theorem dL_law_474 : decode cL_law 474 = .ok (.iconst 5, 1) := ldc_15.2.2.2.1
theorem dL_law_475 : decode cL_law 475 = .ok (.iadd, 1) := ldc_15.2.2.2.2.1
theorem dL_law_476 : decode cL_law 476 = .ok (.iaload, 1) := ldc_15.2.2.2.2.2.1
theorem dL_law_477 : decode cL_law 477 = .ok (.aload_n 3, 1) := ldc_15.2.2.2.2.2.2.1
theorem dL_law_478 : decode cL_law 478 = .ok (.invokestatic 147, 3) := ldc_15.2.2.2.2.2.2.2.1
theorem dL_law_481 : decode cL_law 481 = .ok (.istore 6, 2) := ldc_15.2.2.2.2.2.2.2.2.1
theorem dL_law_483 : decode cL_law 483 = .ok (.aload_n 2, 1) := ldc_15.2.2.2.2.2.2.2.2.2
set_option maxRecDepth 100000 in
theorem ldc_16 : decode cL_law 484 = .ok (.aload_n 0, 1) ∧ decode cL_law 485 = .ok (.iload 5, 2) ∧ decode cL_law 487 = .ok (.iconst 1, 1) ∧ decode cL_law 488 = .ok (.iadd, 1) ∧ decode cL_law 489 = .ok (.iaload, 1) ∧ decode cL_law 490 = .ok (.aload_n 0, 1) ∧ decode cL_law 491 = .ok (.iload 5, 2) ∧ decode cL_law 493 = .ok (.iconst 2, 1) ∧ decode cL_law 494 = .ok (.iadd, 1) ∧ decode cL_law 495 = .ok (.iaload, 1) := by decide +kernel
theorem dL_law_484 : decode cL_law 484 = .ok (.aload_n 0, 1) := ldc_16.1
theorem dL_law_485 : decode cL_law 485 = .ok (.iload 5, 2) := ldc_16.2.1
theorem dL_law_487 : decode cL_law 487 = .ok (.iconst 1, 1) := ldc_16.2.2.1
theorem dL_law_488 : decode cL_law 488 = .ok (.iadd, 1) := ldc_16.2.2.2.1
theorem dL_law_489 : decode cL_law 489 = .ok (.iaload, 1) := ldc_16.2.2.2.2.1
theorem dL_law_490 : decode cL_law 490 = .ok (.aload_n 0, 1) := ldc_16.2.2.2.2.2.1
theorem dL_law_491 : decode cL_law 491 = .ok (.iload 5, 2) := ldc_16.2.2.2.2.2.2.1
theorem dL_law_493 : decode cL_law 493 = .ok (.iconst 2, 1) := ldc_16.2.2.2.2.2.2.2.1
theorem dL_law_494 : decode cL_law 494 = .ok (.iadd, 1) := ldc_16.2.2.2.2.2.2.2.2.1
theorem dL_law_495 : decode cL_law 495 = .ok (.iaload, 1) := ldc_16.2.2.2.2.2.2.2.2.2
set_option maxRecDepth 100000 in
theorem ldc_17 : decode cL_law 496 = .ok (.aload_n 0, 1) ∧ decode cL_law 497 = .ok (.iload 5, 2) ∧ decode cL_law 499 = .ok (.iconst 3, 1) ∧ decode cL_law 500 = .ok (.iadd, 1) ∧ decode cL_law 501 = .ok (.iaload, 1) ∧ decode cL_law 502 = .ok (.aload_n 0, 1) ∧ decode cL_law 503 = .ok (.iload 5, 2) ∧ decode cL_law 505 = .ok (.iconst 4, 1) ∧ decode cL_law 506 = .ok (.iadd, 1) ∧ decode cL_law 507 = .ok (.iaload, 1) := by decide +kernel
theorem dL_law_496 : decode cL_law 496 = .ok (.aload_n 0, 1) := ldc_17.1
theorem dL_law_497 : decode cL_law 497 = .ok (.iload 5, 2) := ldc_17.2.1
theorem dL_law_499 : decode cL_law 499 = .ok (.iconst 3, 1) := ldc_17.2.2.1
theorem dL_law_500 : decode cL_law 500 = .ok (.iadd, 1) := ldc_17.2.2.2.1
theorem dL_law_501 : decode cL_law 501 = .ok (.iaload, 1) := ldc_17.2.2.2.2.1
theorem dL_law_502 : decode cL_law 502 = .ok (.aload_n 0, 1) := ldc_17.2.2.2.2.2.1
theorem dL_law_503 : decode cL_law 503 = .ok (.iload 5, 2) := ldc_17.2.2.2.2.2.2.1
theorem dL_law_505 : decode cL_law 505 = .ok (.iconst 4, 1) := ldc_17.2.2.2.2.2.2.2.1
theorem dL_law_506 : decode cL_law 506 = .ok (.iadd, 1) := ldc_17.2.2.2.2.2.2.2.2.1
theorem dL_law_507 : decode cL_law 507 = .ok (.iaload, 1) := ldc_17.2.2.2.2.2.2.2.2.2
set_option maxRecDepth 100000 in
theorem ldc_18 : decode cL_law 508 = .ok (.aload_n 0, 1) ∧ decode cL_law 509 = .ok (.iload 5, 2) ∧ decode cL_law 511 = .ok (.iconst 5, 1) ∧ decode cL_law 512 = .ok (.iadd, 1) ∧ decode cL_law 513 = .ok (.iaload, 1) ∧ decode cL_law 514 = .ok (.invokevirtual 152, 3) ∧ decode cL_law 517 = .ok (.istore 7, 2) ∧ decode cL_law 519 = .ok (.goto 1482, 3) ∧ decode cL_law 522 = .ok (.aload_n 1, 1) ∧ decode cL_law 523 = .ok (.aload_n 0, 1) := by decide +kernel
theorem dL_law_508 : decode cL_law 508 = .ok (.aload_n 0, 1) := ldc_18.1
theorem dL_law_509 : decode cL_law 509 = .ok (.iload 5, 2) := ldc_18.2.1
theorem dL_law_511 : decode cL_law 511 = .ok (.iconst 5, 1) := ldc_18.2.2.1
theorem dL_law_512 : decode cL_law 512 = .ok (.iadd, 1) := ldc_18.2.2.2.1
theorem dL_law_513 : decode cL_law 513 = .ok (.iaload, 1) := ldc_18.2.2.2.2.1
theorem dL_law_514 : decode cL_law 514 = .ok (.invokevirtual 152, 3) := ldc_18.2.2.2.2.2.1
theorem dL_law_517 : decode cL_law 517 = .ok (.istore 7, 2) := ldc_18.2.2.2.2.2.2.1
theorem dL_law_519 : decode cL_law 519 = .ok (.goto 1482, 3) := ldc_18.2.2.2.2.2.2.2.1
theorem dL_law_522 : decode cL_law 522 = .ok (.aload_n 1, 1) := ldc_18.2.2.2.2.2.2.2.2.1
theorem dL_law_523 : decode cL_law 523 = .ok (.aload_n 0, 1) := ldc_18.2.2.2.2.2.2.2.2.2
set_option maxRecDepth 100000 in
theorem ldc_19 : decode cL_law 524 = .ok (.iload 5, 2) ∧ decode cL_law 526 = .ok (.iconst 1, 1) ∧ decode cL_law 527 = .ok (.iadd, 1) ∧ decode cL_law 528 = .ok (.iaload, 1) ∧ decode cL_law 529 = .ok (.aload_n 0, 1) ∧ decode cL_law 530 = .ok (.iload 5, 2) ∧ decode cL_law 532 = .ok (.iconst 2, 1) ∧ decode cL_law 533 = .ok (.iadd, 1) ∧ decode cL_law 534 = .ok (.iaload, 1) ∧ decode cL_law 535 = .ok (.aload_n 0, 1) := by decide +kernel
theorem dL_law_524 : decode cL_law 524 = .ok (.iload 5, 2) := ldc_19.1
theorem dL_law_526 : decode cL_law 526 = .ok (.iconst 1, 1) := ldc_19.2.1
theorem dL_law_527 : decode cL_law 527 = .ok (.iadd, 1) := ldc_19.2.2.1
theorem dL_law_528 : decode cL_law 528 = .ok (.iaload, 1) := ldc_19.2.2.2.1
theorem dL_law_529 : decode cL_law 529 = .ok (.aload_n 0, 1) := ldc_19.2.2.2.2.1
theorem dL_law_530 : decode cL_law 530 = .ok (.iload 5, 2) := ldc_19.2.2.2.2.2.1
theorem dL_law_532 : decode cL_law 532 = .ok (.iconst 2, 1) := ldc_19.2.2.2.2.2.2.1
theorem dL_law_533 : decode cL_law 533 = .ok (.iadd, 1) := ldc_19.2.2.2.2.2.2.2.1
theorem dL_law_534 : decode cL_law 534 = .ok (.iaload, 1) := ldc_19.2.2.2.2.2.2.2.2.1
theorem dL_law_535 : decode cL_law 535 = .ok (.aload_n 0, 1) := ldc_19.2.2.2.2.2.2.2.2.2
set_option maxRecDepth 100000 in
theorem ldc_20 : decode cL_law 536 = .ok (.iload 5, 2) ∧ decode cL_law 538 = .ok (.iconst 3, 1) ∧ decode cL_law 539 = .ok (.iadd, 1) ∧ decode cL_law 540 = .ok (.iaload, 1) ∧ decode cL_law 541 = .ok (.aload_n 0, 1) ∧ decode cL_law 542 = .ok (.iload 5, 2) ∧ decode cL_law 544 = .ok (.iconst 4, 1) ∧ decode cL_law 545 = .ok (.iadd, 1) ∧ decode cL_law 546 = .ok (.iaload, 1) ∧ decode cL_law 547 = .ok (.aload_n 0, 1) := by decide +kernel
theorem dL_law_536 : decode cL_law 536 = .ok (.iload 5, 2) := ldc_20.1
theorem dL_law_538 : decode cL_law 538 = .ok (.iconst 3, 1) := ldc_20.2.1
theorem dL_law_539 : decode cL_law 539 = .ok (.iadd, 1) := ldc_20.2.2.1
theorem dL_law_540 : decode cL_law 540 = .ok (.iaload, 1) := ldc_20.2.2.2.1
theorem dL_law_541 : decode cL_law 541 = .ok (.aload_n 0, 1) := ldc_20.2.2.2.2.1
theorem dL_law_542 : decode cL_law 542 = .ok (.iload 5, 2) := ldc_20.2.2.2.2.2.1
theorem dL_law_544 : decode cL_law 544 = .ok (.iconst 4, 1) := ldc_20.2.2.2.2.2.2.1
theorem dL_law_545 : decode cL_law 545 = .ok (.iadd, 1) := ldc_20.2.2.2.2.2.2.2.1
theorem dL_law_546 : decode cL_law 546 = .ok (.iaload, 1) := ldc_20.2.2.2.2.2.2.2.2.1
theorem dL_law_547 : decode cL_law 547 = .ok (.aload_n 0, 1) := ldc_20.2.2.2.2.2.2.2.2.2
set_option maxRecDepth 100000 in
theorem ldc_21 : decode cL_law 548 = .ok (.iload 5, 2) ∧ decode cL_law 550 = .ok (.iconst 5, 1) ∧ decode cL_law 551 = .ok (.iadd, 1) ∧ decode cL_law 552 = .ok (.iaload, 1) ∧ decode cL_law 553 = .ok (.aload_n 0, 1) ∧ decode cL_law 554 = .ok (.iload 5, 2) ∧ decode cL_law 556 = .ok (.bipush 6, 2) ∧ decode cL_law 558 = .ok (.iadd, 1) ∧ decode cL_law 559 = .ok (.iaload, 1) ∧ decode cL_law 560 = .ok (.aload_n 3, 1) := by decide +kernel
theorem dL_law_548 : decode cL_law 548 = .ok (.iload 5, 2) := ldc_21.1
theorem dL_law_550 : decode cL_law 550 = .ok (.iconst 5, 1) := ldc_21.2.1
theorem dL_law_551 : decode cL_law 551 = .ok (.iadd, 1) := ldc_21.2.2.1
theorem dL_law_552 : decode cL_law 552 = .ok (.iaload, 1) := ldc_21.2.2.2.1
theorem dL_law_553 : decode cL_law 553 = .ok (.aload_n 0, 1) := ldc_21.2.2.2.2.1
theorem dL_law_554 : decode cL_law 554 = .ok (.iload 5, 2) := ldc_21.2.2.2.2.2.1
theorem dL_law_556 : decode cL_law 556 = .ok (.bipush 6, 2) := ldc_21.2.2.2.2.2.2.1
theorem dL_law_558 : decode cL_law 558 = .ok (.iadd, 1) := ldc_21.2.2.2.2.2.2.2.1
theorem dL_law_559 : decode cL_law 559 = .ok (.iaload, 1) := ldc_21.2.2.2.2.2.2.2.2.1
theorem dL_law_560 : decode cL_law 560 = .ok (.aload_n 3, 1) := ldc_21.2.2.2.2.2.2.2.2.2
set_option maxRecDepth 100000 in
theorem ldc_22 : decode cL_law 561 = .ok (.invokestatic 153, 3) ∧ decode cL_law 564 = .ok (.istore 6, 2) ∧ decode cL_law 566 = .ok (.aload_n 2, 1) ∧ decode cL_law 567 = .ok (.aload_n 0, 1) ∧ decode cL_law 568 = .ok (.iload 5, 2) ∧ decode cL_law 570 = .ok (.iconst 1, 1) ∧ decode cL_law 571 = .ok (.iadd, 1) ∧ decode cL_law 572 = .ok (.iaload, 1) ∧ decode cL_law 573 = .ok (.aload_n 0, 1) ∧ decode cL_law 574 = .ok (.iload 5, 2) := by decide +kernel
theorem dL_law_561 : decode cL_law 561 = .ok (.invokestatic 153, 3) := ldc_22.1
theorem dL_law_564 : decode cL_law 564 = .ok (.istore 6, 2) := ldc_22.2.1
theorem dL_law_566 : decode cL_law 566 = .ok (.aload_n 2, 1) := ldc_22.2.2.1
theorem dL_law_567 : decode cL_law 567 = .ok (.aload_n 0, 1) := ldc_22.2.2.2.1
theorem dL_law_568 : decode cL_law 568 = .ok (.iload 5, 2) := ldc_22.2.2.2.2.1
theorem dL_law_570 : decode cL_law 570 = .ok (.iconst 1, 1) := ldc_22.2.2.2.2.2.1
theorem dL_law_571 : decode cL_law 571 = .ok (.iadd, 1) := ldc_22.2.2.2.2.2.2.1
theorem dL_law_572 : decode cL_law 572 = .ok (.iaload, 1) := ldc_22.2.2.2.2.2.2.2.1
theorem dL_law_573 : decode cL_law 573 = .ok (.aload_n 0, 1) := ldc_22.2.2.2.2.2.2.2.2.1
theorem dL_law_574 : decode cL_law 574 = .ok (.iload 5, 2) := ldc_22.2.2.2.2.2.2.2.2.2
set_option maxRecDepth 100000 in
theorem ldc_23 : decode cL_law 576 = .ok (.iconst 2, 1) ∧ decode cL_law 577 = .ok (.iadd, 1) ∧ decode cL_law 578 = .ok (.iaload, 1) ∧ decode cL_law 579 = .ok (.aload_n 0, 1) ∧ decode cL_law 580 = .ok (.iload 5, 2) ∧ decode cL_law 582 = .ok (.iconst 3, 1) ∧ decode cL_law 583 = .ok (.iadd, 1) ∧ decode cL_law 584 = .ok (.iaload, 1) ∧ decode cL_law 585 = .ok (.aload_n 0, 1) ∧ decode cL_law 586 = .ok (.iload 5, 2) := by decide +kernel
theorem dL_law_576 : decode cL_law 576 = .ok (.iconst 2, 1) := ldc_23.1
theorem dL_law_577 : decode cL_law 577 = .ok (.iadd, 1) := ldc_23.2.1
theorem dL_law_578 : decode cL_law 578 = .ok (.iaload, 1) := ldc_23.2.2.1
theorem dL_law_579 : decode cL_law 579 = .ok (.aload_n 0, 1) := ldc_23.2.2.2.1
theorem dL_law_580 : decode cL_law 580 = .ok (.iload 5, 2) := ldc_23.2.2.2.2.1
theorem dL_law_582 : decode cL_law 582 = .ok (.iconst 3, 1) := ldc_23.2.2.2.2.2.1
theorem dL_law_583 : decode cL_law 583 = .ok (.iadd, 1) := ldc_23.2.2.2.2.2.2.1
theorem dL_law_584 : decode cL_law 584 = .ok (.iaload, 1) := ldc_23.2.2.2.2.2.2.2.1
theorem dL_law_585 : decode cL_law 585 = .ok (.aload_n 0, 1) := ldc_23.2.2.2.2.2.2.2.2.1
theorem dL_law_586 : decode cL_law 586 = .ok (.iload 5, 2) := ldc_23.2.2.2.2.2.2.2.2.2
set_option maxRecDepth 100000 in
theorem ldc_24 : decode cL_law 588 = .ok (.iconst 4, 1) ∧ decode cL_law 589 = .ok (.iadd, 1) ∧ decode cL_law 590 = .ok (.iaload, 1) ∧ decode cL_law 591 = .ok (.aload_n 0, 1) ∧ decode cL_law 592 = .ok (.iload 5, 2) ∧ decode cL_law 594 = .ok (.iconst 5, 1) ∧ decode cL_law 595 = .ok (.iadd, 1) ∧ decode cL_law 596 = .ok (.iaload, 1) ∧ decode cL_law 597 = .ok (.aload_n 0, 1) ∧ decode cL_law 598 = .ok (.iload 5, 2) := by decide +kernel
theorem dL_law_588 : decode cL_law 588 = .ok (.iconst 4, 1) := ldc_24.1
theorem dL_law_589 : decode cL_law 589 = .ok (.iadd, 1) := ldc_24.2.1
theorem dL_law_590 : decode cL_law 590 = .ok (.iaload, 1) := ldc_24.2.2.1
theorem dL_law_591 : decode cL_law 591 = .ok (.aload_n 0, 1) := ldc_24.2.2.2.1
theorem dL_law_592 : decode cL_law 592 = .ok (.iload 5, 2) := ldc_24.2.2.2.2.1
theorem dL_law_594 : decode cL_law 594 = .ok (.iconst 5, 1) := ldc_24.2.2.2.2.2.1
theorem dL_law_595 : decode cL_law 595 = .ok (.iadd, 1) := ldc_24.2.2.2.2.2.2.1
theorem dL_law_596 : decode cL_law 596 = .ok (.iaload, 1) := ldc_24.2.2.2.2.2.2.2.1
theorem dL_law_597 : decode cL_law 597 = .ok (.aload_n 0, 1) := ldc_24.2.2.2.2.2.2.2.2.1
theorem dL_law_598 : decode cL_law 598 = .ok (.iload 5, 2) := ldc_24.2.2.2.2.2.2.2.2.2
set_option maxRecDepth 100000 in
theorem ldc_25 : decode cL_law 600 = .ok (.bipush 6, 2) ∧ decode cL_law 602 = .ok (.iadd, 1) ∧ decode cL_law 603 = .ok (.iaload, 1) ∧ decode cL_law 604 = .ok (.invokevirtual 156, 3) ∧ decode cL_law 607 = .ok (.istore 7, 2) ∧ decode cL_law 609 = .ok (.goto 1392, 3) ∧ decode cL_law 612 = .ok (.aload_n 1, 1) ∧ decode cL_law 613 = .ok (.aload_n 0, 1) ∧ decode cL_law 614 = .ok (.iload 5, 2) ∧ decode cL_law 616 = .ok (.iconst 1, 1) := by decide +kernel
theorem dL_law_600 : decode cL_law 600 = .ok (.bipush 6, 2) := ldc_25.1
theorem dL_law_602 : decode cL_law 602 = .ok (.iadd, 1) := ldc_25.2.1
theorem dL_law_603 : decode cL_law 603 = .ok (.iaload, 1) := ldc_25.2.2.1
theorem dL_law_604 : decode cL_law 604 = .ok (.invokevirtual 156, 3) := ldc_25.2.2.2.1
theorem dL_law_607 : decode cL_law 607 = .ok (.istore 7, 2) := ldc_25.2.2.2.2.1
theorem dL_law_609 : decode cL_law 609 = .ok (.goto 1392, 3) := ldc_25.2.2.2.2.2.1
theorem dL_law_612 : decode cL_law 612 = .ok (.aload_n 1, 1) := ldc_25.2.2.2.2.2.2.1
theorem dL_law_613 : decode cL_law 613 = .ok (.aload_n 0, 1) := ldc_25.2.2.2.2.2.2.2.1
theorem dL_law_614 : decode cL_law 614 = .ok (.iload 5, 2) := ldc_25.2.2.2.2.2.2.2.2.1
theorem dL_law_616 : decode cL_law 616 = .ok (.iconst 1, 1) := ldc_25.2.2.2.2.2.2.2.2.2
set_option maxRecDepth 100000 in
theorem ldc_26 : decode cL_law 617 = .ok (.iadd, 1) ∧ decode cL_law 618 = .ok (.iaload, 1) ∧ decode cL_law 619 = .ok (.aload_n 3, 1) ∧ decode cL_law 620 = .ok (.invokestatic 157, 3) ∧ decode cL_law 623 = .ok (.istore 6, 2) ∧ decode cL_law 625 = .ok (.aload_n 2, 1) ∧ decode cL_law 626 = .ok (.aload_n 0, 1) ∧ decode cL_law 627 = .ok (.iload 5, 2) ∧ decode cL_law 629 = .ok (.iconst 1, 1) ∧ decode cL_law 630 = .ok (.iadd, 1) := by decide +kernel
theorem dL_law_617 : decode cL_law 617 = .ok (.iadd, 1) := ldc_26.1
theorem dL_law_618 : decode cL_law 618 = .ok (.iaload, 1) := ldc_26.2.1
theorem dL_law_619 : decode cL_law 619 = .ok (.aload_n 3, 1) := ldc_26.2.2.1
theorem dL_law_620 : decode cL_law 620 = .ok (.invokestatic 157, 3) := ldc_26.2.2.2.1
theorem dL_law_623 : decode cL_law 623 = .ok (.istore 6, 2) := ldc_26.2.2.2.2.1
theorem dL_law_625 : decode cL_law 625 = .ok (.aload_n 2, 1) := ldc_26.2.2.2.2.2.1
theorem dL_law_626 : decode cL_law 626 = .ok (.aload_n 0, 1) := ldc_26.2.2.2.2.2.2.1
theorem dL_law_627 : decode cL_law 627 = .ok (.iload 5, 2) := ldc_26.2.2.2.2.2.2.2.1
theorem dL_law_629 : decode cL_law 629 = .ok (.iconst 1, 1) := ldc_26.2.2.2.2.2.2.2.2.1
theorem dL_law_630 : decode cL_law 630 = .ok (.iadd, 1) := ldc_26.2.2.2.2.2.2.2.2.2
set_option maxRecDepth 100000 in
theorem ldc_27 : decode cL_law 631 = .ok (.iaload, 1) ∧ decode cL_law 632 = .ok (.invokevirtual 160, 3) ∧ decode cL_law 635 = .ok (.istore 7, 2) ∧ decode cL_law 637 = .ok (.goto 1364, 3) ∧ decode cL_law 640 = .ok (.aload_n 1, 1) ∧ decode cL_law 641 = .ok (.invokevirtual 161, 3) ∧ decode cL_law 644 = .ok (.pop, 1) ∧ decode cL_law 645 = .ok (.aload_n 2, 1) ∧ decode cL_law 646 = .ok (.invokevirtual 164, 3) ∧ decode cL_law 649 = .ok (.pop, 1) := by decide +kernel
theorem dL_law_631 : decode cL_law 631 = .ok (.iaload, 1) := ldc_27.1
theorem dL_law_632 : decode cL_law 632 = .ok (.invokevirtual 160, 3) := ldc_27.2.1
theorem dL_law_635 : decode cL_law 635 = .ok (.istore 7, 2) := ldc_27.2.2.1
theorem dL_law_637 : decode cL_law 637 = .ok (.goto 1364, 3) := ldc_27.2.2.2.1
theorem dL_law_640 : decode cL_law 640 = .ok (.aload_n 1, 1) := ldc_27.2.2.2.2.1
theorem dL_law_641 : decode cL_law 641 = .ok (.invokevirtual 161, 3) := ldc_27.2.2.2.2.2.1
theorem dL_law_644 : decode cL_law 644 = .ok (.pop, 1) := ldc_27.2.2.2.2.2.2.1
theorem dL_law_645 : decode cL_law 645 = .ok (.aload_n 2, 1) := ldc_27.2.2.2.2.2.2.2.1
theorem dL_law_646 : decode cL_law 646 = .ok (.invokevirtual 164, 3) := ldc_27.2.2.2.2.2.2.2.2.1
theorem dL_law_649 : decode cL_law 649 = .ok (.pop, 1) := ldc_27.2.2.2.2.2.2.2.2.2
set_option maxRecDepth 100000 in
theorem ldc_28 : decode cL_law 650 = .ok (.goto 1351, 3) ∧ decode cL_law 653 = .ok (.aload_n 1, 1) ∧ decode cL_law 654 = .ok (.invokevirtual 165, 3) ∧ decode cL_law 657 = .ok (.pop, 1) ∧ decode cL_law 658 = .ok (.aload_n 2, 1) ∧ decode cL_law 659 = .ok (.invokevirtual 168, 3) ∧ decode cL_law 662 = .ok (.pop, 1) ∧ decode cL_law 663 = .ok (.goto 1338, 3) ∧ decode cL_law 666 = .ok (.aload_n 1, 1) ∧ decode cL_law 667 = .ok (.aload_n 0, 1) := by decide +kernel
theorem dL_law_650 : decode cL_law 650 = .ok (.goto 1351, 3) := ldc_28.1
theorem dL_law_653 : decode cL_law 653 = .ok (.aload_n 1, 1) := ldc_28.2.1
theorem dL_law_654 : decode cL_law 654 = .ok (.invokevirtual 165, 3) := ldc_28.2.2.1
theorem dL_law_657 : decode cL_law 657 = .ok (.pop, 1) := ldc_28.2.2.2.1
theorem dL_law_658 : decode cL_law 658 = .ok (.aload_n 2, 1) := ldc_28.2.2.2.2.1
theorem dL_law_659 : decode cL_law 659 = .ok (.invokevirtual 168, 3) := ldc_28.2.2.2.2.2.1
theorem dL_law_662 : decode cL_law 662 = .ok (.pop, 1) := ldc_28.2.2.2.2.2.2.1
theorem dL_law_663 : decode cL_law 663 = .ok (.goto 1338, 3) := ldc_28.2.2.2.2.2.2.2.1
theorem dL_law_666 : decode cL_law 666 = .ok (.aload_n 1, 1) := ldc_28.2.2.2.2.2.2.2.2.1
theorem dL_law_667 : decode cL_law 667 = .ok (.aload_n 0, 1) := ldc_28.2.2.2.2.2.2.2.2.2
set_option maxRecDepth 100000 in
theorem ldc_29 : decode cL_law 668 = .ok (.iload 5, 2) ∧ decode cL_law 670 = .ok (.iconst 1, 1) ∧ decode cL_law 671 = .ok (.iadd, 1) ∧ decode cL_law 672 = .ok (.iaload, 1) ∧ decode cL_law 673 = .ok (.aload_n 0, 1) ∧ decode cL_law 674 = .ok (.iload 5, 2) ∧ decode cL_law 676 = .ok (.iconst 2, 1) ∧ decode cL_law 677 = .ok (.iadd, 1) ∧ decode cL_law 678 = .ok (.iaload, 1) ∧ decode cL_law 679 = .ok (.aload_n 3, 1) := by decide +kernel
theorem dL_law_668 : decode cL_law 668 = .ok (.iload 5, 2) := ldc_29.1
theorem dL_law_670 : decode cL_law 670 = .ok (.iconst 1, 1) := ldc_29.2.1
theorem dL_law_671 : decode cL_law 671 = .ok (.iadd, 1) := ldc_29.2.2.1
theorem dL_law_672 : decode cL_law 672 = .ok (.iaload, 1) := ldc_29.2.2.2.1
theorem dL_law_673 : decode cL_law 673 = .ok (.aload_n 0, 1) := ldc_29.2.2.2.2.1
theorem dL_law_674 : decode cL_law 674 = .ok (.iload 5, 2) := ldc_29.2.2.2.2.2.1
theorem dL_law_676 : decode cL_law 676 = .ok (.iconst 2, 1) := ldc_29.2.2.2.2.2.2.1
theorem dL_law_677 : decode cL_law 677 = .ok (.iadd, 1) := ldc_29.2.2.2.2.2.2.2.1
theorem dL_law_678 : decode cL_law 678 = .ok (.iaload, 1) := ldc_29.2.2.2.2.2.2.2.2.1
theorem dL_law_679 : decode cL_law 679 = .ok (.aload_n 3, 1) := ldc_29.2.2.2.2.2.2.2.2.2
set_option maxRecDepth 100000 in
theorem ldc_30 : decode cL_law 680 = .ok (.invokestatic 169, 3) ∧ decode cL_law 683 = .ok (.istore 6, 2) ∧ decode cL_law 685 = .ok (.aload_n 2, 1) ∧ decode cL_law 686 = .ok (.aload_n 0, 1) ∧ decode cL_law 687 = .ok (.iload 5, 2) ∧ decode cL_law 689 = .ok (.iconst 1, 1) ∧ decode cL_law 690 = .ok (.iadd, 1) ∧ decode cL_law 691 = .ok (.iaload, 1) ∧ decode cL_law 692 = .ok (.aload_n 0, 1) ∧ decode cL_law 693 = .ok (.iload 5, 2) := by decide +kernel
theorem dL_law_680 : decode cL_law 680 = .ok (.invokestatic 169, 3) := ldc_30.1
theorem dL_law_683 : decode cL_law 683 = .ok (.istore 6, 2) := ldc_30.2.1
theorem dL_law_685 : decode cL_law 685 = .ok (.aload_n 2, 1) := ldc_30.2.2.1
theorem dL_law_686 : decode cL_law 686 = .ok (.aload_n 0, 1) := ldc_30.2.2.2.1
theorem dL_law_687 : decode cL_law 687 = .ok (.iload 5, 2) := ldc_30.2.2.2.2.1
theorem dL_law_689 : decode cL_law 689 = .ok (.iconst 1, 1) := ldc_30.2.2.2.2.2.1
theorem dL_law_690 : decode cL_law 690 = .ok (.iadd, 1) := ldc_30.2.2.2.2.2.2.1
theorem dL_law_691 : decode cL_law 691 = .ok (.iaload, 1) := ldc_30.2.2.2.2.2.2.2.1
theorem dL_law_692 : decode cL_law 692 = .ok (.aload_n 0, 1) := ldc_30.2.2.2.2.2.2.2.2.1
theorem dL_law_693 : decode cL_law 693 = .ok (.iload 5, 2) := ldc_30.2.2.2.2.2.2.2.2.2
set_option maxRecDepth 100000 in
theorem ldc_31 : decode cL_law 695 = .ok (.iconst 2, 1) ∧ decode cL_law 696 = .ok (.iadd, 1) ∧ decode cL_law 697 = .ok (.iaload, 1) ∧ decode cL_law 698 = .ok (.invokevirtual 172, 3) ∧ decode cL_law 701 = .ok (.lstore 7, 2) ∧ decode cL_law 703 = .ok (.goto 1298, 3) ∧ decode cL_law 706 = .ok (.aload_n 1, 1) ∧ decode cL_law 707 = .ok (.invokevirtual 173, 3) ∧ decode cL_law 710 = .ok (.pop, 1) ∧ decode cL_law 711 = .ok (.aload_n 2, 1) := by decide +kernel
theorem dL_law_695 : decode cL_law 695 = .ok (.iconst 2, 1) := ldc_31.1
theorem dL_law_696 : decode cL_law 696 = .ok (.iadd, 1) := ldc_31.2.1
theorem dL_law_697 : decode cL_law 697 = .ok (.iaload, 1) := ldc_31.2.2.1
theorem dL_law_698 : decode cL_law 698 = .ok (.invokevirtual 172, 3) := ldc_31.2.2.2.1
theorem dL_law_701 : decode cL_law 701 = .ok (.lstore 7, 2) := ldc_31.2.2.2.2.1
theorem dL_law_703 : decode cL_law 703 = .ok (.goto 1298, 3) := ldc_31.2.2.2.2.2.1
theorem dL_law_706 : decode cL_law 706 = .ok (.aload_n 1, 1) := ldc_31.2.2.2.2.2.2.1
theorem dL_law_707 : decode cL_law 707 = .ok (.invokevirtual 173, 3) := ldc_31.2.2.2.2.2.2.2.1
theorem dL_law_710 : decode cL_law 710 = .ok (.pop, 1) := ldc_31.2.2.2.2.2.2.2.2.1
theorem dL_law_711 : decode cL_law 711 = .ok (.aload_n 2, 1) := ldc_31.2.2.2.2.2.2.2.2.2
set_option maxRecDepth 100000 in
theorem ldc_32 : decode cL_law 712 = .ok (.invokevirtual 176, 3) ∧ decode cL_law 715 = .ok (.pop, 1) ∧ decode cL_law 716 = .ok (.goto 1285, 3) ∧ decode cL_law 719 = .ok (.aload_n 1, 1) ∧ decode cL_law 720 = .ok (.invokevirtual 177, 3) ∧ decode cL_law 723 = .ok (.pop, 1) ∧ decode cL_law 724 = .ok (.aload_n 2, 1) ∧ decode cL_law 725 = .ok (.invokevirtual 180, 3) ∧ decode cL_law 728 = .ok (.pop, 1) ∧ decode cL_law 729 = .ok (.goto 1272, 3) := by decide +kernel
theorem dL_law_712 : decode cL_law 712 = .ok (.invokevirtual 176, 3) := ldc_32.1
theorem dL_law_715 : decode cL_law 715 = .ok (.pop, 1) := ldc_32.2.1
theorem dL_law_716 : decode cL_law 716 = .ok (.goto 1285, 3) := ldc_32.2.2.1
theorem dL_law_719 : decode cL_law 719 = .ok (.aload_n 1, 1) := ldc_32.2.2.2.1
theorem dL_law_720 : decode cL_law 720 = .ok (.invokevirtual 177, 3) := ldc_32.2.2.2.2.1
theorem dL_law_723 : decode cL_law 723 = .ok (.pop, 1) := ldc_32.2.2.2.2.2.1
theorem dL_law_724 : decode cL_law 724 = .ok (.aload_n 2, 1) := ldc_32.2.2.2.2.2.2.1
theorem dL_law_725 : decode cL_law 725 = .ok (.invokevirtual 180, 3) := ldc_32.2.2.2.2.2.2.2.1
theorem dL_law_728 : decode cL_law 728 = .ok (.pop, 1) := ldc_32.2.2.2.2.2.2.2.2.1
theorem dL_law_729 : decode cL_law 729 = .ok (.goto 1272, 3) := ldc_32.2.2.2.2.2.2.2.2.2
set_option maxRecDepth 100000 in
theorem ldc_33 : decode cL_law 732 = .ok (.aload_n 1, 1) ∧ decode cL_law 733 = .ok (.aload_n 0, 1) ∧ decode cL_law 734 = .ok (.iload 5, 2) ∧ decode cL_law 736 = .ok (.iconst 1, 1) ∧ decode cL_law 737 = .ok (.iadd, 1) ∧ decode cL_law 738 = .ok (.iaload, 1) ∧ decode cL_law 739 = .ok (.invokevirtual 181, 3) ∧ decode cL_law 742 = .ok (.pop, 1) ∧ decode cL_law 743 = .ok (.aload_n 2, 1) ∧ decode cL_law 744 = .ok (.aload_n 0, 1) := by decide +kernel
theorem dL_law_732 : decode cL_law 732 = .ok (.aload_n 1, 1) := ldc_33.1
theorem dL_law_733 : decode cL_law 733 = .ok (.aload_n 0, 1) := ldc_33.2.1
theorem dL_law_734 : decode cL_law 734 = .ok (.iload 5, 2) := ldc_33.2.2.1
theorem dL_law_736 : decode cL_law 736 = .ok (.iconst 1, 1) := ldc_33.2.2.2.1
theorem dL_law_737 : decode cL_law 737 = .ok (.iadd, 1) := ldc_33.2.2.2.2.1
theorem dL_law_738 : decode cL_law 738 = .ok (.iaload, 1) := ldc_33.2.2.2.2.2.1
theorem dL_law_739 : decode cL_law 739 = .ok (.invokevirtual 181, 3) := ldc_33.2.2.2.2.2.2.1
theorem dL_law_742 : decode cL_law 742 = .ok (.pop, 1) := ldc_33.2.2.2.2.2.2.2.1
theorem dL_law_743 : decode cL_law 743 = .ok (.aload_n 2, 1) := ldc_33.2.2.2.2.2.2.2.2.1
theorem dL_law_744 : decode cL_law 744 = .ok (.aload_n 0, 1) := ldc_33.2.2.2.2.2.2.2.2.2
set_option maxRecDepth 100000 in
theorem ldc_34 : decode cL_law 745 = .ok (.iload 5, 2) ∧ decode cL_law 747 = .ok (.iconst 1, 1) ∧ decode cL_law 748 = .ok (.iadd, 1) ∧ decode cL_law 749 = .ok (.iaload, 1) ∧ decode cL_law 750 = .ok (.invokevirtual 184, 3) ∧ decode cL_law 753 = .ok (.pop, 1) ∧ decode cL_law 754 = .ok (.goto 1247, 3) ∧ decode cL_law 757 = .ok (.aload_n 1, 1) ∧ decode cL_law 758 = .ok (.aload_n 0, 1) ∧ decode cL_law 759 = .ok (.iload 5, 2) := by decide +kernel
theorem dL_law_745 : decode cL_law 745 = .ok (.iload 5, 2) := ldc_34.1
theorem dL_law_747 : decode cL_law 747 = .ok (.iconst 1, 1) := ldc_34.2.1
theorem dL_law_748 : decode cL_law 748 = .ok (.iadd, 1) := ldc_34.2.2.1
theorem dL_law_749 : decode cL_law 749 = .ok (.iaload, 1) := ldc_34.2.2.2.1
theorem dL_law_750 : decode cL_law 750 = .ok (.invokevirtual 184, 3) := ldc_34.2.2.2.2.1
theorem dL_law_753 : decode cL_law 753 = .ok (.pop, 1) := ldc_34.2.2.2.2.2.1
theorem dL_law_754 : decode cL_law 754 = .ok (.goto 1247, 3) := ldc_34.2.2.2.2.2.2.1
theorem dL_law_757 : decode cL_law 757 = .ok (.aload_n 1, 1) := ldc_34.2.2.2.2.2.2.2.1
theorem dL_law_758 : decode cL_law 758 = .ok (.aload_n 0, 1) := ldc_34.2.2.2.2.2.2.2.2.1
theorem dL_law_759 : decode cL_law 759 = .ok (.iload 5, 2) := ldc_34.2.2.2.2.2.2.2.2.2
set_option maxRecDepth 100000 in
theorem ldc_35 : decode cL_law 761 = .ok (.iconst 1, 1) ∧ decode cL_law 762 = .ok (.iadd, 1) ∧ decode cL_law 763 = .ok (.iaload, 1) ∧ decode cL_law 764 = .ok (.ifCond .eq 7, 3) ∧ decode cL_law 767 = .ok (.iconst 1, 1) ∧ decode cL_law 768 = .ok (.goto 4, 3) ∧ decode cL_law 771 = .ok (.iconst 0, 1) ∧ decode cL_law 772 = .ok (.invokevirtual 185, 3) ∧ decode cL_law 775 = .ok (.pop, 1) ∧ decode cL_law 776 = .ok (.aload_n 2, 1) := by decide +kernel
theorem dL_law_761 : decode cL_law 761 = .ok (.iconst 1, 1) := ldc_35.1
theorem dL_law_762 : decode cL_law 762 = .ok (.iadd, 1) := ldc_35.2.1
theorem dL_law_763 : decode cL_law 763 = .ok (.iaload, 1) := ldc_35.2.2.1
theorem dL_law_764 : decode cL_law 764 = .ok (.ifCond .eq 7, 3) := ldc_35.2.2.2.1
theorem dL_law_767 : decode cL_law 767 = .ok (.iconst 1, 1) := ldc_35.2.2.2.2.1
theorem dL_law_768 : decode cL_law 768 = .ok (.goto 4, 3) := ldc_35.2.2.2.2.2.1
theorem dL_law_771 : decode cL_law 771 = .ok (.iconst 0, 1) := ldc_35.2.2.2.2.2.2.1
theorem dL_law_772 : decode cL_law 772 = .ok (.invokevirtual 185, 3) := ldc_35.2.2.2.2.2.2.2.1
theorem dL_law_775 : decode cL_law 775 = .ok (.pop, 1) := ldc_35.2.2.2.2.2.2.2.2.1
theorem dL_law_776 : decode cL_law 776 = .ok (.aload_n 2, 1) := ldc_35.2.2.2.2.2.2.2.2.2
set_option maxRecDepth 100000 in
theorem ldc_36 : decode cL_law 777 = .ok (.aload_n 0, 1) ∧ decode cL_law 778 = .ok (.iload 5, 2) ∧ decode cL_law 780 = .ok (.iconst 1, 1) ∧ decode cL_law 781 = .ok (.iadd, 1) ∧ decode cL_law 782 = .ok (.iaload, 1) ∧ decode cL_law 783 = .ok (.ifCond .eq 7, 3) ∧ decode cL_law 786 = .ok (.iconst 1, 1) ∧ decode cL_law 787 = .ok (.goto 4, 3) ∧ decode cL_law 790 = .ok (.iconst 0, 1) ∧ decode cL_law 791 = .ok (.invokevirtual 189, 3) := by decide +kernel
theorem dL_law_777 : decode cL_law 777 = .ok (.aload_n 0, 1) := ldc_36.1
theorem dL_law_778 : decode cL_law 778 = .ok (.iload 5, 2) := ldc_36.2.1
theorem dL_law_780 : decode cL_law 780 = .ok (.iconst 1, 1) := ldc_36.2.2.1
theorem dL_law_781 : decode cL_law 781 = .ok (.iadd, 1) := ldc_36.2.2.2.1
theorem dL_law_782 : decode cL_law 782 = .ok (.iaload, 1) := ldc_36.2.2.2.2.1
theorem dL_law_783 : decode cL_law 783 = .ok (.ifCond .eq 7, 3) := ldc_36.2.2.2.2.2.1
theorem dL_law_786 : decode cL_law 786 = .ok (.iconst 1, 1) := ldc_36.2.2.2.2.2.2.1
theorem dL_law_787 : decode cL_law 787 = .ok (.goto 4, 3) := ldc_36.2.2.2.2.2.2.2.1
theorem dL_law_790 : decode cL_law 790 = .ok (.iconst 0, 1) := ldc_36.2.2.2.2.2.2.2.2.1
theorem dL_law_791 : decode cL_law 791 = .ok (.invokevirtual 189, 3) := ldc_36.2.2.2.2.2.2.2.2.2
set_option maxRecDepth 100000 in
theorem ldc_37 : decode cL_law 794 = .ok (.pop, 1) ∧ decode cL_law 795 = .ok (.goto 1206, 3) ∧ decode cL_law 798 = .ok (.aload_n 1, 1) ∧ decode cL_law 799 = .ok (.aload_n 0, 1) ∧ decode cL_law 800 = .ok (.iload 5, 2) ∧ decode cL_law 802 = .ok (.iconst 1, 1) ∧ decode cL_law 803 = .ok (.iadd, 1) ∧ decode cL_law 804 = .ok (.iaload, 1) ∧ decode cL_law 805 = .ok (.invokevirtual 190, 3) ∧ decode cL_law 808 = .ok (.pop, 1) := by decide +kernel
theorem dL_law_794 : decode cL_law 794 = .ok (.pop, 1) := ldc_37.1
theorem dL_law_795 : decode cL_law 795 = .ok (.goto 1206, 3) := ldc_37.2.1
theorem dL_law_798 : decode cL_law 798 = .ok (.aload_n 1, 1) := ldc_37.2.2.1
theorem dL_law_799 : decode cL_law 799 = .ok (.aload_n 0, 1) := ldc_37.2.2.2.1
theorem dL_law_800 : decode cL_law 800 = .ok (.iload 5, 2) := ldc_37.2.2.2.2.1
theorem dL_law_802 : decode cL_law 802 = .ok (.iconst 1, 1) := ldc_37.2.2.2.2.2.1
theorem dL_law_803 : decode cL_law 803 = .ok (.iadd, 1) := ldc_37.2.2.2.2.2.2.1
theorem dL_law_804 : decode cL_law 804 = .ok (.iaload, 1) := ldc_37.2.2.2.2.2.2.2.1
theorem dL_law_805 : decode cL_law 805 = .ok (.invokevirtual 190, 3) := ldc_37.2.2.2.2.2.2.2.2.1
theorem dL_law_808 : decode cL_law 808 = .ok (.pop, 1) := ldc_37.2.2.2.2.2.2.2.2.2
set_option maxRecDepth 100000 in
theorem ldc_38 : decode cL_law 809 = .ok (.aload_n 2, 1) ∧ decode cL_law 810 = .ok (.aload_n 0, 1) ∧ decode cL_law 811 = .ok (.iload 5, 2) ∧ decode cL_law 813 = .ok (.iconst 1, 1) ∧ decode cL_law 814 = .ok (.iadd, 1) ∧ decode cL_law 815 = .ok (.iaload, 1) ∧ decode cL_law 816 = .ok (.invokevirtual 193, 3) ∧ decode cL_law 819 = .ok (.pop, 1) ∧ decode cL_law 820 = .ok (.goto 1181, 3) ∧ decode cL_law 823 = .ok (.aload_n 1, 1) := by decide +kernel
theorem dL_law_809 : decode cL_law 809 = .ok (.aload_n 2, 1) := ldc_38.1
theorem dL_law_810 : decode cL_law 810 = .ok (.aload_n 0, 1) := ldc_38.2.1
theorem dL_law_811 : decode cL_law 811 = .ok (.iload 5, 2) := ldc_38.2.2.1
theorem dL_law_813 : decode cL_law 813 = .ok (.iconst 1, 1) := ldc_38.2.2.2.1
theorem dL_law_814 : decode cL_law 814 = .ok (.iadd, 1) := ldc_38.2.2.2.2.1
theorem dL_law_815 : decode cL_law 815 = .ok (.iaload, 1) := ldc_38.2.2.2.2.2.1
theorem dL_law_816 : decode cL_law 816 = .ok (.invokevirtual 193, 3) := ldc_38.2.2.2.2.2.2.1
theorem dL_law_819 : decode cL_law 819 = .ok (.pop, 1) := ldc_38.2.2.2.2.2.2.2.1
theorem dL_law_820 : decode cL_law 820 = .ok (.goto 1181, 3) := ldc_38.2.2.2.2.2.2.2.2.1
theorem dL_law_823 : decode cL_law 823 = .ok (.aload_n 1, 1) := ldc_38.2.2.2.2.2.2.2.2.2
set_option maxRecDepth 100000 in
theorem ldc_39 : decode cL_law 824 = .ok (.invokevirtual 194, 3) ∧ decode cL_law 827 = .ok (.pop, 1) ∧ decode cL_law 828 = .ok (.aload_n 2, 1) ∧ decode cL_law 829 = .ok (.invokevirtual 197, 3) ∧ decode cL_law 832 = .ok (.pop, 1) ∧ decode cL_law 833 = .ok (.goto 1168, 3) ∧ decode cL_law 836 = .ok (.aload_n 1, 1) ∧ decode cL_law 837 = .ok (.aload_n 0, 1) ∧ decode cL_law 838 = .ok (.iload 5, 2) ∧ decode cL_law 840 = .ok (.iconst 1, 1) := by decide +kernel
theorem dL_law_824 : decode cL_law 824 = .ok (.invokevirtual 194, 3) := ldc_39.1
theorem dL_law_827 : decode cL_law 827 = .ok (.pop, 1) := ldc_39.2.1
theorem dL_law_828 : decode cL_law 828 = .ok (.aload_n 2, 1) := ldc_39.2.2.1
theorem dL_law_829 : decode cL_law 829 = .ok (.invokevirtual 197, 3) := ldc_39.2.2.2.1
theorem dL_law_832 : decode cL_law 832 = .ok (.pop, 1) := ldc_39.2.2.2.2.1
theorem dL_law_833 : decode cL_law 833 = .ok (.goto 1168, 3) := ldc_39.2.2.2.2.2.1
theorem dL_law_836 : decode cL_law 836 = .ok (.aload_n 1, 1) := ldc_39.2.2.2.2.2.2.1
theorem dL_law_837 : decode cL_law 837 = .ok (.aload_n 0, 1) := ldc_39.2.2.2.2.2.2.2.1
theorem dL_law_838 : decode cL_law 838 = .ok (.iload 5, 2) := ldc_39.2.2.2.2.2.2.2.2.1
theorem dL_law_840 : decode cL_law 840 = .ok (.iconst 1, 1) := ldc_39.2.2.2.2.2.2.2.2.2
set_option maxRecDepth 100000 in
theorem ldc_40 : decode cL_law 841 = .ok (.iadd, 1) ∧ decode cL_law 842 = .ok (.iaload, 1) ∧ decode cL_law 843 = .ok (.aload_n 3, 1) ∧ decode cL_law 844 = .ok (.invokestatic 198, 3) ∧ decode cL_law 847 = .ok (.istore 6, 2) ∧ decode cL_law 849 = .ok (.aload_n 2, 1) ∧ decode cL_law 850 = .ok (.aload_n 0, 1) ∧ decode cL_law 851 = .ok (.iload 5, 2) ∧ decode cL_law 853 = .ok (.iconst 1, 1) ∧ decode cL_law 854 = .ok (.iadd, 1) := by decide +kernel
theorem dL_law_841 : decode cL_law 841 = .ok (.iadd, 1) := ldc_40.1
theorem dL_law_842 : decode cL_law 842 = .ok (.iaload, 1) := ldc_40.2.1
theorem dL_law_843 : decode cL_law 843 = .ok (.aload_n 3, 1) := ldc_40.2.2.1
theorem dL_law_844 : decode cL_law 844 = .ok (.invokestatic 198, 3) := ldc_40.2.2.2.1
theorem dL_law_847 : decode cL_law 847 = .ok (.istore 6, 2) := ldc_40.2.2.2.2.1
theorem dL_law_849 : decode cL_law 849 = .ok (.aload_n 2, 1) := ldc_40.2.2.2.2.2.1
theorem dL_law_850 : decode cL_law 850 = .ok (.aload_n 0, 1) := ldc_40.2.2.2.2.2.2.1
theorem dL_law_851 : decode cL_law 851 = .ok (.iload 5, 2) := ldc_40.2.2.2.2.2.2.2.1
theorem dL_law_853 : decode cL_law 853 = .ok (.iconst 1, 1) := ldc_40.2.2.2.2.2.2.2.2.1
theorem dL_law_854 : decode cL_law 854 = .ok (.iadd, 1) := ldc_40.2.2.2.2.2.2.2.2.2
set_option maxRecDepth 100000 in
theorem ldc_41 : decode cL_law 855 = .ok (.iaload, 1) ∧ decode cL_law 856 = .ok (.invokevirtual 200, 3) ∧ decode cL_law 859 = .ok (.istore 7, 2) ∧ decode cL_law 861 = .ok (.goto 1140, 3) ∧ decode cL_law 864 = .ok (.aload_n 1, 1) ∧ decode cL_law 865 = .ok (.aload_n 0, 1) ∧ decode cL_law 866 = .ok (.iload 5, 2) ∧ decode cL_law 868 = .ok (.iconst 1, 1) ∧ decode cL_law 869 = .ok (.iadd, 1) ∧ decode cL_law 870 = .ok (.iaload, 1) := by decide +kernel
theorem dL_law_855 : decode cL_law 855 = .ok (.iaload, 1) := ldc_41.1
theorem dL_law_856 : decode cL_law 856 = .ok (.invokevirtual 200, 3) := ldc_41.2.1
theorem dL_law_859 : decode cL_law 859 = .ok (.istore 7, 2) := ldc_41.2.2.1
theorem dL_law_861 : decode cL_law 861 = .ok (.goto 1140, 3) := ldc_41.2.2.2.1
theorem dL_law_864 : decode cL_law 864 = .ok (.aload_n 1, 1) := ldc_41.2.2.2.2.1
theorem dL_law_865 : decode cL_law 865 = .ok (.aload_n 0, 1) := ldc_41.2.2.2.2.2.1
theorem dL_law_866 : decode cL_law 866 = .ok (.iload 5, 2) := ldc_41.2.2.2.2.2.2.1
theorem dL_law_868 : decode cL_law 868 = .ok (.iconst 1, 1) := ldc_41.2.2.2.2.2.2.2.1
theorem dL_law_869 : decode cL_law 869 = .ok (.iadd, 1) := ldc_41.2.2.2.2.2.2.2.2.1
theorem dL_law_870 : decode cL_law 870 = .ok (.iaload, 1) := ldc_41.2.2.2.2.2.2.2.2.2
set_option maxRecDepth 100000 in
theorem ldc_42 : decode cL_law 871 = .ok (.aload_n 3, 1) ∧ decode cL_law 872 = .ok (.invokestatic 201, 3) ∧ decode cL_law 875 = .ok (.istore 6, 2) ∧ decode cL_law 877 = .ok (.aload_n 2, 1) ∧ decode cL_law 878 = .ok (.aload_n 0, 1) ∧ decode cL_law 879 = .ok (.iload 5, 2) ∧ decode cL_law 881 = .ok (.iconst 1, 1) ∧ decode cL_law 882 = .ok (.iadd, 1) ∧ decode cL_law 883 = .ok (.iaload, 1) ∧ decode cL_law 884 = .ok (.invokevirtual 203, 3) := by decide +kernel
theorem dL_law_871 : decode cL_law 871 = .ok (.aload_n 3, 1) := ldc_42.1
theorem dL_law_872 : decode cL_law 872 = .ok (.invokestatic 201, 3) := ldc_42.2.1
theorem dL_law_875 : decode cL_law 875 = .ok (.istore 6, 2) := ldc_42.2.2.1
theorem dL_law_877 : decode cL_law 877 = .ok (.aload_n 2, 1) := ldc_42.2.2.2.1
theorem dL_law_878 : decode cL_law 878 = .ok (.aload_n 0, 1) := ldc_42.2.2.2.2.1
theorem dL_law_879 : decode cL_law 879 = .ok (.iload 5, 2) := ldc_42.2.2.2.2.2.1
theorem dL_law_881 : decode cL_law 881 = .ok (.iconst 1, 1) := ldc_42.2.2.2.2.2.2.1
theorem dL_law_882 : decode cL_law 882 = .ok (.iadd, 1) := ldc_42.2.2.2.2.2.2.2.1
theorem dL_law_883 : decode cL_law 883 = .ok (.iaload, 1) := ldc_42.2.2.2.2.2.2.2.2.1
theorem dL_law_884 : decode cL_law 884 = .ok (.invokevirtual 203, 3) := ldc_42.2.2.2.2.2.2.2.2.2
set_option maxRecDepth 100000 in
theorem ldc_43 : decode cL_law 887 = .ok (.istore 7, 2) ∧ decode cL_law 889 = .ok (.goto 1112, 3) ∧ decode cL_law 892 = .ok (.aload_n 1, 1) ∧ decode cL_law 893 = .ok (.aload_n 0, 1) ∧ decode cL_law 894 = .ok (.iload 5, 2) ∧ decode cL_law 896 = .ok (.iconst 1, 1) ∧ decode cL_law 897 = .ok (.iadd, 1) ∧ decode cL_law 898 = .ok (.iaload, 1) ∧ decode cL_law 899 = .ok (.aload_n 0, 1) ∧ decode cL_law 900 = .ok (.iload 5, 2) := by decide +kernel
theorem dL_law_887 : decode cL_law 887 = .ok (.istore 7, 2) := ldc_43.1
theorem dL_law_889 : decode cL_law 889 = .ok (.goto 1112, 3) := ldc_43.2.1
theorem dL_law_892 : decode cL_law 892 = .ok (.aload_n 1, 1) := ldc_43.2.2.1
theorem dL_law_893 : decode cL_law 893 = .ok (.aload_n 0, 1) := ldc_43.2.2.2.1
theorem dL_law_894 : decode cL_law 894 = .ok (.iload 5, 2) := ldc_43.2.2.2.2.1
theorem dL_law_896 : decode cL_law 896 = .ok (.iconst 1, 1) := ldc_43.2.2.2.2.2.1
theorem dL_law_897 : decode cL_law 897 = .ok (.iadd, 1) := ldc_43.2.2.2.2.2.2.1
theorem dL_law_898 : decode cL_law 898 = .ok (.iaload, 1) := ldc_43.2.2.2.2.2.2.2.1
theorem dL_law_899 : decode cL_law 899 = .ok (.aload_n 0, 1) := ldc_43.2.2.2.2.2.2.2.2.1
theorem dL_law_900 : decode cL_law 900 = .ok (.iload 5, 2) := ldc_43.2.2.2.2.2.2.2.2.2
set_option maxRecDepth 100000 in
theorem ldc_44 : decode cL_law 902 = .ok (.iconst 2, 1) ∧ decode cL_law 903 = .ok (.iadd, 1) ∧ decode cL_law 904 = .ok (.iaload, 1) ∧ decode cL_law 905 = .ok (.aload_n 3, 1) ∧ decode cL_law 906 = .ok (.invokestatic 204, 3) ∧ decode cL_law 909 = .ok (.istore 6, 2) ∧ decode cL_law 911 = .ok (.aload_n 2, 1) ∧ decode cL_law 912 = .ok (.aload_n 0, 1) ∧ decode cL_law 913 = .ok (.iload 5, 2) ∧ decode cL_law 915 = .ok (.iconst 1, 1) := by decide +kernel
theorem dL_law_902 : decode cL_law 902 = .ok (.iconst 2, 1) := ldc_44.1
theorem dL_law_903 : decode cL_law 903 = .ok (.iadd, 1) := ldc_44.2.1
theorem dL_law_904 : decode cL_law 904 = .ok (.iaload, 1) := ldc_44.2.2.1
theorem dL_law_905 : decode cL_law 905 = .ok (.aload_n 3, 1) := ldc_44.2.2.2.1
theorem dL_law_906 : decode cL_law 906 = .ok (.invokestatic 204, 3) := ldc_44.2.2.2.2.1
theorem dL_law_909 : decode cL_law 909 = .ok (.istore 6, 2) := ldc_44.2.2.2.2.2.1
theorem dL_law_911 : decode cL_law 911 = .ok (.aload_n 2, 1) := ldc_44.2.2.2.2.2.2.1
theorem dL_law_912 : decode cL_law 912 = .ok (.aload_n 0, 1) := ldc_44.2.2.2.2.2.2.2.1
theorem dL_law_913 : decode cL_law 913 = .ok (.iload 5, 2) := ldc_44.2.2.2.2.2.2.2.2.1
theorem dL_law_915 : decode cL_law 915 = .ok (.iconst 1, 1) := ldc_44.2.2.2.2.2.2.2.2.2
set_option maxRecDepth 100000 in
theorem ldc_45 : decode cL_law 916 = .ok (.iadd, 1) ∧ decode cL_law 917 = .ok (.iaload, 1) ∧ decode cL_law 918 = .ok (.aload_n 0, 1) ∧ decode cL_law 919 = .ok (.iload 5, 2) ∧ decode cL_law 921 = .ok (.iconst 2, 1) ∧ decode cL_law 922 = .ok (.iadd, 1) ∧ decode cL_law 923 = .ok (.iaload, 1) ∧ decode cL_law 924 = .ok (.invokevirtual 206, 3) ∧ decode cL_law 927 = .ok (.istore 7, 2) ∧ decode cL_law 929 = .ok (.goto 1072, 3) := by decide +kernel
theorem dL_law_916 : decode cL_law 916 = .ok (.iadd, 1) := ldc_45.1
theorem dL_law_917 : decode cL_law 917 = .ok (.iaload, 1) := ldc_45.2.1
theorem dL_law_918 : decode cL_law 918 = .ok (.aload_n 0, 1) := ldc_45.2.2.1
theorem dL_law_919 : decode cL_law 919 = .ok (.iload 5, 2) := ldc_45.2.2.2.1
theorem dL_law_921 : decode cL_law 921 = .ok (.iconst 2, 1) := ldc_45.2.2.2.2.1
theorem dL_law_922 : decode cL_law 922 = .ok (.iadd, 1) := ldc_45.2.2.2.2.2.1
theorem dL_law_923 : decode cL_law 923 = .ok (.iaload, 1) := ldc_45.2.2.2.2.2.2.1
theorem dL_law_924 : decode cL_law 924 = .ok (.invokevirtual 206, 3) := ldc_45.2.2.2.2.2.2.2.1
theorem dL_law_927 : decode cL_law 927 = .ok (.istore 7, 2) := ldc_45.2.2.2.2.2.2.2.2.1
theorem dL_law_929 : decode cL_law 929 = .ok (.goto 1072, 3) := ldc_45.2.2.2.2.2.2.2.2.2
set_option maxRecDepth 100000 in
theorem ldc_46 : decode cL_law 932 = .ok (.aload_n 1, 1) ∧ decode cL_law 933 = .ok (.aload_n 0, 1) ∧ decode cL_law 934 = .ok (.iload 5, 2) ∧ decode cL_law 936 = .ok (.iconst 1, 1) ∧ decode cL_law 937 = .ok (.iadd, 1) ∧ decode cL_law 938 = .ok (.iaload, 1) ∧ decode cL_law 939 = .ok (.aload_n 3, 1) ∧ decode cL_law 940 = .ok (.invokestatic 207, 3) ∧ decode cL_law 943 = .ok (.istore 6, 2) ∧ decode cL_law 945 = .ok (.aload_n 2, 1) := by decide +kernel
theorem dL_law_932 : decode cL_law 932 = .ok (.aload_n 1, 1) := ldc_46.1
theorem dL_law_933 : decode cL_law 933 = .ok (.aload_n 0, 1) := ldc_46.2.1
theorem dL_law_934 : decode cL_law 934 = .ok (.iload 5, 2) := ldc_46.2.2.1
theorem dL_law_936 : decode cL_law 936 = .ok (.iconst 1, 1) := ldc_46.2.2.2.1
theorem dL_law_937 : decode cL_law 937 = .ok (.iadd, 1) := ldc_46.2.2.2.2.1
theorem dL_law_938 : decode cL_law 938 = .ok (.iaload, 1) := ldc_46.2.2.2.2.2.1
theorem dL_law_939 : decode cL_law 939 = .ok (.aload_n 3, 1) := ldc_46.2.2.2.2.2.2.1
theorem dL_law_940 : decode cL_law 940 = .ok (.invokestatic 207, 3) := ldc_46.2.2.2.2.2.2.2.1
theorem dL_law_943 : decode cL_law 943 = .ok (.istore 6, 2) := ldc_46.2.2.2.2.2.2.2.2.1
theorem dL_law_945 : decode cL_law 945 = .ok (.aload_n 2, 1) := ldc_46.2.2.2.2.2.2.2.2.2
set_option maxRecDepth 100000 in
theorem ldc_47 : decode cL_law 946 = .ok (.aload_n 0, 1) ∧ decode cL_law 947 = .ok (.iload 5, 2) ∧ decode cL_law 949 = .ok (.iconst 1, 1) ∧ decode cL_law 950 = .ok (.iadd, 1) ∧ decode cL_law 951 = .ok (.iaload, 1) ∧ decode cL_law 952 = .ok (.invokevirtual 209, 3) ∧ decode cL_law 955 = .ok (.istore 7, 2) ∧ decode cL_law 957 = .ok (.goto 1044, 3) ∧ decode cL_law 960 = .ok (.aload_n 1, 1) ∧ decode cL_law 961 = .ok (.aload_n 0, 1) := by decide +kernel
theorem dL_law_946 : decode cL_law 946 = .ok (.aload_n 0, 1) := ldc_47.1
theorem dL_law_947 : decode cL_law 947 = .ok (.iload 5, 2) := ldc_47.2.1
theorem dL_law_949 : decode cL_law 949 = .ok (.iconst 1, 1) := ldc_47.2.2.1
theorem dL_law_950 : decode cL_law 950 = .ok (.iadd, 1) := ldc_47.2.2.2.1
theorem dL_law_951 : decode cL_law 951 = .ok (.iaload, 1) := ldc_47.2.2.2.2.1
theorem dL_law_952 : decode cL_law 952 = .ok (.invokevirtual 209, 3) := ldc_47.2.2.2.2.2.1
theorem dL_law_955 : decode cL_law 955 = .ok (.istore 7, 2) := ldc_47.2.2.2.2.2.2.1
theorem dL_law_957 : decode cL_law 957 = .ok (.goto 1044, 3) := ldc_47.2.2.2.2.2.2.2.1
theorem dL_law_960 : decode cL_law 960 = .ok (.aload_n 1, 1) := ldc_47.2.2.2.2.2.2.2.2.1
theorem dL_law_961 : decode cL_law 961 = .ok (.aload_n 0, 1) := ldc_47.2.2.2.2.2.2.2.2.2
set_option maxRecDepth 100000 in
theorem ldc_48 : decode cL_law 962 = .ok (.iload 5, 2) ∧ decode cL_law 964 = .ok (.iconst 1, 1) ∧ decode cL_law 965 = .ok (.iadd, 1) ∧ decode cL_law 966 = .ok (.iaload, 1) ∧ decode cL_law 967 = .ok (.aload_n 0, 1) ∧ decode cL_law 968 = .ok (.iload 5, 2) ∧ decode cL_law 970 = .ok (.iconst 2, 1) ∧ decode cL_law 971 = .ok (.iadd, 1) ∧ decode cL_law 972 = .ok (.iaload, 1) ∧ decode cL_law 973 = .ok (.ifCond .eq 7, 3) := by decide +kernel
theorem dL_law_962 : decode cL_law 962 = .ok (.iload 5, 2) := ldc_48.1
theorem dL_law_964 : decode cL_law 964 = .ok (.iconst 1, 1) := ldc_48.2.1
theorem dL_law_965 : decode cL_law 965 = .ok (.iadd, 1) := ldc_48.2.2.1
theorem dL_law_966 : decode cL_law 966 = .ok (.iaload, 1) := ldc_48.2.2.2.1
theorem dL_law_967 : decode cL_law 967 = .ok (.aload_n 0, 1) := ldc_48.2.2.2.2.1
theorem dL_law_968 : decode cL_law 968 = .ok (.iload 5, 2) := ldc_48.2.2.2.2.2.1
theorem dL_law_970 : decode cL_law 970 = .ok (.iconst 2, 1) := ldc_48.2.2.2.2.2.2.1
theorem dL_law_971 : decode cL_law 971 = .ok (.iadd, 1) := ldc_48.2.2.2.2.2.2.2.1
theorem dL_law_972 : decode cL_law 972 = .ok (.iaload, 1) := ldc_48.2.2.2.2.2.2.2.2.1
theorem dL_law_973 : decode cL_law 973 = .ok (.ifCond .eq 7, 3) := ldc_48.2.2.2.2.2.2.2.2.2
set_option maxRecDepth 100000 in
theorem ldc_49 : decode cL_law 976 = .ok (.iconst 1, 1) ∧ decode cL_law 977 = .ok (.goto 4, 3) ∧ decode cL_law 980 = .ok (.iconst 0, 1) ∧ decode cL_law 981 = .ok (.aload_n 3, 1) ∧ decode cL_law 982 = .ok (.invokestatic 210, 3) ∧ decode cL_law 985 = .ok (.istore 6, 2) ∧ decode cL_law 987 = .ok (.aload_n 2, 1) ∧ decode cL_law 988 = .ok (.aload_n 0, 1) ∧ decode cL_law 989 = .ok (.iload 5, 2) ∧ decode cL_law 991 = .ok (.iconst 1, 1) := by decide +kernel
theorem dL_law_976 : decode cL_law 976 = .ok (.iconst 1, 1) := ldc_49.1
theorem dL_law_977 : decode cL_law 977 = .ok (.goto 4, 3) := ldc_49.2.1
theorem dL_law_980 : decode cL_law 980 = .ok (.iconst 0, 1) := ldc_49.2.2.1
theorem dL_law_981 : decode cL_law 981 = .ok (.aload_n 3, 1) := ldc_49.2.2.2.1
theorem dL_law_982 : decode cL_law 982 = .ok (.invokestatic 210, 3) := ldc_49.2.2.2.2.1
theorem dL_law_985 : decode cL_law 985 = .ok (.istore 6, 2) := ldc_49.2.2.2.2.2.1
theorem dL_law_987 : decode cL_law 987 = .ok (.aload_n 2, 1) := ldc_49.2.2.2.2.2.2.1
theorem dL_law_988 : decode cL_law 988 = .ok (.aload_n 0, 1) := ldc_49.2.2.2.2.2.2.2.1
theorem dL_law_989 : decode cL_law 989 = .ok (.iload 5, 2) := ldc_49.2.2.2.2.2.2.2.2.1
theorem dL_law_991 : decode cL_law 991 = .ok (.iconst 1, 1) := ldc_49.2.2.2.2.2.2.2.2.2
set_option maxRecDepth 100000 in
theorem ldc_50 : decode cL_law 992 = .ok (.iadd, 1) ∧ decode cL_law 993 = .ok (.iaload, 1) ∧ decode cL_law 994 = .ok (.aload_n 0, 1) ∧ decode cL_law 995 = .ok (.iload 5, 2) ∧ decode cL_law 997 = .ok (.iconst 2, 1) ∧ decode cL_law 998 = .ok (.iadd, 1) ∧ decode cL_law 999 = .ok (.iaload, 1) ∧ decode cL_law 1000 = .ok (.ifCond .eq 7, 3) ∧ decode cL_law 1003 = .ok (.iconst 1, 1) ∧ decode cL_law 1004 = .ok (.goto 4, 3) := by decide +kernel
theorem dL_law_992 : decode cL_law 992 = .ok (.iadd, 1) := ldc_50.1
theorem dL_law_993 : decode cL_law 993 = .ok (.iaload, 1) := ldc_50.2.1
theorem dL_law_994 : decode cL_law 994 = .ok (.aload_n 0, 1) := ldc_50.2.2.1
theorem dL_law_995 : decode cL_law 995 = .ok (.iload 5, 2) := ldc_50.2.2.2.1
theorem dL_law_997 : decode cL_law 997 = .ok (.iconst 2, 1) := ldc_50.2.2.2.2.1
theorem dL_law_998 : decode cL_law 998 = .ok (.iadd, 1) := ldc_50.2.2.2.2.2.1
theorem dL_law_999 : decode cL_law 999 = .ok (.iaload, 1) := ldc_50.2.2.2.2.2.2.1
theorem dL_law_1000 : decode cL_law 1000 = .ok (.ifCond .eq 7, 3) := ldc_50.2.2.2.2.2.2.2.1
theorem dL_law_1003 : decode cL_law 1003 = .ok (.iconst 1, 1) := ldc_50.2.2.2.2.2.2.2.2.1
theorem dL_law_1004 : decode cL_law 1004 = .ok (.goto 4, 3) := ldc_50.2.2.2.2.2.2.2.2.2
set_option maxRecDepth 100000 in
theorem ldc_51 : decode cL_law 1007 = .ok (.iconst 0, 1) ∧ decode cL_law 1008 = .ok (.invokevirtual 213, 3) ∧ decode cL_law 1011 = .ok (.istore 7, 2) ∧ decode cL_law 1013 = .ok (.goto 988, 3) ∧ decode cL_law 1016 = .ok (.aload_n 1, 1) ∧ decode cL_law 1017 = .ok (.invokevirtual 214, 3) ∧ decode cL_law 1020 = .ok (.aload_n 2, 1) ∧ decode cL_law 1021 = .ok (.invokevirtual 217, 3) ∧ decode cL_law 1024 = .ok (.goto 977, 3) ∧ decode cL_law 1027 = .ok (.aload_n 1, 1) := by decide +kernel
theorem dL_law_1007 : decode cL_law 1007 = .ok (.iconst 0, 1) := ldc_51.1
theorem dL_law_1008 : decode cL_law 1008 = .ok (.invokevirtual 213, 3) := ldc_51.2.1
theorem dL_law_1011 : decode cL_law 1011 = .ok (.istore 7, 2) := ldc_51.2.2.1
theorem dL_law_1013 : decode cL_law 1013 = .ok (.goto 988, 3) := ldc_51.2.2.2.1
theorem dL_law_1016 : decode cL_law 1016 = .ok (.aload_n 1, 1) := ldc_51.2.2.2.2.1
theorem dL_law_1017 : decode cL_law 1017 = .ok (.invokevirtual 214, 3) := ldc_51.2.2.2.2.2.1
theorem dL_law_1020 : decode cL_law 1020 = .ok (.aload_n 2, 1) := ldc_51.2.2.2.2.2.2.1
theorem dL_law_1021 : decode cL_law 1021 = .ok (.invokevirtual 217, 3) := ldc_51.2.2.2.2.2.2.2.1
theorem dL_law_1024 : decode cL_law 1024 = .ok (.goto 977, 3) := ldc_51.2.2.2.2.2.2.2.2.1
theorem dL_law_1027 : decode cL_law 1027 = .ok (.aload_n 1, 1) := ldc_51.2.2.2.2.2.2.2.2.2
set_option maxRecDepth 100000 in
theorem ldc_52 : decode cL_law 1028 = .ok (.aload_n 0, 1) ∧ decode cL_law 1029 = .ok (.iload 5, 2) ∧ decode cL_law 1031 = .ok (.iconst 1, 1) ∧ decode cL_law 1032 = .ok (.iadd, 1) ∧ decode cL_law 1033 = .ok (.iaload, 1) ∧ decode cL_law 1034 = .ok (.aload_n 3, 1) ∧ decode cL_law 1035 = .ok (.invokestatic 218, 3) ∧ decode cL_law 1038 = .ok (.istore 6, 2) ∧ decode cL_law 1040 = .ok (.aload_n 2, 1) ∧ decode cL_law 1041 = .ok (.aload_n 0, 1) := by decide +kernel
theorem dL_law_1028 : decode cL_law 1028 = .ok (.aload_n 0, 1) := ldc_52.1
theorem dL_law_1029 : decode cL_law 1029 = .ok (.iload 5, 2) := ldc_52.2.1
theorem dL_law_1031 : decode cL_law 1031 = .ok (.iconst 1, 1) := ldc_52.2.2.1
theorem dL_law_1032 : decode cL_law 1032 = .ok (.iadd, 1) := ldc_52.2.2.2.1
theorem dL_law_1033 : decode cL_law 1033 = .ok (.iaload, 1) := ldc_52.2.2.2.2.1
theorem dL_law_1034 : decode cL_law 1034 = .ok (.aload_n 3, 1) := ldc_52.2.2.2.2.2.1
theorem dL_law_1035 : decode cL_law 1035 = .ok (.invokestatic 218, 3) := ldc_52.2.2.2.2.2.2.1
theorem dL_law_1038 : decode cL_law 1038 = .ok (.istore 6, 2) := ldc_52.2.2.2.2.2.2.2.1
theorem dL_law_1040 : decode cL_law 1040 = .ok (.aload_n 2, 1) := ldc_52.2.2.2.2.2.2.2.2.1
theorem dL_law_1041 : decode cL_law 1041 = .ok (.aload_n 0, 1) := ldc_52.2.2.2.2.2.2.2.2.2
set_option maxRecDepth 100000 in
theorem ldc_53 : decode cL_law 1042 = .ok (.iload 5, 2) ∧ decode cL_law 1044 = .ok (.iconst 1, 1) ∧ decode cL_law 1045 = .ok (.iadd, 1) ∧ decode cL_law 1046 = .ok (.iaload, 1) ∧ decode cL_law 1047 = .ok (.invokevirtual 220, 3) ∧ decode cL_law 1050 = .ok (.istore 7, 2) ∧ decode cL_law 1052 = .ok (.aload_n 2, 1) ∧ decode cL_law 1053 = .ok (.invokevirtual 221, 3) ∧ decode cL_law 1056 = .ok (.iload 6, 2) ∧ decode cL_law 1058 = .ok (.if_icmp .eq 5, 3) := by decide +kernel
theorem dL_law_1042 : decode cL_law 1042 = .ok (.iload 5, 2) := ldc_53.1
theorem dL_law_1044 : decode cL_law 1044 = .ok (.iconst 1, 1) := ldc_53.2.1
theorem dL_law_1045 : decode cL_law 1045 = .ok (.iadd, 1) := ldc_53.2.2.1
theorem dL_law_1046 : decode cL_law 1046 = .ok (.iaload, 1) := ldc_53.2.2.2.1
theorem dL_law_1047 : decode cL_law 1047 = .ok (.invokevirtual 220, 3) := ldc_53.2.2.2.2.1
theorem dL_law_1050 : decode cL_law 1050 = .ok (.istore 7, 2) := ldc_53.2.2.2.2.2.1
theorem dL_law_1052 : decode cL_law 1052 = .ok (.aload_n 2, 1) := ldc_53.2.2.2.2.2.2.1
theorem dL_law_1053 : decode cL_law 1053 = .ok (.invokevirtual 221, 3) := ldc_53.2.2.2.2.2.2.2.1
theorem dL_law_1056 : decode cL_law 1056 = .ok (.iload 6, 2) := ldc_53.2.2.2.2.2.2.2.2.1
theorem dL_law_1058 : decode cL_law 1058 = .ok (.if_icmp .eq 5, 3) := ldc_53.2.2.2.2.2.2.2.2.2
set_option maxRecDepth 100000 in
theorem ldc_54 : decode cL_law 1063 = .ok (.iload 6, 2) ∧ decode cL_law 1065 = .ok (.ifCond .ne 22, 3) ∧ decode cL_law 1068 = .ok (.aload_n 3, 1) ∧ decode cL_law 1069 = .ok (.iconst 0, 1) ∧ decode cL_law 1070 = .ok (.laload, 1) ∧ decode cL_law 1071 = .ok (.iload 7, 2) ∧ decode cL_law 1073 = .ok (.ifCond .eq 7, 3) ∧ decode cL_law 1076 = .ok (.lconst 1, 1) ∧ decode cL_law 1077 = .ok (.goto 4, 3) ∧ decode cL_law 1080 = .ok (.lconst 0, 1) := by decide +kernel
theorem dL_law_1063 : decode cL_law 1063 = .ok (.iload 6, 2) := ldc_54.1
theorem dL_law_1065 : decode cL_law 1065 = .ok (.ifCond .ne 22, 3) := ldc_54.2.1
theorem dL_law_1068 : decode cL_law 1068 = .ok (.aload_n 3, 1) := ldc_54.2.2.1
theorem dL_law_1069 : decode cL_law 1069 = .ok (.iconst 0, 1) := ldc_54.2.2.2.1
theorem dL_law_1070 : decode cL_law 1070 = .ok (.laload, 1) := ldc_54.2.2.2.2.1
theorem dL_law_1071 : decode cL_law 1071 = .ok (.iload 7, 2) := ldc_54.2.2.2.2.2.1
theorem dL_law_1073 : decode cL_law 1073 = .ok (.ifCond .eq 7, 3) := ldc_54.2.2.2.2.2.2.1
theorem dL_law_1076 : decode cL_law 1076 = .ok (.lconst 1, 1) := ldc_54.2.2.2.2.2.2.2.1
theorem dL_law_1077 : decode cL_law 1077 = .ok (.goto 4, 3) := ldc_54.2.2.2.2.2.2.2.2.1
theorem dL_law_1080 : decode cL_law 1080 = .ok (.lconst 0, 1) := ldc_54.2.2.2.2.2.2.2.2.2
set_option maxRecDepth 100000 in
theorem ldc_55 : decode cL_law 1081 = .ok (.lcmp, 1) ∧ decode cL_law 1082 = .ok (.ifCond .eq 5, 3) ∧ decode cL_law 1087 = .ok (.goto 914, 3) ∧ decode cL_law 1090 = .ok (.aload_n 1, 1) ∧ decode cL_law 1091 = .ok (.invokevirtual 224, 3) ∧ decode cL_law 1094 = .ok (.pop, 1) ∧ decode cL_law 1095 = .ok (.aload_n 2, 1) ∧ decode cL_law 1096 = .ok (.invokevirtual 227, 3) ∧ decode cL_law 1099 = .ok (.pop, 1) ∧ decode cL_law 1100 = .ok (.goto 901, 3) := by decide +kernel
theorem dL_law_1081 : decode cL_law 1081 = .ok (.lcmp, 1) := ldc_55.1
theorem dL_law_1082 : decode cL_law 1082 = .ok (.ifCond .eq 5, 3) := ldc_55.2.1
theorem dL_law_1087 : decode cL_law 1087 = .ok (.goto 914, 3) := ldc_55.2.2.1
theorem dL_law_1090 : decode cL_law 1090 = .ok (.aload_n 1, 1) := ldc_55.2.2.2.1
theorem dL_law_1091 : decode cL_law 1091 = .ok (.invokevirtual 224, 3) := ldc_55.2.2.2.2.1
theorem dL_law_1094 : decode cL_law 1094 = .ok (.pop, 1) := ldc_55.2.2.2.2.2.1
theorem dL_law_1095 : decode cL_law 1095 = .ok (.aload_n 2, 1) := ldc_55.2.2.2.2.2.2.1
theorem dL_law_1096 : decode cL_law 1096 = .ok (.invokevirtual 227, 3) := ldc_55.2.2.2.2.2.2.2.1
theorem dL_law_1099 : decode cL_law 1099 = .ok (.pop, 1) := ldc_55.2.2.2.2.2.2.2.2.1
theorem dL_law_1100 : decode cL_law 1100 = .ok (.goto 901, 3) := ldc_55.2.2.2.2.2.2.2.2.2
set_option maxRecDepth 100000 in
theorem ldc_56 : decode cL_law 1103 = .ok (.aload_n 1, 1) ∧ decode cL_law 1104 = .ok (.invokevirtual 228, 3) ∧ decode cL_law 1107 = .ok (.pop2, 1) ∧ decode cL_law 1108 = .ok (.aload_n 2, 1) ∧ decode cL_law 1109 = .ok (.invokevirtual 232, 3) ∧ decode cL_law 1112 = .ok (.pop2, 1) ∧ decode cL_law 1113 = .ok (.goto 888, 3) ∧ decode cL_law 1116 = .ok (.aload_n 1, 1) ∧ decode cL_law 1117 = .ok (.invokevirtual 233, 3) ∧ decode cL_law 1120 = .ok (.pop2, 1) := by decide +kernel
theorem dL_law_1103 : decode cL_law 1103 = .ok (.aload_n 1, 1) := ldc_56.1
theorem dL_law_1104 : decode cL_law 1104 = .ok (.invokevirtual 228, 3) := ldc_56.2.1
theorem dL_law_1107 : decode cL_law 1107 = .ok (.pop2, 1) := ldc_56.2.2.1
theorem dL_law_1108 : decode cL_law 1108 = .ok (.aload_n 2, 1) := ldc_56.2.2.2.1
theorem dL_law_1109 : decode cL_law 1109 = .ok (.invokevirtual 232, 3) := ldc_56.2.2.2.2.1
theorem dL_law_1112 : decode cL_law 1112 = .ok (.pop2, 1) := ldc_56.2.2.2.2.2.1
theorem dL_law_1113 : decode cL_law 1113 = .ok (.goto 888, 3) := ldc_56.2.2.2.2.2.2.1
theorem dL_law_1116 : decode cL_law 1116 = .ok (.aload_n 1, 1) := ldc_56.2.2.2.2.2.2.2.1
theorem dL_law_1117 : decode cL_law 1117 = .ok (.invokevirtual 233, 3) := ldc_56.2.2.2.2.2.2.2.2.1
theorem dL_law_1120 : decode cL_law 1120 = .ok (.pop2, 1) := ldc_56.2.2.2.2.2.2.2.2.2
set_option maxRecDepth 100000 in
theorem ldc_57 : decode cL_law 1121 = .ok (.aload_n 2, 1) ∧ decode cL_law 1122 = .ok (.invokevirtual 236, 3) ∧ decode cL_law 1125 = .ok (.pop2, 1) ∧ decode cL_law 1126 = .ok (.goto 875, 3) ∧ decode cL_law 1129 = .ok (.aload_n 1, 1) ∧ decode cL_law 1130 = .ok (.invokevirtual 237, 3) ∧ decode cL_law 1133 = .ok (.pop2, 1) ∧ decode cL_law 1134 = .ok (.aload_n 2, 1) ∧ decode cL_law 1135 = .ok (.invokevirtual 240, 3) ∧ decode cL_law 1138 = .ok (.pop2, 1) := by decide +kernel
theorem dL_law_1121 : decode cL_law 1121 = .ok (.aload_n 2, 1) := ldc_57.1
theorem dL_law_1122 : decode cL_law 1122 = .ok (.invokevirtual 236, 3) := ldc_57.2.1
theorem dL_law_1125 : decode cL_law 1125 = .ok (.pop2, 1) := ldc_57.2.2.1
theorem dL_law_1126 : decode cL_law 1126 = .ok (.goto 875, 3) := ldc_57.2.2.2.1
theorem dL_law_1129 : decode cL_law 1129 = .ok (.aload_n 1, 1) := ldc_57.2.2.2.2.1
theorem dL_law_1130 : decode cL_law 1130 = .ok (.invokevirtual 237, 3) := ldc_57.2.2.2.2.2.1
theorem dL_law_1133 : decode cL_law 1133 = .ok (.pop2, 1) := ldc_57.2.2.2.2.2.2.1
theorem dL_law_1134 : decode cL_law 1134 = .ok (.aload_n 2, 1) := ldc_57.2.2.2.2.2.2.2.1
theorem dL_law_1135 : decode cL_law 1135 = .ok (.invokevirtual 240, 3) := ldc_57.2.2.2.2.2.2.2.2.1
theorem dL_law_1138 : decode cL_law 1138 = .ok (.pop2, 1) := ldc_57.2.2.2.2.2.2.2.2.2
set_option maxRecDepth 100000 in
theorem ldc_58 : decode cL_law 1139 = .ok (.goto 862, 3) ∧ decode cL_law 1142 = .ok (.aload_n 1, 1) ∧ decode cL_law 1143 = .ok (.invokevirtual 241, 3) ∧ decode cL_law 1146 = .ok (.pop2, 1) ∧ decode cL_law 1147 = .ok (.aload_n 2, 1) ∧ decode cL_law 1148 = .ok (.invokevirtual 244, 3) ∧ decode cL_law 1151 = .ok (.pop2, 1) ∧ decode cL_law 1152 = .ok (.goto 849, 3) ∧ decode cL_law 1155 = .ok (.aload_n 1, 1) ∧ decode cL_law 1156 = .ok (.invokevirtual 245, 3) := by decide +kernel
theorem dL_law_1139 : decode cL_law 1139 = .ok (.goto 862, 3) := ldc_58.1
theorem dL_law_1142 : decode cL_law 1142 = .ok (.aload_n 1, 1) := ldc_58.2.1
theorem dL_law_1143 : decode cL_law 1143 = .ok (.invokevirtual 241, 3) := ldc_58.2.2.1
theorem dL_law_1146 : decode cL_law 1146 = .ok (.pop2, 1) := ldc_58.2.2.2.1
theorem dL_law_1147 : decode cL_law 1147 = .ok (.aload_n 2, 1) := ldc_58.2.2.2.2.1
theorem dL_law_1148 : decode cL_law 1148 = .ok (.invokevirtual 244, 3) := ldc_58.2.2.2.2.2.1
theorem dL_law_1151 : decode cL_law 1151 = .ok (.pop2, 1) := ldc_58.2.2.2.2.2.2.1
theorem dL_law_1152 : decode cL_law 1152 = .ok (.goto 849, 3) := ldc_58.2.2.2.2.2.2.2.1
theorem dL_law_1155 : decode cL_law 1155 = .ok (.aload_n 1, 1) := ldc_58.2.2.2.2.2.2.2.2.1
theorem dL_law_1156 : decode cL_law 1156 = .ok (.invokevirtual 245, 3) := ldc_58.2.2.2.2.2.2.2.2.2
set_option maxRecDepth 100000 in
theorem ldc_59 : decode cL_law 1159 = .ok (.pop, 1) ∧ decode cL_law 1160 = .ok (.aload_n 2, 1) ∧ decode cL_law 1161 = .ok (.invokevirtual 248, 3) ∧ decode cL_law 1164 = .ok (.pop, 1) ∧ decode cL_law 1165 = .ok (.goto 836, 3) ∧ decode cL_law 1168 = .ok (.aload_n 1, 1) ∧ decode cL_law 1169 = .ok (.invokevirtual 249, 3) ∧ decode cL_law 1172 = .ok (.pop2, 1) ∧ decode cL_law 1173 = .ok (.aload_n 2, 1) ∧ decode cL_law 1174 = .ok (.invokevirtual 252, 3) := by decide +kernel
theorem dL_law_1159 : decode cL_law 1159 = .ok (.pop, 1) := ldc_59.1
theorem dL_law_1160 : decode cL_law 1160 = .ok (.aload_n 2, 1) := ldc_59.2.1
theorem dL_law_1161 : decode cL_law 1161 = .ok (.invokevirtual 248, 3) := ldc_59.2.2.1
theorem dL_law_1164 : decode cL_law 1164 = .ok (.pop, 1) := ldc_59.2.2.2.1
theorem dL_law_1165 : decode cL_law 1165 = .ok (.goto 836, 3) := ldc_59.2.2.2.2.1
theorem dL_law_1168 : decode cL_law 1168 = .ok (.aload_n 1, 1) := ldc_59.2.2.2.2.2.1
theorem dL_law_1169 : decode cL_law 1169 = .ok (.invokevirtual 249, 3) := ldc_59.2.2.2.2.2.2.1
theorem dL_law_1172 : decode cL_law 1172 = .ok (.pop2, 1) := ldc_59.2.2.2.2.2.2.2.1
theorem dL_law_1173 : decode cL_law 1173 = .ok (.aload_n 2, 1) := ldc_59.2.2.2.2.2.2.2.2.1
theorem dL_law_1174 : decode cL_law 1174 = .ok (.invokevirtual 252, 3) := ldc_59.2.2.2.2.2.2.2.2.2
set_option maxRecDepth 100000 in
theorem ldc_60 : decode cL_law 1177 = .ok (.pop2, 1) ∧ decode cL_law 1178 = .ok (.goto 823, 3) ∧ decode cL_law 1181 = .ok (.aload_n 1, 1) ∧ decode cL_law 1182 = .ok (.invokevirtual 253, 3) ∧ decode cL_law 1185 = .ok (.pop, 1) ∧ decode cL_law 1186 = .ok (.aload_n 2, 1) ∧ decode cL_law 1187 = .ok (.invokevirtual 256, 3) ∧ decode cL_law 1190 = .ok (.pop, 1) ∧ decode cL_law 1191 = .ok (.goto 810, 3) ∧ decode cL_law 1194 = .ok (.aload_n 1, 1) := by decide +kernel
theorem dL_law_1177 : decode cL_law 1177 = .ok (.pop2, 1) := ldc_60.1
theorem dL_law_1178 : decode cL_law 1178 = .ok (.goto 823, 3) := ldc_60.2.1
theorem dL_law_1181 : decode cL_law 1181 = .ok (.aload_n 1, 1) := ldc_60.2.2.1
theorem dL_law_1182 : decode cL_law 1182 = .ok (.invokevirtual 253, 3) := ldc_60.2.2.2.1
theorem dL_law_1185 : decode cL_law 1185 = .ok (.pop, 1) := ldc_60.2.2.2.2.1
theorem dL_law_1186 : decode cL_law 1186 = .ok (.aload_n 2, 1) := ldc_60.2.2.2.2.2.1
theorem dL_law_1187 : decode cL_law 1187 = .ok (.invokevirtual 256, 3) := ldc_60.2.2.2.2.2.2.1
theorem dL_law_1190 : decode cL_law 1190 = .ok (.pop, 1) := ldc_60.2.2.2.2.2.2.2.1
theorem dL_law_1191 : decode cL_law 1191 = .ok (.goto 810, 3) := ldc_60.2.2.2.2.2.2.2.2.1
theorem dL_law_1194 : decode cL_law 1194 = .ok (.aload_n 1, 1) := ldc_60.2.2.2.2.2.2.2.2.2
set_option maxRecDepth 100000 in
theorem ldc_61 : decode cL_law 1195 = .ok (.aload_n 0, 1) ∧ decode cL_law 1196 = .ok (.iload 5, 2) ∧ decode cL_law 1198 = .ok (.iconst 1, 1) ∧ decode cL_law 1199 = .ok (.iadd, 1) ∧ decode cL_law 1200 = .ok (.iaload, 1) ∧ decode cL_law 1201 = .ok (.aload_n 3, 1) ∧ decode cL_law 1202 = .ok (.invokestatic 257, 3) ∧ decode cL_law 1205 = .ok (.istore 6, 2) ∧ decode cL_law 1207 = .ok (.aload_n 2, 1) ∧ decode cL_law 1208 = .ok (.aload_n 0, 1) := by decide +kernel
theorem dL_law_1195 : decode cL_law 1195 = .ok (.aload_n 0, 1) := ldc_61.1
theorem dL_law_1196 : decode cL_law 1196 = .ok (.iload 5, 2) := ldc_61.2.1
theorem dL_law_1198 : decode cL_law 1198 = .ok (.iconst 1, 1) := ldc_61.2.2.1
theorem dL_law_1199 : decode cL_law 1199 = .ok (.iadd, 1) := ldc_61.2.2.2.1
theorem dL_law_1200 : decode cL_law 1200 = .ok (.iaload, 1) := ldc_61.2.2.2.2.1
theorem dL_law_1201 : decode cL_law 1201 = .ok (.aload_n 3, 1) := ldc_61.2.2.2.2.2.1
theorem dL_law_1202 : decode cL_law 1202 = .ok (.invokestatic 257, 3) := ldc_61.2.2.2.2.2.2.1
theorem dL_law_1205 : decode cL_law 1205 = .ok (.istore 6, 2) := ldc_61.2.2.2.2.2.2.2.1
theorem dL_law_1207 : decode cL_law 1207 = .ok (.aload_n 2, 1) := ldc_61.2.2.2.2.2.2.2.2.1
theorem dL_law_1208 : decode cL_law 1208 = .ok (.aload_n 0, 1) := ldc_61.2.2.2.2.2.2.2.2.2
set_option maxRecDepth 100000 in
theorem ldc_62 : decode cL_law 1209 = .ok (.iload 5, 2) ∧ decode cL_law 1211 = .ok (.iconst 1, 1) ∧ decode cL_law 1212 = .ok (.iadd, 1) ∧ decode cL_law 1213 = .ok (.iaload, 1) ∧ decode cL_law 1214 = .ok (.invokevirtual 259, 3) ∧ decode cL_law 1217 = .ok (.istore 7, 2) ∧ decode cL_law 1219 = .ok (.goto 782, 3) ∧ decode cL_law 1222 = .ok (.aload_n 1, 1) ∧ decode cL_law 1223 = .ok (.aload_n 0, 1) ∧ decode cL_law 1224 = .ok (.iload 5, 2) := by decide +kernel
theorem dL_law_1209 : decode cL_law 1209 = .ok (.iload 5, 2) := ldc_62.1
theorem dL_law_1211 : decode cL_law 1211 = .ok (.iconst 1, 1) := ldc_62.2.1
theorem dL_law_1212 : decode cL_law 1212 = .ok (.iadd, 1) := ldc_62.2.2.1
theorem dL_law_1213 : decode cL_law 1213 = .ok (.iaload, 1) := ldc_62.2.2.2.1
theorem dL_law_1214 : decode cL_law 1214 = .ok (.invokevirtual 259, 3) := ldc_62.2.2.2.2.1
theorem dL_law_1217 : decode cL_law 1217 = .ok (.istore 7, 2) := ldc_62.2.2.2.2.2.1
theorem dL_law_1219 : decode cL_law 1219 = .ok (.goto 782, 3) := ldc_62.2.2.2.2.2.2.1
theorem dL_law_1222 : decode cL_law 1222 = .ok (.aload_n 1, 1) := ldc_62.2.2.2.2.2.2.2.1
theorem dL_law_1223 : decode cL_law 1223 = .ok (.aload_n 0, 1) := ldc_62.2.2.2.2.2.2.2.2.1
theorem dL_law_1224 : decode cL_law 1224 = .ok (.iload 5, 2) := ldc_62.2.2.2.2.2.2.2.2.2
set_option maxRecDepth 100000 in
theorem ldc_63 : decode cL_law 1226 = .ok (.iconst 1, 1) ∧ decode cL_law 1227 = .ok (.iadd, 1) ∧ decode cL_law 1228 = .ok (.iaload, 1) ∧ decode cL_law 1229 = .ok (.aload_n 0, 1) ∧ decode cL_law 1230 = .ok (.iload 5, 2) ∧ decode cL_law 1232 = .ok (.iconst 2, 1) ∧ decode cL_law 1233 = .ok (.iadd, 1) ∧ decode cL_law 1234 = .ok (.iaload, 1) ∧ decode cL_law 1235 = .ok (.aload_n 3, 1) ∧ decode cL_law 1236 = .ok (.invokestatic 260, 3) := by decide +kernel
theorem dL_law_1226 : decode cL_law 1226 = .ok (.iconst 1, 1) := ldc_63.1
theorem dL_law_1227 : decode cL_law 1227 = .ok (.iadd, 1) := ldc_63.2.1
theorem dL_law_1228 : decode cL_law 1228 = .ok (.iaload, 1) := ldc_63.2.2.1
theorem dL_law_1229 : decode cL_law 1229 = .ok (.aload_n 0, 1) := ldc_63.2.2.2.1
theorem dL_law_1230 : decode cL_law 1230 = .ok (.iload 5, 2) := ldc_63.2.2.2.2.1
theorem dL_law_1232 : decode cL_law 1232 = .ok (.iconst 2, 1) := ldc_63.2.2.2.2.2.1
theorem dL_law_1233 : decode cL_law 1233 = .ok (.iadd, 1) := ldc_63.2.2.2.2.2.2.1
theorem dL_law_1234 : decode cL_law 1234 = .ok (.iaload, 1) := ldc_63.2.2.2.2.2.2.2.1
theorem dL_law_1235 : decode cL_law 1235 = .ok (.aload_n 3, 1) := ldc_63.2.2.2.2.2.2.2.2.1
theorem dL_law_1236 : decode cL_law 1236 = .ok (.invokestatic 260, 3) := ldc_63.2.2.2.2.2.2.2.2.2
set_option maxRecDepth 100000 in
theorem ldc_64 : decode cL_law 1239 = .ok (.istore 6, 2) ∧ decode cL_law 1241 = .ok (.aload_n 2, 1) ∧ decode cL_law 1242 = .ok (.aload_n 0, 1) ∧ decode cL_law 1243 = .ok (.iload 5, 2) ∧ decode cL_law 1245 = .ok (.iconst 1, 1) ∧ decode cL_law 1246 = .ok (.iadd, 1) ∧ decode cL_law 1247 = .ok (.iaload, 1) ∧ decode cL_law 1248 = .ok (.aload_n 0, 1) ∧ decode cL_law 1249 = .ok (.iload 5, 2) ∧ decode cL_law 1251 = .ok (.iconst 2, 1) := by decide +kernel
theorem dL_law_1239 : decode cL_law 1239 = .ok (.istore 6, 2) := ldc_64.1
theorem dL_law_1241 : decode cL_law 1241 = .ok (.aload_n 2, 1) := ldc_64.2.1
theorem dL_law_1242 : decode cL_law 1242 = .ok (.aload_n 0, 1) := ldc_64.2.2.1
theorem dL_law_1243 : decode cL_law 1243 = .ok (.iload 5, 2) := ldc_64.2.2.2.1
theorem dL_law_1245 : decode cL_law 1245 = .ok (.iconst 1, 1) := ldc_64.2.2.2.2.1
theorem dL_law_1246 : decode cL_law 1246 = .ok (.iadd, 1) := ldc_64.2.2.2.2.2.1
theorem dL_law_1247 : decode cL_law 1247 = .ok (.iaload, 1) := ldc_64.2.2.2.2.2.2.1
theorem dL_law_1248 : decode cL_law 1248 = .ok (.aload_n 0, 1) := ldc_64.2.2.2.2.2.2.2.1
theorem dL_law_1249 : decode cL_law 1249 = .ok (.iload 5, 2) := ldc_64.2.2.2.2.2.2.2.2.1
theorem dL_law_1251 : decode cL_law 1251 = .ok (.iconst 2, 1) := ldc_64.2.2.2.2.2.2.2.2.2
set_option maxRecDepth 100000 in
theorem ldc_65 : decode cL_law 1252 = .ok (.iadd, 1) ∧ decode cL_law 1253 = .ok (.iaload, 1) ∧ decode cL_law 1254 = .ok (.invokevirtual 262, 3) ∧ decode cL_law 1257 = .ok (.istore 7, 2) ∧ decode cL_law 1259 = .ok (.goto 742, 3) ∧ decode cL_law 1262 = .ok (.aload_n 1, 1) ∧ decode cL_law 1263 = .ok (.aload_n 0, 1) ∧ decode cL_law 1264 = .ok (.iload 5, 2) ∧ decode cL_law 1266 = .ok (.iconst 1, 1) ∧ decode cL_law 1267 = .ok (.iadd, 1) := by decide +kernel
theorem dL_law_1252 : decode cL_law 1252 = .ok (.iadd, 1) := ldc_65.1
theorem dL_law_1253 : decode cL_law 1253 = .ok (.iaload, 1) := ldc_65.2.1
theorem dL_law_1254 : decode cL_law 1254 = .ok (.invokevirtual 262, 3) := ldc_65.2.2.1
theorem dL_law_1257 : decode cL_law 1257 = .ok (.istore 7, 2) := ldc_65.2.2.2.1
theorem dL_law_1259 : decode cL_law 1259 = .ok (.goto 742, 3) := ldc_65.2.2.2.2.1
theorem dL_law_1262 : decode cL_law 1262 = .ok (.aload_n 1, 1) := ldc_65.2.2.2.2.2.1
theorem dL_law_1263 : decode cL_law 1263 = .ok (.aload_n 0, 1) := ldc_65.2.2.2.2.2.2.1
theorem dL_law_1264 : decode cL_law 1264 = .ok (.iload 5, 2) := ldc_65.2.2.2.2.2.2.2.1
theorem dL_law_1266 : decode cL_law 1266 = .ok (.iconst 1, 1) := ldc_65.2.2.2.2.2.2.2.2.1
theorem dL_law_1267 : decode cL_law 1267 = .ok (.iadd, 1) := ldc_65.2.2.2.2.2.2.2.2.2
set_option maxRecDepth 100000 in
theorem ldc_66 : decode cL_law 1268 = .ok (.iaload, 1) ∧ decode cL_law 1269 = .ok (.aload_n 3, 1) ∧ decode cL_law 1270 = .ok (.invokestatic 263, 3) ∧ decode cL_law 1273 = .ok (.istore 6, 2) ∧ decode cL_law 1275 = .ok (.aload_n 2, 1) ∧ decode cL_law 1276 = .ok (.aload_n 0, 1) ∧ decode cL_law 1277 = .ok (.iload 5, 2) ∧ decode cL_law 1279 = .ok (.iconst 1, 1) ∧ decode cL_law 1280 = .ok (.iadd, 1) ∧ decode cL_law 1281 = .ok (.iaload, 1) := by decide +kernel
theorem dL_law_1268 : decode cL_law 1268 = .ok (.iaload, 1) := ldc_66.1
theorem dL_law_1269 : decode cL_law 1269 = .ok (.aload_n 3, 1) := ldc_66.2.1
theorem dL_law_1270 : decode cL_law 1270 = .ok (.invokestatic 263, 3) := ldc_66.2.2.1
theorem dL_law_1273 : decode cL_law 1273 = .ok (.istore 6, 2) := ldc_66.2.2.2.1
theorem dL_law_1275 : decode cL_law 1275 = .ok (.aload_n 2, 1) := ldc_66.2.2.2.2.1
theorem dL_law_1276 : decode cL_law 1276 = .ok (.aload_n 0, 1) := ldc_66.2.2.2.2.2.1
theorem dL_law_1277 : decode cL_law 1277 = .ok (.iload 5, 2) := ldc_66.2.2.2.2.2.2.1
theorem dL_law_1279 : decode cL_law 1279 = .ok (.iconst 1, 1) := ldc_66.2.2.2.2.2.2.2.1
theorem dL_law_1280 : decode cL_law 1280 = .ok (.iadd, 1) := ldc_66.2.2.2.2.2.2.2.2.1
theorem dL_law_1281 : decode cL_law 1281 = .ok (.iaload, 1) := ldc_66.2.2.2.2.2.2.2.2.2
set_option maxRecDepth 100000 in
theorem ldc_67 : decode cL_law 1282 = .ok (.invokevirtual 265, 3) ∧ decode cL_law 1285 = .ok (.istore 7, 2) ∧ decode cL_law 1287 = .ok (.goto 714, 3) ∧ decode cL_law 1290 = .ok (.aload_n 1, 1) ∧ decode cL_law 1291 = .ok (.invokevirtual 266, 3) ∧ decode cL_law 1294 = .ok (.pop, 1) ∧ decode cL_law 1295 = .ok (.aload_n 2, 1) ∧ decode cL_law 1296 = .ok (.invokevirtual 269, 3) ∧ decode cL_law 1299 = .ok (.pop, 1) ∧ decode cL_law 1300 = .ok (.goto 701, 3) := by decide +kernel
theorem dL_law_1282 : decode cL_law 1282 = .ok (.invokevirtual 265, 3) := ldc_67.1
theorem dL_law_1285 : decode cL_law 1285 = .ok (.istore 7, 2) := ldc_67.2.1
theorem dL_law_1287 : decode cL_law 1287 = .ok (.goto 714, 3) := ldc_67.2.2.1
theorem dL_law_1290 : decode cL_law 1290 = .ok (.aload_n 1, 1) := ldc_67.2.2.2.1
theorem dL_law_1291 : decode cL_law 1291 = .ok (.invokevirtual 266, 3) := ldc_67.2.2.2.2.1
theorem dL_law_1294 : decode cL_law 1294 = .ok (.pop, 1) := ldc_67.2.2.2.2.2.1
theorem dL_law_1295 : decode cL_law 1295 = .ok (.aload_n 2, 1) := ldc_67.2.2.2.2.2.2.1
theorem dL_law_1296 : decode cL_law 1296 = .ok (.invokevirtual 269, 3) := ldc_67.2.2.2.2.2.2.2.1
theorem dL_law_1299 : decode cL_law 1299 = .ok (.pop, 1) := ldc_67.2.2.2.2.2.2.2.2.1
theorem dL_law_1300 : decode cL_law 1300 = .ok (.goto 701, 3) := ldc_67.2.2.2.2.2.2.2.2.2
set_option maxRecDepth 100000 in
theorem ldc_68 : decode cL_law 1303 = .ok (.aload_n 1, 1) ∧ decode cL_law 1304 = .ok (.aload_n 0, 1) ∧ decode cL_law 1305 = .ok (.iload 5, 2) ∧ decode cL_law 1307 = .ok (.iconst 1, 1) ∧ decode cL_law 1308 = .ok (.iadd, 1) ∧ decode cL_law 1309 = .ok (.iaload, 1) ∧ decode cL_law 1310 = .ok (.aload_n 3, 1) ∧ decode cL_law 1311 = .ok (.invokestatic 270, 3) ∧ decode cL_law 1314 = .ok (.istore 6, 2) ∧ decode cL_law 1316 = .ok (.aload_n 2, 1) := by decide +kernel
theorem dL_law_1303 : decode cL_law 1303 = .ok (.aload_n 1, 1) := ldc_68.1
theorem dL_law_1304 : decode cL_law 1304 = .ok (.aload_n 0, 1) := ldc_68.2.1
theorem dL_law_1305 : decode cL_law 1305 = .ok (.iload 5, 2) := ldc_68.2.2.1
theorem dL_law_1307 : decode cL_law 1307 = .ok (.iconst 1, 1) := ldc_68.2.2.2.1
theorem dL_law_1308 : decode cL_law 1308 = .ok (.iadd, 1) := ldc_68.2.2.2.2.1
theorem dL_law_1309 : decode cL_law 1309 = .ok (.iaload, 1) := ldc_68.2.2.2.2.2.1
theorem dL_law_1310 : decode cL_law 1310 = .ok (.aload_n 3, 1) := ldc_68.2.2.2.2.2.2.1
theorem dL_law_1311 : decode cL_law 1311 = .ok (.invokestatic 270, 3) := ldc_68.2.2.2.2.2.2.2.1
theorem dL_law_1314 : decode cL_law 1314 = .ok (.istore 6, 2) := ldc_68.2.2.2.2.2.2.2.2.1
theorem dL_law_1316 : decode cL_law 1316 = .ok (.aload_n 2, 1) := ldc_68.2.2.2.2.2.2.2.2.2
set_option maxRecDepth 100000 in
theorem ldc_69 : decode cL_law 1317 = .ok (.aload_n 0, 1) ∧ decode cL_law 1318 = .ok (.iload 5, 2) ∧ decode cL_law 1320 = .ok (.iconst 1, 1) ∧ decode cL_law 1321 = .ok (.iadd, 1) ∧ decode cL_law 1322 = .ok (.iaload, 1) ∧ decode cL_law 1323 = .ok (.invokevirtual 272, 3) ∧ decode cL_law 1326 = .ok (.istore 7, 2) ∧ decode cL_law 1328 = .ok (.goto 673, 3) ∧ decode cL_law 1331 = .ok (.aload_n 1, 1) ∧ decode cL_law 1332 = .ok (.aload_n 0, 1) := by decide +kernel
theorem dL_law_1317 : decode cL_law 1317 = .ok (.aload_n 0, 1) := ldc_69.1
theorem dL_law_1318 : decode cL_law 1318 = .ok (.iload 5, 2) := ldc_69.2.1
theorem dL_law_1320 : decode cL_law 1320 = .ok (.iconst 1, 1) := ldc_69.2.2.1
theorem dL_law_1321 : decode cL_law 1321 = .ok (.iadd, 1) := ldc_69.2.2.2.1
theorem dL_law_1322 : decode cL_law 1322 = .ok (.iaload, 1) := ldc_69.2.2.2.2.1
theorem dL_law_1323 : decode cL_law 1323 = .ok (.invokevirtual 272, 3) := ldc_69.2.2.2.2.2.1
theorem dL_law_1326 : decode cL_law 1326 = .ok (.istore 7, 2) := ldc_69.2.2.2.2.2.2.1
theorem dL_law_1328 : decode cL_law 1328 = .ok (.goto 673, 3) := ldc_69.2.2.2.2.2.2.2.1
theorem dL_law_1331 : decode cL_law 1331 = .ok (.aload_n 1, 1) := ldc_69.2.2.2.2.2.2.2.2.1
theorem dL_law_1332 : decode cL_law 1332 = .ok (.aload_n 0, 1) := ldc_69.2.2.2.2.2.2.2.2.2
set_option maxRecDepth 100000 in
theorem ldc_70 : decode cL_law 1333 = .ok (.iload 5, 2) ∧ decode cL_law 1335 = .ok (.iconst 1, 1) ∧ decode cL_law 1336 = .ok (.iadd, 1) ∧ decode cL_law 1337 = .ok (.iaload, 1) ∧ decode cL_law 1338 = .ok (.aload_n 3, 1) ∧ decode cL_law 1339 = .ok (.invokestatic 273, 3) ∧ decode cL_law 1342 = .ok (.istore 6, 2) ∧ decode cL_law 1344 = .ok (.aload_n 2, 1) ∧ decode cL_law 1345 = .ok (.aload_n 0, 1) ∧ decode cL_law 1346 = .ok (.iload 5, 2) := by decide +kernel
theorem dL_law_1333 : decode cL_law 1333 = .ok (.iload 5, 2) := ldc_70.1
theorem dL_law_1335 : decode cL_law 1335 = .ok (.iconst 1, 1) := ldc_70.2.1
theorem dL_law_1336 : decode cL_law 1336 = .ok (.iadd, 1) := ldc_70.2.2.1
theorem dL_law_1337 : decode cL_law 1337 = .ok (.iaload, 1) := ldc_70.2.2.2.1
theorem dL_law_1338 : decode cL_law 1338 = .ok (.aload_n 3, 1) := ldc_70.2.2.2.2.1
theorem dL_law_1339 : decode cL_law 1339 = .ok (.invokestatic 273, 3) := ldc_70.2.2.2.2.2.1
theorem dL_law_1342 : decode cL_law 1342 = .ok (.istore 6, 2) := ldc_70.2.2.2.2.2.2.1
theorem dL_law_1344 : decode cL_law 1344 = .ok (.aload_n 2, 1) := ldc_70.2.2.2.2.2.2.2.1
theorem dL_law_1345 : decode cL_law 1345 = .ok (.aload_n 0, 1) := ldc_70.2.2.2.2.2.2.2.2.1
theorem dL_law_1346 : decode cL_law 1346 = .ok (.iload 5, 2) := ldc_70.2.2.2.2.2.2.2.2.2
set_option maxRecDepth 100000 in
theorem ldc_71 : decode cL_law 1348 = .ok (.iconst 1, 1) ∧ decode cL_law 1349 = .ok (.iadd, 1) ∧ decode cL_law 1350 = .ok (.iaload, 1) ∧ decode cL_law 1351 = .ok (.invokevirtual 275, 3) ∧ decode cL_law 1354 = .ok (.istore 7, 2) ∧ decode cL_law 1356 = .ok (.goto 645, 3) ∧ decode cL_law 1359 = .ok (.aload_n 1, 1) ∧ decode cL_law 1360 = .ok (.aload_n 0, 1) ∧ decode cL_law 1361 = .ok (.iload 5, 2) ∧ decode cL_law 1363 = .ok (.iconst 1, 1) := by decide +kernel
theorem dL_law_1348 : decode cL_law 1348 = .ok (.iconst 1, 1) := ldc_71.1
theorem dL_law_1349 : decode cL_law 1349 = .ok (.iadd, 1) := ldc_71.2.1
theorem dL_law_1350 : decode cL_law 1350 = .ok (.iaload, 1) := ldc_71.2.2.1
theorem dL_law_1351 : decode cL_law 1351 = .ok (.invokevirtual 275, 3) := ldc_71.2.2.2.1
theorem dL_law_1354 : decode cL_law 1354 = .ok (.istore 7, 2) := ldc_71.2.2.2.2.1
theorem dL_law_1356 : decode cL_law 1356 = .ok (.goto 645, 3) := ldc_71.2.2.2.2.2.1
theorem dL_law_1359 : decode cL_law 1359 = .ok (.aload_n 1, 1) := ldc_71.2.2.2.2.2.2.1
theorem dL_law_1360 : decode cL_law 1360 = .ok (.aload_n 0, 1) := ldc_71.2.2.2.2.2.2.2.1
theorem dL_law_1361 : decode cL_law 1361 = .ok (.iload 5, 2) := ldc_71.2.2.2.2.2.2.2.2.1
theorem dL_law_1363 : decode cL_law 1363 = .ok (.iconst 1, 1) := ldc_71.2.2.2.2.2.2.2.2.2
set_option maxRecDepth 100000 in
theorem ldc_72 : decode cL_law 1364 = .ok (.iadd, 1) ∧ decode cL_law 1365 = .ok (.iaload, 1) ∧ decode cL_law 1366 = .ok (.aload_n 0, 1) ∧ decode cL_law 1367 = .ok (.iload 5, 2) ∧ decode cL_law 1369 = .ok (.iconst 2, 1) ∧ decode cL_law 1370 = .ok (.iadd, 1) ∧ decode cL_law 1371 = .ok (.iaload, 1) ∧ decode cL_law 1372 = .ok (.aload_n 3, 1) ∧ decode cL_law 1373 = .ok (.invokestatic 276, 3) ∧ decode cL_law 1376 = .ok (.istore 6, 2) := by decide +kernel
theorem dL_law_1364 : decode cL_law 1364 = .ok (.iadd, 1) := ldc_72.1
theorem dL_law_1365 : decode cL_law 1365 = .ok (.iaload, 1) := ldc_72.2.1
theorem dL_law_1366 : decode cL_law 1366 = .ok (.aload_n 0, 1) := ldc_72.2.2.1
theorem dL_law_1367 : decode cL_law 1367 = .ok (.iload 5, 2) := ldc_72.2.2.2.1
theorem dL_law_1369 : decode cL_law 1369 = .ok (.iconst 2, 1) := ldc_72.2.2.2.2.1
theorem dL_law_1370 : decode cL_law 1370 = .ok (.iadd, 1) := ldc_72.2.2.2.2.2.1
theorem dL_law_1371 : decode cL_law 1371 = .ok (.iaload, 1) := ldc_72.2.2.2.2.2.2.1
theorem dL_law_1372 : decode cL_law 1372 = .ok (.aload_n 3, 1) := ldc_72.2.2.2.2.2.2.2.1
theorem dL_law_1373 : decode cL_law 1373 = .ok (.invokestatic 276, 3) := ldc_72.2.2.2.2.2.2.2.2.1
theorem dL_law_1376 : decode cL_law 1376 = .ok (.istore 6, 2) := ldc_72.2.2.2.2.2.2.2.2.2
set_option maxRecDepth 100000 in
theorem ldc_73 : decode cL_law 1378 = .ok (.aload_n 2, 1) ∧ decode cL_law 1379 = .ok (.aload_n 0, 1) ∧ decode cL_law 1380 = .ok (.iload 5, 2) ∧ decode cL_law 1382 = .ok (.iconst 1, 1) ∧ decode cL_law 1383 = .ok (.iadd, 1) ∧ decode cL_law 1384 = .ok (.iaload, 1) ∧ decode cL_law 1385 = .ok (.aload_n 0, 1) ∧ decode cL_law 1386 = .ok (.iload 5, 2) ∧ decode cL_law 1388 = .ok (.iconst 2, 1) ∧ decode cL_law 1389 = .ok (.iadd, 1) := by decide +kernel
theorem dL_law_1378 : decode cL_law 1378 = .ok (.aload_n 2, 1) := ldc_73.1
theorem dL_law_1379 : decode cL_law 1379 = .ok (.aload_n 0, 1) := ldc_73.2.1
theorem dL_law_1380 : decode cL_law 1380 = .ok (.iload 5, 2) := ldc_73.2.2.1
theorem dL_law_1382 : decode cL_law 1382 = .ok (.iconst 1, 1) := ldc_73.2.2.2.1
theorem dL_law_1383 : decode cL_law 1383 = .ok (.iadd, 1) := ldc_73.2.2.2.2.1
theorem dL_law_1384 : decode cL_law 1384 = .ok (.iaload, 1) := ldc_73.2.2.2.2.2.1
theorem dL_law_1385 : decode cL_law 1385 = .ok (.aload_n 0, 1) := ldc_73.2.2.2.2.2.2.1
theorem dL_law_1386 : decode cL_law 1386 = .ok (.iload 5, 2) := ldc_73.2.2.2.2.2.2.2.1
theorem dL_law_1388 : decode cL_law 1388 = .ok (.iconst 2, 1) := ldc_73.2.2.2.2.2.2.2.2.1
theorem dL_law_1389 : decode cL_law 1389 = .ok (.iadd, 1) := ldc_73.2.2.2.2.2.2.2.2.2
set_option maxRecDepth 100000 in
theorem ldc_74 : decode cL_law 1390 = .ok (.iaload, 1) ∧ decode cL_law 1391 = .ok (.invokevirtual 278, 3) ∧ decode cL_law 1394 = .ok (.istore 7, 2) ∧ decode cL_law 1396 = .ok (.goto 605, 3) ∧ decode cL_law 1399 = .ok (.aload_n 1, 1) ∧ decode cL_law 1400 = .ok (.invokevirtual 279, 3) ∧ decode cL_law 1403 = .ok (.pop, 1) ∧ decode cL_law 1404 = .ok (.aload_n 2, 1) ∧ decode cL_law 1405 = .ok (.invokevirtual 282, 3) ∧ decode cL_law 1408 = .ok (.pop, 1) := by decide +kernel
theorem dL_law_1390 : decode cL_law 1390 = .ok (.iaload, 1) := ldc_74.1
theorem dL_law_1391 : decode cL_law 1391 = .ok (.invokevirtual 278, 3) := ldc_74.2.1
theorem dL_law_1394 : decode cL_law 1394 = .ok (.istore 7, 2) := ldc_74.2.2.1
theorem dL_law_1396 : decode cL_law 1396 = .ok (.goto 605, 3) := ldc_74.2.2.2.1
theorem dL_law_1399 : decode cL_law 1399 = .ok (.aload_n 1, 1) := ldc_74.2.2.2.2.1
theorem dL_law_1400 : decode cL_law 1400 = .ok (.invokevirtual 279, 3) := ldc_74.2.2.2.2.2.1
theorem dL_law_1403 : decode cL_law 1403 = .ok (.pop, 1) := ldc_74.2.2.2.2.2.2.1
theorem dL_law_1404 : decode cL_law 1404 = .ok (.aload_n 2, 1) := ldc_74.2.2.2.2.2.2.2.1
theorem dL_law_1405 : decode cL_law 1405 = .ok (.invokevirtual 282, 3) := ldc_74.2.2.2.2.2.2.2.2.1
theorem dL_law_1408 : decode cL_law 1408 = .ok (.pop, 1) := ldc_74.2.2.2.2.2.2.2.2.2
set_option maxRecDepth 100000 in
theorem ldc_75 : decode cL_law 1409 = .ok (.goto 592, 3) ∧ decode cL_law 1412 = .ok (.aload_n 1, 1) ∧ decode cL_law 1413 = .ok (.invokevirtual 283, 3) ∧ decode cL_law 1416 = .ok (.pop, 1) ∧ decode cL_law 1417 = .ok (.aload_n 2, 1) ∧ decode cL_law 1418 = .ok (.invokevirtual 286, 3) ∧ decode cL_law 1421 = .ok (.pop, 1) ∧ decode cL_law 1422 = .ok (.goto 579, 3) ∧ decode cL_law 1425 = .ok (.aload_n 1, 1) ∧ decode cL_law 1426 = .ok (.aload_n 0, 1) := by decide +kernel
theorem dL_law_1409 : decode cL_law 1409 = .ok (.goto 592, 3) := ldc_75.1
theorem dL_law_1412 : decode cL_law 1412 = .ok (.aload_n 1, 1) := ldc_75.2.1
theorem dL_law_1413 : decode cL_law 1413 = .ok (.invokevirtual 283, 3) := ldc_75.2.2.1
theorem dL_law_1416 : decode cL_law 1416 = .ok (.pop, 1) := ldc_75.2.2.2.1
theorem dL_law_1417 : decode cL_law 1417 = .ok (.aload_n 2, 1) := ldc_75.2.2.2.2.1
theorem dL_law_1418 : decode cL_law 1418 = .ok (.invokevirtual 286, 3) := ldc_75.2.2.2.2.2.1
theorem dL_law_1421 : decode cL_law 1421 = .ok (.pop, 1) := ldc_75.2.2.2.2.2.2.1
theorem dL_law_1422 : decode cL_law 1422 = .ok (.goto 579, 3) := ldc_75.2.2.2.2.2.2.2.1
theorem dL_law_1425 : decode cL_law 1425 = .ok (.aload_n 1, 1) := ldc_75.2.2.2.2.2.2.2.2.1
theorem dL_law_1426 : decode cL_law 1426 = .ok (.aload_n 0, 1) := ldc_75.2.2.2.2.2.2.2.2.2
set_option maxRecDepth 100000 in
theorem ldc_76 : decode cL_law 1427 = .ok (.iload 5, 2) ∧ decode cL_law 1429 = .ok (.iconst 1, 1) ∧ decode cL_law 1430 = .ok (.iadd, 1) ∧ decode cL_law 1431 = .ok (.iaload, 1) ∧ decode cL_law 1432 = .ok (.aload_n 3, 1) ∧ decode cL_law 1433 = .ok (.invokestatic 287, 3) ∧ decode cL_law 1436 = .ok (.istore 6, 2) ∧ decode cL_law 1438 = .ok (.aload_n 2, 1) ∧ decode cL_law 1439 = .ok (.aload_n 0, 1) ∧ decode cL_law 1440 = .ok (.iload 5, 2) := by decide +kernel
theorem dL_law_1427 : decode cL_law 1427 = .ok (.iload 5, 2) := ldc_76.1
theorem dL_law_1429 : decode cL_law 1429 = .ok (.iconst 1, 1) := ldc_76.2.1
theorem dL_law_1430 : decode cL_law 1430 = .ok (.iadd, 1) := ldc_76.2.2.1
theorem dL_law_1431 : decode cL_law 1431 = .ok (.iaload, 1) := ldc_76.2.2.2.1
theorem dL_law_1432 : decode cL_law 1432 = .ok (.aload_n 3, 1) := ldc_76.2.2.2.2.1
theorem dL_law_1433 : decode cL_law 1433 = .ok (.invokestatic 287, 3) := ldc_76.2.2.2.2.2.1
theorem dL_law_1436 : decode cL_law 1436 = .ok (.istore 6, 2) := ldc_76.2.2.2.2.2.2.1
theorem dL_law_1438 : decode cL_law 1438 = .ok (.aload_n 2, 1) := ldc_76.2.2.2.2.2.2.2.1
theorem dL_law_1439 : decode cL_law 1439 = .ok (.aload_n 0, 1) := ldc_76.2.2.2.2.2.2.2.2.1
theorem dL_law_1440 : decode cL_law 1440 = .ok (.iload 5, 2) := ldc_76.2.2.2.2.2.2.2.2.2
set_option maxRecDepth 100000 in
theorem ldc_77 : decode cL_law 1442 = .ok (.iconst 1, 1) ∧ decode cL_law 1443 = .ok (.iadd, 1) ∧ decode cL_law 1444 = .ok (.iaload, 1) ∧ decode cL_law 1445 = .ok (.invokevirtual 289, 3) ∧ decode cL_law 1448 = .ok (.istore 7, 2) ∧ decode cL_law 1450 = .ok (.goto 551, 3) ∧ decode cL_law 1453 = .ok (.aload_n 1, 1) ∧ decode cL_law 1454 = .ok (.invokevirtual 290, 3) ∧ decode cL_law 1457 = .ok (.pop2, 1) ∧ decode cL_law 1458 = .ok (.aload_n 2, 1) := by decide +kernel
theorem dL_law_1442 : decode cL_law 1442 = .ok (.iconst 1, 1) := ldc_77.1
theorem dL_law_1443 : decode cL_law 1443 = .ok (.iadd, 1) := ldc_77.2.1
theorem dL_law_1444 : decode cL_law 1444 = .ok (.iaload, 1) := ldc_77.2.2.1
theorem dL_law_1445 : decode cL_law 1445 = .ok (.invokevirtual 289, 3) := ldc_77.2.2.2.1
theorem dL_law_1448 : decode cL_law 1448 = .ok (.istore 7, 2) := ldc_77.2.2.2.2.1
theorem dL_law_1450 : decode cL_law 1450 = .ok (.goto 551, 3) := ldc_77.2.2.2.2.2.1
theorem dL_law_1453 : decode cL_law 1453 = .ok (.aload_n 1, 1) := ldc_77.2.2.2.2.2.2.1
theorem dL_law_1454 : decode cL_law 1454 = .ok (.invokevirtual 290, 3) := ldc_77.2.2.2.2.2.2.2.1
theorem dL_law_1457 : decode cL_law 1457 = .ok (.pop2, 1) := ldc_77.2.2.2.2.2.2.2.2.1
theorem dL_law_1458 : decode cL_law 1458 = .ok (.aload_n 2, 1) := ldc_77.2.2.2.2.2.2.2.2.2
set_option maxRecDepth 100000 in
theorem ldc_78 : decode cL_law 1459 = .ok (.invokevirtual 293, 3) ∧ decode cL_law 1462 = .ok (.pop2, 1) ∧ decode cL_law 1463 = .ok (.goto 538, 3) ∧ decode cL_law 1466 = .ok (.aload_n 1, 1) ∧ decode cL_law 1467 = .ok (.aload_n 0, 1) ∧ decode cL_law 1468 = .ok (.iload 5, 2) ∧ decode cL_law 1470 = .ok (.iconst 1, 1) ∧ decode cL_law 1471 = .ok (.iadd, 1) ∧ decode cL_law 1472 = .ok (.iaload, 1) ∧ decode cL_law 1473 = .ok (.aload_n 3, 1) := by decide +kernel
theorem dL_law_1459 : decode cL_law 1459 = .ok (.invokevirtual 293, 3) := ldc_78.1
theorem dL_law_1462 : decode cL_law 1462 = .ok (.pop2, 1) := ldc_78.2.1
theorem dL_law_1463 : decode cL_law 1463 = .ok (.goto 538, 3) := ldc_78.2.2.1
theorem dL_law_1466 : decode cL_law 1466 = .ok (.aload_n 1, 1) := ldc_78.2.2.2.1
theorem dL_law_1467 : decode cL_law 1467 = .ok (.aload_n 0, 1) := ldc_78.2.2.2.2.1
theorem dL_law_1468 : decode cL_law 1468 = .ok (.iload 5, 2) := ldc_78.2.2.2.2.2.1
theorem dL_law_1470 : decode cL_law 1470 = .ok (.iconst 1, 1) := ldc_78.2.2.2.2.2.2.1
theorem dL_law_1471 : decode cL_law 1471 = .ok (.iadd, 1) := ldc_78.2.2.2.2.2.2.2.1
theorem dL_law_1472 : decode cL_law 1472 = .ok (.iaload, 1) := ldc_78.2.2.2.2.2.2.2.2.1
theorem dL_law_1473 : decode cL_law 1473 = .ok (.aload_n 3, 1) := ldc_78.2.2.2.2.2.2.2.2.2
set_option maxRecDepth 100000 in
theorem ldc_79 : decode cL_law 1474 = .ok (.invokestatic 294, 3) ∧ decode cL_law 1477 = .ok (.istore 6, 2) ∧ decode cL_law 1479 = .ok (.aload_n 2, 1) ∧ decode cL_law 1480 = .ok (.aload_n 0, 1) ∧ decode cL_law 1481 = .ok (.iload 5, 2) ∧ decode cL_law 1483 = .ok (.iconst 1, 1) ∧ decode cL_law 1484 = .ok (.iadd, 1) ∧ decode cL_law 1485 = .ok (.iaload, 1) ∧ decode cL_law 1486 = .ok (.invokevirtual 296, 3) ∧ decode cL_law 1489 = .ok (.lstore 7, 2) := by decide +kernel
theorem dL_law_1474 : decode cL_law 1474 = .ok (.invokestatic 294, 3) := ldc_79.1
theorem dL_law_1477 : decode cL_law 1477 = .ok (.istore 6, 2) := ldc_79.2.1
theorem dL_law_1479 : decode cL_law 1479 = .ok (.aload_n 2, 1) := ldc_79.2.2.1
theorem dL_law_1480 : decode cL_law 1480 = .ok (.aload_n 0, 1) := ldc_79.2.2.2.1
theorem dL_law_1481 : decode cL_law 1481 = .ok (.iload 5, 2) := ldc_79.2.2.2.2.1
theorem dL_law_1483 : decode cL_law 1483 = .ok (.iconst 1, 1) := ldc_79.2.2.2.2.2.1
theorem dL_law_1484 : decode cL_law 1484 = .ok (.iadd, 1) := ldc_79.2.2.2.2.2.2.1
theorem dL_law_1485 : decode cL_law 1485 = .ok (.iaload, 1) := ldc_79.2.2.2.2.2.2.2.1
theorem dL_law_1486 : decode cL_law 1486 = .ok (.invokevirtual 296, 3) := ldc_79.2.2.2.2.2.2.2.2.1
theorem dL_law_1489 : decode cL_law 1489 = .ok (.lstore 7, 2) := ldc_79.2.2.2.2.2.2.2.2.2
set_option maxRecDepth 100000 in
theorem ldc_80 : decode cL_law 1491 = .ok (.goto 510, 3) ∧ decode cL_law 1494 = .ok (.aload_n 1, 1) ∧ decode cL_law 1495 = .ok (.aload 4, 2) ∧ decode cL_law 1497 = .ok (.invokestatic 297, 3) ∧ decode cL_law 1500 = .ok (.istore 6, 2) ∧ decode cL_law 1502 = .ok (.aload_n 2, 1) ∧ decode cL_law 1503 = .ok (.invokevirtual 300, 3) ∧ decode cL_law 1506 = .ok (.dstore 7, 2) ∧ decode cL_law 1508 = .ok (.goto 493, 3) ∧ decode cL_law 1511 = .ok (.aload_n 1, 1) := by decide +kernel
theorem dL_law_1491 : decode cL_law 1491 = .ok (.goto 510, 3) := ldc_80.1
theorem dL_law_1494 : decode cL_law 1494 = .ok (.aload_n 1, 1) := ldc_80.2.1
theorem dL_law_1495 : decode cL_law 1495 = .ok (.aload 4, 2) := ldc_80.2.2.1
theorem dL_law_1497 : decode cL_law 1497 = .ok (.invokestatic 297, 3) := ldc_80.2.2.2.1
theorem dL_law_1500 : decode cL_law 1500 = .ok (.istore 6, 2) := ldc_80.2.2.2.2.1
theorem dL_law_1502 : decode cL_law 1502 = .ok (.aload_n 2, 1) := ldc_80.2.2.2.2.2.1
theorem dL_law_1503 : decode cL_law 1503 = .ok (.invokevirtual 300, 3) := ldc_80.2.2.2.2.2.2.1
theorem dL_law_1506 : decode cL_law 1506 = .ok (.dstore 7, 2) := ldc_80.2.2.2.2.2.2.2.1
theorem dL_law_1508 : decode cL_law 1508 = .ok (.goto 493, 3) := ldc_80.2.2.2.2.2.2.2.2.1
theorem dL_law_1511 : decode cL_law 1511 = .ok (.aload_n 1, 1) := ldc_80.2.2.2.2.2.2.2.2.2
set_option maxRecDepth 100000 in
theorem ldc_81 : decode cL_law 1512 = .ok (.invokevirtual 301, 3) ∧ decode cL_law 1515 = .ok (.pop, 1) ∧ decode cL_law 1516 = .ok (.aload_n 2, 1) ∧ decode cL_law 1517 = .ok (.invokevirtual 304, 3) ∧ decode cL_law 1520 = .ok (.pop, 1) ∧ decode cL_law 1521 = .ok (.goto 480, 3) ∧ decode cL_law 1524 = .ok (.aload_n 1, 1) ∧ decode cL_law 1525 = .ok (.invokevirtual 305, 3) ∧ decode cL_law 1528 = .ok (.pop, 1) ∧ decode cL_law 1529 = .ok (.aload_n 2, 1) := by decide +kernel
theorem dL_law_1512 : decode cL_law 1512 = .ok (.invokevirtual 301, 3) := ldc_81.1
theorem dL_law_1515 : decode cL_law 1515 = .ok (.pop, 1) := ldc_81.2.1
theorem dL_law_1516 : decode cL_law 1516 = .ok (.aload_n 2, 1) := ldc_81.2.2.1
theorem dL_law_1517 : decode cL_law 1517 = .ok (.invokevirtual 304, 3) := ldc_81.2.2.2.1
theorem dL_law_1520 : decode cL_law 1520 = .ok (.pop, 1) := ldc_81.2.2.2.2.1
theorem dL_law_1521 : decode cL_law 1521 = .ok (.goto 480, 3) := ldc_81.2.2.2.2.2.1
theorem dL_law_1524 : decode cL_law 1524 = .ok (.aload_n 1, 1) := ldc_81.2.2.2.2.2.2.1
theorem dL_law_1525 : decode cL_law 1525 = .ok (.invokevirtual 305, 3) := ldc_81.2.2.2.2.2.2.2.1
theorem dL_law_1528 : decode cL_law 1528 = .ok (.pop, 1) := ldc_81.2.2.2.2.2.2.2.2.1
theorem dL_law_1529 : decode cL_law 1529 = .ok (.aload_n 2, 1) := ldc_81.2.2.2.2.2.2.2.2.2
set_option maxRecDepth 100000 in
theorem ldc_82 : decode cL_law 1530 = .ok (.invokevirtual 308, 3) ∧ decode cL_law 1533 = .ok (.pop, 1) ∧ decode cL_law 1534 = .ok (.goto 467, 3) ∧ decode cL_law 1537 = .ok (.aload_n 1, 1) ∧ decode cL_law 1538 = .ok (.aload_n 0, 1) ∧ decode cL_law 1539 = .ok (.iload 5, 2) ∧ decode cL_law 1541 = .ok (.iconst 1, 1) ∧ decode cL_law 1542 = .ok (.iadd, 1) ∧ decode cL_law 1543 = .ok (.iaload, 1) ∧ decode cL_law 1544 = .ok (.aload_n 0, 1) := by decide +kernel
theorem dL_law_1530 : decode cL_law 1530 = .ok (.invokevirtual 308, 3) := ldc_82.1
theorem dL_law_1533 : decode cL_law 1533 = .ok (.pop, 1) := ldc_82.2.1
theorem dL_law_1534 : decode cL_law 1534 = .ok (.goto 467, 3) := ldc_82.2.2.1
theorem dL_law_1537 : decode cL_law 1537 = .ok (.aload_n 1, 1) := ldc_82.2.2.2.1
theorem dL_law_1538 : decode cL_law 1538 = .ok (.aload_n 0, 1) := ldc_82.2.2.2.2.1
theorem dL_law_1539 : decode cL_law 1539 = .ok (.iload 5, 2) := ldc_82.2.2.2.2.2.1
theorem dL_law_1541 : decode cL_law 1541 = .ok (.iconst 1, 1) := ldc_82.2.2.2.2.2.2.1
theorem dL_law_1542 : decode cL_law 1542 = .ok (.iadd, 1) := ldc_82.2.2.2.2.2.2.2.1
theorem dL_law_1543 : decode cL_law 1543 = .ok (.iaload, 1) := ldc_82.2.2.2.2.2.2.2.2.1
theorem dL_law_1544 : decode cL_law 1544 = .ok (.aload_n 0, 1) := ldc_82.2.2.2.2.2.2.2.2.2
set_option maxRecDepth 100000 in
theorem ldc_83 : decode cL_law 1545 = .ok (.iload 5, 2) ∧ decode cL_law 1547 = .ok (.iconst 2, 1) ∧ decode cL_law 1548 = .ok (.iadd, 1) ∧ decode cL_law 1549 = .ok (.iaload, 1) ∧ decode cL_law 1550 = .ok (.aload_n 3, 1) ∧ decode cL_law 1551 = .ok (.invokestatic 309, 3) ∧ decode cL_law 1554 = .ok (.istore 6, 2) ∧ decode cL_law 1556 = .ok (.aload_n 2, 1) ∧ decode cL_law 1557 = .ok (.aload_n 0, 1) ∧ decode cL_law 1558 = .ok (.iload 5, 2) := by decide +kernel
theorem dL_law_1545 : decode cL_law 1545 = .ok (.iload 5, 2) := ldc_83.1
theorem dL_law_1547 : decode cL_law 1547 = .ok (.iconst 2, 1) := ldc_83.2.1
theorem dL_law_1548 : decode cL_law 1548 = .ok (.iadd, 1) := ldc_83.2.2.1
theorem dL_law_1549 : decode cL_law 1549 = .ok (.iaload, 1) := ldc_83.2.2.2.1
theorem dL_law_1550 : decode cL_law 1550 = .ok (.aload_n 3, 1) := ldc_83.2.2.2.2.1
theorem dL_law_1551 : decode cL_law 1551 = .ok (.invokestatic 309, 3) := ldc_83.2.2.2.2.2.1
theorem dL_law_1554 : decode cL_law 1554 = .ok (.istore 6, 2) := ldc_83.2.2.2.2.2.2.1
theorem dL_law_1556 : decode cL_law 1556 = .ok (.aload_n 2, 1) := ldc_83.2.2.2.2.2.2.2.1
theorem dL_law_1557 : decode cL_law 1557 = .ok (.aload_n 0, 1) := ldc_83.2.2.2.2.2.2.2.2.1
theorem dL_law_1558 : decode cL_law 1558 = .ok (.iload 5, 2) := ldc_83.2.2.2.2.2.2.2.2.2
set_option maxRecDepth 100000 in
theorem ldc_84 : decode cL_law 1560 = .ok (.iconst 1, 1) ∧ decode cL_law 1561 = .ok (.iadd, 1) ∧ decode cL_law 1562 = .ok (.iaload, 1) ∧ decode cL_law 1563 = .ok (.aload_n 0, 1) ∧ decode cL_law 1564 = .ok (.iload 5, 2) ∧ decode cL_law 1566 = .ok (.iconst 2, 1) ∧ decode cL_law 1567 = .ok (.iadd, 1) ∧ decode cL_law 1568 = .ok (.iaload, 1) ∧ decode cL_law 1569 = .ok (.invokevirtual 311, 3) ∧ decode cL_law 1572 = .ok (.istore 7, 2) := by decide +kernel
theorem dL_law_1560 : decode cL_law 1560 = .ok (.iconst 1, 1) := ldc_84.1
theorem dL_law_1561 : decode cL_law 1561 = .ok (.iadd, 1) := ldc_84.2.1
theorem dL_law_1562 : decode cL_law 1562 = .ok (.iaload, 1) := ldc_84.2.2.1
theorem dL_law_1563 : decode cL_law 1563 = .ok (.aload_n 0, 1) := ldc_84.2.2.2.1
theorem dL_law_1564 : decode cL_law 1564 = .ok (.iload 5, 2) := ldc_84.2.2.2.2.1
theorem dL_law_1566 : decode cL_law 1566 = .ok (.iconst 2, 1) := ldc_84.2.2.2.2.2.1
theorem dL_law_1567 : decode cL_law 1567 = .ok (.iadd, 1) := ldc_84.2.2.2.2.2.2.1
theorem dL_law_1568 : decode cL_law 1568 = .ok (.iaload, 1) := ldc_84.2.2.2.2.2.2.2.1
theorem dL_law_1569 : decode cL_law 1569 = .ok (.invokevirtual 311, 3) := ldc_84.2.2.2.2.2.2.2.2.1
theorem dL_law_1572 : decode cL_law 1572 = .ok (.istore 7, 2) := ldc_84.2.2.2.2.2.2.2.2.2
set_option maxRecDepth 100000 in
theorem ldc_85 : decode cL_law 1574 = .ok (.goto 427, 3) ∧ decode cL_law 1577 = .ok (.aload_n 1, 1) ∧ decode cL_law 1578 = .ok (.aload_n 0, 1) ∧ decode cL_law 1579 = .ok (.iload 5, 2) ∧ decode cL_law 1581 = .ok (.iconst 1, 1) ∧ decode cL_law 1582 = .ok (.iadd, 1) ∧ decode cL_law 1583 = .ok (.iaload, 1) ∧ decode cL_law 1584 = .ok (.aload_n 0, 1) ∧ decode cL_law 1585 = .ok (.iload 5, 2) ∧ decode cL_law 1587 = .ok (.iconst 2, 1) := by decide +kernel
theorem dL_law_1574 : decode cL_law 1574 = .ok (.goto 427, 3) := ldc_85.1
theorem dL_law_1577 : decode cL_law 1577 = .ok (.aload_n 1, 1) := ldc_85.2.1
theorem dL_law_1578 : decode cL_law 1578 = .ok (.aload_n 0, 1) := ldc_85.2.2.1
theorem dL_law_1579 : decode cL_law 1579 = .ok (.iload 5, 2) := ldc_85.2.2.2.1
theorem dL_law_1581 : decode cL_law 1581 = .ok (.iconst 1, 1) := ldc_85.2.2.2.2.1
theorem dL_law_1582 : decode cL_law 1582 = .ok (.iadd, 1) := ldc_85.2.2.2.2.2.1
theorem dL_law_1583 : decode cL_law 1583 = .ok (.iaload, 1) := ldc_85.2.2.2.2.2.2.1
theorem dL_law_1584 : decode cL_law 1584 = .ok (.aload_n 0, 1) := ldc_85.2.2.2.2.2.2.2.1
theorem dL_law_1585 : decode cL_law 1585 = .ok (.iload 5, 2) := ldc_85.2.2.2.2.2.2.2.2.1
theorem dL_law_1587 : decode cL_law 1587 = .ok (.iconst 2, 1) := ldc_85.2.2.2.2.2.2.2.2.2
set_option maxRecDepth 100000 in
theorem ldc_86 : decode cL_law 1588 = .ok (.iadd, 1) ∧ decode cL_law 1589 = .ok (.iaload, 1) ∧ decode cL_law 1590 = .ok (.aload_n 0, 1) ∧ decode cL_law 1591 = .ok (.iload 5, 2) ∧ decode cL_law 1593 = .ok (.iconst 3, 1) ∧ decode cL_law 1594 = .ok (.iadd, 1) ∧ decode cL_law 1595 = .ok (.iaload, 1) ∧ decode cL_law 1596 = .ok (.aload_n 0, 1) ∧ decode cL_law 1597 = .ok (.iload 5, 2) ∧ decode cL_law 1599 = .ok (.iconst 4, 1) := by decide +kernel
theorem dL_law_1588 : decode cL_law 1588 = .ok (.iadd, 1) := ldc_86.1
theorem dL_law_1589 : decode cL_law 1589 = .ok (.iaload, 1) := ldc_86.2.1
theorem dL_law_1590 : decode cL_law 1590 = .ok (.aload_n 0, 1) := ldc_86.2.2.1
theorem dL_law_1591 : decode cL_law 1591 = .ok (.iload 5, 2) := ldc_86.2.2.2.1
theorem dL_law_1593 : decode cL_law 1593 = .ok (.iconst 3, 1) := ldc_86.2.2.2.2.1
theorem dL_law_1594 : decode cL_law 1594 = .ok (.iadd, 1) := ldc_86.2.2.2.2.2.1
theorem dL_law_1595 : decode cL_law 1595 = .ok (.iaload, 1) := ldc_86.2.2.2.2.2.2.1
theorem dL_law_1596 : decode cL_law 1596 = .ok (.aload_n 0, 1) := ldc_86.2.2.2.2.2.2.2.1
theorem dL_law_1597 : decode cL_law 1597 = .ok (.iload 5, 2) := ldc_86.2.2.2.2.2.2.2.2.1
theorem dL_law_1599 : decode cL_law 1599 = .ok (.iconst 4, 1) := ldc_86.2.2.2.2.2.2.2.2.2
set_option maxRecDepth 100000 in
theorem ldc_87 : decode cL_law 1600 = .ok (.iadd, 1) ∧ decode cL_law 1601 = .ok (.iaload, 1) ∧ decode cL_law 1602 = .ok (.invokevirtual 312, 3) ∧ decode cL_law 1605 = .ok (.pop, 1) ∧ decode cL_law 1606 = .ok (.aload_n 2, 1) ∧ decode cL_law 1607 = .ok (.aload_n 0, 1) ∧ decode cL_law 1608 = .ok (.iload 5, 2) ∧ decode cL_law 1610 = .ok (.iconst 1, 1) ∧ decode cL_law 1611 = .ok (.iadd, 1) ∧ decode cL_law 1612 = .ok (.iaload, 1) := by decide +kernel
theorem dL_law_1600 : decode cL_law 1600 = .ok (.iadd, 1) := ldc_87.1
theorem dL_law_1601 : decode cL_law 1601 = .ok (.iaload, 1) := ldc_87.2.1
theorem dL_law_1602 : decode cL_law 1602 = .ok (.invokevirtual 312, 3) := ldc_87.2.2.1
theorem dL_law_1605 : decode cL_law 1605 = .ok (.pop, 1) := ldc_87.2.2.2.1
theorem dL_law_1606 : decode cL_law 1606 = .ok (.aload_n 2, 1) := ldc_87.2.2.2.2.1
theorem dL_law_1607 : decode cL_law 1607 = .ok (.aload_n 0, 1) := ldc_87.2.2.2.2.2.1
theorem dL_law_1608 : decode cL_law 1608 = .ok (.iload 5, 2) := ldc_87.2.2.2.2.2.2.1
theorem dL_law_1610 : decode cL_law 1610 = .ok (.iconst 1, 1) := ldc_87.2.2.2.2.2.2.2.1
theorem dL_law_1611 : decode cL_law 1611 = .ok (.iadd, 1) := ldc_87.2.2.2.2.2.2.2.2.1
theorem dL_law_1612 : decode cL_law 1612 = .ok (.iaload, 1) := ldc_87.2.2.2.2.2.2.2.2.2
set_option maxRecDepth 100000 in
theorem ldc_88 : decode cL_law 1613 = .ok (.aload_n 0, 1) ∧ decode cL_law 1614 = .ok (.iload 5, 2) ∧ decode cL_law 1616 = .ok (.iconst 2, 1) ∧ decode cL_law 1617 = .ok (.iadd, 1) ∧ decode cL_law 1618 = .ok (.iaload, 1) ∧ decode cL_law 1619 = .ok (.aload_n 0, 1) ∧ decode cL_law 1620 = .ok (.iload 5, 2) ∧ decode cL_law 1622 = .ok (.iconst 3, 1) ∧ decode cL_law 1623 = .ok (.iadd, 1) ∧ decode cL_law 1624 = .ok (.iaload, 1) := by decide +kernel
theorem dL_law_1613 : decode cL_law 1613 = .ok (.aload_n 0, 1) := ldc_88.1
theorem dL_law_1614 : decode cL_law 1614 = .ok (.iload 5, 2) := ldc_88.2.1
theorem dL_law_1616 : decode cL_law 1616 = .ok (.iconst 2, 1) := ldc_88.2.2.1
theorem dL_law_1617 : decode cL_law 1617 = .ok (.iadd, 1) := ldc_88.2.2.2.1
theorem dL_law_1618 : decode cL_law 1618 = .ok (.iaload, 1) := ldc_88.2.2.2.2.1
theorem dL_law_1619 : decode cL_law 1619 = .ok (.aload_n 0, 1) := ldc_88.2.2.2.2.2.1
theorem dL_law_1620 : decode cL_law 1620 = .ok (.iload 5, 2) := ldc_88.2.2.2.2.2.2.1
theorem dL_law_1622 : decode cL_law 1622 = .ok (.iconst 3, 1) := ldc_88.2.2.2.2.2.2.2.1
theorem dL_law_1623 : decode cL_law 1623 = .ok (.iadd, 1) := ldc_88.2.2.2.2.2.2.2.2.1
theorem dL_law_1624 : decode cL_law 1624 = .ok (.iaload, 1) := ldc_88.2.2.2.2.2.2.2.2.2
set_option maxRecDepth 100000 in
theorem ldc_89 : decode cL_law 1625 = .ok (.aload_n 0, 1) ∧ decode cL_law 1626 = .ok (.iload 5, 2) ∧ decode cL_law 1628 = .ok (.iconst 4, 1) ∧ decode cL_law 1629 = .ok (.iadd, 1) ∧ decode cL_law 1630 = .ok (.iaload, 1) ∧ decode cL_law 1631 = .ok (.invokevirtual 316, 3) ∧ decode cL_law 1634 = .ok (.pop, 1) ∧ decode cL_law 1635 = .ok (.goto 366, 3) ∧ decode cL_law 1638 = .ok (.aload_n 1, 1) ∧ decode cL_law 1639 = .ok (.aload_n 0, 1) := by decide +kernel
theorem dL_law_1625 : decode cL_law 1625 = .ok (.aload_n 0, 1) := ldc_89.1
theorem dL_law_1626 : decode cL_law 1626 = .ok (.iload 5, 2) := ldc_89.2.1
theorem dL_law_1628 : decode cL_law 1628 = .ok (.iconst 4, 1) := ldc_89.2.2.1
theorem dL_law_1629 : decode cL_law 1629 = .ok (.iadd, 1) := ldc_89.2.2.2.1
theorem dL_law_1630 : decode cL_law 1630 = .ok (.iaload, 1) := ldc_89.2.2.2.2.1
theorem dL_law_1631 : decode cL_law 1631 = .ok (.invokevirtual 316, 3) := ldc_89.2.2.2.2.2.1
theorem dL_law_1634 : decode cL_law 1634 = .ok (.pop, 1) := ldc_89.2.2.2.2.2.2.1
theorem dL_law_1635 : decode cL_law 1635 = .ok (.goto 366, 3) := ldc_89.2.2.2.2.2.2.2.1
theorem dL_law_1638 : decode cL_law 1638 = .ok (.aload_n 1, 1) := ldc_89.2.2.2.2.2.2.2.2.1
theorem dL_law_1639 : decode cL_law 1639 = .ok (.aload_n 0, 1) := ldc_89.2.2.2.2.2.2.2.2.2
set_option maxRecDepth 100000 in
theorem ldc_90 : decode cL_law 1640 = .ok (.iload 5, 2) ∧ decode cL_law 1642 = .ok (.iconst 1, 1) ∧ decode cL_law 1643 = .ok (.iadd, 1) ∧ decode cL_law 1644 = .ok (.iaload, 1) ∧ decode cL_law 1645 = .ok (.aload_n 0, 1) ∧ decode cL_law 1646 = .ok (.iload 5, 2) ∧ decode cL_law 1648 = .ok (.iconst 2, 1) ∧ decode cL_law 1649 = .ok (.iadd, 1) ∧ decode cL_law 1650 = .ok (.iaload, 1) ∧ decode cL_law 1651 = .ok (.aload_n 3, 1) := by decide +kernel
theorem dL_law_1640 : decode cL_law 1640 = .ok (.iload 5, 2) := ldc_90.1
theorem dL_law_1642 : decode cL_law 1642 = .ok (.iconst 1, 1) := ldc_90.2.1
theorem dL_law_1643 : decode cL_law 1643 = .ok (.iadd, 1) := ldc_90.2.2.1
theorem dL_law_1644 : decode cL_law 1644 = .ok (.iaload, 1) := ldc_90.2.2.2.1
theorem dL_law_1645 : decode cL_law 1645 = .ok (.aload_n 0, 1) := ldc_90.2.2.2.2.1
theorem dL_law_1646 : decode cL_law 1646 = .ok (.iload 5, 2) := ldc_90.2.2.2.2.2.1
theorem dL_law_1648 : decode cL_law 1648 = .ok (.iconst 2, 1) := ldc_90.2.2.2.2.2.2.1
theorem dL_law_1649 : decode cL_law 1649 = .ok (.iadd, 1) := ldc_90.2.2.2.2.2.2.2.1
theorem dL_law_1650 : decode cL_law 1650 = .ok (.iaload, 1) := ldc_90.2.2.2.2.2.2.2.2.1
theorem dL_law_1651 : decode cL_law 1651 = .ok (.aload_n 3, 1) := ldc_90.2.2.2.2.2.2.2.2.2
set_option maxRecDepth 100000 in
theorem ldc_91 : decode cL_law 1652 = .ok (.invokestatic 317, 3) ∧ decode cL_law 1655 = .ok (.istore 6, 2) ∧ decode cL_law 1657 = .ok (.aload_n 2, 1) ∧ decode cL_law 1658 = .ok (.aload_n 0, 1) ∧ decode cL_law 1659 = .ok (.iload 5, 2) ∧ decode cL_law 1661 = .ok (.iconst 1, 1) ∧ decode cL_law 1662 = .ok (.iadd, 1) ∧ decode cL_law 1663 = .ok (.iaload, 1) ∧ decode cL_law 1664 = .ok (.aload_n 0, 1) ∧ decode cL_law 1665 = .ok (.iload 5, 2) := by decide +kernel
theorem dL_law_1652 : decode cL_law 1652 = .ok (.invokestatic 317, 3) := ldc_91.1
theorem dL_law_1655 : decode cL_law 1655 = .ok (.istore 6, 2) := ldc_91.2.1
theorem dL_law_1657 : decode cL_law 1657 = .ok (.aload_n 2, 1) := ldc_91.2.2.1
theorem dL_law_1658 : decode cL_law 1658 = .ok (.aload_n 0, 1) := ldc_91.2.2.2.1
theorem dL_law_1659 : decode cL_law 1659 = .ok (.iload 5, 2) := ldc_91.2.2.2.2.1
theorem dL_law_1661 : decode cL_law 1661 = .ok (.iconst 1, 1) := ldc_91.2.2.2.2.2.1
theorem dL_law_1662 : decode cL_law 1662 = .ok (.iadd, 1) := ldc_91.2.2.2.2.2.2.1
theorem dL_law_1663 : decode cL_law 1663 = .ok (.iaload, 1) := ldc_91.2.2.2.2.2.2.2.1
theorem dL_law_1664 : decode cL_law 1664 = .ok (.aload_n 0, 1) := ldc_91.2.2.2.2.2.2.2.2.1
theorem dL_law_1665 : decode cL_law 1665 = .ok (.iload 5, 2) := ldc_91.2.2.2.2.2.2.2.2.2
set_option maxRecDepth 100000 in
theorem ldc_92 : decode cL_law 1667 = .ok (.iconst 2, 1) ∧ decode cL_law 1668 = .ok (.iadd, 1) ∧ decode cL_law 1669 = .ok (.iaload, 1) ∧ decode cL_law 1670 = .ok (.invokevirtual 319, 3) ∧ decode cL_law 1673 = .ok (.lstore 7, 2) ∧ decode cL_law 1675 = .ok (.goto 326, 3) ∧ decode cL_law 1678 = .ok (.aload_n 1, 1) ∧ decode cL_law 1679 = .ok (.aload_n 0, 1) ∧ decode cL_law 1680 = .ok (.iload 5, 2) ∧ decode cL_law 1682 = .ok (.iconst 1, 1) := by decide +kernel
theorem dL_law_1667 : decode cL_law 1667 = .ok (.iconst 2, 1) := ldc_92.1
theorem dL_law_1668 : decode cL_law 1668 = .ok (.iadd, 1) := ldc_92.2.1
theorem dL_law_1669 : decode cL_law 1669 = .ok (.iaload, 1) := ldc_92.2.2.1
theorem dL_law_1670 : decode cL_law 1670 = .ok (.invokevirtual 319, 3) := ldc_92.2.2.2.1
theorem dL_law_1673 : decode cL_law 1673 = .ok (.lstore 7, 2) := ldc_92.2.2.2.2.1
theorem dL_law_1675 : decode cL_law 1675 = .ok (.goto 326, 3) := ldc_92.2.2.2.2.2.1
theorem dL_law_1678 : decode cL_law 1678 = .ok (.aload_n 1, 1) := ldc_92.2.2.2.2.2.2.1
theorem dL_law_1679 : decode cL_law 1679 = .ok (.aload_n 0, 1) := ldc_92.2.2.2.2.2.2.2.1
theorem dL_law_1680 : decode cL_law 1680 = .ok (.iload 5, 2) := ldc_92.2.2.2.2.2.2.2.2.1
theorem dL_law_1682 : decode cL_law 1682 = .ok (.iconst 1, 1) := ldc_92.2.2.2.2.2.2.2.2.2
set_option maxRecDepth 100000 in
theorem ldc_93 : decode cL_law 1683 = .ok (.iadd, 1) ∧ decode cL_law 1684 = .ok (.iaload, 1) ∧ decode cL_law 1685 = .ok (.aload_n 0, 1) ∧ decode cL_law 1686 = .ok (.iload 5, 2) ∧ decode cL_law 1688 = .ok (.iconst 2, 1) ∧ decode cL_law 1689 = .ok (.iadd, 1) ∧ decode cL_law 1690 = .ok (.iaload, 1) ∧ decode cL_law 1691 = .ok (.aload_n 3, 1) ∧ decode cL_law 1692 = .ok (.invokestatic 320, 3) ∧ decode cL_law 1695 = .ok (.istore 6, 2) := by decide +kernel
theorem dL_law_1683 : decode cL_law 1683 = .ok (.iadd, 1) := ldc_93.1
theorem dL_law_1684 : decode cL_law 1684 = .ok (.iaload, 1) := ldc_93.2.1
theorem dL_law_1685 : decode cL_law 1685 = .ok (.aload_n 0, 1) := ldc_93.2.2.1
theorem dL_law_1686 : decode cL_law 1686 = .ok (.iload 5, 2) := ldc_93.2.2.2.1
theorem dL_law_1688 : decode cL_law 1688 = .ok (.iconst 2, 1) := ldc_93.2.2.2.2.1
theorem dL_law_1689 : decode cL_law 1689 = .ok (.iadd, 1) := ldc_93.2.2.2.2.2.1
theorem dL_law_1690 : decode cL_law 1690 = .ok (.iaload, 1) := ldc_93.2.2.2.2.2.2.1
theorem dL_law_1691 : decode cL_law 1691 = .ok (.aload_n 3, 1) := ldc_93.2.2.2.2.2.2.2.1
theorem dL_law_1692 : decode cL_law 1692 = .ok (.invokestatic 320, 3) := ldc_93.2.2.2.2.2.2.2.2.1
theorem dL_law_1695 : decode cL_law 1695 = .ok (.istore 6, 2) := ldc_93.2.2.2.2.2.2.2.2.2
set_option maxRecDepth 100000 in
theorem ldc_94 : decode cL_law 1697 = .ok (.aload_n 2, 1) ∧ decode cL_law 1698 = .ok (.aload_n 0, 1) ∧ decode cL_law 1699 = .ok (.iload 5, 2) ∧ decode cL_law 1701 = .ok (.iconst 1, 1) ∧ decode cL_law 1702 = .ok (.iadd, 1) ∧ decode cL_law 1703 = .ok (.iaload, 1) ∧ decode cL_law 1704 = .ok (.aload_n 0, 1) ∧ decode cL_law 1705 = .ok (.iload 5, 2) ∧ decode cL_law 1707 = .ok (.iconst 2, 1) ∧ decode cL_law 1708 = .ok (.iadd, 1) := by decide +kernel
theorem dL_law_1697 : decode cL_law 1697 = .ok (.aload_n 2, 1) := ldc_94.1
theorem dL_law_1698 : decode cL_law 1698 = .ok (.aload_n 0, 1) := ldc_94.2.1
theorem dL_law_1699 : decode cL_law 1699 = .ok (.iload 5, 2) := ldc_94.2.2.1
theorem dL_law_1701 : decode cL_law 1701 = .ok (.iconst 1, 1) := ldc_94.2.2.2.1
theorem dL_law_1702 : decode cL_law 1702 = .ok (.iadd, 1) := ldc_94.2.2.2.2.1
theorem dL_law_1703 : decode cL_law 1703 = .ok (.iaload, 1) := ldc_94.2.2.2.2.2.1
theorem dL_law_1704 : decode cL_law 1704 = .ok (.aload_n 0, 1) := ldc_94.2.2.2.2.2.2.1
theorem dL_law_1705 : decode cL_law 1705 = .ok (.iload 5, 2) := ldc_94.2.2.2.2.2.2.2.1
theorem dL_law_1707 : decode cL_law 1707 = .ok (.iconst 2, 1) := ldc_94.2.2.2.2.2.2.2.2.1
theorem dL_law_1708 : decode cL_law 1708 = .ok (.iadd, 1) := ldc_94.2.2.2.2.2.2.2.2.2
set_option maxRecDepth 100000 in
theorem ldc_95 : decode cL_law 1709 = .ok (.iaload, 1) ∧ decode cL_law 1710 = .ok (.invokevirtual 322, 3) ∧ decode cL_law 1713 = .ok (.lstore 7, 2) ∧ decode cL_law 1715 = .ok (.goto 286, 3) ∧ decode cL_law 1718 = .ok (.aload_n 1, 1) ∧ decode cL_law 1719 = .ok (.aload_n 0, 1) ∧ decode cL_law 1720 = .ok (.iload 5, 2) ∧ decode cL_law 1722 = .ok (.iconst 1, 1) ∧ decode cL_law 1723 = .ok (.iadd, 1) ∧ decode cL_law 1724 = .ok (.iaload, 1) := by decide +kernel
theorem dL_law_1709 : decode cL_law 1709 = .ok (.iaload, 1) := ldc_95.1
theorem dL_law_1710 : decode cL_law 1710 = .ok (.invokevirtual 322, 3) := ldc_95.2.1
theorem dL_law_1713 : decode cL_law 1713 = .ok (.lstore 7, 2) := ldc_95.2.2.1
theorem dL_law_1715 : decode cL_law 1715 = .ok (.goto 286, 3) := ldc_95.2.2.2.1
theorem dL_law_1718 : decode cL_law 1718 = .ok (.aload_n 1, 1) := ldc_95.2.2.2.2.1
theorem dL_law_1719 : decode cL_law 1719 = .ok (.aload_n 0, 1) := ldc_95.2.2.2.2.2.1
theorem dL_law_1720 : decode cL_law 1720 = .ok (.iload 5, 2) := ldc_95.2.2.2.2.2.2.1
theorem dL_law_1722 : decode cL_law 1722 = .ok (.iconst 1, 1) := ldc_95.2.2.2.2.2.2.2.1
theorem dL_law_1723 : decode cL_law 1723 = .ok (.iadd, 1) := ldc_95.2.2.2.2.2.2.2.2.1
theorem dL_law_1724 : decode cL_law 1724 = .ok (.iaload, 1) := ldc_95.2.2.2.2.2.2.2.2.2
set_option maxRecDepth 100000 in
theorem ldc_96 : decode cL_law 1725 = .ok (.aload_n 0, 1) ∧ decode cL_law 1726 = .ok (.iload 5, 2) ∧ decode cL_law 1728 = .ok (.iconst 2, 1) ∧ decode cL_law 1729 = .ok (.iadd, 1) ∧ decode cL_law 1730 = .ok (.iaload, 1) ∧ decode cL_law 1731 = .ok (.aload 4, 2) ∧ decode cL_law 1733 = .ok (.invokestatic 323, 3) ∧ decode cL_law 1736 = .ok (.istore 6, 2) ∧ decode cL_law 1738 = .ok (.aload_n 2, 1) ∧ decode cL_law 1739 = .ok (.aload_n 0, 1) := by decide +kernel
theorem dL_law_1725 : decode cL_law 1725 = .ok (.aload_n 0, 1) := ldc_96.1
theorem dL_law_1726 : decode cL_law 1726 = .ok (.iload 5, 2) := ldc_96.2.1
theorem dL_law_1728 : decode cL_law 1728 = .ok (.iconst 2, 1) := ldc_96.2.2.1
theorem dL_law_1729 : decode cL_law 1729 = .ok (.iadd, 1) := ldc_96.2.2.2.1
theorem dL_law_1730 : decode cL_law 1730 = .ok (.iaload, 1) := ldc_96.2.2.2.2.1
theorem dL_law_1731 : decode cL_law 1731 = .ok (.aload 4, 2) := ldc_96.2.2.2.2.2.1
theorem dL_law_1733 : decode cL_law 1733 = .ok (.invokestatic 323, 3) := ldc_96.2.2.2.2.2.2.1
theorem dL_law_1736 : decode cL_law 1736 = .ok (.istore 6, 2) := ldc_96.2.2.2.2.2.2.2.1
theorem dL_law_1738 : decode cL_law 1738 = .ok (.aload_n 2, 1) := ldc_96.2.2.2.2.2.2.2.2.1
theorem dL_law_1739 : decode cL_law 1739 = .ok (.aload_n 0, 1) := ldc_96.2.2.2.2.2.2.2.2.2
set_option maxRecDepth 100000 in
theorem ldc_97 : decode cL_law 1740 = .ok (.iload 5, 2) ∧ decode cL_law 1742 = .ok (.iconst 1, 1) ∧ decode cL_law 1743 = .ok (.iadd, 1) ∧ decode cL_law 1744 = .ok (.iaload, 1) ∧ decode cL_law 1745 = .ok (.aload_n 0, 1) ∧ decode cL_law 1746 = .ok (.iload 5, 2) ∧ decode cL_law 1748 = .ok (.iconst 2, 1) ∧ decode cL_law 1749 = .ok (.iadd, 1) ∧ decode cL_law 1750 = .ok (.iaload, 1) ∧ decode cL_law 1751 = .ok (.invokevirtual 326, 3) := by decide +kernel
theorem dL_law_1740 : decode cL_law 1740 = .ok (.iload 5, 2) := ldc_97.1
theorem dL_law_1742 : decode cL_law 1742 = .ok (.iconst 1, 1) := ldc_97.2.1
theorem dL_law_1743 : decode cL_law 1743 = .ok (.iadd, 1) := ldc_97.2.2.1
theorem dL_law_1744 : decode cL_law 1744 = .ok (.iaload, 1) := ldc_97.2.2.2.1
theorem dL_law_1745 : decode cL_law 1745 = .ok (.aload_n 0, 1) := ldc_97.2.2.2.2.1
theorem dL_law_1746 : decode cL_law 1746 = .ok (.iload 5, 2) := ldc_97.2.2.2.2.2.1
theorem dL_law_1748 : decode cL_law 1748 = .ok (.iconst 2, 1) := ldc_97.2.2.2.2.2.2.1
theorem dL_law_1749 : decode cL_law 1749 = .ok (.iadd, 1) := ldc_97.2.2.2.2.2.2.2.1
theorem dL_law_1750 : decode cL_law 1750 = .ok (.iaload, 1) := ldc_97.2.2.2.2.2.2.2.2.1
theorem dL_law_1751 : decode cL_law 1751 = .ok (.invokevirtual 326, 3) := ldc_97.2.2.2.2.2.2.2.2.2
set_option maxRecDepth 100000 in
theorem ldc_98 : decode cL_law 1754 = .ok (.dstore 7, 2) ∧ decode cL_law 1756 = .ok (.goto 245, 3) ∧ decode cL_law 1759 = .ok (.aload_n 1, 1) ∧ decode cL_law 1760 = .ok (.aload_n 0, 1) ∧ decode cL_law 1761 = .ok (.iload 5, 2) ∧ decode cL_law 1763 = .ok (.iconst 1, 1) ∧ decode cL_law 1764 = .ok (.iadd, 1) ∧ decode cL_law 1765 = .ok (.iaload, 1) ∧ decode cL_law 1766 = .ok (.aload_n 0, 1) ∧ decode cL_law 1767 = .ok (.iload 5, 2) := by decide +kernel
theorem dL_law_1754 : decode cL_law 1754 = .ok (.dstore 7, 2) := ldc_98.1
theorem dL_law_1756 : decode cL_law 1756 = .ok (.goto 245, 3) := ldc_98.2.1
theorem dL_law_1759 : decode cL_law 1759 = .ok (.aload_n 1, 1) := ldc_98.2.2.1
theorem dL_law_1760 : decode cL_law 1760 = .ok (.aload_n 0, 1) := ldc_98.2.2.2.1
theorem dL_law_1761 : decode cL_law 1761 = .ok (.iload 5, 2) := ldc_98.2.2.2.2.1
theorem dL_law_1763 : decode cL_law 1763 = .ok (.iconst 1, 1) := ldc_98.2.2.2.2.2.1
theorem dL_law_1764 : decode cL_law 1764 = .ok (.iadd, 1) := ldc_98.2.2.2.2.2.2.1
theorem dL_law_1765 : decode cL_law 1765 = .ok (.iaload, 1) := ldc_98.2.2.2.2.2.2.2.1
theorem dL_law_1766 : decode cL_law 1766 = .ok (.aload_n 0, 1) := ldc_98.2.2.2.2.2.2.2.2.1
theorem dL_law_1767 : decode cL_law 1767 = .ok (.iload 5, 2) := ldc_98.2.2.2.2.2.2.2.2.2
set_option maxRecDepth 100000 in
theorem ldc_99 : decode cL_law 1769 = .ok (.iconst 2, 1) ∧ decode cL_law 1770 = .ok (.iadd, 1) ∧ decode cL_law 1771 = .ok (.iaload, 1) ∧ decode cL_law 1772 = .ok (.aload 4, 2) ∧ decode cL_law 1774 = .ok (.invokestatic 327, 3) ∧ decode cL_law 1777 = .ok (.istore 6, 2) ∧ decode cL_law 1779 = .ok (.aload_n 2, 1) ∧ decode cL_law 1780 = .ok (.aload_n 0, 1) ∧ decode cL_law 1781 = .ok (.iload 5, 2) ∧ decode cL_law 1783 = .ok (.iconst 1, 1) := by decide +kernel
theorem dL_law_1769 : decode cL_law 1769 = .ok (.iconst 2, 1) := ldc_99.1
theorem dL_law_1770 : decode cL_law 1770 = .ok (.iadd, 1) := ldc_99.2.1
theorem dL_law_1771 : decode cL_law 1771 = .ok (.iaload, 1) := ldc_99.2.2.1
theorem dL_law_1772 : decode cL_law 1772 = .ok (.aload 4, 2) := ldc_99.2.2.2.1
theorem dL_law_1774 : decode cL_law 1774 = .ok (.invokestatic 327, 3) := ldc_99.2.2.2.2.1
theorem dL_law_1777 : decode cL_law 1777 = .ok (.istore 6, 2) := ldc_99.2.2.2.2.2.1
theorem dL_law_1779 : decode cL_law 1779 = .ok (.aload_n 2, 1) := ldc_99.2.2.2.2.2.2.1
theorem dL_law_1780 : decode cL_law 1780 = .ok (.aload_n 0, 1) := ldc_99.2.2.2.2.2.2.2.1
theorem dL_law_1781 : decode cL_law 1781 = .ok (.iload 5, 2) := ldc_99.2.2.2.2.2.2.2.2.1
theorem dL_law_1783 : decode cL_law 1783 = .ok (.iconst 1, 1) := ldc_99.2.2.2.2.2.2.2.2.2
set_option maxRecDepth 100000 in
theorem ldc_100 : decode cL_law 1784 = .ok (.iadd, 1) ∧ decode cL_law 1785 = .ok (.iaload, 1) ∧ decode cL_law 1786 = .ok (.aload_n 0, 1) ∧ decode cL_law 1787 = .ok (.iload 5, 2) ∧ decode cL_law 1789 = .ok (.iconst 2, 1) ∧ decode cL_law 1790 = .ok (.iadd, 1) ∧ decode cL_law 1791 = .ok (.iaload, 1) ∧ decode cL_law 1792 = .ok (.invokevirtual 329, 3) ∧ decode cL_law 1795 = .ok (.dstore 7, 2) ∧ decode cL_law 1797 = .ok (.goto 204, 3) := by decide +kernel
theorem dL_law_1784 : decode cL_law 1784 = .ok (.iadd, 1) := ldc_100.1
theorem dL_law_1785 : decode cL_law 1785 = .ok (.iaload, 1) := ldc_100.2.1
theorem dL_law_1786 : decode cL_law 1786 = .ok (.aload_n 0, 1) := ldc_100.2.2.1
theorem dL_law_1787 : decode cL_law 1787 = .ok (.iload 5, 2) := ldc_100.2.2.2.1
theorem dL_law_1789 : decode cL_law 1789 = .ok (.iconst 2, 1) := ldc_100.2.2.2.2.1
theorem dL_law_1790 : decode cL_law 1790 = .ok (.iadd, 1) := ldc_100.2.2.2.2.2.1
theorem dL_law_1791 : decode cL_law 1791 = .ok (.iaload, 1) := ldc_100.2.2.2.2.2.2.1
theorem dL_law_1792 : decode cL_law 1792 = .ok (.invokevirtual 329, 3) := ldc_100.2.2.2.2.2.2.2.1
theorem dL_law_1795 : decode cL_law 1795 = .ok (.dstore 7, 2) := ldc_100.2.2.2.2.2.2.2.2.1
theorem dL_law_1797 : decode cL_law 1797 = .ok (.goto 204, 3) := ldc_100.2.2.2.2.2.2.2.2.2
set_option maxRecDepth 100000 in
theorem ldc_101 : decode cL_law 1800 = .ok (.aload_n 1, 1) ∧ decode cL_law 1801 = .ok (.aload_n 0, 1) ∧ decode cL_law 1802 = .ok (.iload 5, 2) ∧ decode cL_law 1804 = .ok (.iconst 1, 1) ∧ decode cL_law 1805 = .ok (.iadd, 1) ∧ decode cL_law 1806 = .ok (.iaload, 1) ∧ decode cL_law 1807 = .ok (.aload_n 0, 1) ∧ decode cL_law 1808 = .ok (.iload 5, 2) ∧ decode cL_law 1810 = .ok (.iconst 2, 1) ∧ decode cL_law 1811 = .ok (.iadd, 1) := by decide +kernel
theorem dL_law_1800 : decode cL_law 1800 = .ok (.aload_n 1, 1) := ldc_101.1
theorem dL_law_1801 : decode cL_law 1801 = .ok (.aload_n 0, 1) := ldc_101.2.1
theorem dL_law_1802 : decode cL_law 1802 = .ok (.iload 5, 2) := ldc_101.2.2.1
theorem dL_law_1804 : decode cL_law 1804 = .ok (.iconst 1, 1) := ldc_101.2.2.2.1
theorem dL_law_1805 : decode cL_law 1805 = .ok (.iadd, 1) := ldc_101.2.2.2.2.1
theorem dL_law_1806 : decode cL_law 1806 = .ok (.iaload, 1) := ldc_101.2.2.2.2.2.1
theorem dL_law_1807 : decode cL_law 1807 = .ok (.aload_n 0, 1) := ldc_101.2.2.2.2.2.2.1
theorem dL_law_1808 : decode cL_law 1808 = .ok (.iload 5, 2) := ldc_101.2.2.2.2.2.2.2.1
theorem dL_law_1810 : decode cL_law 1810 = .ok (.iconst 2, 1) := ldc_101.2.2.2.2.2.2.2.2.1
theorem dL_law_1811 : decode cL_law 1811 = .ok (.iadd, 1) := ldc_101.2.2.2.2.2.2.2.2.2
set_option maxRecDepth 100000 in
theorem ldc_102 : decode cL_law 1812 = .ok (.iaload, 1) ∧ decode cL_law 1813 = .ok (.aload_n 0, 1) ∧ decode cL_law 1814 = .ok (.iload 5, 2) ∧ decode cL_law 1816 = .ok (.iconst 3, 1) ∧ decode cL_law 1817 = .ok (.iadd, 1) ∧ decode cL_law 1818 = .ok (.iaload, 1) ∧ decode cL_law 1819 = .ok (.aload_n 0, 1) ∧ decode cL_law 1820 = .ok (.iload 5, 2) ∧ decode cL_law 1822 = .ok (.iconst 4, 1) ∧ decode cL_law 1823 = .ok (.iadd, 1) := by decide +kernel
theorem dL_law_1812 : decode cL_law 1812 = .ok (.iaload, 1) := ldc_102.1
theorem dL_law_1813 : decode cL_law 1813 = .ok (.aload_n 0, 1) := ldc_102.2.1
theorem dL_law_1814 : decode cL_law 1814 = .ok (.iload 5, 2) := ldc_102.2.2.1
theorem dL_law_1816 : decode cL_law 1816 = .ok (.iconst 3, 1) := ldc_102.2.2.2.1
theorem dL_law_1817 : decode cL_law 1817 = .ok (.iadd, 1) := ldc_102.2.2.2.2.1
theorem dL_law_1818 : decode cL_law 1818 = .ok (.iaload, 1) := ldc_102.2.2.2.2.2.1
theorem dL_law_1819 : decode cL_law 1819 = .ok (.aload_n 0, 1) := ldc_102.2.2.2.2.2.2.1
theorem dL_law_1820 : decode cL_law 1820 = .ok (.iload 5, 2) := ldc_102.2.2.2.2.2.2.2.1
theorem dL_law_1822 : decode cL_law 1822 = .ok (.iconst 4, 1) := ldc_102.2.2.2.2.2.2.2.2.1
theorem dL_law_1823 : decode cL_law 1823 = .ok (.iadd, 1) := ldc_102.2.2.2.2.2.2.2.2.2
set_option maxRecDepth 100000 in
theorem ldc_103 : decode cL_law 1824 = .ok (.iaload, 1) ∧ decode cL_law 1825 = .ok (.aload_n 0, 1) ∧ decode cL_law 1826 = .ok (.iload 5, 2) ∧ decode cL_law 1828 = .ok (.iconst 5, 1) ∧ decode cL_law 1829 = .ok (.iadd, 1) ∧ decode cL_law 1830 = .ok (.iaload, 1) ∧ decode cL_law 1831 = .ok (.aload_n 3, 1) ∧ decode cL_law 1832 = .ok (.invokestatic 330, 3) ∧ decode cL_law 1835 = .ok (.istore 6, 2) ∧ decode cL_law 1837 = .ok (.aload_n 2, 1) := by decide +kernel
theorem dL_law_1824 : decode cL_law 1824 = .ok (.iaload, 1) := ldc_103.1
theorem dL_law_1825 : decode cL_law 1825 = .ok (.aload_n 0, 1) := ldc_103.2.1
theorem dL_law_1826 : decode cL_law 1826 = .ok (.iload 5, 2) := ldc_103.2.2.1
theorem dL_law_1828 : decode cL_law 1828 = .ok (.iconst 5, 1) := ldc_103.2.2.2.1
theorem dL_law_1829 : decode cL_law 1829 = .ok (.iadd, 1) := ldc_103.2.2.2.2.1
theorem dL_law_1830 : decode cL_law 1830 = .ok (.iaload, 1) := ldc_103.2.2.2.2.2.1
theorem dL_law_1831 : decode cL_law 1831 = .ok (.aload_n 3, 1) := ldc_103.2.2.2.2.2.2.1
theorem dL_law_1832 : decode cL_law 1832 = .ok (.invokestatic 330, 3) := ldc_103.2.2.2.2.2.2.2.1
theorem dL_law_1835 : decode cL_law 1835 = .ok (.istore 6, 2) := ldc_103.2.2.2.2.2.2.2.2.1
theorem dL_law_1837 : decode cL_law 1837 = .ok (.aload_n 2, 1) := ldc_103.2.2.2.2.2.2.2.2.2
set_option maxRecDepth 100000 in
theorem ldc_104 : decode cL_law 1838 = .ok (.aload_n 0, 1) ∧ decode cL_law 1839 = .ok (.iload 5, 2) ∧ decode cL_law 1841 = .ok (.iconst 1, 1) ∧ decode cL_law 1842 = .ok (.iadd, 1) ∧ decode cL_law 1843 = .ok (.iaload, 1) ∧ decode cL_law 1844 = .ok (.aload_n 0, 1) ∧ decode cL_law 1845 = .ok (.iload 5, 2) ∧ decode cL_law 1847 = .ok (.iconst 2, 1) ∧ decode cL_law 1848 = .ok (.iadd, 1) ∧ decode cL_law 1849 = .ok (.iaload, 1) := by decide +kernel
theorem dL_law_1838 : decode cL_law 1838 = .ok (.aload_n 0, 1) := ldc_104.1
theorem dL_law_1839 : decode cL_law 1839 = .ok (.iload 5, 2) := ldc_104.2.1
theorem dL_law_1841 : decode cL_law 1841 = .ok (.iconst 1, 1) := ldc_104.2.2.1
theorem dL_law_1842 : decode cL_law 1842 = .ok (.iadd, 1) := ldc_104.2.2.2.1
theorem dL_law_1843 : decode cL_law 1843 = .ok (.iaload, 1) := ldc_104.2.2.2.2.1
theorem dL_law_1844 : decode cL_law 1844 = .ok (.aload_n 0, 1) := ldc_104.2.2.2.2.2.1
theorem dL_law_1845 : decode cL_law 1845 = .ok (.iload 5, 2) := ldc_104.2.2.2.2.2.2.1
theorem dL_law_1847 : decode cL_law 1847 = .ok (.iconst 2, 1) := ldc_104.2.2.2.2.2.2.2.1
theorem dL_law_1848 : decode cL_law 1848 = .ok (.iadd, 1) := ldc_104.2.2.2.2.2.2.2.2.1
theorem dL_law_1849 : decode cL_law 1849 = .ok (.iaload, 1) := ldc_104.2.2.2.2.2.2.2.2.2
set_option maxRecDepth 100000 in
theorem ldc_105 : decode cL_law 1850 = .ok (.aload_n 0, 1) ∧ decode cL_law 1851 = .ok (.iload 5, 2) ∧ decode cL_law 1853 = .ok (.iconst 3, 1) ∧ decode cL_law 1854 = .ok (.iadd, 1) ∧ decode cL_law 1855 = .ok (.iaload, 1) ∧ decode cL_law 1856 = .ok (.aload_n 0, 1) ∧ decode cL_law 1857 = .ok (.iload 5, 2) ∧ decode cL_law 1859 = .ok (.iconst 4, 1) ∧ decode cL_law 1860 = .ok (.iadd, 1) ∧ decode cL_law 1861 = .ok (.iaload, 1) := by decide +kernel
theorem dL_law_1850 : decode cL_law 1850 = .ok (.aload_n 0, 1) := ldc_105.1
theorem dL_law_1851 : decode cL_law 1851 = .ok (.iload 5, 2) := ldc_105.2.1
theorem dL_law_1853 : decode cL_law 1853 = .ok (.iconst 3, 1) := ldc_105.2.2.1
theorem dL_law_1854 : decode cL_law 1854 = .ok (.iadd, 1) := ldc_105.2.2.2.1
theorem dL_law_1855 : decode cL_law 1855 = .ok (.iaload, 1) := ldc_105.2.2.2.2.1
theorem dL_law_1856 : decode cL_law 1856 = .ok (.aload_n 0, 1) := ldc_105.2.2.2.2.2.1
theorem dL_law_1857 : decode cL_law 1857 = .ok (.iload 5, 2) := ldc_105.2.2.2.2.2.2.1
theorem dL_law_1859 : decode cL_law 1859 = .ok (.iconst 4, 1) := ldc_105.2.2.2.2.2.2.2.1
theorem dL_law_1860 : decode cL_law 1860 = .ok (.iadd, 1) := ldc_105.2.2.2.2.2.2.2.2.1
theorem dL_law_1861 : decode cL_law 1861 = .ok (.iaload, 1) := ldc_105.2.2.2.2.2.2.2.2.2
set_option maxRecDepth 100000 in
theorem ldc_106 : decode cL_law 1862 = .ok (.aload_n 0, 1) ∧ decode cL_law 1863 = .ok (.iload 5, 2) ∧ decode cL_law 1865 = .ok (.iconst 5, 1) ∧ decode cL_law 1866 = .ok (.iadd, 1) ∧ decode cL_law 1867 = .ok (.iaload, 1) ∧ decode cL_law 1868 = .ok (.invokevirtual 332, 3) ∧ decode cL_law 1871 = .ok (.lstore 7, 2) ∧ decode cL_law 1873 = .ok (.goto 128, 3) ∧ decode cL_law 1876 = .ok (.aload_n 1, 1) ∧ decode cL_law 1877 = .ok (.aload_n 0, 1) := by decide +kernel
theorem dL_law_1862 : decode cL_law 1862 = .ok (.aload_n 0, 1) := ldc_106.1
theorem dL_law_1863 : decode cL_law 1863 = .ok (.iload 5, 2) := ldc_106.2.1
theorem dL_law_1865 : decode cL_law 1865 = .ok (.iconst 5, 1) := ldc_106.2.2.1
theorem dL_law_1866 : decode cL_law 1866 = .ok (.iadd, 1) := ldc_106.2.2.2.1
theorem dL_law_1867 : decode cL_law 1867 = .ok (.iaload, 1) := ldc_106.2.2.2.2.1
theorem dL_law_1868 : decode cL_law 1868 = .ok (.invokevirtual 332, 3) := ldc_106.2.2.2.2.2.1
theorem dL_law_1871 : decode cL_law 1871 = .ok (.lstore 7, 2) := ldc_106.2.2.2.2.2.2.1
theorem dL_law_1873 : decode cL_law 1873 = .ok (.goto 128, 3) := ldc_106.2.2.2.2.2.2.2.1
theorem dL_law_1876 : decode cL_law 1876 = .ok (.aload_n 1, 1) := ldc_106.2.2.2.2.2.2.2.2.1
theorem dL_law_1877 : decode cL_law 1877 = .ok (.aload_n 0, 1) := ldc_106.2.2.2.2.2.2.2.2.2
set_option maxRecDepth 100000 in
theorem ldc_107 : decode cL_law 1878 = .ok (.iload 5, 2) ∧ decode cL_law 1880 = .ok (.iconst 1, 1) ∧ decode cL_law 1881 = .ok (.iadd, 1) ∧ decode cL_law 1882 = .ok (.iaload, 1) ∧ decode cL_law 1883 = .ok (.aload_n 3, 1) ∧ decode cL_law 1884 = .ok (.invokestatic 333, 3) ∧ decode cL_law 1887 = .ok (.istore 6, 2) ∧ decode cL_law 1889 = .ok (.aload_n 2, 1) ∧ decode cL_law 1890 = .ok (.aload_n 0, 1) ∧ decode cL_law 1891 = .ok (.iload 5, 2) := by decide +kernel
theorem dL_law_1878 : decode cL_law 1878 = .ok (.iload 5, 2) := ldc_107.1
theorem dL_law_1880 : decode cL_law 1880 = .ok (.iconst 1, 1) := ldc_107.2.1
theorem dL_law_1881 : decode cL_law 1881 = .ok (.iadd, 1) := ldc_107.2.2.1
theorem dL_law_1882 : decode cL_law 1882 = .ok (.iaload, 1) := ldc_107.2.2.2.1
theorem dL_law_1883 : decode cL_law 1883 = .ok (.aload_n 3, 1) := ldc_107.2.2.2.2.1
theorem dL_law_1884 : decode cL_law 1884 = .ok (.invokestatic 333, 3) := ldc_107.2.2.2.2.2.1
theorem dL_law_1887 : decode cL_law 1887 = .ok (.istore 6, 2) := ldc_107.2.2.2.2.2.2.1
theorem dL_law_1889 : decode cL_law 1889 = .ok (.aload_n 2, 1) := ldc_107.2.2.2.2.2.2.2.1
theorem dL_law_1890 : decode cL_law 1890 = .ok (.aload_n 0, 1) := ldc_107.2.2.2.2.2.2.2.2.1
theorem dL_law_1891 : decode cL_law 1891 = .ok (.iload 5, 2) := ldc_107.2.2.2.2.2.2.2.2.2
set_option maxRecDepth 100000 in
theorem ldc_108 : decode cL_law 1893 = .ok (.iconst 1, 1) ∧ decode cL_law 1894 = .ok (.iadd, 1) ∧ decode cL_law 1895 = .ok (.iaload, 1) ∧ decode cL_law 1896 = .ok (.invokevirtual 335, 3) ∧ decode cL_law 1899 = .ok (.istore 7, 2) ∧ decode cL_law 1901 = .ok (.goto 100, 3) ∧ decode cL_law 1904 = .ok (.aload_n 1, 1) ∧ decode cL_law 1905 = .ok (.aload_n 0, 1) ∧ decode cL_law 1906 = .ok (.iload 5, 2) ∧ decode cL_law 1908 = .ok (.iconst 1, 1) := by decide +kernel
theorem dL_law_1893 : decode cL_law 1893 = .ok (.iconst 1, 1) := ldc_108.1
theorem dL_law_1894 : decode cL_law 1894 = .ok (.iadd, 1) := ldc_108.2.1
theorem dL_law_1895 : decode cL_law 1895 = .ok (.iaload, 1) := ldc_108.2.2.1
theorem dL_law_1896 : decode cL_law 1896 = .ok (.invokevirtual 335, 3) := ldc_108.2.2.2.1
theorem dL_law_1899 : decode cL_law 1899 = .ok (.istore 7, 2) := ldc_108.2.2.2.2.1
theorem dL_law_1901 : decode cL_law 1901 = .ok (.goto 100, 3) := ldc_108.2.2.2.2.2.1
theorem dL_law_1904 : decode cL_law 1904 = .ok (.aload_n 1, 1) := ldc_108.2.2.2.2.2.2.1
theorem dL_law_1905 : decode cL_law 1905 = .ok (.aload_n 0, 1) := ldc_108.2.2.2.2.2.2.2.1
theorem dL_law_1906 : decode cL_law 1906 = .ok (.iload 5, 2) := ldc_108.2.2.2.2.2.2.2.2.1
theorem dL_law_1908 : decode cL_law 1908 = .ok (.iconst 1, 1) := ldc_108.2.2.2.2.2.2.2.2.2
set_option maxRecDepth 100000 in
theorem ldc_109 : decode cL_law 1909 = .ok (.iadd, 1) ∧ decode cL_law 1910 = .ok (.iaload, 1) ∧ decode cL_law 1911 = .ok (.aload_n 3, 1) ∧ decode cL_law 1912 = .ok (.invokestatic 336, 3) ∧ decode cL_law 1915 = .ok (.istore 6, 2) ∧ decode cL_law 1917 = .ok (.aload_n 2, 1) ∧ decode cL_law 1918 = .ok (.aload_n 0, 1) ∧ decode cL_law 1919 = .ok (.iload 5, 2) ∧ decode cL_law 1921 = .ok (.iconst 1, 1) ∧ decode cL_law 1922 = .ok (.iadd, 1) := by decide +kernel
theorem dL_law_1909 : decode cL_law 1909 = .ok (.iadd, 1) := ldc_109.1
theorem dL_law_1910 : decode cL_law 1910 = .ok (.iaload, 1) := ldc_109.2.1
theorem dL_law_1911 : decode cL_law 1911 = .ok (.aload_n 3, 1) := ldc_109.2.2.1
theorem dL_law_1912 : decode cL_law 1912 = .ok (.invokestatic 336, 3) := ldc_109.2.2.2.1
theorem dL_law_1915 : decode cL_law 1915 = .ok (.istore 6, 2) := ldc_109.2.2.2.2.1
theorem dL_law_1917 : decode cL_law 1917 = .ok (.aload_n 2, 1) := ldc_109.2.2.2.2.2.1
theorem dL_law_1918 : decode cL_law 1918 = .ok (.aload_n 0, 1) := ldc_109.2.2.2.2.2.2.1
theorem dL_law_1919 : decode cL_law 1919 = .ok (.iload 5, 2) := ldc_109.2.2.2.2.2.2.2.1
theorem dL_law_1921 : decode cL_law 1921 = .ok (.iconst 1, 1) := ldc_109.2.2.2.2.2.2.2.2.1
theorem dL_law_1922 : decode cL_law 1922 = .ok (.iadd, 1) := ldc_109.2.2.2.2.2.2.2.2.2
set_option maxRecDepth 100000 in
theorem ldc_110 : decode cL_law 1923 = .ok (.iaload, 1) ∧ decode cL_law 1924 = .ok (.invokevirtual 338, 3) ∧ decode cL_law 1927 = .ok (.lstore 7, 2) ∧ decode cL_law 1929 = .ok (.goto 72, 3) ∧ decode cL_law 1932 = .ok (.aload_n 1, 1) ∧ decode cL_law 1933 = .ok (.aload_n 0, 1) ∧ decode cL_law 1934 = .ok (.iload 5, 2) ∧ decode cL_law 1936 = .ok (.iconst 1, 1) ∧ decode cL_law 1937 = .ok (.iadd, 1) ∧ decode cL_law 1938 = .ok (.iaload, 1) := by decide +kernel
theorem dL_law_1923 : decode cL_law 1923 = .ok (.iaload, 1) := ldc_110.1
theorem dL_law_1924 : decode cL_law 1924 = .ok (.invokevirtual 338, 3) := ldc_110.2.1
theorem dL_law_1927 : decode cL_law 1927 = .ok (.lstore 7, 2) := ldc_110.2.2.1
theorem dL_law_1929 : decode cL_law 1929 = .ok (.goto 72, 3) := ldc_110.2.2.2.1
theorem dL_law_1932 : decode cL_law 1932 = .ok (.aload_n 1, 1) := ldc_110.2.2.2.2.1
theorem dL_law_1933 : decode cL_law 1933 = .ok (.aload_n 0, 1) := ldc_110.2.2.2.2.2.1
theorem dL_law_1934 : decode cL_law 1934 = .ok (.iload 5, 2) := ldc_110.2.2.2.2.2.2.1
theorem dL_law_1936 : decode cL_law 1936 = .ok (.iconst 1, 1) := ldc_110.2.2.2.2.2.2.2.1
theorem dL_law_1937 : decode cL_law 1937 = .ok (.iadd, 1) := ldc_110.2.2.2.2.2.2.2.2.1
theorem dL_law_1938 : decode cL_law 1938 = .ok (.iaload, 1) := ldc_110.2.2.2.2.2.2.2.2.2
set_option maxRecDepth 100000 in
theorem ldc_111 : decode cL_law 1939 = .ok (.aload 4, 2) ∧ decode cL_law 1941 = .ok (.invokestatic 339, 3) ∧ decode cL_law 1944 = .ok (.istore 6, 2) ∧ decode cL_law 1946 = .ok (.aload_n 2, 1) ∧ decode cL_law 1947 = .ok (.aload_n 0, 1) ∧ decode cL_law 1948 = .ok (.iload 5, 2) ∧ decode cL_law 1950 = .ok (.iconst 1, 1) ∧ decode cL_law 1951 = .ok (.iadd, 1) ∧ decode cL_law 1952 = .ok (.iaload, 1) ∧ decode cL_law 1953 = .ok (.invokevirtual 342, 3) := by decide +kernel
theorem dL_law_1939 : decode cL_law 1939 = .ok (.aload 4, 2) := ldc_111.1
theorem dL_law_1941 : decode cL_law 1941 = .ok (.invokestatic 339, 3) := ldc_111.2.1
theorem dL_law_1944 : decode cL_law 1944 = .ok (.istore 6, 2) := ldc_111.2.2.1
theorem dL_law_1946 : decode cL_law 1946 = .ok (.aload_n 2, 1) := ldc_111.2.2.2.1
theorem dL_law_1947 : decode cL_law 1947 = .ok (.aload_n 0, 1) := ldc_111.2.2.2.2.1
theorem dL_law_1948 : decode cL_law 1948 = .ok (.iload 5, 2) := ldc_111.2.2.2.2.2.1
theorem dL_law_1950 : decode cL_law 1950 = .ok (.iconst 1, 1) := ldc_111.2.2.2.2.2.2.1
theorem dL_law_1951 : decode cL_law 1951 = .ok (.iadd, 1) := ldc_111.2.2.2.2.2.2.2.1
theorem dL_law_1952 : decode cL_law 1952 = .ok (.iaload, 1) := ldc_111.2.2.2.2.2.2.2.2.1
theorem dL_law_1953 : decode cL_law 1953 = .ok (.invokevirtual 342, 3) := ldc_111.2.2.2.2.2.2.2.2.2
set_option maxRecDepth 100000 in
theorem ldc_112 : decode cL_law 1956 = .ok (.dstore 7, 2) ∧ decode cL_law 1958 = .ok (.goto 43, 3) ∧ decode cL_law 1961 = .ok (.aload_n 1, 1) ∧ decode cL_law 1962 = .ok (.aload_n 0, 1) ∧ decode cL_law 1963 = .ok (.iload 5, 2) ∧ decode cL_law 1965 = .ok (.iconst 1, 1) ∧ decode cL_law 1966 = .ok (.iadd, 1) ∧ decode cL_law 1967 = .ok (.iaload, 1) ∧ decode cL_law 1968 = .ok (.aload_n 0, 1) ∧ decode cL_law 1969 = .ok (.iload 5, 2) := by decide +kernel
theorem dL_law_1956 : decode cL_law 1956 = .ok (.dstore 7, 2) := ldc_112.1
theorem dL_law_1958 : decode cL_law 1958 = .ok (.goto 43, 3) := ldc_112.2.1
theorem dL_law_1961 : decode cL_law 1961 = .ok (.aload_n 1, 1) := ldc_112.2.2.1
theorem dL_law_1962 : decode cL_law 1962 = .ok (.aload_n 0, 1) := ldc_112.2.2.2.1
theorem dL_law_1963 : decode cL_law 1963 = .ok (.iload 5, 2) := ldc_112.2.2.2.2.1
theorem dL_law_1965 : decode cL_law 1965 = .ok (.iconst 1, 1) := ldc_112.2.2.2.2.2.1
theorem dL_law_1966 : decode cL_law 1966 = .ok (.iadd, 1) := ldc_112.2.2.2.2.2.2.1
theorem dL_law_1967 : decode cL_law 1967 = .ok (.iaload, 1) := ldc_112.2.2.2.2.2.2.2.1
theorem dL_law_1968 : decode cL_law 1968 = .ok (.aload_n 0, 1) := ldc_112.2.2.2.2.2.2.2.2.1
theorem dL_law_1969 : decode cL_law 1969 = .ok (.iload 5, 2) := ldc_112.2.2.2.2.2.2.2.2.2
set_option maxRecDepth 100000 in
theorem ldc_113 : decode cL_law 1971 = .ok (.iconst 2, 1) ∧ decode cL_law 1972 = .ok (.iadd, 1) ∧ decode cL_law 1973 = .ok (.iaload, 1) ∧ decode cL_law 1974 = .ok (.aload_n 3, 1) ∧ decode cL_law 1975 = .ok (.invokestatic 343, 3) ∧ decode cL_law 1978 = .ok (.istore 6, 2) ∧ decode cL_law 1980 = .ok (.aload_n 2, 1) ∧ decode cL_law 1981 = .ok (.aload_n 0, 1) ∧ decode cL_law 1982 = .ok (.iload 5, 2) ∧ decode cL_law 1984 = .ok (.iconst 1, 1) := by decide +kernel
theorem dL_law_1971 : decode cL_law 1971 = .ok (.iconst 2, 1) := ldc_113.1
theorem dL_law_1972 : decode cL_law 1972 = .ok (.iadd, 1) := ldc_113.2.1
theorem dL_law_1973 : decode cL_law 1973 = .ok (.iaload, 1) := ldc_113.2.2.1
theorem dL_law_1974 : decode cL_law 1974 = .ok (.aload_n 3, 1) := ldc_113.2.2.2.1
theorem dL_law_1975 : decode cL_law 1975 = .ok (.invokestatic 343, 3) := ldc_113.2.2.2.2.1
theorem dL_law_1978 : decode cL_law 1978 = .ok (.istore 6, 2) := ldc_113.2.2.2.2.2.1
theorem dL_law_1980 : decode cL_law 1980 = .ok (.aload_n 2, 1) := ldc_113.2.2.2.2.2.2.1
theorem dL_law_1981 : decode cL_law 1981 = .ok (.aload_n 0, 1) := ldc_113.2.2.2.2.2.2.2.1
theorem dL_law_1982 : decode cL_law 1982 = .ok (.iload 5, 2) := ldc_113.2.2.2.2.2.2.2.2.1
theorem dL_law_1984 : decode cL_law 1984 = .ok (.iconst 1, 1) := ldc_113.2.2.2.2.2.2.2.2.2
set_option maxRecDepth 100000 in
theorem ldc_114 : decode cL_law 1985 = .ok (.iadd, 1) ∧ decode cL_law 1986 = .ok (.iaload, 1) ∧ decode cL_law 1987 = .ok (.aload_n 0, 1) ∧ decode cL_law 1988 = .ok (.iload 5, 2) ∧ decode cL_law 1990 = .ok (.iconst 2, 1) ∧ decode cL_law 1991 = .ok (.iadd, 1) ∧ decode cL_law 1992 = .ok (.iaload, 1) ∧ decode cL_law 1993 = .ok (.invokevirtual 345, 3) ∧ decode cL_law 1996 = .ok (.istore 7, 2) ∧ decode cL_law 1998 = .ok (.goto 3, 3) := by decide +kernel
theorem dL_law_1985 : decode cL_law 1985 = .ok (.iadd, 1) := ldc_114.1
theorem dL_law_1986 : decode cL_law 1986 = .ok (.iaload, 1) := ldc_114.2.1
theorem dL_law_1987 : decode cL_law 1987 = .ok (.aload_n 0, 1) := ldc_114.2.2.1
theorem dL_law_1988 : decode cL_law 1988 = .ok (.iload 5, 2) := ldc_114.2.2.2.1
theorem dL_law_1990 : decode cL_law 1990 = .ok (.iconst 2, 1) := ldc_114.2.2.2.2.1
theorem dL_law_1991 : decode cL_law 1991 = .ok (.iadd, 1) := ldc_114.2.2.2.2.2.1
theorem dL_law_1992 : decode cL_law 1992 = .ok (.iaload, 1) := ldc_114.2.2.2.2.2.2.1
theorem dL_law_1993 : decode cL_law 1993 = .ok (.invokevirtual 345, 3) := ldc_114.2.2.2.2.2.2.2.1
theorem dL_law_1996 : decode cL_law 1996 = .ok (.istore 7, 2) := ldc_114.2.2.2.2.2.2.2.2.1
theorem dL_law_1998 : decode cL_law 1998 = .ok (.goto 3, 3) := ldc_114.2.2.2.2.2.2.2.2.2
set_option maxRecDepth 100000 in
theorem ldc_115 : decode cL_law 2001 = .ok (.iinc 5 7, 3) ∧ decode cL_law 2004 = .ok (.goto (-1976), 3) ∧ decode cL_law 2007 = .ok (.iconst 1, 1) ∧ decode cL_law 2008 = .ok (.ireturn, 1) := by decide +kernel
theorem dL_law_2001 : decode cL_law 2001 = .ok (.iinc 5 7, 3) := ldc_115.1
theorem dL_law_2004 : decode cL_law 2004 = .ok (.goto (-1976), 3) := ldc_115.2.1
theorem dL_law_2007 : decode cL_law 2007 = .ok (.iconst 1, 1) := ldc_115.2.2.1
theorem dL_law_2008 : decode cL_law 2008 = .ok (.ireturn, 1) := ldc_115.2.2.2

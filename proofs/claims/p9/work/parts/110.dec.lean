set_option maxRecDepth 100000 in
theorem ldc_0 : decode cL_law 0 = .ok (.new 8, 3) ∧ decode cL_law 3 = .ok (.dup, 1) ∧ decode cL_law 4 = .ok (.invokespecial 117, 3) ∧ decode cL_law 7 = .ok (.astore_n 1, 1) ∧ decode cL_law 8 = .ok (.new 118, 3) ∧ decode cL_law 11 = .ok (.dup, 1) ∧ decode cL_law 12 = .ok (.invokespecial 120, 3) ∧ decode cL_law 15 = .ok (.astore_n 2, 1) ∧ decode cL_law 16 = .ok (.iconst 1, 1) ∧ decode cL_law 17 = .ok (.newarray .long, 2) := by decide +kernel
theorem dL_law_0 : decode cL_law 0 = .ok (.new 8, 3) := ldc_0.1
theorem dL_law_3 : decode cL_law 3 = .ok (.dup, 1) := ldc_0.2.1
theorem dL_law_4 : decode cL_law 4 = .ok (.invokespecial 117, 3) := ldc_0.2.2.1
theorem dL_law_7 : decode cL_law 7 = .ok (.astore_n 1, 1) := ldc_0.2.2.2.1
theorem dL_law_8 : decode cL_law 8 = .ok (.new 118, 3) := ldc_0.2.2.2.2.1
theorem dL_law_11 : decode cL_law 11 = .ok (.dup, 1) := ldc_0.2.2.2.2.2.1
theorem dL_law_12 : decode cL_law 12 = .ok (.invokespecial 120, 3) := ldc_0.2.2.2.2.2.2.1
theorem dL_law_15 : decode cL_law 15 = .ok (.astore_n 2, 1) := ldc_0.2.2.2.2.2.2.2.1
theorem dL_law_16 : decode cL_law 16 = .ok (.iconst 1, 1) := ldc_0.2.2.2.2.2.2.2.2.1
theorem dL_law_17 : decode cL_law 17 = .ok (.newarray .long, 2) := ldc_0.2.2.2.2.2.2.2.2.2
set_option maxRecDepth 100000 in
theorem ldc_1 : decode cL_law 19 = .ok (.astore_n 3, 1) ∧ decode cL_law 20 = .ok (.iconst 1, 1) ∧ decode cL_law 21 = .ok (.newarray .double, 2) ∧ decode cL_law 23 = .ok (.astore 4, 2) ∧ decode cL_law 25 = .ok (.iconst 0, 1) ∧ decode cL_law 26 = .ok (.istore 5, 2) ∧ decode cL_law 28 = .ok (.iload 5, 2) ∧ decode cL_law 30 = .ok (.aload_n 0, 1) ∧ decode cL_law 31 = .ok (.arraylength, 1) ∧ decode cL_law 32 = .ok (.bipush 7, 2) := by decide +kernel
theorem dL_law_19 : decode cL_law 19 = .ok (.astore_n 3, 1) := ldc_1.1
theorem dL_law_20 : decode cL_law 20 = .ok (.iconst 1, 1) := ldc_1.2.1
theorem dL_law_21 : decode cL_law 21 = .ok (.newarray .double, 2) := ldc_1.2.2.1
theorem dL_law_23 : decode cL_law 23 = .ok (.astore 4, 2) := ldc_1.2.2.2.1
theorem dL_law_25 : decode cL_law 25 = .ok (.iconst 0, 1) := ldc_1.2.2.2.2.1
theorem dL_law_26 : decode cL_law 26 = .ok (.istore 5, 2) := ldc_1.2.2.2.2.2.1
theorem dL_law_28 : decode cL_law 28 = .ok (.iload 5, 2) := ldc_1.2.2.2.2.2.2.1
theorem dL_law_30 : decode cL_law 30 = .ok (.aload_n 0, 1) := ldc_1.2.2.2.2.2.2.2.1
theorem dL_law_31 : decode cL_law 31 = .ok (.arraylength, 1) := ldc_1.2.2.2.2.2.2.2.2.1
theorem dL_law_32 : decode cL_law 32 = .ok (.bipush 7, 2) := ldc_1.2.2.2.2.2.2.2.2.2
set_option maxRecDepth 100000 in
theorem ldc_2 : decode cL_law 34 = .ok (.isub, 1) ∧ decode cL_law 35 = .ok (.if_icmp .gt 1965, 3) ∧ decode cL_law 38 = .ok (.aload_n 0, 1) ∧ decode cL_law 39 = .ok (.iload 5, 2) ∧ decode cL_law 41 = .ok (.iaload, 1) ∧ decode cL_law 42 = .ok (.bipush 63, 2) ∧ decode cL_law 44 = .ok (.iand, 1) ∧ decode cL_law 45 = .ok (.tableswitch 1949 0 58 #[251, 324, 349, 362, 375, 388, 401, 477, 595, 623, 636, 649, 689, 702, 715, 740, 781, 806, 819, 847, 875, 915, 943, 999, 1010, 1038, 1051, 1064, 1077, 1090, 1103, 1116, 1129, 1142, 1170, 1210, 1238, 1251, 1279, 1307, 1347, 1360, 1373, 1401, 1414, 1442, 1459, 1472, 1485, 1525, 1586, 1626, 1666, 1707, 1748, 1824, 1852, 1880, 1909], 251) ∧ decode cL_law 296 = .ok (.aload_n 1, 1) ∧ decode cL_law 297 = .ok (.aload_n 0, 1) := by decide +kernel
theorem dL_law_34 : decode cL_law 34 = .ok (.isub, 1) := ldc_2.1
theorem dL_law_35 : decode cL_law 35 = .ok (.if_icmp .gt 1965, 3) := ldc_2.2.1
theorem dL_law_38 : decode cL_law 38 = .ok (.aload_n 0, 1) := ldc_2.2.2.1
theorem dL_law_39 : decode cL_law 39 = .ok (.iload 5, 2) := ldc_2.2.2.2.1
theorem dL_law_41 : decode cL_law 41 = .ok (.iaload, 1) := ldc_2.2.2.2.2.1
theorem dL_law_42 : decode cL_law 42 = .ok (.bipush 63, 2) := ldc_2.2.2.2.2.2.1
theorem dL_law_44 : decode cL_law 44 = .ok (.iand, 1) := ldc_2.2.2.2.2.2.2.1
theorem dL_law_45 : decode cL_law 45 = .ok (.tableswitch 1949 0 58 #[251, 324, 349, 362, 375, 388, 401, 477, 595, 623, 636, 649, 689, 702, 715, 740, 781, 806, 819, 847, 875, 915, 943, 999, 1010, 1038, 1051, 1064, 1077, 1090, 1103, 1116, 1129, 1142, 1170, 1210, 1238, 1251, 1279, 1307, 1347, 1360, 1373, 1401, 1414, 1442, 1459, 1472, 1485, 1525, 1586, 1626, 1666, 1707, 1748, 1824, 1852, 1880, 1909], 251) := ldc_2.2.2.2.2.2.2.2.1
theorem dL_law_296 : decode cL_law 296 = .ok (.aload_n 1, 1) := ldc_2.2.2.2.2.2.2.2.2.1
theorem dL_law_297 : decode cL_law 297 = .ok (.aload_n 0, 1) := ldc_2.2.2.2.2.2.2.2.2.2
set_option maxRecDepth 100000 in
theorem ldc_3 : decode cL_law 298 = .ok (.iload 5, 2) ∧ decode cL_law 300 = .ok (.iconst 1, 1) ∧ decode cL_law 301 = .ok (.iadd, 1) ∧ decode cL_law 302 = .ok (.iaload, 1) ∧ decode cL_law 303 = .ok (.aload_n 0, 1) ∧ decode cL_law 304 = .ok (.iload 5, 2) ∧ decode cL_law 306 = .ok (.iconst 2, 1) ∧ decode cL_law 307 = .ok (.iadd, 1) ∧ decode cL_law 308 = .ok (.iaload, 1) ∧ decode cL_law 309 = .ok (.aload_n 0, 1) := by decide +kernel
theorem dL_law_298 : decode cL_law 298 = .ok (.iload 5, 2) := ldc_3.1
theorem dL_law_300 : decode cL_law 300 = .ok (.iconst 1, 1) := ldc_3.2.1
theorem dL_law_301 : decode cL_law 301 = .ok (.iadd, 1) := ldc_3.2.2.1
theorem dL_law_302 : decode cL_law 302 = .ok (.iaload, 1) := ldc_3.2.2.2.1
theorem dL_law_303 : decode cL_law 303 = .ok (.aload_n 0, 1) := ldc_3.2.2.2.2.1
theorem dL_law_304 : decode cL_law 304 = .ok (.iload 5, 2) := ldc_3.2.2.2.2.2.1
theorem dL_law_306 : decode cL_law 306 = .ok (.iconst 2, 1) := ldc_3.2.2.2.2.2.2.1
theorem dL_law_307 : decode cL_law 307 = .ok (.iadd, 1) := ldc_3.2.2.2.2.2.2.2.1
theorem dL_law_308 : decode cL_law 308 = .ok (.iaload, 1) := ldc_3.2.2.2.2.2.2.2.2.1
theorem dL_law_309 : decode cL_law 309 = .ok (.aload_n 0, 1) := ldc_3.2.2.2.2.2.2.2.2.2
set_option maxRecDepth 100000 in
theorem ldc_4 : decode cL_law 310 = .ok (.iload 5, 2) ∧ decode cL_law 312 = .ok (.iconst 3, 1) ∧ decode cL_law 313 = .ok (.iadd, 1) ∧ decode cL_law 314 = .ok (.iaload, 1) ∧ decode cL_law 315 = .ok (.aload_n 0, 1) ∧ decode cL_law 316 = .ok (.iload 5, 2) ∧ decode cL_law 318 = .ok (.iconst 4, 1) ∧ decode cL_law 319 = .ok (.iadd, 1) ∧ decode cL_law 320 = .ok (.iaload, 1) ∧ decode cL_law 321 = .ok (.aload_n 0, 1) := by decide +kernel
theorem dL_law_310 : decode cL_law 310 = .ok (.iload 5, 2) := ldc_4.1
theorem dL_law_312 : decode cL_law 312 = .ok (.iconst 3, 1) := ldc_4.2.1
theorem dL_law_313 : decode cL_law 313 = .ok (.iadd, 1) := ldc_4.2.2.1
theorem dL_law_314 : decode cL_law 314 = .ok (.iaload, 1) := ldc_4.2.2.2.1
theorem dL_law_315 : decode cL_law 315 = .ok (.aload_n 0, 1) := ldc_4.2.2.2.2.1
theorem dL_law_316 : decode cL_law 316 = .ok (.iload 5, 2) := ldc_4.2.2.2.2.2.1
theorem dL_law_318 : decode cL_law 318 = .ok (.iconst 4, 1) := ldc_4.2.2.2.2.2.2.1
theorem dL_law_319 : decode cL_law 319 = .ok (.iadd, 1) := ldc_4.2.2.2.2.2.2.2.1
theorem dL_law_320 : decode cL_law 320 = .ok (.iaload, 1) := ldc_4.2.2.2.2.2.2.2.2.1
theorem dL_law_321 : decode cL_law 321 = .ok (.aload_n 0, 1) := ldc_4.2.2.2.2.2.2.2.2.2
set_option maxRecDepth 100000 in
theorem ldc_5 : decode cL_law 322 = .ok (.iload 5, 2) ∧ decode cL_law 324 = .ok (.iconst 5, 1) ∧ decode cL_law 325 = .ok (.iadd, 1) ∧ decode cL_law 326 = .ok (.iaload, 1) ∧ decode cL_law 327 = .ok (.invokevirtual 121, 3) ∧ decode cL_law 330 = .ok (.pop, 1) ∧ decode cL_law 331 = .ok (.aload_n 2, 1) ∧ decode cL_law 332 = .ok (.aload_n 0, 1) ∧ decode cL_law 333 = .ok (.iload 5, 2) ∧ decode cL_law 335 = .ok (.iconst 1, 1) := by decide +kernel
theorem dL_law_322 : decode cL_law 322 = .ok (.iload 5, 2) := ldc_5.1
theorem dL_law_324 : decode cL_law 324 = .ok (.iconst 5, 1) := ldc_5.2.1
theorem dL_law_325 : decode cL_law 325 = .ok (.iadd, 1) := ldc_5.2.2.1
theorem dL_law_326 : decode cL_law 326 = .ok (.iaload, 1) := ldc_5.2.2.2.1
theorem dL_law_327 : decode cL_law 327 = .ok (.invokevirtual 121, 3) := ldc_5.2.2.2.2.1
theorem dL_law_330 : decode cL_law 330 = .ok (.pop, 1) := ldc_5.2.2.2.2.2.1
theorem dL_law_331 : decode cL_law 331 = .ok (.aload_n 2, 1) := ldc_5.2.2.2.2.2.2.1
theorem dL_law_332 : decode cL_law 332 = .ok (.aload_n 0, 1) := ldc_5.2.2.2.2.2.2.2.1
theorem dL_law_333 : decode cL_law 333 = .ok (.iload 5, 2) := ldc_5.2.2.2.2.2.2.2.2.1
theorem dL_law_335 : decode cL_law 335 = .ok (.iconst 1, 1) := ldc_5.2.2.2.2.2.2.2.2.2
set_option maxRecDepth 100000 in
theorem ldc_6 : decode cL_law 336 = .ok (.iadd, 1) ∧ decode cL_law 337 = .ok (.iaload, 1) ∧ decode cL_law 338 = .ok (.aload_n 0, 1) ∧ decode cL_law 339 = .ok (.iload 5, 2) ∧ decode cL_law 341 = .ok (.iconst 2, 1) ∧ decode cL_law 342 = .ok (.iadd, 1) ∧ decode cL_law 343 = .ok (.iaload, 1) ∧ decode cL_law 344 = .ok (.aload_n 0, 1) ∧ decode cL_law 345 = .ok (.iload 5, 2) ∧ decode cL_law 347 = .ok (.iconst 3, 1) := by decide +kernel
theorem dL_law_336 : decode cL_law 336 = .ok (.iadd, 1) := ldc_6.1
theorem dL_law_337 : decode cL_law 337 = .ok (.iaload, 1) := ldc_6.2.1
theorem dL_law_338 : decode cL_law 338 = .ok (.aload_n 0, 1) := ldc_6.2.2.1
theorem dL_law_339 : decode cL_law 339 = .ok (.iload 5, 2) := ldc_6.2.2.2.1
theorem dL_law_341 : decode cL_law 341 = .ok (.iconst 2, 1) := ldc_6.2.2.2.2.1
theorem dL_law_342 : decode cL_law 342 = .ok (.iadd, 1) := ldc_6.2.2.2.2.2.1
theorem dL_law_343 : decode cL_law 343 = .ok (.iaload, 1) := ldc_6.2.2.2.2.2.2.1
theorem dL_law_344 : decode cL_law 344 = .ok (.aload_n 0, 1) := ldc_6.2.2.2.2.2.2.2.1
theorem dL_law_345 : decode cL_law 345 = .ok (.iload 5, 2) := ldc_6.2.2.2.2.2.2.2.2.1
theorem dL_law_347 : decode cL_law 347 = .ok (.iconst 3, 1) := ldc_6.2.2.2.2.2.2.2.2.2
set_option maxRecDepth 100000 in
theorem ldc_7 : decode cL_law 348 = .ok (.iadd, 1) ∧ decode cL_law 349 = .ok (.iaload, 1) ∧ decode cL_law 350 = .ok (.aload_n 0, 1) ∧ decode cL_law 351 = .ok (.iload 5, 2) ∧ decode cL_law 353 = .ok (.iconst 4, 1) ∧ decode cL_law 354 = .ok (.iadd, 1) ∧ decode cL_law 355 = .ok (.iaload, 1) ∧ decode cL_law 356 = .ok (.aload_n 0, 1) ∧ decode cL_law 357 = .ok (.iload 5, 2) ∧ decode cL_law 359 = .ok (.iconst 5, 1) := by decide +kernel
theorem dL_law_348 : decode cL_law 348 = .ok (.iadd, 1) := ldc_7.1
theorem dL_law_349 : decode cL_law 349 = .ok (.iaload, 1) := ldc_7.2.1
theorem dL_law_350 : decode cL_law 350 = .ok (.aload_n 0, 1) := ldc_7.2.2.1
theorem dL_law_351 : decode cL_law 351 = .ok (.iload 5, 2) := ldc_7.2.2.2.1
theorem dL_law_353 : decode cL_law 353 = .ok (.iconst 4, 1) := ldc_7.2.2.2.2.1
theorem dL_law_354 : decode cL_law 354 = .ok (.iadd, 1) := ldc_7.2.2.2.2.2.1
theorem dL_law_355 : decode cL_law 355 = .ok (.iaload, 1) := ldc_7.2.2.2.2.2.2.1
theorem dL_law_356 : decode cL_law 356 = .ok (.aload_n 0, 1) := ldc_7.2.2.2.2.2.2.2.1
theorem dL_law_357 : decode cL_law 357 = .ok (.iload 5, 2) := ldc_7.2.2.2.2.2.2.2.2.1
theorem dL_law_359 : decode cL_law 359 = .ok (.iconst 5, 1) := ldc_7.2.2.2.2.2.2.2.2.2
set_option maxRecDepth 100000 in
theorem ldc_8 : decode cL_law 360 = .ok (.iadd, 1) ∧ decode cL_law 361 = .ok (.iaload, 1) ∧ decode cL_law 362 = .ok (.invokevirtual 125, 3) ∧ decode cL_law 365 = .ok (.pop, 1) ∧ decode cL_law 366 = .ok (.goto 1628, 3) ∧ decode cL_law 369 = .ok (.aload_n 1, 1) ∧ decode cL_law 370 = .ok (.aload_n 0, 1) ∧ decode cL_law 371 = .ok (.iload 5, 2) ∧ decode cL_law 373 = .ok (.iconst 1, 1) ∧ decode cL_law 374 = .ok (.iadd, 1) := by decide +kernel
theorem dL_law_360 : decode cL_law 360 = .ok (.iadd, 1) := ldc_8.1
theorem dL_law_361 : decode cL_law 361 = .ok (.iaload, 1) := ldc_8.2.1
theorem dL_law_362 : decode cL_law 362 = .ok (.invokevirtual 125, 3) := ldc_8.2.2.1
theorem dL_law_365 : decode cL_law 365 = .ok (.pop, 1) := ldc_8.2.2.2.1
theorem dL_law_366 : decode cL_law 366 = .ok (.goto 1628, 3) := ldc_8.2.2.2.2.1
theorem dL_law_369 : decode cL_law 369 = .ok (.aload_n 1, 1) := ldc_8.2.2.2.2.2.1
theorem dL_law_370 : decode cL_law 370 = .ok (.aload_n 0, 1) := ldc_8.2.2.2.2.2.2.1
theorem dL_law_371 : decode cL_law 371 = .ok (.iload 5, 2) := ldc_8.2.2.2.2.2.2.2.1
theorem dL_law_373 : decode cL_law 373 = .ok (.iconst 1, 1) := ldc_8.2.2.2.2.2.2.2.2.1
theorem dL_law_374 : decode cL_law 374 = .ok (.iadd, 1) := ldc_8.2.2.2.2.2.2.2.2.2
set_option maxRecDepth 100000 in
theorem ldc_9 : decode cL_law 375 = .ok (.iaload, 1) ∧ decode cL_law 376 = .ok (.invokevirtual 126, 3) ∧ decode cL_law 379 = .ok (.pop, 1) ∧ decode cL_law 380 = .ok (.aload_n 2, 1) ∧ decode cL_law 381 = .ok (.aload_n 0, 1) ∧ decode cL_law 382 = .ok (.iload 5, 2) ∧ decode cL_law 384 = .ok (.iconst 1, 1) ∧ decode cL_law 385 = .ok (.iadd, 1) ∧ decode cL_law 386 = .ok (.iaload, 1) ∧ decode cL_law 387 = .ok (.invokevirtual 129, 3) := by decide +kernel
theorem dL_law_375 : decode cL_law 375 = .ok (.iaload, 1) := ldc_9.1
theorem dL_law_376 : decode cL_law 376 = .ok (.invokevirtual 126, 3) := ldc_9.2.1
theorem dL_law_379 : decode cL_law 379 = .ok (.pop, 1) := ldc_9.2.2.1
theorem dL_law_380 : decode cL_law 380 = .ok (.aload_n 2, 1) := ldc_9.2.2.2.1
theorem dL_law_381 : decode cL_law 381 = .ok (.aload_n 0, 1) := ldc_9.2.2.2.2.1
theorem dL_law_382 : decode cL_law 382 = .ok (.iload 5, 2) := ldc_9.2.2.2.2.2.1
theorem dL_law_384 : decode cL_law 384 = .ok (.iconst 1, 1) := ldc_9.2.2.2.2.2.2.1
theorem dL_law_385 : decode cL_law 385 = .ok (.iadd, 1) := ldc_9.2.2.2.2.2.2.2.1
theorem dL_law_386 : decode cL_law 386 = .ok (.iaload, 1) := ldc_9.2.2.2.2.2.2.2.2.1
theorem dL_law_387 : decode cL_law 387 = .ok (.invokevirtual 129, 3) := ldc_9.2.2.2.2.2.2.2.2.2
set_option maxRecDepth 100000 in
theorem ldc_10 : decode cL_law 390 = .ok (.pop, 1) ∧ decode cL_law 391 = .ok (.goto 1603, 3) ∧ decode cL_law 394 = .ok (.aload_n 1, 1) ∧ decode cL_law 395 = .ok (.invokevirtual 130, 3) ∧ decode cL_law 398 = .ok (.pop, 1) ∧ decode cL_law 399 = .ok (.aload_n 2, 1) ∧ decode cL_law 400 = .ok (.invokevirtual 134, 3) ∧ decode cL_law 403 = .ok (.pop, 1) ∧ decode cL_law 404 = .ok (.goto 1590, 3) ∧ decode cL_law 407 = .ok (.aload_n 1, 1) := by decide +kernel
theorem dL_law_390 : decode cL_law 390 = .ok (.pop, 1) := ldc_10.1
theorem dL_law_391 : decode cL_law 391 = .ok (.goto 1603, 3) := ldc_10.2.1
theorem dL_law_394 : decode cL_law 394 = .ok (.aload_n 1, 1) := ldc_10.2.2.1
theorem dL_law_395 : decode cL_law 395 = .ok (.invokevirtual 130, 3) := ldc_10.2.2.2.1
theorem dL_law_398 : decode cL_law 398 = .ok (.pop, 1) := ldc_10.2.2.2.2.1
theorem dL_law_399 : decode cL_law 399 = .ok (.aload_n 2, 1) := ldc_10.2.2.2.2.2.1
theorem dL_law_400 : decode cL_law 400 = .ok (.invokevirtual 134, 3) := ldc_10.2.2.2.2.2.2.1
theorem dL_law_403 : decode cL_law 403 = .ok (.pop, 1) := ldc_10.2.2.2.2.2.2.2.1
theorem dL_law_404 : decode cL_law 404 = .ok (.goto 1590, 3) := ldc_10.2.2.2.2.2.2.2.2.1
theorem dL_law_407 : decode cL_law 407 = .ok (.aload_n 1, 1) := ldc_10.2.2.2.2.2.2.2.2.2
set_option maxRecDepth 100000 in
theorem ldc_11 : decode cL_law 408 = .ok (.invokevirtual 135, 3) ∧ decode cL_law 411 = .ok (.pop, 1) ∧ decode cL_law 412 = .ok (.aload_n 2, 1) ∧ decode cL_law 413 = .ok (.invokevirtual 138, 3) ∧ decode cL_law 416 = .ok (.pop, 1) ∧ decode cL_law 417 = .ok (.goto 1577, 3) ∧ decode cL_law 420 = .ok (.aload_n 1, 1) ∧ decode cL_law 421 = .ok (.invokevirtual 139, 3) ∧ decode cL_law 424 = .ok (.pop, 1) ∧ decode cL_law 425 = .ok (.aload_n 2, 1) := by decide +kernel
theorem dL_law_408 : decode cL_law 408 = .ok (.invokevirtual 135, 3) := ldc_11.1
theorem dL_law_411 : decode cL_law 411 = .ok (.pop, 1) := ldc_11.2.1
theorem dL_law_412 : decode cL_law 412 = .ok (.aload_n 2, 1) := ldc_11.2.2.1
theorem dL_law_413 : decode cL_law 413 = .ok (.invokevirtual 138, 3) := ldc_11.2.2.2.1
theorem dL_law_416 : decode cL_law 416 = .ok (.pop, 1) := ldc_11.2.2.2.2.1
theorem dL_law_417 : decode cL_law 417 = .ok (.goto 1577, 3) := ldc_11.2.2.2.2.2.1
theorem dL_law_420 : decode cL_law 420 = .ok (.aload_n 1, 1) := ldc_11.2.2.2.2.2.2.1
theorem dL_law_421 : decode cL_law 421 = .ok (.invokevirtual 139, 3) := ldc_11.2.2.2.2.2.2.2.1
theorem dL_law_424 : decode cL_law 424 = .ok (.pop, 1) := ldc_11.2.2.2.2.2.2.2.2.1
theorem dL_law_425 : decode cL_law 425 = .ok (.aload_n 2, 1) := ldc_11.2.2.2.2.2.2.2.2.2
set_option maxRecDepth 100000 in
theorem ldc_12 : decode cL_law 426 = .ok (.invokevirtual 142, 3) ∧ decode cL_law 429 = .ok (.pop, 1) ∧ decode cL_law 430 = .ok (.goto 1564, 3) ∧ decode cL_law 433 = .ok (.aload_n 1, 1) ∧ decode cL_law 434 = .ok (.invokevirtual 143, 3) ∧ decode cL_law 437 = .ok (.pop, 1) ∧ decode cL_law 438 = .ok (.aload_n 2, 1) ∧ decode cL_law 439 = .ok (.invokevirtual 146, 3) ∧ decode cL_law 442 = .ok (.pop, 1) ∧ decode cL_law 443 = .ok (.goto 1551, 3) := by decide +kernel
theorem dL_law_426 : decode cL_law 426 = .ok (.invokevirtual 142, 3) := ldc_12.1
theorem dL_law_429 : decode cL_law 429 = .ok (.pop, 1) := ldc_12.2.1
theorem dL_law_430 : decode cL_law 430 = .ok (.goto 1564, 3) := ldc_12.2.2.1
theorem dL_law_433 : decode cL_law 433 = .ok (.aload_n 1, 1) := ldc_12.2.2.2.1
theorem dL_law_434 : decode cL_law 434 = .ok (.invokevirtual 143, 3) := ldc_12.2.2.2.2.1
theorem dL_law_437 : decode cL_law 437 = .ok (.pop, 1) := ldc_12.2.2.2.2.2.1
theorem dL_law_438 : decode cL_law 438 = .ok (.aload_n 2, 1) := ldc_12.2.2.2.2.2.2.1
theorem dL_law_439 : decode cL_law 439 = .ok (.invokevirtual 146, 3) := ldc_12.2.2.2.2.2.2.2.1
theorem dL_law_442 : decode cL_law 442 = .ok (.pop, 1) := ldc_12.2.2.2.2.2.2.2.2.1
theorem dL_law_443 : decode cL_law 443 = .ok (.goto 1551, 3) := ldc_12.2.2.2.2.2.2.2.2.2
set_option maxRecDepth 100000 in
theorem ldc_13 : decode cL_law 446 = .ok (.aload_n 1, 1) ∧ decode cL_law 447 = .ok (.aload_n 0, 1) ∧ decode cL_law 448 = .ok (.iload 5, 2) ∧ decode cL_law 450 = .ok (.iconst 1, 1) ∧ decode cL_law 451 = .ok (.iadd, 1) ∧ decode cL_law 452 = .ok (.iaload, 1) ∧ decode cL_law 453 = .ok (.aload_n 0, 1) ∧ decode cL_law 454 = .ok (.iload 5, 2) ∧ decode cL_law 456 = .ok (.iconst 2, 1) ∧ decode cL_law 457 = .ok (.iadd, 1) := by decide +kernel
theorem dL_law_446 : decode cL_law 446 = .ok (.aload_n 1, 1) := ldc_13.1
theorem dL_law_447 : decode cL_law 447 = .ok (.aload_n 0, 1) := ldc_13.2.1
theorem dL_law_448 : decode cL_law 448 = .ok (.iload 5, 2) := ldc_13.2.2.1
theorem dL_law_450 : decode cL_law 450 = .ok (.iconst 1, 1) := ldc_13.2.2.2.1
theorem dL_law_451 : decode cL_law 451 = .ok (.iadd, 1) := ldc_13.2.2.2.2.1
theorem dL_law_452 : decode cL_law 452 = .ok (.iaload, 1) := ldc_13.2.2.2.2.2.1
theorem dL_law_453 : decode cL_law 453 = .ok (.aload_n 0, 1) := ldc_13.2.2.2.2.2.2.1
theorem dL_law_454 : decode cL_law 454 = .ok (.iload 5, 2) := ldc_13.2.2.2.2.2.2.2.1
theorem dL_law_456 : decode cL_law 456 = .ok (.iconst 2, 1) := ldc_13.2.2.2.2.2.2.2.2.1
theorem dL_law_457 : decode cL_law 457 = .ok (.iadd, 1) := ldc_13.2.2.2.2.2.2.2.2.2
set_option maxRecDepth 100000 in
theorem ldc_14 : decode cL_law 458 = .ok (.iaload, 1) ∧ decode cL_law 459 = .ok (.aload_n 0, 1) ∧ decode cL_law 460 = .ok (.iload 5, 2) ∧ decode cL_law 462 = .ok (.iconst 3, 1) ∧ decode cL_law 463 = .ok (.iadd, 1) ∧ decode cL_law 464 = .ok (.iaload, 1) ∧ decode cL_law 465 = .ok (.aload_n 0, 1) ∧ decode cL_law 466 = .ok (.iload 5, 2) ∧ decode cL_law 468 = .ok (.iconst 4, 1) ∧ decode cL_law 469 = .ok (.iadd, 1) := by decide +kernel
theorem dL_law_458 : decode cL_law 458 = .ok (.iaload, 1) := ldc_14.1
theorem dL_law_459 : decode cL_law 459 = .ok (.aload_n 0, 1) := ldc_14.2.1
theorem dL_law_460 : decode cL_law 460 = .ok (.iload 5, 2) := ldc_14.2.2.1
theorem dL_law_462 : decode cL_law 462 = .ok (.iconst 3, 1) := ldc_14.2.2.2.1
theorem dL_law_463 : decode cL_law 463 = .ok (.iadd, 1) := ldc_14.2.2.2.2.1
theorem dL_law_464 : decode cL_law 464 = .ok (.iaload, 1) := ldc_14.2.2.2.2.2.1
theorem dL_law_465 : decode cL_law 465 = .ok (.aload_n 0, 1) := ldc_14.2.2.2.2.2.2.1
theorem dL_law_466 : decode cL_law 466 = .ok (.iload 5, 2) := ldc_14.2.2.2.2.2.2.2.1
theorem dL_law_468 : decode cL_law 468 = .ok (.iconst 4, 1) := ldc_14.2.2.2.2.2.2.2.2.1
theorem dL_law_469 : decode cL_law 469 = .ok (.iadd, 1) := ldc_14.2.2.2.2.2.2.2.2.2
set_option maxRecDepth 100000 in
theorem ldc_15 : decode cL_law 470 = .ok (.iaload, 1) ∧ decode cL_law 471 = .ok (.aload_n 0, 1) ∧ decode cL_law 472 = .ok (.iload 5, 2) ∧ decode cL_law 474 = .ok (.iconst 5, 1) ∧ decode cL_law 475 = .ok (.iadd, 1) ∧ decode cL_law 476 = .ok (.iaload, 1) ∧ decode cL_law 477 = .ok (.aload_n 3, 1) ∧ decode cL_law 478 = .ok (.invokestatic 147, 3) ∧ decode cL_law 481 = .ok (.istore 6, 2) ∧ decode cL_law 483 = .ok (.aload_n 2, 1) := by decide +kernel
theorem dL_law_470 : decode cL_law 470 = .ok (.iaload, 1) := ldc_15.1
theorem dL_law_471 : decode cL_law 471 = .ok (.aload_n 0, 1) := ldc_15.2.1
theorem dL_law_472 : decode cL_law 472 = .ok (.iload 5, 2) := ldc_15.2.2.1
theorem dL_law_474 : decode cL_law 474 = .ok (.iconst 5, 1) := ldc_15.2.2.2.1
theorem dL_law_475 : decode cL_law 475 = .ok (.iadd, 1) := ldc_15.2.2.2.2.1
theorem dL_law_476 : decode cL_law 476 = .ok (.iaload, 1) := ldc_15.2.2.2.2.2.1
theorem dL_law_477 : decode cL_law 477 = .ok (.aload_n 3, 1) := ldc_15.2.2.2.2.2.2.1
theorem dL_law_478 : decode cL_law 478 = .ok (.invokestatic 147, 3) := ldc_15.2.2.2.2.2.2.2.1
theorem dL_law_481 : decode cL_law 481 = .ok (.istore 6, 2) := ldc_15.2.2.2.2.2.2.2.2.1
theorem dL_law_483 : decode cL_law 483 = .ok (.aload_n 2, 1) := ldc_15.2.2.2.2.2.2.2.2.2
set_option maxRecDepth 100000 in
theorem ldc_16 : decode cL_law 484 = .ok (.aload_n 0, 1) ∧ decode cL_law 485 = .ok (.iload 5, 2) ∧ decode cL_law 487 = .ok (.iconst 1, 1) ∧ decode cL_law 488 = .ok (.iadd, 1) ∧ decode cL_law 489 = .ok (.iaload, 1) ∧ decode cL_law 490 = .ok (.aload_n 0, 1) ∧ decode cL_law 491 = .ok (.iload 5, 2) ∧ decode cL_law 493 = .ok (.iconst 2, 1) ∧ decode cL_law 494 = .ok (.iadd, 1) ∧ decode cL_law 495 = .ok (.iaload, 1) := by decide +kernel
theorem dL_law_484 : decode cL_law 484 = .ok (.aload_n 0, 1) := ldc_16.1
theorem dL_law_485 : decode cL_law 485 = .ok (.iload 5, 2) := ldc_16.2.1
theorem dL_law_487 : decode cL_law 487 = .ok (.iconst 1, 1) := ldc_16.2.2.1
theorem dL_law_488 : decode cL_law 488 = .ok (.iadd, 1) := ldc_16.2.2.2.1
theorem dL_law_489 : decode cL_law 489 = .ok (.iaload, 1) := ldc_16.2.2.2.2.1
theorem dL_law_490 : decode cL_law 490 = .ok (.aload_n 0, 1) := ldc_16.2.2.2.2.2.1
theorem dL_law_491 : decode cL_law 491 = .ok (.iload 5, 2) := ldc_16.2.2.2.2.2.2.1
theorem dL_law_493 : decode cL_law 493 = .ok (.iconst 2, 1) := ldc_16.2.2.2.2.2.2.2.1
theorem dL_law_494 : decode cL_law 494 = .ok (.iadd, 1) := ldc_16.2.2.2.2.2.2.2.2.1
theorem dL_law_495 : decode cL_law 495 = .ok (.iaload, 1) := ldc_16.2.2.2.2.2.2.2.2.2
set_option maxRecDepth 100000 in
theorem ldc_17 : decode cL_law 496 = .ok (.aload_n 0, 1) ∧ decode cL_law 497 = .ok (.iload 5, 2) ∧ decode cL_law 499 = .ok (.iconst 3, 1) ∧ decode cL_law 500 = .ok (.iadd, 1) ∧ decode cL_law 501 = .ok (.iaload, 1) ∧ decode cL_law 502 = .ok (.aload_n 0, 1) ∧ decode cL_law 503 = .ok (.iload 5, 2) ∧ decode cL_law 505 = .ok (.iconst 4, 1) ∧ decode cL_law 506 = .ok (.iadd, 1) ∧ decode cL_law 507 = .ok (.iaload, 1) := by decide +kernel
theorem dL_law_496 : decode cL_law 496 = .ok (.aload_n 0, 1) := ldc_17.1
theorem dL_law_497 : decode cL_law 497 = .ok (.iload 5, 2) := ldc_17.2.1
theorem dL_law_499 : decode cL_law 499 = .ok (.iconst 3, 1) := ldc_17.2.2.1
theorem dL_law_500 : decode cL_law 500 = .ok (.iadd, 1) := ldc_17.2.2.2.1
theorem dL_law_501 : decode cL_law 501 = .ok (.iaload, 1) := ldc_17.2.2.2.2.1
theorem dL_law_502 : decode cL_law 502 = .ok (.aload_n 0, 1) := ldc_17.2.2.2.2.2.1
theorem dL_law_503 : decode cL_law 503 = .ok (.iload 5, 2) := ldc_17.2.2.2.2.2.2.1
theorem dL_law_505 : decode cL_law 505 = .ok (.iconst 4, 1) := ldc_17.2.2.2.2.2.2.2.1
theorem dL_law_506 : decode cL_law 506 = .ok (.iadd, 1) := ldc_17.2.2.2.2.2.2.2.2.1
theorem dL_law_507 : decode cL_law 507 = .ok (.iaload, 1) := ldc_17.2.2.2.2.2.2.2.2.2
set_option maxRecDepth 100000 in
theorem ldc_18 : decode cL_law 508 = .ok (.aload_n 0, 1) ∧ decode cL_law 509 = .ok (.iload 5, 2) ∧ decode cL_law 511 = .ok (.iconst 5, 1) ∧ decode cL_law 512 = .ok (.iadd, 1) ∧ decode cL_law 513 = .ok (.iaload, 1) ∧ decode cL_law 514 = .ok (.invokevirtual 152, 3) ∧ decode cL_law 517 = .ok (.istore 7, 2) ∧ decode cL_law 519 = .ok (.goto 1475, 3) ∧ decode cL_law 522 = .ok (.aload_n 1, 1) ∧ decode cL_law 523 = .ok (.aload_n 0, 1) := by decide +kernel
theorem dL_law_508 : decode cL_law 508 = .ok (.aload_n 0, 1) := ldc_18.1
theorem dL_law_509 : decode cL_law 509 = .ok (.iload 5, 2) := ldc_18.2.1
theorem dL_law_511 : decode cL_law 511 = .ok (.iconst 5, 1) := ldc_18.2.2.1
theorem dL_law_512 : decode cL_law 512 = .ok (.iadd, 1) := ldc_18.2.2.2.1
theorem dL_law_513 : decode cL_law 513 = .ok (.iaload, 1) := ldc_18.2.2.2.2.1
theorem dL_law_514 : decode cL_law 514 = .ok (.invokevirtual 152, 3) := ldc_18.2.2.2.2.2.1
theorem dL_law_517 : decode cL_law 517 = .ok (.istore 7, 2) := ldc_18.2.2.2.2.2.2.1
theorem dL_law_519 : decode cL_law 519 = .ok (.goto 1475, 3) := ldc_18.2.2.2.2.2.2.2.1
theorem dL_law_522 : decode cL_law 522 = .ok (.aload_n 1, 1) := ldc_18.2.2.2.2.2.2.2.2.1
theorem dL_law_523 : decode cL_law 523 = .ok (.aload_n 0, 1) := ldc_18.2.2.2.2.2.2.2.2.2
set_option maxRecDepth 100000 in
theorem ldc_19 : decode cL_law 524 = .ok (.iload 5, 2) ∧ decode cL_law 526 = .ok (.iconst 1, 1) ∧ decode cL_law 527 = .ok (.iadd, 1) ∧ decode cL_law 528 = .ok (.iaload, 1) ∧ decode cL_law 529 = .ok (.aload_n 0, 1) ∧ decode cL_law 530 = .ok (.iload 5, 2) ∧ decode cL_law 532 = .ok (.iconst 2, 1) ∧ decode cL_law 533 = .ok (.iadd, 1) ∧ decode cL_law 534 = .ok (.iaload, 1) ∧ decode cL_law 535 = .ok (.aload_n 0, 1) := by decide +kernel
theorem dL_law_524 : decode cL_law 524 = .ok (.iload 5, 2) := ldc_19.1
theorem dL_law_526 : decode cL_law 526 = .ok (.iconst 1, 1) := ldc_19.2.1
theorem dL_law_527 : decode cL_law 527 = .ok (.iadd, 1) := ldc_19.2.2.1
theorem dL_law_528 : decode cL_law 528 = .ok (.iaload, 1) := ldc_19.2.2.2.1
theorem dL_law_529 : decode cL_law 529 = .ok (.aload_n 0, 1) := ldc_19.2.2.2.2.1
theorem dL_law_530 : decode cL_law 530 = .ok (.iload 5, 2) := ldc_19.2.2.2.2.2.1
theorem dL_law_532 : decode cL_law 532 = .ok (.iconst 2, 1) := ldc_19.2.2.2.2.2.2.1
theorem dL_law_533 : decode cL_law 533 = .ok (.iadd, 1) := ldc_19.2.2.2.2.2.2.2.1
theorem dL_law_534 : decode cL_law 534 = .ok (.iaload, 1) := ldc_19.2.2.2.2.2.2.2.2.1
theorem dL_law_535 : decode cL_law 535 = .ok (.aload_n 0, 1) := ldc_19.2.2.2.2.2.2.2.2.2
set_option maxRecDepth 100000 in
theorem ldc_20 : decode cL_law 536 = .ok (.iload 5, 2) ∧ decode cL_law 538 = .ok (.iconst 3, 1) ∧ decode cL_law 539 = .ok (.iadd, 1) ∧ decode cL_law 540 = .ok (.iaload, 1) ∧ decode cL_law 541 = .ok (.aload_n 0, 1) ∧ decode cL_law 542 = .ok (.iload 5, 2) ∧ decode cL_law 544 = .ok (.iconst 4, 1) ∧ decode cL_law 545 = .ok (.iadd, 1) ∧ decode cL_law 546 = .ok (.iaload, 1) ∧ decode cL_law 547 = .ok (.aload_n 0, 1) := by decide +kernel
theorem dL_law_536 : decode cL_law 536 = .ok (.iload 5, 2) := ldc_20.1
theorem dL_law_538 : decode cL_law 538 = .ok (.iconst 3, 1) := ldc_20.2.1
theorem dL_law_539 : decode cL_law 539 = .ok (.iadd, 1) := ldc_20.2.2.1
theorem dL_law_540 : decode cL_law 540 = .ok (.iaload, 1) := ldc_20.2.2.2.1
theorem dL_law_541 : decode cL_law 541 = .ok (.aload_n 0, 1) := ldc_20.2.2.2.2.1
theorem dL_law_542 : decode cL_law 542 = .ok (.iload 5, 2) := ldc_20.2.2.2.2.2.1
theorem dL_law_544 : decode cL_law 544 = .ok (.iconst 4, 1) := ldc_20.2.2.2.2.2.2.1
theorem dL_law_545 : decode cL_law 545 = .ok (.iadd, 1) := ldc_20.2.2.2.2.2.2.2.1
theorem dL_law_546 : decode cL_law 546 = .ok (.iaload, 1) := ldc_20.2.2.2.2.2.2.2.2.1
theorem dL_law_547 : decode cL_law 547 = .ok (.aload_n 0, 1) := ldc_20.2.2.2.2.2.2.2.2.2
set_option maxRecDepth 100000 in
theorem ldc_21 : decode cL_law 548 = .ok (.iload 5, 2) ∧ decode cL_law 550 = .ok (.iconst 5, 1) ∧ decode cL_law 551 = .ok (.iadd, 1) ∧ decode cL_law 552 = .ok (.iaload, 1) ∧ decode cL_law 553 = .ok (.aload_n 0, 1) ∧ decode cL_law 554 = .ok (.iload 5, 2) ∧ decode cL_law 556 = .ok (.bipush 6, 2) ∧ decode cL_law 558 = .ok (.iadd, 1) ∧ decode cL_law 559 = .ok (.iaload, 1) ∧ decode cL_law 560 = .ok (.aload_n 3, 1) := by decide +kernel
theorem dL_law_548 : decode cL_law 548 = .ok (.iload 5, 2) := ldc_21.1
theorem dL_law_550 : decode cL_law 550 = .ok (.iconst 5, 1) := ldc_21.2.1
theorem dL_law_551 : decode cL_law 551 = .ok (.iadd, 1) := ldc_21.2.2.1
theorem dL_law_552 : decode cL_law 552 = .ok (.iaload, 1) := ldc_21.2.2.2.1
theorem dL_law_553 : decode cL_law 553 = .ok (.aload_n 0, 1) := ldc_21.2.2.2.2.1
theorem dL_law_554 : decode cL_law 554 = .ok (.iload 5, 2) := ldc_21.2.2.2.2.2.1
theorem dL_law_556 : decode cL_law 556 = .ok (.bipush 6, 2) := ldc_21.2.2.2.2.2.2.1
theorem dL_law_558 : decode cL_law 558 = .ok (.iadd, 1) := ldc_21.2.2.2.2.2.2.2.1
theorem dL_law_559 : decode cL_law 559 = .ok (.iaload, 1) := ldc_21.2.2.2.2.2.2.2.2.1
theorem dL_law_560 : decode cL_law 560 = .ok (.aload_n 3, 1) := ldc_21.2.2.2.2.2.2.2.2.2
set_option maxRecDepth 100000 in
theorem ldc_22 : decode cL_law 561 = .ok (.invokestatic 153, 3) ∧ decode cL_law 564 = .ok (.istore 6, 2) ∧ decode cL_law 566 = .ok (.aload_n 2, 1) ∧ decode cL_law 567 = .ok (.aload_n 0, 1) ∧ decode cL_law 568 = .ok (.iload 5, 2) ∧ decode cL_law 570 = .ok (.iconst 1, 1) ∧ decode cL_law 571 = .ok (.iadd, 1) ∧ decode cL_law 572 = .ok (.iaload, 1) ∧ decode cL_law 573 = .ok (.aload_n 0, 1) ∧ decode cL_law 574 = .ok (.iload 5, 2) := by decide +kernel
theorem dL_law_561 : decode cL_law 561 = .ok (.invokestatic 153, 3) := ldc_22.1
theorem dL_law_564 : decode cL_law 564 = .ok (.istore 6, 2) := ldc_22.2.1
theorem dL_law_566 : decode cL_law 566 = .ok (.aload_n 2, 1) := ldc_22.2.2.1
theorem dL_law_567 : decode cL_law 567 = .ok (.aload_n 0, 1) := ldc_22.2.2.2.1
theorem dL_law_568 : decode cL_law 568 = .ok (.iload 5, 2) := ldc_22.2.2.2.2.1
theorem dL_law_570 : decode cL_law 570 = .ok (.iconst 1, 1) := ldc_22.2.2.2.2.2.1
theorem dL_law_571 : decode cL_law 571 = .ok (.iadd, 1) := ldc_22.2.2.2.2.2.2.1
theorem dL_law_572 : decode cL_law 572 = .ok (.iaload, 1) := ldc_22.2.2.2.2.2.2.2.1
theorem dL_law_573 : decode cL_law 573 = .ok (.aload_n 0, 1) := ldc_22.2.2.2.2.2.2.2.2.1
theorem dL_law_574 : decode cL_law 574 = .ok (.iload 5, 2) := ldc_22.2.2.2.2.2.2.2.2.2
set_option maxRecDepth 100000 in
theorem ldc_23 : decode cL_law 576 = .ok (.iconst 2, 1) ∧ decode cL_law 577 = .ok (.iadd, 1) ∧ decode cL_law 578 = .ok (.iaload, 1) ∧ decode cL_law 579 = .ok (.aload_n 0, 1) ∧ decode cL_law 580 = .ok (.iload 5, 2) ∧ decode cL_law 582 = .ok (.iconst 3, 1) ∧ decode cL_law 583 = .ok (.iadd, 1) ∧ decode cL_law 584 = .ok (.iaload, 1) ∧ decode cL_law 585 = .ok (.aload_n 0, 1) ∧ decode cL_law 586 = .ok (.iload 5, 2) := by decide +kernel
theorem dL_law_576 : decode cL_law 576 = .ok (.iconst 2, 1) := ldc_23.1
theorem dL_law_577 : decode cL_law 577 = .ok (.iadd, 1) := ldc_23.2.1
theorem dL_law_578 : decode cL_law 578 = .ok (.iaload, 1) := ldc_23.2.2.1
theorem dL_law_579 : decode cL_law 579 = .ok (.aload_n 0, 1) := ldc_23.2.2.2.1
theorem dL_law_580 : decode cL_law 580 = .ok (.iload 5, 2) := ldc_23.2.2.2.2.1
theorem dL_law_582 : decode cL_law 582 = .ok (.iconst 3, 1) := ldc_23.2.2.2.2.2.1
theorem dL_law_583 : decode cL_law 583 = .ok (.iadd, 1) := ldc_23.2.2.2.2.2.2.1
theorem dL_law_584 : decode cL_law 584 = .ok (.iaload, 1) := ldc_23.2.2.2.2.2.2.2.1
theorem dL_law_585 : decode cL_law 585 = .ok (.aload_n 0, 1) := ldc_23.2.2.2.2.2.2.2.2.1
theorem dL_law_586 : decode cL_law 586 = .ok (.iload 5, 2) := ldc_23.2.2.2.2.2.2.2.2.2
set_option maxRecDepth 100000 in
theorem ldc_24 : decode cL_law 588 = .ok (.iconst 4, 1) ∧ decode cL_law 589 = .ok (.iadd, 1) ∧ decode cL_law 590 = .ok (.iaload, 1) ∧ decode cL_law 591 = .ok (.aload_n 0, 1) ∧ decode cL_law 592 = .ok (.iload 5, 2) ∧ decode cL_law 594 = .ok (.iconst 5, 1) ∧ decode cL_law 595 = .ok (.iadd, 1) ∧ decode cL_law 596 = .ok (.iaload, 1) ∧ decode cL_law 597 = .ok (.aload_n 0, 1) ∧ decode cL_law 598 = .ok (.iload 5, 2) := by decide +kernel
theorem dL_law_588 : decode cL_law 588 = .ok (.iconst 4, 1) := ldc_24.1
theorem dL_law_589 : decode cL_law 589 = .ok (.iadd, 1) := ldc_24.2.1
theorem dL_law_590 : decode cL_law 590 = .ok (.iaload, 1) := ldc_24.2.2.1
theorem dL_law_591 : decode cL_law 591 = .ok (.aload_n 0, 1) := ldc_24.2.2.2.1
theorem dL_law_592 : decode cL_law 592 = .ok (.iload 5, 2) := ldc_24.2.2.2.2.1
theorem dL_law_594 : decode cL_law 594 = .ok (.iconst 5, 1) := ldc_24.2.2.2.2.2.1
theorem dL_law_595 : decode cL_law 595 = .ok (.iadd, 1) := ldc_24.2.2.2.2.2.2.1
theorem dL_law_596 : decode cL_law 596 = .ok (.iaload, 1) := ldc_24.2.2.2.2.2.2.2.1
theorem dL_law_597 : decode cL_law 597 = .ok (.aload_n 0, 1) := ldc_24.2.2.2.2.2.2.2.2.1
theorem dL_law_598 : decode cL_law 598 = .ok (.iload 5, 2) := ldc_24.2.2.2.2.2.2.2.2.2
set_option maxRecDepth 100000 in
theorem ldc_25 : decode cL_law 600 = .ok (.bipush 6, 2) ∧ decode cL_law 602 = .ok (.iadd, 1) ∧ decode cL_law 603 = .ok (.iaload, 1) ∧ decode cL_law 604 = .ok (.invokevirtual 156, 3) ∧ decode cL_law 607 = .ok (.istore 7, 2) ∧ decode cL_law 609 = .ok (.aload_n 2, 1) ∧ decode cL_law 610 = .ok (.invokevirtual 157, 3) ∧ decode cL_law 613 = .ok (.iload 6, 2) ∧ decode cL_law 615 = .ok (.if_icmp .eq 5, 3) ∧ decode cL_law 620 = .ok (.iload 6, 2) := by decide +kernel
theorem dL_law_600 : decode cL_law 600 = .ok (.bipush 6, 2) := ldc_25.1
theorem dL_law_602 : decode cL_law 602 = .ok (.iadd, 1) := ldc_25.2.1
theorem dL_law_603 : decode cL_law 603 = .ok (.iaload, 1) := ldc_25.2.2.1
theorem dL_law_604 : decode cL_law 604 = .ok (.invokevirtual 156, 3) := ldc_25.2.2.2.1
theorem dL_law_607 : decode cL_law 607 = .ok (.istore 7, 2) := ldc_25.2.2.2.2.1
theorem dL_law_609 : decode cL_law 609 = .ok (.aload_n 2, 1) := ldc_25.2.2.2.2.2.1
theorem dL_law_610 : decode cL_law 610 = .ok (.invokevirtual 157, 3) := ldc_25.2.2.2.2.2.2.1
theorem dL_law_613 : decode cL_law 613 = .ok (.iload 6, 2) := ldc_25.2.2.2.2.2.2.2.1
theorem dL_law_615 : decode cL_law 615 = .ok (.if_icmp .eq 5, 3) := ldc_25.2.2.2.2.2.2.2.2.1
theorem dL_law_620 : decode cL_law 620 = .ok (.iload 6, 2) := ldc_25.2.2.2.2.2.2.2.2.2
set_option maxRecDepth 100000 in
theorem ldc_26 : decode cL_law 622 = .ok (.ifCond .ne 15, 3) ∧ decode cL_law 625 = .ok (.aload_n 3, 1) ∧ decode cL_law 626 = .ok (.iconst 0, 1) ∧ decode cL_law 627 = .ok (.laload, 1) ∧ decode cL_law 628 = .ok (.iload 7, 2) ∧ decode cL_law 630 = .ok (.i2l, 1) ∧ decode cL_law 631 = .ok (.lcmp, 1) ∧ decode cL_law 632 = .ok (.ifCond .eq 5, 3) ∧ decode cL_law 637 = .ok (.goto 1357, 3) ∧ decode cL_law 640 = .ok (.aload_n 1, 1) := by decide +kernel
theorem dL_law_622 : decode cL_law 622 = .ok (.ifCond .ne 15, 3) := ldc_26.1
theorem dL_law_625 : decode cL_law 625 = .ok (.aload_n 3, 1) := ldc_26.2.1
theorem dL_law_626 : decode cL_law 626 = .ok (.iconst 0, 1) := ldc_26.2.2.1
theorem dL_law_627 : decode cL_law 627 = .ok (.laload, 1) := ldc_26.2.2.2.1
theorem dL_law_628 : decode cL_law 628 = .ok (.iload 7, 2) := ldc_26.2.2.2.2.1
theorem dL_law_630 : decode cL_law 630 = .ok (.i2l, 1) := ldc_26.2.2.2.2.2.1
theorem dL_law_631 : decode cL_law 631 = .ok (.lcmp, 1) := ldc_26.2.2.2.2.2.2.1
theorem dL_law_632 : decode cL_law 632 = .ok (.ifCond .eq 5, 3) := ldc_26.2.2.2.2.2.2.2.1
theorem dL_law_637 : decode cL_law 637 = .ok (.goto 1357, 3) := ldc_26.2.2.2.2.2.2.2.2.1
theorem dL_law_640 : decode cL_law 640 = .ok (.aload_n 1, 1) := ldc_26.2.2.2.2.2.2.2.2.2
set_option maxRecDepth 100000 in
theorem ldc_27 : decode cL_law 641 = .ok (.aload_n 0, 1) ∧ decode cL_law 642 = .ok (.iload 5, 2) ∧ decode cL_law 644 = .ok (.iconst 1, 1) ∧ decode cL_law 645 = .ok (.iadd, 1) ∧ decode cL_law 646 = .ok (.iaload, 1) ∧ decode cL_law 647 = .ok (.aload_n 3, 1) ∧ decode cL_law 648 = .ok (.invokestatic 160, 3) ∧ decode cL_law 651 = .ok (.istore 6, 2) ∧ decode cL_law 653 = .ok (.aload_n 2, 1) ∧ decode cL_law 654 = .ok (.aload_n 0, 1) := by decide +kernel
theorem dL_law_641 : decode cL_law 641 = .ok (.aload_n 0, 1) := ldc_27.1
theorem dL_law_642 : decode cL_law 642 = .ok (.iload 5, 2) := ldc_27.2.1
theorem dL_law_644 : decode cL_law 644 = .ok (.iconst 1, 1) := ldc_27.2.2.1
theorem dL_law_645 : decode cL_law 645 = .ok (.iadd, 1) := ldc_27.2.2.2.1
theorem dL_law_646 : decode cL_law 646 = .ok (.iaload, 1) := ldc_27.2.2.2.2.1
theorem dL_law_647 : decode cL_law 647 = .ok (.aload_n 3, 1) := ldc_27.2.2.2.2.2.1
theorem dL_law_648 : decode cL_law 648 = .ok (.invokestatic 160, 3) := ldc_27.2.2.2.2.2.2.1
theorem dL_law_651 : decode cL_law 651 = .ok (.istore 6, 2) := ldc_27.2.2.2.2.2.2.2.1
theorem dL_law_653 : decode cL_law 653 = .ok (.aload_n 2, 1) := ldc_27.2.2.2.2.2.2.2.2.1
theorem dL_law_654 : decode cL_law 654 = .ok (.aload_n 0, 1) := ldc_27.2.2.2.2.2.2.2.2.2
set_option maxRecDepth 100000 in
theorem ldc_28 : decode cL_law 655 = .ok (.iload 5, 2) ∧ decode cL_law 657 = .ok (.iconst 1, 1) ∧ decode cL_law 658 = .ok (.iadd, 1) ∧ decode cL_law 659 = .ok (.iaload, 1) ∧ decode cL_law 660 = .ok (.invokevirtual 163, 3) ∧ decode cL_law 663 = .ok (.istore 7, 2) ∧ decode cL_law 665 = .ok (.goto 1329, 3) ∧ decode cL_law 668 = .ok (.aload_n 1, 1) ∧ decode cL_law 669 = .ok (.invokevirtual 164, 3) ∧ decode cL_law 672 = .ok (.pop, 1) := by decide +kernel
theorem dL_law_655 : decode cL_law 655 = .ok (.iload 5, 2) := ldc_28.1
theorem dL_law_657 : decode cL_law 657 = .ok (.iconst 1, 1) := ldc_28.2.1
theorem dL_law_658 : decode cL_law 658 = .ok (.iadd, 1) := ldc_28.2.2.1
theorem dL_law_659 : decode cL_law 659 = .ok (.iaload, 1) := ldc_28.2.2.2.1
theorem dL_law_660 : decode cL_law 660 = .ok (.invokevirtual 163, 3) := ldc_28.2.2.2.2.1
theorem dL_law_663 : decode cL_law 663 = .ok (.istore 7, 2) := ldc_28.2.2.2.2.2.1
theorem dL_law_665 : decode cL_law 665 = .ok (.goto 1329, 3) := ldc_28.2.2.2.2.2.2.1
theorem dL_law_668 : decode cL_law 668 = .ok (.aload_n 1, 1) := ldc_28.2.2.2.2.2.2.2.1
theorem dL_law_669 : decode cL_law 669 = .ok (.invokevirtual 164, 3) := ldc_28.2.2.2.2.2.2.2.2.1
theorem dL_law_672 : decode cL_law 672 = .ok (.pop, 1) := ldc_28.2.2.2.2.2.2.2.2.2
set_option maxRecDepth 100000 in
theorem ldc_29 : decode cL_law 673 = .ok (.aload_n 2, 1) ∧ decode cL_law 674 = .ok (.invokevirtual 167, 3) ∧ decode cL_law 677 = .ok (.pop, 1) ∧ decode cL_law 678 = .ok (.goto 1316, 3) ∧ decode cL_law 681 = .ok (.aload_n 1, 1) ∧ decode cL_law 682 = .ok (.invokevirtual 168, 3) ∧ decode cL_law 685 = .ok (.pop, 1) ∧ decode cL_law 686 = .ok (.aload_n 2, 1) ∧ decode cL_law 687 = .ok (.invokevirtual 171, 3) ∧ decode cL_law 690 = .ok (.pop, 1) := by decide +kernel
theorem dL_law_673 : decode cL_law 673 = .ok (.aload_n 2, 1) := ldc_29.1
theorem dL_law_674 : decode cL_law 674 = .ok (.invokevirtual 167, 3) := ldc_29.2.1
theorem dL_law_677 : decode cL_law 677 = .ok (.pop, 1) := ldc_29.2.2.1
theorem dL_law_678 : decode cL_law 678 = .ok (.goto 1316, 3) := ldc_29.2.2.2.1
theorem dL_law_681 : decode cL_law 681 = .ok (.aload_n 1, 1) := ldc_29.2.2.2.2.1
theorem dL_law_682 : decode cL_law 682 = .ok (.invokevirtual 168, 3) := ldc_29.2.2.2.2.2.1
theorem dL_law_685 : decode cL_law 685 = .ok (.pop, 1) := ldc_29.2.2.2.2.2.2.1
theorem dL_law_686 : decode cL_law 686 = .ok (.aload_n 2, 1) := ldc_29.2.2.2.2.2.2.2.1
theorem dL_law_687 : decode cL_law 687 = .ok (.invokevirtual 171, 3) := ldc_29.2.2.2.2.2.2.2.2.1
theorem dL_law_690 : decode cL_law 690 = .ok (.pop, 1) := ldc_29.2.2.2.2.2.2.2.2.2
set_option maxRecDepth 100000 in
theorem ldc_30 : decode cL_law 691 = .ok (.goto 1303, 3) ∧ decode cL_law 694 = .ok (.aload_n 1, 1) ∧ decode cL_law 695 = .ok (.aload_n 0, 1) ∧ decode cL_law 696 = .ok (.iload 5, 2) ∧ decode cL_law 698 = .ok (.iconst 1, 1) ∧ decode cL_law 699 = .ok (.iadd, 1) ∧ decode cL_law 700 = .ok (.iaload, 1) ∧ decode cL_law 701 = .ok (.aload_n 0, 1) ∧ decode cL_law 702 = .ok (.iload 5, 2) ∧ decode cL_law 704 = .ok (.iconst 2, 1) := by decide +kernel
theorem dL_law_691 : decode cL_law 691 = .ok (.goto 1303, 3) := ldc_30.1
theorem dL_law_694 : decode cL_law 694 = .ok (.aload_n 1, 1) := ldc_30.2.1
theorem dL_law_695 : decode cL_law 695 = .ok (.aload_n 0, 1) := ldc_30.2.2.1
theorem dL_law_696 : decode cL_law 696 = .ok (.iload 5, 2) := ldc_30.2.2.2.1
theorem dL_law_698 : decode cL_law 698 = .ok (.iconst 1, 1) := ldc_30.2.2.2.2.1
theorem dL_law_699 : decode cL_law 699 = .ok (.iadd, 1) := ldc_30.2.2.2.2.2.1
theorem dL_law_700 : decode cL_law 700 = .ok (.iaload, 1) := ldc_30.2.2.2.2.2.2.1
theorem dL_law_701 : decode cL_law 701 = .ok (.aload_n 0, 1) := ldc_30.2.2.2.2.2.2.2.1
theorem dL_law_702 : decode cL_law 702 = .ok (.iload 5, 2) := ldc_30.2.2.2.2.2.2.2.2.1
theorem dL_law_704 : decode cL_law 704 = .ok (.iconst 2, 1) := ldc_30.2.2.2.2.2.2.2.2.2
set_option maxRecDepth 100000 in
theorem ldc_31 : decode cL_law 705 = .ok (.iadd, 1) ∧ decode cL_law 706 = .ok (.iaload, 1) ∧ decode cL_law 707 = .ok (.aload_n 3, 1) ∧ decode cL_law 708 = .ok (.invokestatic 172, 3) ∧ decode cL_law 711 = .ok (.istore 6, 2) ∧ decode cL_law 713 = .ok (.aload_n 2, 1) ∧ decode cL_law 714 = .ok (.aload_n 0, 1) ∧ decode cL_law 715 = .ok (.iload 5, 2) ∧ decode cL_law 717 = .ok (.iconst 1, 1) ∧ decode cL_law 718 = .ok (.iadd, 1) := by decide +kernel
theorem dL_law_705 : decode cL_law 705 = .ok (.iadd, 1) := ldc_31.1
theorem dL_law_706 : decode cL_law 706 = .ok (.iaload, 1) := ldc_31.2.1
theorem dL_law_707 : decode cL_law 707 = .ok (.aload_n 3, 1) := ldc_31.2.2.1
theorem dL_law_708 : decode cL_law 708 = .ok (.invokestatic 172, 3) := ldc_31.2.2.2.1
theorem dL_law_711 : decode cL_law 711 = .ok (.istore 6, 2) := ldc_31.2.2.2.2.1
theorem dL_law_713 : decode cL_law 713 = .ok (.aload_n 2, 1) := ldc_31.2.2.2.2.2.1
theorem dL_law_714 : decode cL_law 714 = .ok (.aload_n 0, 1) := ldc_31.2.2.2.2.2.2.1
theorem dL_law_715 : decode cL_law 715 = .ok (.iload 5, 2) := ldc_31.2.2.2.2.2.2.2.1
theorem dL_law_717 : decode cL_law 717 = .ok (.iconst 1, 1) := ldc_31.2.2.2.2.2.2.2.2.1
theorem dL_law_718 : decode cL_law 718 = .ok (.iadd, 1) := ldc_31.2.2.2.2.2.2.2.2.2
set_option maxRecDepth 100000 in
theorem ldc_32 : decode cL_law 719 = .ok (.iaload, 1) ∧ decode cL_law 720 = .ok (.aload_n 0, 1) ∧ decode cL_law 721 = .ok (.iload 5, 2) ∧ decode cL_law 723 = .ok (.iconst 2, 1) ∧ decode cL_law 724 = .ok (.iadd, 1) ∧ decode cL_law 725 = .ok (.iaload, 1) ∧ decode cL_law 726 = .ok (.invokevirtual 175, 3) ∧ decode cL_law 729 = .ok (.lstore 7, 2) ∧ decode cL_law 731 = .ok (.goto 1263, 3) ∧ decode cL_law 734 = .ok (.aload_n 1, 1) := by decide +kernel
theorem dL_law_719 : decode cL_law 719 = .ok (.iaload, 1) := ldc_32.1
theorem dL_law_720 : decode cL_law 720 = .ok (.aload_n 0, 1) := ldc_32.2.1
theorem dL_law_721 : decode cL_law 721 = .ok (.iload 5, 2) := ldc_32.2.2.1
theorem dL_law_723 : decode cL_law 723 = .ok (.iconst 2, 1) := ldc_32.2.2.2.1
theorem dL_law_724 : decode cL_law 724 = .ok (.iadd, 1) := ldc_32.2.2.2.2.1
theorem dL_law_725 : decode cL_law 725 = .ok (.iaload, 1) := ldc_32.2.2.2.2.2.1
theorem dL_law_726 : decode cL_law 726 = .ok (.invokevirtual 175, 3) := ldc_32.2.2.2.2.2.2.1
theorem dL_law_729 : decode cL_law 729 = .ok (.lstore 7, 2) := ldc_32.2.2.2.2.2.2.2.1
theorem dL_law_731 : decode cL_law 731 = .ok (.goto 1263, 3) := ldc_32.2.2.2.2.2.2.2.2.1
theorem dL_law_734 : decode cL_law 734 = .ok (.aload_n 1, 1) := ldc_32.2.2.2.2.2.2.2.2.2
set_option maxRecDepth 100000 in
theorem ldc_33 : decode cL_law 735 = .ok (.invokevirtual 176, 3) ∧ decode cL_law 738 = .ok (.pop, 1) ∧ decode cL_law 739 = .ok (.aload_n 2, 1) ∧ decode cL_law 740 = .ok (.invokevirtual 179, 3) ∧ decode cL_law 743 = .ok (.pop, 1) ∧ decode cL_law 744 = .ok (.goto 1250, 3) ∧ decode cL_law 747 = .ok (.aload_n 1, 1) ∧ decode cL_law 748 = .ok (.invokevirtual 180, 3) ∧ decode cL_law 751 = .ok (.pop, 1) ∧ decode cL_law 752 = .ok (.aload_n 2, 1) := by decide +kernel
theorem dL_law_735 : decode cL_law 735 = .ok (.invokevirtual 176, 3) := ldc_33.1
theorem dL_law_738 : decode cL_law 738 = .ok (.pop, 1) := ldc_33.2.1
theorem dL_law_739 : decode cL_law 739 = .ok (.aload_n 2, 1) := ldc_33.2.2.1
theorem dL_law_740 : decode cL_law 740 = .ok (.invokevirtual 179, 3) := ldc_33.2.2.2.1
theorem dL_law_743 : decode cL_law 743 = .ok (.pop, 1) := ldc_33.2.2.2.2.1
theorem dL_law_744 : decode cL_law 744 = .ok (.goto 1250, 3) := ldc_33.2.2.2.2.2.1
theorem dL_law_747 : decode cL_law 747 = .ok (.aload_n 1, 1) := ldc_33.2.2.2.2.2.2.1
theorem dL_law_748 : decode cL_law 748 = .ok (.invokevirtual 180, 3) := ldc_33.2.2.2.2.2.2.2.1
theorem dL_law_751 : decode cL_law 751 = .ok (.pop, 1) := ldc_33.2.2.2.2.2.2.2.2.1
theorem dL_law_752 : decode cL_law 752 = .ok (.aload_n 2, 1) := ldc_33.2.2.2.2.2.2.2.2.2
set_option maxRecDepth 100000 in
theorem ldc_34 : decode cL_law 753 = .ok (.invokevirtual 183, 3) ∧ decode cL_law 756 = .ok (.pop, 1) ∧ decode cL_law 757 = .ok (.goto 1237, 3) ∧ decode cL_law 760 = .ok (.aload_n 1, 1) ∧ decode cL_law 761 = .ok (.aload_n 0, 1) ∧ decode cL_law 762 = .ok (.iload 5, 2) ∧ decode cL_law 764 = .ok (.iconst 1, 1) ∧ decode cL_law 765 = .ok (.iadd, 1) ∧ decode cL_law 766 = .ok (.iaload, 1) ∧ decode cL_law 767 = .ok (.invokevirtual 184, 3) := by decide +kernel
theorem dL_law_753 : decode cL_law 753 = .ok (.invokevirtual 183, 3) := ldc_34.1
theorem dL_law_756 : decode cL_law 756 = .ok (.pop, 1) := ldc_34.2.1
theorem dL_law_757 : decode cL_law 757 = .ok (.goto 1237, 3) := ldc_34.2.2.1
theorem dL_law_760 : decode cL_law 760 = .ok (.aload_n 1, 1) := ldc_34.2.2.2.1
theorem dL_law_761 : decode cL_law 761 = .ok (.aload_n 0, 1) := ldc_34.2.2.2.2.1
theorem dL_law_762 : decode cL_law 762 = .ok (.iload 5, 2) := ldc_34.2.2.2.2.2.1
theorem dL_law_764 : decode cL_law 764 = .ok (.iconst 1, 1) := ldc_34.2.2.2.2.2.2.1
theorem dL_law_765 : decode cL_law 765 = .ok (.iadd, 1) := ldc_34.2.2.2.2.2.2.2.1
theorem dL_law_766 : decode cL_law 766 = .ok (.iaload, 1) := ldc_34.2.2.2.2.2.2.2.2.1
theorem dL_law_767 : decode cL_law 767 = .ok (.invokevirtual 184, 3) := ldc_34.2.2.2.2.2.2.2.2.2
set_option maxRecDepth 100000 in
theorem ldc_35 : decode cL_law 770 = .ok (.pop, 1) ∧ decode cL_law 771 = .ok (.aload_n 2, 1) ∧ decode cL_law 772 = .ok (.aload_n 0, 1) ∧ decode cL_law 773 = .ok (.iload 5, 2) ∧ decode cL_law 775 = .ok (.iconst 1, 1) ∧ decode cL_law 776 = .ok (.iadd, 1) ∧ decode cL_law 777 = .ok (.iaload, 1) ∧ decode cL_law 778 = .ok (.invokevirtual 187, 3) ∧ decode cL_law 781 = .ok (.pop, 1) ∧ decode cL_law 782 = .ok (.goto 1212, 3) := by decide +kernel
theorem dL_law_770 : decode cL_law 770 = .ok (.pop, 1) := ldc_35.1
theorem dL_law_771 : decode cL_law 771 = .ok (.aload_n 2, 1) := ldc_35.2.1
theorem dL_law_772 : decode cL_law 772 = .ok (.aload_n 0, 1) := ldc_35.2.2.1
theorem dL_law_773 : decode cL_law 773 = .ok (.iload 5, 2) := ldc_35.2.2.2.1
theorem dL_law_775 : decode cL_law 775 = .ok (.iconst 1, 1) := ldc_35.2.2.2.2.1
theorem dL_law_776 : decode cL_law 776 = .ok (.iadd, 1) := ldc_35.2.2.2.2.2.1
theorem dL_law_777 : decode cL_law 777 = .ok (.iaload, 1) := ldc_35.2.2.2.2.2.2.1
theorem dL_law_778 : decode cL_law 778 = .ok (.invokevirtual 187, 3) := ldc_35.2.2.2.2.2.2.2.1
theorem dL_law_781 : decode cL_law 781 = .ok (.pop, 1) := ldc_35.2.2.2.2.2.2.2.2.1
theorem dL_law_782 : decode cL_law 782 = .ok (.goto 1212, 3) := ldc_35.2.2.2.2.2.2.2.2.2
set_option maxRecDepth 100000 in
theorem ldc_36 : decode cL_law 785 = .ok (.aload_n 1, 1) ∧ decode cL_law 786 = .ok (.aload_n 0, 1) ∧ decode cL_law 787 = .ok (.iload 5, 2) ∧ decode cL_law 789 = .ok (.iconst 1, 1) ∧ decode cL_law 790 = .ok (.iadd, 1) ∧ decode cL_law 791 = .ok (.iaload, 1) ∧ decode cL_law 792 = .ok (.ifCond .eq 7, 3) ∧ decode cL_law 795 = .ok (.iconst 1, 1) ∧ decode cL_law 796 = .ok (.goto 4, 3) ∧ decode cL_law 799 = .ok (.iconst 0, 1) := by decide +kernel
theorem dL_law_785 : decode cL_law 785 = .ok (.aload_n 1, 1) := ldc_36.1
theorem dL_law_786 : decode cL_law 786 = .ok (.aload_n 0, 1) := ldc_36.2.1
theorem dL_law_787 : decode cL_law 787 = .ok (.iload 5, 2) := ldc_36.2.2.1
theorem dL_law_789 : decode cL_law 789 = .ok (.iconst 1, 1) := ldc_36.2.2.2.1
theorem dL_law_790 : decode cL_law 790 = .ok (.iadd, 1) := ldc_36.2.2.2.2.1
theorem dL_law_791 : decode cL_law 791 = .ok (.iaload, 1) := ldc_36.2.2.2.2.2.1
theorem dL_law_792 : decode cL_law 792 = .ok (.ifCond .eq 7, 3) := ldc_36.2.2.2.2.2.2.1
theorem dL_law_795 : decode cL_law 795 = .ok (.iconst 1, 1) := ldc_36.2.2.2.2.2.2.2.1
theorem dL_law_796 : decode cL_law 796 = .ok (.goto 4, 3) := ldc_36.2.2.2.2.2.2.2.2.1
theorem dL_law_799 : decode cL_law 799 = .ok (.iconst 0, 1) := ldc_36.2.2.2.2.2.2.2.2.2
set_option maxRecDepth 100000 in
theorem ldc_37 : decode cL_law 800 = .ok (.invokevirtual 188, 3) ∧ decode cL_law 803 = .ok (.pop, 1) ∧ decode cL_law 804 = .ok (.aload_n 2, 1) ∧ decode cL_law 805 = .ok (.aload_n 0, 1) ∧ decode cL_law 806 = .ok (.iload 5, 2) ∧ decode cL_law 808 = .ok (.iconst 1, 1) ∧ decode cL_law 809 = .ok (.iadd, 1) ∧ decode cL_law 810 = .ok (.iaload, 1) ∧ decode cL_law 811 = .ok (.ifCond .eq 7, 3) ∧ decode cL_law 814 = .ok (.iconst 1, 1) := by decide +kernel
theorem dL_law_800 : decode cL_law 800 = .ok (.invokevirtual 188, 3) := ldc_37.1
theorem dL_law_803 : decode cL_law 803 = .ok (.pop, 1) := ldc_37.2.1
theorem dL_law_804 : decode cL_law 804 = .ok (.aload_n 2, 1) := ldc_37.2.2.1
theorem dL_law_805 : decode cL_law 805 = .ok (.aload_n 0, 1) := ldc_37.2.2.2.1
theorem dL_law_806 : decode cL_law 806 = .ok (.iload 5, 2) := ldc_37.2.2.2.2.1
theorem dL_law_808 : decode cL_law 808 = .ok (.iconst 1, 1) := ldc_37.2.2.2.2.2.1
theorem dL_law_809 : decode cL_law 809 = .ok (.iadd, 1) := ldc_37.2.2.2.2.2.2.1
theorem dL_law_810 : decode cL_law 810 = .ok (.iaload, 1) := ldc_37.2.2.2.2.2.2.2.1
theorem dL_law_811 : decode cL_law 811 = .ok (.ifCond .eq 7, 3) := ldc_37.2.2.2.2.2.2.2.2.1
theorem dL_law_814 : decode cL_law 814 = .ok (.iconst 1, 1) := ldc_37.2.2.2.2.2.2.2.2.2
set_option maxRecDepth 100000 in
theorem ldc_38 : decode cL_law 815 = .ok (.goto 4, 3) ∧ decode cL_law 818 = .ok (.iconst 0, 1) ∧ decode cL_law 819 = .ok (.invokevirtual 192, 3) ∧ decode cL_law 822 = .ok (.pop, 1) ∧ decode cL_law 823 = .ok (.goto 1171, 3) ∧ decode cL_law 826 = .ok (.aload_n 1, 1) ∧ decode cL_law 827 = .ok (.aload_n 0, 1) ∧ decode cL_law 828 = .ok (.iload 5, 2) ∧ decode cL_law 830 = .ok (.iconst 1, 1) ∧ decode cL_law 831 = .ok (.iadd, 1) := by decide +kernel
theorem dL_law_815 : decode cL_law 815 = .ok (.goto 4, 3) := ldc_38.1
theorem dL_law_818 : decode cL_law 818 = .ok (.iconst 0, 1) := ldc_38.2.1
theorem dL_law_819 : decode cL_law 819 = .ok (.invokevirtual 192, 3) := ldc_38.2.2.1
theorem dL_law_822 : decode cL_law 822 = .ok (.pop, 1) := ldc_38.2.2.2.1
theorem dL_law_823 : decode cL_law 823 = .ok (.goto 1171, 3) := ldc_38.2.2.2.2.1
theorem dL_law_826 : decode cL_law 826 = .ok (.aload_n 1, 1) := ldc_38.2.2.2.2.2.1
theorem dL_law_827 : decode cL_law 827 = .ok (.aload_n 0, 1) := ldc_38.2.2.2.2.2.2.1
theorem dL_law_828 : decode cL_law 828 = .ok (.iload 5, 2) := ldc_38.2.2.2.2.2.2.2.1
theorem dL_law_830 : decode cL_law 830 = .ok (.iconst 1, 1) := ldc_38.2.2.2.2.2.2.2.2.1
theorem dL_law_831 : decode cL_law 831 = .ok (.iadd, 1) := ldc_38.2.2.2.2.2.2.2.2.2
set_option maxRecDepth 100000 in
theorem ldc_39 : decode cL_law 832 = .ok (.iaload, 1) ∧ decode cL_law 833 = .ok (.invokevirtual 193, 3) ∧ decode cL_law 836 = .ok (.pop, 1) ∧ decode cL_law 837 = .ok (.aload_n 2, 1) ∧ decode cL_law 838 = .ok (.aload_n 0, 1) ∧ decode cL_law 839 = .ok (.iload 5, 2) ∧ decode cL_law 841 = .ok (.iconst 1, 1) ∧ decode cL_law 842 = .ok (.iadd, 1) ∧ decode cL_law 843 = .ok (.iaload, 1) ∧ decode cL_law 844 = .ok (.invokevirtual 196, 3) := by decide +kernel
theorem dL_law_832 : decode cL_law 832 = .ok (.iaload, 1) := ldc_39.1
theorem dL_law_833 : decode cL_law 833 = .ok (.invokevirtual 193, 3) := ldc_39.2.1
theorem dL_law_836 : decode cL_law 836 = .ok (.pop, 1) := ldc_39.2.2.1
theorem dL_law_837 : decode cL_law 837 = .ok (.aload_n 2, 1) := ldc_39.2.2.2.1
theorem dL_law_838 : decode cL_law 838 = .ok (.aload_n 0, 1) := ldc_39.2.2.2.2.1
theorem dL_law_839 : decode cL_law 839 = .ok (.iload 5, 2) := ldc_39.2.2.2.2.2.1
theorem dL_law_841 : decode cL_law 841 = .ok (.iconst 1, 1) := ldc_39.2.2.2.2.2.2.1
theorem dL_law_842 : decode cL_law 842 = .ok (.iadd, 1) := ldc_39.2.2.2.2.2.2.2.1
theorem dL_law_843 : decode cL_law 843 = .ok (.iaload, 1) := ldc_39.2.2.2.2.2.2.2.2.1
theorem dL_law_844 : decode cL_law 844 = .ok (.invokevirtual 196, 3) := ldc_39.2.2.2.2.2.2.2.2.2
set_option maxRecDepth 100000 in
theorem ldc_40 : decode cL_law 847 = .ok (.pop, 1) ∧ decode cL_law 848 = .ok (.goto 1146, 3) ∧ decode cL_law 851 = .ok (.aload_n 1, 1) ∧ decode cL_law 852 = .ok (.invokevirtual 197, 3) ∧ decode cL_law 855 = .ok (.pop, 1) ∧ decode cL_law 856 = .ok (.aload_n 2, 1) ∧ decode cL_law 857 = .ok (.invokevirtual 200, 3) ∧ decode cL_law 860 = .ok (.pop, 1) ∧ decode cL_law 861 = .ok (.goto 1133, 3) ∧ decode cL_law 864 = .ok (.aload_n 1, 1) := by decide +kernel
theorem dL_law_847 : decode cL_law 847 = .ok (.pop, 1) := ldc_40.1
theorem dL_law_848 : decode cL_law 848 = .ok (.goto 1146, 3) := ldc_40.2.1
theorem dL_law_851 : decode cL_law 851 = .ok (.aload_n 1, 1) := ldc_40.2.2.1
theorem dL_law_852 : decode cL_law 852 = .ok (.invokevirtual 197, 3) := ldc_40.2.2.2.1
theorem dL_law_855 : decode cL_law 855 = .ok (.pop, 1) := ldc_40.2.2.2.2.1
theorem dL_law_856 : decode cL_law 856 = .ok (.aload_n 2, 1) := ldc_40.2.2.2.2.2.1
theorem dL_law_857 : decode cL_law 857 = .ok (.invokevirtual 200, 3) := ldc_40.2.2.2.2.2.2.1
theorem dL_law_860 : decode cL_law 860 = .ok (.pop, 1) := ldc_40.2.2.2.2.2.2.2.1
theorem dL_law_861 : decode cL_law 861 = .ok (.goto 1133, 3) := ldc_40.2.2.2.2.2.2.2.2.1
theorem dL_law_864 : decode cL_law 864 = .ok (.aload_n 1, 1) := ldc_40.2.2.2.2.2.2.2.2.2
set_option maxRecDepth 100000 in
theorem ldc_41 : decode cL_law 865 = .ok (.aload_n 0, 1) ∧ decode cL_law 866 = .ok (.iload 5, 2) ∧ decode cL_law 868 = .ok (.iconst 1, 1) ∧ decode cL_law 869 = .ok (.iadd, 1) ∧ decode cL_law 870 = .ok (.iaload, 1) ∧ decode cL_law 871 = .ok (.aload_n 3, 1) ∧ decode cL_law 872 = .ok (.invokestatic 201, 3) ∧ decode cL_law 875 = .ok (.istore 6, 2) ∧ decode cL_law 877 = .ok (.aload_n 2, 1) ∧ decode cL_law 878 = .ok (.aload_n 0, 1) := by decide +kernel
theorem dL_law_865 : decode cL_law 865 = .ok (.aload_n 0, 1) := ldc_41.1
theorem dL_law_866 : decode cL_law 866 = .ok (.iload 5, 2) := ldc_41.2.1
theorem dL_law_868 : decode cL_law 868 = .ok (.iconst 1, 1) := ldc_41.2.2.1
theorem dL_law_869 : decode cL_law 869 = .ok (.iadd, 1) := ldc_41.2.2.2.1
theorem dL_law_870 : decode cL_law 870 = .ok (.iaload, 1) := ldc_41.2.2.2.2.1
theorem dL_law_871 : decode cL_law 871 = .ok (.aload_n 3, 1) := ldc_41.2.2.2.2.2.1
theorem dL_law_872 : decode cL_law 872 = .ok (.invokestatic 201, 3) := ldc_41.2.2.2.2.2.2.1
theorem dL_law_875 : decode cL_law 875 = .ok (.istore 6, 2) := ldc_41.2.2.2.2.2.2.2.1
theorem dL_law_877 : decode cL_law 877 = .ok (.aload_n 2, 1) := ldc_41.2.2.2.2.2.2.2.2.1
theorem dL_law_878 : decode cL_law 878 = .ok (.aload_n 0, 1) := ldc_41.2.2.2.2.2.2.2.2.2
set_option maxRecDepth 100000 in
theorem ldc_42 : decode cL_law 879 = .ok (.iload 5, 2) ∧ decode cL_law 881 = .ok (.iconst 1, 1) ∧ decode cL_law 882 = .ok (.iadd, 1) ∧ decode cL_law 883 = .ok (.iaload, 1) ∧ decode cL_law 884 = .ok (.invokevirtual 203, 3) ∧ decode cL_law 887 = .ok (.istore 7, 2) ∧ decode cL_law 889 = .ok (.goto 1105, 3) ∧ decode cL_law 892 = .ok (.aload_n 1, 1) ∧ decode cL_law 893 = .ok (.aload_n 0, 1) ∧ decode cL_law 894 = .ok (.iload 5, 2) := by decide +kernel
theorem dL_law_879 : decode cL_law 879 = .ok (.iload 5, 2) := ldc_42.1
theorem dL_law_881 : decode cL_law 881 = .ok (.iconst 1, 1) := ldc_42.2.1
theorem dL_law_882 : decode cL_law 882 = .ok (.iadd, 1) := ldc_42.2.2.1
theorem dL_law_883 : decode cL_law 883 = .ok (.iaload, 1) := ldc_42.2.2.2.1
theorem dL_law_884 : decode cL_law 884 = .ok (.invokevirtual 203, 3) := ldc_42.2.2.2.2.1
theorem dL_law_887 : decode cL_law 887 = .ok (.istore 7, 2) := ldc_42.2.2.2.2.2.1
theorem dL_law_889 : decode cL_law 889 = .ok (.goto 1105, 3) := ldc_42.2.2.2.2.2.2.1
theorem dL_law_892 : decode cL_law 892 = .ok (.aload_n 1, 1) := ldc_42.2.2.2.2.2.2.2.1
theorem dL_law_893 : decode cL_law 893 = .ok (.aload_n 0, 1) := ldc_42.2.2.2.2.2.2.2.2.1
theorem dL_law_894 : decode cL_law 894 = .ok (.iload 5, 2) := ldc_42.2.2.2.2.2.2.2.2.2
set_option maxRecDepth 100000 in
theorem ldc_43 : decode cL_law 896 = .ok (.iconst 1, 1) ∧ decode cL_law 897 = .ok (.iadd, 1) ∧ decode cL_law 898 = .ok (.iaload, 1) ∧ decode cL_law 899 = .ok (.aload_n 3, 1) ∧ decode cL_law 900 = .ok (.invokestatic 204, 3) ∧ decode cL_law 903 = .ok (.istore 6, 2) ∧ decode cL_law 905 = .ok (.aload_n 2, 1) ∧ decode cL_law 906 = .ok (.aload_n 0, 1) ∧ decode cL_law 907 = .ok (.iload 5, 2) ∧ decode cL_law 909 = .ok (.iconst 1, 1) := by decide +kernel
theorem dL_law_896 : decode cL_law 896 = .ok (.iconst 1, 1) := ldc_43.1
theorem dL_law_897 : decode cL_law 897 = .ok (.iadd, 1) := ldc_43.2.1
theorem dL_law_898 : decode cL_law 898 = .ok (.iaload, 1) := ldc_43.2.2.1
theorem dL_law_899 : decode cL_law 899 = .ok (.aload_n 3, 1) := ldc_43.2.2.2.1
theorem dL_law_900 : decode cL_law 900 = .ok (.invokestatic 204, 3) := ldc_43.2.2.2.2.1
theorem dL_law_903 : decode cL_law 903 = .ok (.istore 6, 2) := ldc_43.2.2.2.2.2.1
theorem dL_law_905 : decode cL_law 905 = .ok (.aload_n 2, 1) := ldc_43.2.2.2.2.2.2.1
theorem dL_law_906 : decode cL_law 906 = .ok (.aload_n 0, 1) := ldc_43.2.2.2.2.2.2.2.1
theorem dL_law_907 : decode cL_law 907 = .ok (.iload 5, 2) := ldc_43.2.2.2.2.2.2.2.2.1
theorem dL_law_909 : decode cL_law 909 = .ok (.iconst 1, 1) := ldc_43.2.2.2.2.2.2.2.2.2
set_option maxRecDepth 100000 in
theorem ldc_44 : decode cL_law 910 = .ok (.iadd, 1) ∧ decode cL_law 911 = .ok (.iaload, 1) ∧ decode cL_law 912 = .ok (.invokevirtual 206, 3) ∧ decode cL_law 915 = .ok (.istore 7, 2) ∧ decode cL_law 917 = .ok (.goto 1077, 3) ∧ decode cL_law 920 = .ok (.aload_n 1, 1) ∧ decode cL_law 921 = .ok (.aload_n 0, 1) ∧ decode cL_law 922 = .ok (.iload 5, 2) ∧ decode cL_law 924 = .ok (.iconst 1, 1) ∧ decode cL_law 925 = .ok (.iadd, 1) := by decide +kernel
theorem dL_law_910 : decode cL_law 910 = .ok (.iadd, 1) := ldc_44.1
theorem dL_law_911 : decode cL_law 911 = .ok (.iaload, 1) := ldc_44.2.1
theorem dL_law_912 : decode cL_law 912 = .ok (.invokevirtual 206, 3) := ldc_44.2.2.1
theorem dL_law_915 : decode cL_law 915 = .ok (.istore 7, 2) := ldc_44.2.2.2.1
theorem dL_law_917 : decode cL_law 917 = .ok (.goto 1077, 3) := ldc_44.2.2.2.2.1
theorem dL_law_920 : decode cL_law 920 = .ok (.aload_n 1, 1) := ldc_44.2.2.2.2.2.1
theorem dL_law_921 : decode cL_law 921 = .ok (.aload_n 0, 1) := ldc_44.2.2.2.2.2.2.1
theorem dL_law_922 : decode cL_law 922 = .ok (.iload 5, 2) := ldc_44.2.2.2.2.2.2.2.1
theorem dL_law_924 : decode cL_law 924 = .ok (.iconst 1, 1) := ldc_44.2.2.2.2.2.2.2.2.1
theorem dL_law_925 : decode cL_law 925 = .ok (.iadd, 1) := ldc_44.2.2.2.2.2.2.2.2.2
set_option maxRecDepth 100000 in
theorem ldc_45 : decode cL_law 926 = .ok (.iaload, 1) ∧ decode cL_law 927 = .ok (.aload_n 0, 1) ∧ decode cL_law 928 = .ok (.iload 5, 2) ∧ decode cL_law 930 = .ok (.iconst 2, 1) ∧ decode cL_law 931 = .ok (.iadd, 1) ∧ decode cL_law 932 = .ok (.iaload, 1) ∧ decode cL_law 933 = .ok (.aload_n 3, 1) ∧ decode cL_law 934 = .ok (.invokestatic 207, 3) ∧ decode cL_law 937 = .ok (.istore 6, 2) ∧ decode cL_law 939 = .ok (.aload_n 2, 1) := by decide +kernel
theorem dL_law_926 : decode cL_law 926 = .ok (.iaload, 1) := ldc_45.1
theorem dL_law_927 : decode cL_law 927 = .ok (.aload_n 0, 1) := ldc_45.2.1
theorem dL_law_928 : decode cL_law 928 = .ok (.iload 5, 2) := ldc_45.2.2.1
theorem dL_law_930 : decode cL_law 930 = .ok (.iconst 2, 1) := ldc_45.2.2.2.1
theorem dL_law_931 : decode cL_law 931 = .ok (.iadd, 1) := ldc_45.2.2.2.2.1
theorem dL_law_932 : decode cL_law 932 = .ok (.iaload, 1) := ldc_45.2.2.2.2.2.1
theorem dL_law_933 : decode cL_law 933 = .ok (.aload_n 3, 1) := ldc_45.2.2.2.2.2.2.1
theorem dL_law_934 : decode cL_law 934 = .ok (.invokestatic 207, 3) := ldc_45.2.2.2.2.2.2.2.1
theorem dL_law_937 : decode cL_law 937 = .ok (.istore 6, 2) := ldc_45.2.2.2.2.2.2.2.2.1
theorem dL_law_939 : decode cL_law 939 = .ok (.aload_n 2, 1) := ldc_45.2.2.2.2.2.2.2.2.2
set_option maxRecDepth 100000 in
theorem ldc_46 : decode cL_law 940 = .ok (.aload_n 0, 1) ∧ decode cL_law 941 = .ok (.iload 5, 2) ∧ decode cL_law 943 = .ok (.iconst 1, 1) ∧ decode cL_law 944 = .ok (.iadd, 1) ∧ decode cL_law 945 = .ok (.iaload, 1) ∧ decode cL_law 946 = .ok (.aload_n 0, 1) ∧ decode cL_law 947 = .ok (.iload 5, 2) ∧ decode cL_law 949 = .ok (.iconst 2, 1) ∧ decode cL_law 950 = .ok (.iadd, 1) ∧ decode cL_law 951 = .ok (.iaload, 1) := by decide +kernel
theorem dL_law_940 : decode cL_law 940 = .ok (.aload_n 0, 1) := ldc_46.1
theorem dL_law_941 : decode cL_law 941 = .ok (.iload 5, 2) := ldc_46.2.1
theorem dL_law_943 : decode cL_law 943 = .ok (.iconst 1, 1) := ldc_46.2.2.1
theorem dL_law_944 : decode cL_law 944 = .ok (.iadd, 1) := ldc_46.2.2.2.1
theorem dL_law_945 : decode cL_law 945 = .ok (.iaload, 1) := ldc_46.2.2.2.2.1
theorem dL_law_946 : decode cL_law 946 = .ok (.aload_n 0, 1) := ldc_46.2.2.2.2.2.1
theorem dL_law_947 : decode cL_law 947 = .ok (.iload 5, 2) := ldc_46.2.2.2.2.2.2.1
theorem dL_law_949 : decode cL_law 949 = .ok (.iconst 2, 1) := ldc_46.2.2.2.2.2.2.2.1
theorem dL_law_950 : decode cL_law 950 = .ok (.iadd, 1) := ldc_46.2.2.2.2.2.2.2.2.1
theorem dL_law_951 : decode cL_law 951 = .ok (.iaload, 1) := ldc_46.2.2.2.2.2.2.2.2.2
set_option maxRecDepth 100000 in
theorem ldc_47 : decode cL_law 952 = .ok (.invokevirtual 209, 3) ∧ decode cL_law 955 = .ok (.istore 7, 2) ∧ decode cL_law 957 = .ok (.goto 1037, 3) ∧ decode cL_law 960 = .ok (.aload_n 1, 1) ∧ decode cL_law 961 = .ok (.aload_n 0, 1) ∧ decode cL_law 962 = .ok (.iload 5, 2) ∧ decode cL_law 964 = .ok (.iconst 1, 1) ∧ decode cL_law 965 = .ok (.iadd, 1) ∧ decode cL_law 966 = .ok (.iaload, 1) ∧ decode cL_law 967 = .ok (.aload_n 3, 1) := by decide +kernel
theorem dL_law_952 : decode cL_law 952 = .ok (.invokevirtual 209, 3) := ldc_47.1
theorem dL_law_955 : decode cL_law 955 = .ok (.istore 7, 2) := ldc_47.2.1
theorem dL_law_957 : decode cL_law 957 = .ok (.goto 1037, 3) := ldc_47.2.2.1
theorem dL_law_960 : decode cL_law 960 = .ok (.aload_n 1, 1) := ldc_47.2.2.2.1
theorem dL_law_961 : decode cL_law 961 = .ok (.aload_n 0, 1) := ldc_47.2.2.2.2.1
theorem dL_law_962 : decode cL_law 962 = .ok (.iload 5, 2) := ldc_47.2.2.2.2.2.1
theorem dL_law_964 : decode cL_law 964 = .ok (.iconst 1, 1) := ldc_47.2.2.2.2.2.2.1
theorem dL_law_965 : decode cL_law 965 = .ok (.iadd, 1) := ldc_47.2.2.2.2.2.2.2.1
theorem dL_law_966 : decode cL_law 966 = .ok (.iaload, 1) := ldc_47.2.2.2.2.2.2.2.2.1
theorem dL_law_967 : decode cL_law 967 = .ok (.aload_n 3, 1) := ldc_47.2.2.2.2.2.2.2.2.2
set_option maxRecDepth 100000 in
theorem ldc_48 : decode cL_law 968 = .ok (.invokestatic 210, 3) ∧ decode cL_law 971 = .ok (.istore 6, 2) ∧ decode cL_law 973 = .ok (.aload_n 2, 1) ∧ decode cL_law 974 = .ok (.aload_n 0, 1) ∧ decode cL_law 975 = .ok (.iload 5, 2) ∧ decode cL_law 977 = .ok (.iconst 1, 1) ∧ decode cL_law 978 = .ok (.iadd, 1) ∧ decode cL_law 979 = .ok (.iaload, 1) ∧ decode cL_law 980 = .ok (.invokevirtual 212, 3) ∧ decode cL_law 983 = .ok (.istore 7, 2) := by decide +kernel
theorem dL_law_968 : decode cL_law 968 = .ok (.invokestatic 210, 3) := ldc_48.1
theorem dL_law_971 : decode cL_law 971 = .ok (.istore 6, 2) := ldc_48.2.1
theorem dL_law_973 : decode cL_law 973 = .ok (.aload_n 2, 1) := ldc_48.2.2.1
theorem dL_law_974 : decode cL_law 974 = .ok (.aload_n 0, 1) := ldc_48.2.2.2.1
theorem dL_law_975 : decode cL_law 975 = .ok (.iload 5, 2) := ldc_48.2.2.2.2.1
theorem dL_law_977 : decode cL_law 977 = .ok (.iconst 1, 1) := ldc_48.2.2.2.2.2.1
theorem dL_law_978 : decode cL_law 978 = .ok (.iadd, 1) := ldc_48.2.2.2.2.2.2.1
theorem dL_law_979 : decode cL_law 979 = .ok (.iaload, 1) := ldc_48.2.2.2.2.2.2.2.1
theorem dL_law_980 : decode cL_law 980 = .ok (.invokevirtual 212, 3) := ldc_48.2.2.2.2.2.2.2.2.1
theorem dL_law_983 : decode cL_law 983 = .ok (.istore 7, 2) := ldc_48.2.2.2.2.2.2.2.2.2
set_option maxRecDepth 100000 in
theorem ldc_49 : decode cL_law 985 = .ok (.goto 1009, 3) ∧ decode cL_law 988 = .ok (.aload_n 1, 1) ∧ decode cL_law 989 = .ok (.aload_n 0, 1) ∧ decode cL_law 990 = .ok (.iload 5, 2) ∧ decode cL_law 992 = .ok (.iconst 1, 1) ∧ decode cL_law 993 = .ok (.iadd, 1) ∧ decode cL_law 994 = .ok (.iaload, 1) ∧ decode cL_law 995 = .ok (.aload_n 0, 1) ∧ decode cL_law 996 = .ok (.iload 5, 2) ∧ decode cL_law 998 = .ok (.iconst 2, 1) := by decide +kernel
theorem dL_law_985 : decode cL_law 985 = .ok (.goto 1009, 3) := ldc_49.1
theorem dL_law_988 : decode cL_law 988 = .ok (.aload_n 1, 1) := ldc_49.2.1
theorem dL_law_989 : decode cL_law 989 = .ok (.aload_n 0, 1) := ldc_49.2.2.1
theorem dL_law_990 : decode cL_law 990 = .ok (.iload 5, 2) := ldc_49.2.2.2.1
theorem dL_law_992 : decode cL_law 992 = .ok (.iconst 1, 1) := ldc_49.2.2.2.2.1
theorem dL_law_993 : decode cL_law 993 = .ok (.iadd, 1) := ldc_49.2.2.2.2.2.1
theorem dL_law_994 : decode cL_law 994 = .ok (.iaload, 1) := ldc_49.2.2.2.2.2.2.1
theorem dL_law_995 : decode cL_law 995 = .ok (.aload_n 0, 1) := ldc_49.2.2.2.2.2.2.2.1
theorem dL_law_996 : decode cL_law 996 = .ok (.iload 5, 2) := ldc_49.2.2.2.2.2.2.2.2.1
theorem dL_law_998 : decode cL_law 998 = .ok (.iconst 2, 1) := ldc_49.2.2.2.2.2.2.2.2.2
set_option maxRecDepth 100000 in
theorem ldc_50 : decode cL_law 999 = .ok (.iadd, 1) ∧ decode cL_law 1000 = .ok (.iaload, 1) ∧ decode cL_law 1001 = .ok (.ifCond .eq 7, 3) ∧ decode cL_law 1004 = .ok (.iconst 1, 1) ∧ decode cL_law 1005 = .ok (.goto 4, 3) ∧ decode cL_law 1008 = .ok (.iconst 0, 1) ∧ decode cL_law 1009 = .ok (.aload_n 3, 1) ∧ decode cL_law 1010 = .ok (.invokestatic 213, 3) ∧ decode cL_law 1013 = .ok (.istore 6, 2) ∧ decode cL_law 1015 = .ok (.aload_n 2, 1) := by decide +kernel
theorem dL_law_999 : decode cL_law 999 = .ok (.iadd, 1) := ldc_50.1
theorem dL_law_1000 : decode cL_law 1000 = .ok (.iaload, 1) := ldc_50.2.1
theorem dL_law_1001 : decode cL_law 1001 = .ok (.ifCond .eq 7, 3) := ldc_50.2.2.1
theorem dL_law_1004 : decode cL_law 1004 = .ok (.iconst 1, 1) := ldc_50.2.2.2.1
theorem dL_law_1005 : decode cL_law 1005 = .ok (.goto 4, 3) := ldc_50.2.2.2.2.1
theorem dL_law_1008 : decode cL_law 1008 = .ok (.iconst 0, 1) := ldc_50.2.2.2.2.2.1
theorem dL_law_1009 : decode cL_law 1009 = .ok (.aload_n 3, 1) := ldc_50.2.2.2.2.2.2.1
theorem dL_law_1010 : decode cL_law 1010 = .ok (.invokestatic 213, 3) := ldc_50.2.2.2.2.2.2.2.1
theorem dL_law_1013 : decode cL_law 1013 = .ok (.istore 6, 2) := ldc_50.2.2.2.2.2.2.2.2.1
theorem dL_law_1015 : decode cL_law 1015 = .ok (.aload_n 2, 1) := ldc_50.2.2.2.2.2.2.2.2.2
set_option maxRecDepth 100000 in
theorem ldc_51 : decode cL_law 1016 = .ok (.aload_n 0, 1) ∧ decode cL_law 1017 = .ok (.iload 5, 2) ∧ decode cL_law 1019 = .ok (.iconst 1, 1) ∧ decode cL_law 1020 = .ok (.iadd, 1) ∧ decode cL_law 1021 = .ok (.iaload, 1) ∧ decode cL_law 1022 = .ok (.aload_n 0, 1) ∧ decode cL_law 1023 = .ok (.iload 5, 2) ∧ decode cL_law 1025 = .ok (.iconst 2, 1) ∧ decode cL_law 1026 = .ok (.iadd, 1) ∧ decode cL_law 1027 = .ok (.iaload, 1) := by decide +kernel
theorem dL_law_1016 : decode cL_law 1016 = .ok (.aload_n 0, 1) := ldc_51.1
theorem dL_law_1017 : decode cL_law 1017 = .ok (.iload 5, 2) := ldc_51.2.1
theorem dL_law_1019 : decode cL_law 1019 = .ok (.iconst 1, 1) := ldc_51.2.2.1
theorem dL_law_1020 : decode cL_law 1020 = .ok (.iadd, 1) := ldc_51.2.2.2.1
theorem dL_law_1021 : decode cL_law 1021 = .ok (.iaload, 1) := ldc_51.2.2.2.2.1
theorem dL_law_1022 : decode cL_law 1022 = .ok (.aload_n 0, 1) := ldc_51.2.2.2.2.2.1
theorem dL_law_1023 : decode cL_law 1023 = .ok (.iload 5, 2) := ldc_51.2.2.2.2.2.2.1
theorem dL_law_1025 : decode cL_law 1025 = .ok (.iconst 2, 1) := ldc_51.2.2.2.2.2.2.2.1
theorem dL_law_1026 : decode cL_law 1026 = .ok (.iadd, 1) := ldc_51.2.2.2.2.2.2.2.2.1
theorem dL_law_1027 : decode cL_law 1027 = .ok (.iaload, 1) := ldc_51.2.2.2.2.2.2.2.2.2
set_option maxRecDepth 100000 in
theorem ldc_52 : decode cL_law 1028 = .ok (.ifCond .eq 7, 3) ∧ decode cL_law 1031 = .ok (.iconst 1, 1) ∧ decode cL_law 1032 = .ok (.goto 4, 3) ∧ decode cL_law 1035 = .ok (.iconst 0, 1) ∧ decode cL_law 1036 = .ok (.invokevirtual 216, 3) ∧ decode cL_law 1039 = .ok (.istore 7, 2) ∧ decode cL_law 1041 = .ok (.goto 953, 3) ∧ decode cL_law 1044 = .ok (.aload_n 1, 1) ∧ decode cL_law 1045 = .ok (.invokevirtual 217, 3) ∧ decode cL_law 1048 = .ok (.aload_n 2, 1) := by decide +kernel
theorem dL_law_1028 : decode cL_law 1028 = .ok (.ifCond .eq 7, 3) := ldc_52.1
theorem dL_law_1031 : decode cL_law 1031 = .ok (.iconst 1, 1) := ldc_52.2.1
theorem dL_law_1032 : decode cL_law 1032 = .ok (.goto 4, 3) := ldc_52.2.2.1
theorem dL_law_1035 : decode cL_law 1035 = .ok (.iconst 0, 1) := ldc_52.2.2.2.1
theorem dL_law_1036 : decode cL_law 1036 = .ok (.invokevirtual 216, 3) := ldc_52.2.2.2.2.1
theorem dL_law_1039 : decode cL_law 1039 = .ok (.istore 7, 2) := ldc_52.2.2.2.2.2.1
theorem dL_law_1041 : decode cL_law 1041 = .ok (.goto 953, 3) := ldc_52.2.2.2.2.2.2.1
theorem dL_law_1044 : decode cL_law 1044 = .ok (.aload_n 1, 1) := ldc_52.2.2.2.2.2.2.2.1
theorem dL_law_1045 : decode cL_law 1045 = .ok (.invokevirtual 217, 3) := ldc_52.2.2.2.2.2.2.2.2.1
theorem dL_law_1048 : decode cL_law 1048 = .ok (.aload_n 2, 1) := ldc_52.2.2.2.2.2.2.2.2.2
set_option maxRecDepth 100000 in
theorem ldc_53 : decode cL_law 1049 = .ok (.invokevirtual 220, 3) ∧ decode cL_law 1052 = .ok (.goto 942, 3) ∧ decode cL_law 1055 = .ok (.aload_n 1, 1) ∧ decode cL_law 1056 = .ok (.aload_n 0, 1) ∧ decode cL_law 1057 = .ok (.iload 5, 2) ∧ decode cL_law 1059 = .ok (.iconst 1, 1) ∧ decode cL_law 1060 = .ok (.iadd, 1) ∧ decode cL_law 1061 = .ok (.iaload, 1) ∧ decode cL_law 1062 = .ok (.aload_n 3, 1) ∧ decode cL_law 1063 = .ok (.invokestatic 221, 3) := by decide +kernel
theorem dL_law_1049 : decode cL_law 1049 = .ok (.invokevirtual 220, 3) := ldc_53.1
theorem dL_law_1052 : decode cL_law 1052 = .ok (.goto 942, 3) := ldc_53.2.1
theorem dL_law_1055 : decode cL_law 1055 = .ok (.aload_n 1, 1) := ldc_53.2.2.1
theorem dL_law_1056 : decode cL_law 1056 = .ok (.aload_n 0, 1) := ldc_53.2.2.2.1
theorem dL_law_1057 : decode cL_law 1057 = .ok (.iload 5, 2) := ldc_53.2.2.2.2.1
theorem dL_law_1059 : decode cL_law 1059 = .ok (.iconst 1, 1) := ldc_53.2.2.2.2.2.1
theorem dL_law_1060 : decode cL_law 1060 = .ok (.iadd, 1) := ldc_53.2.2.2.2.2.2.1
theorem dL_law_1061 : decode cL_law 1061 = .ok (.iaload, 1) := ldc_53.2.2.2.2.2.2.2.1
theorem dL_law_1062 : decode cL_law 1062 = .ok (.aload_n 3, 1) := ldc_53.2.2.2.2.2.2.2.2.1
theorem dL_law_1063 : decode cL_law 1063 = .ok (.invokestatic 221, 3) := ldc_53.2.2.2.2.2.2.2.2.2
set_option maxRecDepth 100000 in
theorem ldc_54 : decode cL_law 1066 = .ok (.istore 6, 2) ∧ decode cL_law 1068 = .ok (.aload_n 2, 1) ∧ decode cL_law 1069 = .ok (.aload_n 0, 1) ∧ decode cL_law 1070 = .ok (.iload 5, 2) ∧ decode cL_law 1072 = .ok (.iconst 1, 1) ∧ decode cL_law 1073 = .ok (.iadd, 1) ∧ decode cL_law 1074 = .ok (.iaload, 1) ∧ decode cL_law 1075 = .ok (.invokevirtual 223, 3) ∧ decode cL_law 1078 = .ok (.istore 7, 2) ∧ decode cL_law 1080 = .ok (.goto 914, 3) := by decide +kernel
theorem dL_law_1066 : decode cL_law 1066 = .ok (.istore 6, 2) := ldc_54.1
theorem dL_law_1068 : decode cL_law 1068 = .ok (.aload_n 2, 1) := ldc_54.2.1
theorem dL_law_1069 : decode cL_law 1069 = .ok (.aload_n 0, 1) := ldc_54.2.2.1
theorem dL_law_1070 : decode cL_law 1070 = .ok (.iload 5, 2) := ldc_54.2.2.2.1
theorem dL_law_1072 : decode cL_law 1072 = .ok (.iconst 1, 1) := ldc_54.2.2.2.2.1
theorem dL_law_1073 : decode cL_law 1073 = .ok (.iadd, 1) := ldc_54.2.2.2.2.2.1
theorem dL_law_1074 : decode cL_law 1074 = .ok (.iaload, 1) := ldc_54.2.2.2.2.2.2.1
theorem dL_law_1075 : decode cL_law 1075 = .ok (.invokevirtual 223, 3) := ldc_54.2.2.2.2.2.2.2.1
theorem dL_law_1078 : decode cL_law 1078 = .ok (.istore 7, 2) := ldc_54.2.2.2.2.2.2.2.2.1
theorem dL_law_1080 : decode cL_law 1080 = .ok (.goto 914, 3) := ldc_54.2.2.2.2.2.2.2.2.2
set_option maxRecDepth 100000 in
theorem ldc_55 : decode cL_law 1083 = .ok (.aload_n 1, 1) ∧ decode cL_law 1084 = .ok (.invokevirtual 224, 3) ∧ decode cL_law 1087 = .ok (.pop, 1) ∧ decode cL_law 1088 = .ok (.aload_n 2, 1) ∧ decode cL_law 1089 = .ok (.invokevirtual 227, 3) ∧ decode cL_law 1092 = .ok (.pop, 1) ∧ decode cL_law 1093 = .ok (.goto 901, 3) ∧ decode cL_law 1096 = .ok (.aload_n 1, 1) ∧ decode cL_law 1097 = .ok (.invokevirtual 228, 3) ∧ decode cL_law 1100 = .ok (.pop2, 1) := by decide +kernel
theorem dL_law_1083 : decode cL_law 1083 = .ok (.aload_n 1, 1) := ldc_55.1
theorem dL_law_1084 : decode cL_law 1084 = .ok (.invokevirtual 224, 3) := ldc_55.2.1
theorem dL_law_1087 : decode cL_law 1087 = .ok (.pop, 1) := ldc_55.2.2.1
theorem dL_law_1088 : decode cL_law 1088 = .ok (.aload_n 2, 1) := ldc_55.2.2.2.1
theorem dL_law_1089 : decode cL_law 1089 = .ok (.invokevirtual 227, 3) := ldc_55.2.2.2.2.1
theorem dL_law_1092 : decode cL_law 1092 = .ok (.pop, 1) := ldc_55.2.2.2.2.2.1
theorem dL_law_1093 : decode cL_law 1093 = .ok (.goto 901, 3) := ldc_55.2.2.2.2.2.2.1
theorem dL_law_1096 : decode cL_law 1096 = .ok (.aload_n 1, 1) := ldc_55.2.2.2.2.2.2.2.1
theorem dL_law_1097 : decode cL_law 1097 = .ok (.invokevirtual 228, 3) := ldc_55.2.2.2.2.2.2.2.2.1
theorem dL_law_1100 : decode cL_law 1100 = .ok (.pop2, 1) := ldc_55.2.2.2.2.2.2.2.2.2
set_option maxRecDepth 100000 in
theorem ldc_56 : decode cL_law 1101 = .ok (.aload_n 2, 1) ∧ decode cL_law 1102 = .ok (.invokevirtual 232, 3) ∧ decode cL_law 1105 = .ok (.pop2, 1) ∧ decode cL_law 1106 = .ok (.goto 888, 3) ∧ decode cL_law 1109 = .ok (.aload_n 1, 1) ∧ decode cL_law 1110 = .ok (.invokevirtual 233, 3) ∧ decode cL_law 1113 = .ok (.pop2, 1) ∧ decode cL_law 1114 = .ok (.aload_n 2, 1) ∧ decode cL_law 1115 = .ok (.invokevirtual 236, 3) ∧ decode cL_law 1118 = .ok (.pop2, 1) := by decide +kernel
theorem dL_law_1101 : decode cL_law 1101 = .ok (.aload_n 2, 1) := ldc_56.1
theorem dL_law_1102 : decode cL_law 1102 = .ok (.invokevirtual 232, 3) := ldc_56.2.1
theorem dL_law_1105 : decode cL_law 1105 = .ok (.pop2, 1) := ldc_56.2.2.1
theorem dL_law_1106 : decode cL_law 1106 = .ok (.goto 888, 3) := ldc_56.2.2.2.1
theorem dL_law_1109 : decode cL_law 1109 = .ok (.aload_n 1, 1) := ldc_56.2.2.2.2.1
theorem dL_law_1110 : decode cL_law 1110 = .ok (.invokevirtual 233, 3) := ldc_56.2.2.2.2.2.1
theorem dL_law_1113 : decode cL_law 1113 = .ok (.pop2, 1) := ldc_56.2.2.2.2.2.2.1
theorem dL_law_1114 : decode cL_law 1114 = .ok (.aload_n 2, 1) := ldc_56.2.2.2.2.2.2.2.1
theorem dL_law_1115 : decode cL_law 1115 = .ok (.invokevirtual 236, 3) := ldc_56.2.2.2.2.2.2.2.2.1
theorem dL_law_1118 : decode cL_law 1118 = .ok (.pop2, 1) := ldc_56.2.2.2.2.2.2.2.2.2
set_option maxRecDepth 100000 in
theorem ldc_57 : decode cL_law 1119 = .ok (.goto 875, 3) ∧ decode cL_law 1122 = .ok (.aload_n 1, 1) ∧ decode cL_law 1123 = .ok (.invokevirtual 237, 3) ∧ decode cL_law 1126 = .ok (.pop2, 1) ∧ decode cL_law 1127 = .ok (.aload_n 2, 1) ∧ decode cL_law 1128 = .ok (.invokevirtual 240, 3) ∧ decode cL_law 1131 = .ok (.pop2, 1) ∧ decode cL_law 1132 = .ok (.goto 862, 3) ∧ decode cL_law 1135 = .ok (.aload_n 1, 1) ∧ decode cL_law 1136 = .ok (.invokevirtual 241, 3) := by decide +kernel
theorem dL_law_1119 : decode cL_law 1119 = .ok (.goto 875, 3) := ldc_57.1
theorem dL_law_1122 : decode cL_law 1122 = .ok (.aload_n 1, 1) := ldc_57.2.1
theorem dL_law_1123 : decode cL_law 1123 = .ok (.invokevirtual 237, 3) := ldc_57.2.2.1
theorem dL_law_1126 : decode cL_law 1126 = .ok (.pop2, 1) := ldc_57.2.2.2.1
theorem dL_law_1127 : decode cL_law 1127 = .ok (.aload_n 2, 1) := ldc_57.2.2.2.2.1
theorem dL_law_1128 : decode cL_law 1128 = .ok (.invokevirtual 240, 3) := ldc_57.2.2.2.2.2.1
theorem dL_law_1131 : decode cL_law 1131 = .ok (.pop2, 1) := ldc_57.2.2.2.2.2.2.1
theorem dL_law_1132 : decode cL_law 1132 = .ok (.goto 862, 3) := ldc_57.2.2.2.2.2.2.2.1
theorem dL_law_1135 : decode cL_law 1135 = .ok (.aload_n 1, 1) := ldc_57.2.2.2.2.2.2.2.2.1
theorem dL_law_1136 : decode cL_law 1136 = .ok (.invokevirtual 241, 3) := ldc_57.2.2.2.2.2.2.2.2.2
set_option maxRecDepth 100000 in
theorem ldc_58 : decode cL_law 1139 = .ok (.pop2, 1) ∧ decode cL_law 1140 = .ok (.aload_n 2, 1) ∧ decode cL_law 1141 = .ok (.invokevirtual 244, 3) ∧ decode cL_law 1144 = .ok (.pop2, 1) ∧ decode cL_law 1145 = .ok (.goto 849, 3) ∧ decode cL_law 1148 = .ok (.aload_n 1, 1) ∧ decode cL_law 1149 = .ok (.invokevirtual 245, 3) ∧ decode cL_law 1152 = .ok (.pop, 1) ∧ decode cL_law 1153 = .ok (.aload_n 2, 1) ∧ decode cL_law 1154 = .ok (.invokevirtual 248, 3) := by decide +kernel
theorem dL_law_1139 : decode cL_law 1139 = .ok (.pop2, 1) := ldc_58.1
theorem dL_law_1140 : decode cL_law 1140 = .ok (.aload_n 2, 1) := ldc_58.2.1
theorem dL_law_1141 : decode cL_law 1141 = .ok (.invokevirtual 244, 3) := ldc_58.2.2.1
theorem dL_law_1144 : decode cL_law 1144 = .ok (.pop2, 1) := ldc_58.2.2.2.1
theorem dL_law_1145 : decode cL_law 1145 = .ok (.goto 849, 3) := ldc_58.2.2.2.2.1
theorem dL_law_1148 : decode cL_law 1148 = .ok (.aload_n 1, 1) := ldc_58.2.2.2.2.2.1
theorem dL_law_1149 : decode cL_law 1149 = .ok (.invokevirtual 245, 3) := ldc_58.2.2.2.2.2.2.1
theorem dL_law_1152 : decode cL_law 1152 = .ok (.pop, 1) := ldc_58.2.2.2.2.2.2.2.1
theorem dL_law_1153 : decode cL_law 1153 = .ok (.aload_n 2, 1) := ldc_58.2.2.2.2.2.2.2.2.1
theorem dL_law_1154 : decode cL_law 1154 = .ok (.invokevirtual 248, 3) := ldc_58.2.2.2.2.2.2.2.2.2
set_option maxRecDepth 100000 in
theorem ldc_59 : decode cL_law 1157 = .ok (.pop, 1) ∧ decode cL_law 1158 = .ok (.goto 836, 3) ∧ decode cL_law 1161 = .ok (.aload_n 1, 1) ∧ decode cL_law 1162 = .ok (.invokevirtual 249, 3) ∧ decode cL_law 1165 = .ok (.pop2, 1) ∧ decode cL_law 1166 = .ok (.aload_n 2, 1) ∧ decode cL_law 1167 = .ok (.invokevirtual 252, 3) ∧ decode cL_law 1170 = .ok (.pop2, 1) ∧ decode cL_law 1171 = .ok (.goto 823, 3) ∧ decode cL_law 1174 = .ok (.aload_n 1, 1) := by decide +kernel
theorem dL_law_1157 : decode cL_law 1157 = .ok (.pop, 1) := ldc_59.1
theorem dL_law_1158 : decode cL_law 1158 = .ok (.goto 836, 3) := ldc_59.2.1
theorem dL_law_1161 : decode cL_law 1161 = .ok (.aload_n 1, 1) := ldc_59.2.2.1
theorem dL_law_1162 : decode cL_law 1162 = .ok (.invokevirtual 249, 3) := ldc_59.2.2.2.1
theorem dL_law_1165 : decode cL_law 1165 = .ok (.pop2, 1) := ldc_59.2.2.2.2.1
theorem dL_law_1166 : decode cL_law 1166 = .ok (.aload_n 2, 1) := ldc_59.2.2.2.2.2.1
theorem dL_law_1167 : decode cL_law 1167 = .ok (.invokevirtual 252, 3) := ldc_59.2.2.2.2.2.2.1
theorem dL_law_1170 : decode cL_law 1170 = .ok (.pop2, 1) := ldc_59.2.2.2.2.2.2.2.1
theorem dL_law_1171 : decode cL_law 1171 = .ok (.goto 823, 3) := ldc_59.2.2.2.2.2.2.2.2.1
theorem dL_law_1174 : decode cL_law 1174 = .ok (.aload_n 1, 1) := ldc_59.2.2.2.2.2.2.2.2.2
set_option maxRecDepth 100000 in
theorem ldc_60 : decode cL_law 1175 = .ok (.invokevirtual 253, 3) ∧ decode cL_law 1178 = .ok (.pop, 1) ∧ decode cL_law 1179 = .ok (.aload_n 2, 1) ∧ decode cL_law 1180 = .ok (.invokevirtual 256, 3) ∧ decode cL_law 1183 = .ok (.pop, 1) ∧ decode cL_law 1184 = .ok (.goto 810, 3) ∧ decode cL_law 1187 = .ok (.aload_n 1, 1) ∧ decode cL_law 1188 = .ok (.aload_n 0, 1) ∧ decode cL_law 1189 = .ok (.iload 5, 2) ∧ decode cL_law 1191 = .ok (.iconst 1, 1) := by decide +kernel
theorem dL_law_1175 : decode cL_law 1175 = .ok (.invokevirtual 253, 3) := ldc_60.1
theorem dL_law_1178 : decode cL_law 1178 = .ok (.pop, 1) := ldc_60.2.1
theorem dL_law_1179 : decode cL_law 1179 = .ok (.aload_n 2, 1) := ldc_60.2.2.1
theorem dL_law_1180 : decode cL_law 1180 = .ok (.invokevirtual 256, 3) := ldc_60.2.2.2.1
theorem dL_law_1183 : decode cL_law 1183 = .ok (.pop, 1) := ldc_60.2.2.2.2.1
theorem dL_law_1184 : decode cL_law 1184 = .ok (.goto 810, 3) := ldc_60.2.2.2.2.2.1
theorem dL_law_1187 : decode cL_law 1187 = .ok (.aload_n 1, 1) := ldc_60.2.2.2.2.2.2.1
theorem dL_law_1188 : decode cL_law 1188 = .ok (.aload_n 0, 1) := ldc_60.2.2.2.2.2.2.2.1
theorem dL_law_1189 : decode cL_law 1189 = .ok (.iload 5, 2) := ldc_60.2.2.2.2.2.2.2.2.1
theorem dL_law_1191 : decode cL_law 1191 = .ok (.iconst 1, 1) := ldc_60.2.2.2.2.2.2.2.2.2
set_option maxRecDepth 100000 in
theorem ldc_61 : decode cL_law 1192 = .ok (.iadd, 1) ∧ decode cL_law 1193 = .ok (.iaload, 1) ∧ decode cL_law 1194 = .ok (.aload_n 3, 1) ∧ decode cL_law 1195 = .ok (.invokestatic 257, 3) ∧ decode cL_law 1198 = .ok (.istore 6, 2) ∧ decode cL_law 1200 = .ok (.aload_n 2, 1) ∧ decode cL_law 1201 = .ok (.aload_n 0, 1) ∧ decode cL_law 1202 = .ok (.iload 5, 2) ∧ decode cL_law 1204 = .ok (.iconst 1, 1) ∧ decode cL_law 1205 = .ok (.iadd, 1) := by decide +kernel
theorem dL_law_1192 : decode cL_law 1192 = .ok (.iadd, 1) := ldc_61.1
theorem dL_law_1193 : decode cL_law 1193 = .ok (.iaload, 1) := ldc_61.2.1
theorem dL_law_1194 : decode cL_law 1194 = .ok (.aload_n 3, 1) := ldc_61.2.2.1
theorem dL_law_1195 : decode cL_law 1195 = .ok (.invokestatic 257, 3) := ldc_61.2.2.2.1
theorem dL_law_1198 : decode cL_law 1198 = .ok (.istore 6, 2) := ldc_61.2.2.2.2.1
theorem dL_law_1200 : decode cL_law 1200 = .ok (.aload_n 2, 1) := ldc_61.2.2.2.2.2.1
theorem dL_law_1201 : decode cL_law 1201 = .ok (.aload_n 0, 1) := ldc_61.2.2.2.2.2.2.1
theorem dL_law_1202 : decode cL_law 1202 = .ok (.iload 5, 2) := ldc_61.2.2.2.2.2.2.2.1
theorem dL_law_1204 : decode cL_law 1204 = .ok (.iconst 1, 1) := ldc_61.2.2.2.2.2.2.2.2.1
theorem dL_law_1205 : decode cL_law 1205 = .ok (.iadd, 1) := ldc_61.2.2.2.2.2.2.2.2.2
set_option maxRecDepth 100000 in
theorem ldc_62 : decode cL_law 1206 = .ok (.iaload, 1) ∧ decode cL_law 1207 = .ok (.invokevirtual 259, 3) ∧ decode cL_law 1210 = .ok (.istore 7, 2) ∧ decode cL_law 1212 = .ok (.goto 782, 3) ∧ decode cL_law 1215 = .ok (.aload_n 1, 1) ∧ decode cL_law 1216 = .ok (.aload_n 0, 1) ∧ decode cL_law 1217 = .ok (.iload 5, 2) ∧ decode cL_law 1219 = .ok (.iconst 1, 1) ∧ decode cL_law 1220 = .ok (.iadd, 1) ∧ decode cL_law 1221 = .ok (.iaload, 1) := by decide +kernel
theorem dL_law_1206 : decode cL_law 1206 = .ok (.iaload, 1) := ldc_62.1
theorem dL_law_1207 : decode cL_law 1207 = .ok (.invokevirtual 259, 3) := ldc_62.2.1
theorem dL_law_1210 : decode cL_law 1210 = .ok (.istore 7, 2) := ldc_62.2.2.1
theorem dL_law_1212 : decode cL_law 1212 = .ok (.goto 782, 3) := ldc_62.2.2.2.1
theorem dL_law_1215 : decode cL_law 1215 = .ok (.aload_n 1, 1) := ldc_62.2.2.2.2.1
theorem dL_law_1216 : decode cL_law 1216 = .ok (.aload_n 0, 1) := ldc_62.2.2.2.2.2.1
theorem dL_law_1217 : decode cL_law 1217 = .ok (.iload 5, 2) := ldc_62.2.2.2.2.2.2.1
theorem dL_law_1219 : decode cL_law 1219 = .ok (.iconst 1, 1) := ldc_62.2.2.2.2.2.2.2.1
theorem dL_law_1220 : decode cL_law 1220 = .ok (.iadd, 1) := ldc_62.2.2.2.2.2.2.2.2.1
theorem dL_law_1221 : decode cL_law 1221 = .ok (.iaload, 1) := ldc_62.2.2.2.2.2.2.2.2.2
set_option maxRecDepth 100000 in
theorem ldc_63 : decode cL_law 1222 = .ok (.aload_n 0, 1) ∧ decode cL_law 1223 = .ok (.iload 5, 2) ∧ decode cL_law 1225 = .ok (.iconst 2, 1) ∧ decode cL_law 1226 = .ok (.iadd, 1) ∧ decode cL_law 1227 = .ok (.iaload, 1) ∧ decode cL_law 1228 = .ok (.aload_n 3, 1) ∧ decode cL_law 1229 = .ok (.invokestatic 260, 3) ∧ decode cL_law 1232 = .ok (.istore 6, 2) ∧ decode cL_law 1234 = .ok (.aload_n 2, 1) ∧ decode cL_law 1235 = .ok (.aload_n 0, 1) := by decide +kernel
theorem dL_law_1222 : decode cL_law 1222 = .ok (.aload_n 0, 1) := ldc_63.1
theorem dL_law_1223 : decode cL_law 1223 = .ok (.iload 5, 2) := ldc_63.2.1
theorem dL_law_1225 : decode cL_law 1225 = .ok (.iconst 2, 1) := ldc_63.2.2.1
theorem dL_law_1226 : decode cL_law 1226 = .ok (.iadd, 1) := ldc_63.2.2.2.1
theorem dL_law_1227 : decode cL_law 1227 = .ok (.iaload, 1) := ldc_63.2.2.2.2.1
theorem dL_law_1228 : decode cL_law 1228 = .ok (.aload_n 3, 1) := ldc_63.2.2.2.2.2.1
theorem dL_law_1229 : decode cL_law 1229 = .ok (.invokestatic 260, 3) := ldc_63.2.2.2.2.2.2.1
theorem dL_law_1232 : decode cL_law 1232 = .ok (.istore 6, 2) := ldc_63.2.2.2.2.2.2.2.1
theorem dL_law_1234 : decode cL_law 1234 = .ok (.aload_n 2, 1) := ldc_63.2.2.2.2.2.2.2.2.1
theorem dL_law_1235 : decode cL_law 1235 = .ok (.aload_n 0, 1) := ldc_63.2.2.2.2.2.2.2.2.2
set_option maxRecDepth 100000 in
theorem ldc_64 : decode cL_law 1236 = .ok (.iload 5, 2) ∧ decode cL_law 1238 = .ok (.iconst 1, 1) ∧ decode cL_law 1239 = .ok (.iadd, 1) ∧ decode cL_law 1240 = .ok (.iaload, 1) ∧ decode cL_law 1241 = .ok (.aload_n 0, 1) ∧ decode cL_law 1242 = .ok (.iload 5, 2) ∧ decode cL_law 1244 = .ok (.iconst 2, 1) ∧ decode cL_law 1245 = .ok (.iadd, 1) ∧ decode cL_law 1246 = .ok (.iaload, 1) ∧ decode cL_law 1247 = .ok (.invokevirtual 262, 3) := by decide +kernel
theorem dL_law_1236 : decode cL_law 1236 = .ok (.iload 5, 2) := ldc_64.1
theorem dL_law_1238 : decode cL_law 1238 = .ok (.iconst 1, 1) := ldc_64.2.1
theorem dL_law_1239 : decode cL_law 1239 = .ok (.iadd, 1) := ldc_64.2.2.1
theorem dL_law_1240 : decode cL_law 1240 = .ok (.iaload, 1) := ldc_64.2.2.2.1
theorem dL_law_1241 : decode cL_law 1241 = .ok (.aload_n 0, 1) := ldc_64.2.2.2.2.1
theorem dL_law_1242 : decode cL_law 1242 = .ok (.iload 5, 2) := ldc_64.2.2.2.2.2.1
theorem dL_law_1244 : decode cL_law 1244 = .ok (.iconst 2, 1) := ldc_64.2.2.2.2.2.2.1
theorem dL_law_1245 : decode cL_law 1245 = .ok (.iadd, 1) := ldc_64.2.2.2.2.2.2.2.1
theorem dL_law_1246 : decode cL_law 1246 = .ok (.iaload, 1) := ldc_64.2.2.2.2.2.2.2.2.1
theorem dL_law_1247 : decode cL_law 1247 = .ok (.invokevirtual 262, 3) := ldc_64.2.2.2.2.2.2.2.2.2
set_option maxRecDepth 100000 in
theorem ldc_65 : decode cL_law 1250 = .ok (.istore 7, 2) ∧ decode cL_law 1252 = .ok (.goto 742, 3) ∧ decode cL_law 1255 = .ok (.aload_n 1, 1) ∧ decode cL_law 1256 = .ok (.aload_n 0, 1) ∧ decode cL_law 1257 = .ok (.iload 5, 2) ∧ decode cL_law 1259 = .ok (.iconst 1, 1) ∧ decode cL_law 1260 = .ok (.iadd, 1) ∧ decode cL_law 1261 = .ok (.iaload, 1) ∧ decode cL_law 1262 = .ok (.aload_n 3, 1) ∧ decode cL_law 1263 = .ok (.invokestatic 263, 3) := by decide +kernel
theorem dL_law_1250 : decode cL_law 1250 = .ok (.istore 7, 2) := ldc_65.1
theorem dL_law_1252 : decode cL_law 1252 = .ok (.goto 742, 3) := ldc_65.2.1
theorem dL_law_1255 : decode cL_law 1255 = .ok (.aload_n 1, 1) := ldc_65.2.2.1
theorem dL_law_1256 : decode cL_law 1256 = .ok (.aload_n 0, 1) := ldc_65.2.2.2.1
theorem dL_law_1257 : decode cL_law 1257 = .ok (.iload 5, 2) := ldc_65.2.2.2.2.1
theorem dL_law_1259 : decode cL_law 1259 = .ok (.iconst 1, 1) := ldc_65.2.2.2.2.2.1
theorem dL_law_1260 : decode cL_law 1260 = .ok (.iadd, 1) := ldc_65.2.2.2.2.2.2.1
theorem dL_law_1261 : decode cL_law 1261 = .ok (.iaload, 1) := ldc_65.2.2.2.2.2.2.2.1
theorem dL_law_1262 : decode cL_law 1262 = .ok (.aload_n 3, 1) := ldc_65.2.2.2.2.2.2.2.2.1
theorem dL_law_1263 : decode cL_law 1263 = .ok (.invokestatic 263, 3) := ldc_65.2.2.2.2.2.2.2.2.2
set_option maxRecDepth 100000 in
theorem ldc_66 : decode cL_law 1266 = .ok (.istore 6, 2) ∧ decode cL_law 1268 = .ok (.aload_n 2, 1) ∧ decode cL_law 1269 = .ok (.aload_n 0, 1) ∧ decode cL_law 1270 = .ok (.iload 5, 2) ∧ decode cL_law 1272 = .ok (.iconst 1, 1) ∧ decode cL_law 1273 = .ok (.iadd, 1) ∧ decode cL_law 1274 = .ok (.iaload, 1) ∧ decode cL_law 1275 = .ok (.invokevirtual 265, 3) ∧ decode cL_law 1278 = .ok (.istore 7, 2) ∧ decode cL_law 1280 = .ok (.goto 714, 3) := by decide +kernel
theorem dL_law_1266 : decode cL_law 1266 = .ok (.istore 6, 2) := ldc_66.1
theorem dL_law_1268 : decode cL_law 1268 = .ok (.aload_n 2, 1) := ldc_66.2.1
theorem dL_law_1269 : decode cL_law 1269 = .ok (.aload_n 0, 1) := ldc_66.2.2.1
theorem dL_law_1270 : decode cL_law 1270 = .ok (.iload 5, 2) := ldc_66.2.2.2.1
theorem dL_law_1272 : decode cL_law 1272 = .ok (.iconst 1, 1) := ldc_66.2.2.2.2.1
theorem dL_law_1273 : decode cL_law 1273 = .ok (.iadd, 1) := ldc_66.2.2.2.2.2.1
theorem dL_law_1274 : decode cL_law 1274 = .ok (.iaload, 1) := ldc_66.2.2.2.2.2.2.1
theorem dL_law_1275 : decode cL_law 1275 = .ok (.invokevirtual 265, 3) := ldc_66.2.2.2.2.2.2.2.1
theorem dL_law_1278 : decode cL_law 1278 = .ok (.istore 7, 2) := ldc_66.2.2.2.2.2.2.2.2.1
theorem dL_law_1280 : decode cL_law 1280 = .ok (.goto 714, 3) := ldc_66.2.2.2.2.2.2.2.2.2
set_option maxRecDepth 100000 in
theorem ldc_67 : decode cL_law 1283 = .ok (.aload_n 1, 1) ∧ decode cL_law 1284 = .ok (.invokevirtual 266, 3) ∧ decode cL_law 1287 = .ok (.pop, 1) ∧ decode cL_law 1288 = .ok (.aload_n 2, 1) ∧ decode cL_law 1289 = .ok (.invokevirtual 269, 3) ∧ decode cL_law 1292 = .ok (.pop, 1) ∧ decode cL_law 1293 = .ok (.goto 701, 3) ∧ decode cL_law 1296 = .ok (.aload_n 1, 1) ∧ decode cL_law 1297 = .ok (.aload_n 0, 1) ∧ decode cL_law 1298 = .ok (.iload 5, 2) := by decide +kernel
theorem dL_law_1283 : decode cL_law 1283 = .ok (.aload_n 1, 1) := ldc_67.1
theorem dL_law_1284 : decode cL_law 1284 = .ok (.invokevirtual 266, 3) := ldc_67.2.1
theorem dL_law_1287 : decode cL_law 1287 = .ok (.pop, 1) := ldc_67.2.2.1
theorem dL_law_1288 : decode cL_law 1288 = .ok (.aload_n 2, 1) := ldc_67.2.2.2.1
theorem dL_law_1289 : decode cL_law 1289 = .ok (.invokevirtual 269, 3) := ldc_67.2.2.2.2.1
theorem dL_law_1292 : decode cL_law 1292 = .ok (.pop, 1) := ldc_67.2.2.2.2.2.1
theorem dL_law_1293 : decode cL_law 1293 = .ok (.goto 701, 3) := ldc_67.2.2.2.2.2.2.1
theorem dL_law_1296 : decode cL_law 1296 = .ok (.aload_n 1, 1) := ldc_67.2.2.2.2.2.2.2.1
theorem dL_law_1297 : decode cL_law 1297 = .ok (.aload_n 0, 1) := ldc_67.2.2.2.2.2.2.2.2.1
theorem dL_law_1298 : decode cL_law 1298 = .ok (.iload 5, 2) := ldc_67.2.2.2.2.2.2.2.2.2
set_option maxRecDepth 100000 in
theorem ldc_68 : decode cL_law 1300 = .ok (.iconst 1, 1) ∧ decode cL_law 1301 = .ok (.iadd, 1) ∧ decode cL_law 1302 = .ok (.iaload, 1) ∧ decode cL_law 1303 = .ok (.aload_n 3, 1) ∧ decode cL_law 1304 = .ok (.invokestatic 270, 3) ∧ decode cL_law 1307 = .ok (.istore 6, 2) ∧ decode cL_law 1309 = .ok (.aload_n 2, 1) ∧ decode cL_law 1310 = .ok (.aload_n 0, 1) ∧ decode cL_law 1311 = .ok (.iload 5, 2) ∧ decode cL_law 1313 = .ok (.iconst 1, 1) := by decide +kernel
theorem dL_law_1300 : decode cL_law 1300 = .ok (.iconst 1, 1) := ldc_68.1
theorem dL_law_1301 : decode cL_law 1301 = .ok (.iadd, 1) := ldc_68.2.1
theorem dL_law_1302 : decode cL_law 1302 = .ok (.iaload, 1) := ldc_68.2.2.1
theorem dL_law_1303 : decode cL_law 1303 = .ok (.aload_n 3, 1) := ldc_68.2.2.2.1
theorem dL_law_1304 : decode cL_law 1304 = .ok (.invokestatic 270, 3) := ldc_68.2.2.2.2.1
theorem dL_law_1307 : decode cL_law 1307 = .ok (.istore 6, 2) := ldc_68.2.2.2.2.2.1
theorem dL_law_1309 : decode cL_law 1309 = .ok (.aload_n 2, 1) := ldc_68.2.2.2.2.2.2.1
theorem dL_law_1310 : decode cL_law 1310 = .ok (.aload_n 0, 1) := ldc_68.2.2.2.2.2.2.2.1
theorem dL_law_1311 : decode cL_law 1311 = .ok (.iload 5, 2) := ldc_68.2.2.2.2.2.2.2.2.1
theorem dL_law_1313 : decode cL_law 1313 = .ok (.iconst 1, 1) := ldc_68.2.2.2.2.2.2.2.2.2
set_option maxRecDepth 100000 in
theorem ldc_69 : decode cL_law 1314 = .ok (.iadd, 1) ∧ decode cL_law 1315 = .ok (.iaload, 1) ∧ decode cL_law 1316 = .ok (.invokevirtual 272, 3) ∧ decode cL_law 1319 = .ok (.istore 7, 2) ∧ decode cL_law 1321 = .ok (.goto 673, 3) ∧ decode cL_law 1324 = .ok (.aload_n 1, 1) ∧ decode cL_law 1325 = .ok (.aload_n 0, 1) ∧ decode cL_law 1326 = .ok (.iload 5, 2) ∧ decode cL_law 1328 = .ok (.iconst 1, 1) ∧ decode cL_law 1329 = .ok (.iadd, 1) := by decide +kernel
theorem dL_law_1314 : decode cL_law 1314 = .ok (.iadd, 1) := ldc_69.1
theorem dL_law_1315 : decode cL_law 1315 = .ok (.iaload, 1) := ldc_69.2.1
theorem dL_law_1316 : decode cL_law 1316 = .ok (.invokevirtual 272, 3) := ldc_69.2.2.1
theorem dL_law_1319 : decode cL_law 1319 = .ok (.istore 7, 2) := ldc_69.2.2.2.1
theorem dL_law_1321 : decode cL_law 1321 = .ok (.goto 673, 3) := ldc_69.2.2.2.2.1
theorem dL_law_1324 : decode cL_law 1324 = .ok (.aload_n 1, 1) := ldc_69.2.2.2.2.2.1
theorem dL_law_1325 : decode cL_law 1325 = .ok (.aload_n 0, 1) := ldc_69.2.2.2.2.2.2.1
theorem dL_law_1326 : decode cL_law 1326 = .ok (.iload 5, 2) := ldc_69.2.2.2.2.2.2.2.1
theorem dL_law_1328 : decode cL_law 1328 = .ok (.iconst 1, 1) := ldc_69.2.2.2.2.2.2.2.2.1
theorem dL_law_1329 : decode cL_law 1329 = .ok (.iadd, 1) := ldc_69.2.2.2.2.2.2.2.2.2
set_option maxRecDepth 100000 in
theorem ldc_70 : decode cL_law 1330 = .ok (.iaload, 1) ∧ decode cL_law 1331 = .ok (.aload_n 3, 1) ∧ decode cL_law 1332 = .ok (.invokestatic 273, 3) ∧ decode cL_law 1335 = .ok (.istore 6, 2) ∧ decode cL_law 1337 = .ok (.aload_n 2, 1) ∧ decode cL_law 1338 = .ok (.aload_n 0, 1) ∧ decode cL_law 1339 = .ok (.iload 5, 2) ∧ decode cL_law 1341 = .ok (.iconst 1, 1) ∧ decode cL_law 1342 = .ok (.iadd, 1) ∧ decode cL_law 1343 = .ok (.iaload, 1) := by decide +kernel
theorem dL_law_1330 : decode cL_law 1330 = .ok (.iaload, 1) := ldc_70.1
theorem dL_law_1331 : decode cL_law 1331 = .ok (.aload_n 3, 1) := ldc_70.2.1
theorem dL_law_1332 : decode cL_law 1332 = .ok (.invokestatic 273, 3) := ldc_70.2.2.1
theorem dL_law_1335 : decode cL_law 1335 = .ok (.istore 6, 2) := ldc_70.2.2.2.1
theorem dL_law_1337 : decode cL_law 1337 = .ok (.aload_n 2, 1) := ldc_70.2.2.2.2.1
theorem dL_law_1338 : decode cL_law 1338 = .ok (.aload_n 0, 1) := ldc_70.2.2.2.2.2.1
theorem dL_law_1339 : decode cL_law 1339 = .ok (.iload 5, 2) := ldc_70.2.2.2.2.2.2.1
theorem dL_law_1341 : decode cL_law 1341 = .ok (.iconst 1, 1) := ldc_70.2.2.2.2.2.2.2.1
theorem dL_law_1342 : decode cL_law 1342 = .ok (.iadd, 1) := ldc_70.2.2.2.2.2.2.2.2.1
theorem dL_law_1343 : decode cL_law 1343 = .ok (.iaload, 1) := ldc_70.2.2.2.2.2.2.2.2.2
set_option maxRecDepth 100000 in
theorem ldc_71 : decode cL_law 1344 = .ok (.invokevirtual 275, 3) ∧ decode cL_law 1347 = .ok (.istore 7, 2) ∧ decode cL_law 1349 = .ok (.goto 645, 3) ∧ decode cL_law 1352 = .ok (.aload_n 1, 1) ∧ decode cL_law 1353 = .ok (.aload_n 0, 1) ∧ decode cL_law 1354 = .ok (.iload 5, 2) ∧ decode cL_law 1356 = .ok (.iconst 1, 1) ∧ decode cL_law 1357 = .ok (.iadd, 1) ∧ decode cL_law 1358 = .ok (.iaload, 1) ∧ decode cL_law 1359 = .ok (.aload_n 0, 1) := by decide +kernel
theorem dL_law_1344 : decode cL_law 1344 = .ok (.invokevirtual 275, 3) := ldc_71.1
theorem dL_law_1347 : decode cL_law 1347 = .ok (.istore 7, 2) := ldc_71.2.1
theorem dL_law_1349 : decode cL_law 1349 = .ok (.goto 645, 3) := ldc_71.2.2.1
theorem dL_law_1352 : decode cL_law 1352 = .ok (.aload_n 1, 1) := ldc_71.2.2.2.1
theorem dL_law_1353 : decode cL_law 1353 = .ok (.aload_n 0, 1) := ldc_71.2.2.2.2.1
theorem dL_law_1354 : decode cL_law 1354 = .ok (.iload 5, 2) := ldc_71.2.2.2.2.2.1
theorem dL_law_1356 : decode cL_law 1356 = .ok (.iconst 1, 1) := ldc_71.2.2.2.2.2.2.1
theorem dL_law_1357 : decode cL_law 1357 = .ok (.iadd, 1) := ldc_71.2.2.2.2.2.2.2.1
theorem dL_law_1358 : decode cL_law 1358 = .ok (.iaload, 1) := ldc_71.2.2.2.2.2.2.2.2.1
theorem dL_law_1359 : decode cL_law 1359 = .ok (.aload_n 0, 1) := ldc_71.2.2.2.2.2.2.2.2.2
set_option maxRecDepth 100000 in
theorem ldc_72 : decode cL_law 1360 = .ok (.iload 5, 2) ∧ decode cL_law 1362 = .ok (.iconst 2, 1) ∧ decode cL_law 1363 = .ok (.iadd, 1) ∧ decode cL_law 1364 = .ok (.iaload, 1) ∧ decode cL_law 1365 = .ok (.aload_n 3, 1) ∧ decode cL_law 1366 = .ok (.invokestatic 276, 3) ∧ decode cL_law 1369 = .ok (.istore 6, 2) ∧ decode cL_law 1371 = .ok (.aload_n 2, 1) ∧ decode cL_law 1372 = .ok (.aload_n 0, 1) ∧ decode cL_law 1373 = .ok (.iload 5, 2) := by decide +kernel
theorem dL_law_1360 : decode cL_law 1360 = .ok (.iload 5, 2) := ldc_72.1
theorem dL_law_1362 : decode cL_law 1362 = .ok (.iconst 2, 1) := ldc_72.2.1
theorem dL_law_1363 : decode cL_law 1363 = .ok (.iadd, 1) := ldc_72.2.2.1
theorem dL_law_1364 : decode cL_law 1364 = .ok (.iaload, 1) := ldc_72.2.2.2.1
theorem dL_law_1365 : decode cL_law 1365 = .ok (.aload_n 3, 1) := ldc_72.2.2.2.2.1
theorem dL_law_1366 : decode cL_law 1366 = .ok (.invokestatic 276, 3) := ldc_72.2.2.2.2.2.1
theorem dL_law_1369 : decode cL_law 1369 = .ok (.istore 6, 2) := ldc_72.2.2.2.2.2.2.1
theorem dL_law_1371 : decode cL_law 1371 = .ok (.aload_n 2, 1) := ldc_72.2.2.2.2.2.2.2.1
theorem dL_law_1372 : decode cL_law 1372 = .ok (.aload_n 0, 1) := ldc_72.2.2.2.2.2.2.2.2.1
theorem dL_law_1373 : decode cL_law 1373 = .ok (.iload 5, 2) := ldc_72.2.2.2.2.2.2.2.2.2
set_option maxRecDepth 100000 in
theorem ldc_73 : decode cL_law 1375 = .ok (.iconst 1, 1) ∧ decode cL_law 1376 = .ok (.iadd, 1) ∧ decode cL_law 1377 = .ok (.iaload, 1) ∧ decode cL_law 1378 = .ok (.aload_n 0, 1) ∧ decode cL_law 1379 = .ok (.iload 5, 2) ∧ decode cL_law 1381 = .ok (.iconst 2, 1) ∧ decode cL_law 1382 = .ok (.iadd, 1) ∧ decode cL_law 1383 = .ok (.iaload, 1) ∧ decode cL_law 1384 = .ok (.invokevirtual 278, 3) ∧ decode cL_law 1387 = .ok (.istore 7, 2) := by decide +kernel
theorem dL_law_1375 : decode cL_law 1375 = .ok (.iconst 1, 1) := ldc_73.1
theorem dL_law_1376 : decode cL_law 1376 = .ok (.iadd, 1) := ldc_73.2.1
theorem dL_law_1377 : decode cL_law 1377 = .ok (.iaload, 1) := ldc_73.2.2.1
theorem dL_law_1378 : decode cL_law 1378 = .ok (.aload_n 0, 1) := ldc_73.2.2.2.1
theorem dL_law_1379 : decode cL_law 1379 = .ok (.iload 5, 2) := ldc_73.2.2.2.2.1
theorem dL_law_1381 : decode cL_law 1381 = .ok (.iconst 2, 1) := ldc_73.2.2.2.2.2.1
theorem dL_law_1382 : decode cL_law 1382 = .ok (.iadd, 1) := ldc_73.2.2.2.2.2.2.1
theorem dL_law_1383 : decode cL_law 1383 = .ok (.iaload, 1) := ldc_73.2.2.2.2.2.2.2.1
theorem dL_law_1384 : decode cL_law 1384 = .ok (.invokevirtual 278, 3) := ldc_73.2.2.2.2.2.2.2.2.1
theorem dL_law_1387 : decode cL_law 1387 = .ok (.istore 7, 2) := ldc_73.2.2.2.2.2.2.2.2.2
set_option maxRecDepth 100000 in
theorem ldc_74 : decode cL_law 1389 = .ok (.goto 605, 3) ∧ decode cL_law 1392 = .ok (.aload_n 1, 1) ∧ decode cL_law 1393 = .ok (.invokevirtual 279, 3) ∧ decode cL_law 1396 = .ok (.pop, 1) ∧ decode cL_law 1397 = .ok (.aload_n 2, 1) ∧ decode cL_law 1398 = .ok (.invokevirtual 282, 3) ∧ decode cL_law 1401 = .ok (.pop, 1) ∧ decode cL_law 1402 = .ok (.goto 592, 3) ∧ decode cL_law 1405 = .ok (.aload_n 1, 1) ∧ decode cL_law 1406 = .ok (.invokevirtual 283, 3) := by decide +kernel
theorem dL_law_1389 : decode cL_law 1389 = .ok (.goto 605, 3) := ldc_74.1
theorem dL_law_1392 : decode cL_law 1392 = .ok (.aload_n 1, 1) := ldc_74.2.1
theorem dL_law_1393 : decode cL_law 1393 = .ok (.invokevirtual 279, 3) := ldc_74.2.2.1
theorem dL_law_1396 : decode cL_law 1396 = .ok (.pop, 1) := ldc_74.2.2.2.1
theorem dL_law_1397 : decode cL_law 1397 = .ok (.aload_n 2, 1) := ldc_74.2.2.2.2.1
theorem dL_law_1398 : decode cL_law 1398 = .ok (.invokevirtual 282, 3) := ldc_74.2.2.2.2.2.1
theorem dL_law_1401 : decode cL_law 1401 = .ok (.pop, 1) := ldc_74.2.2.2.2.2.2.1
theorem dL_law_1402 : decode cL_law 1402 = .ok (.goto 592, 3) := ldc_74.2.2.2.2.2.2.2.1
theorem dL_law_1405 : decode cL_law 1405 = .ok (.aload_n 1, 1) := ldc_74.2.2.2.2.2.2.2.2.1
theorem dL_law_1406 : decode cL_law 1406 = .ok (.invokevirtual 283, 3) := ldc_74.2.2.2.2.2.2.2.2.2
set_option maxRecDepth 100000 in
theorem ldc_75 : decode cL_law 1409 = .ok (.pop, 1) ∧ decode cL_law 1410 = .ok (.aload_n 2, 1) ∧ decode cL_law 1411 = .ok (.invokevirtual 286, 3) ∧ decode cL_law 1414 = .ok (.pop, 1) ∧ decode cL_law 1415 = .ok (.goto 579, 3) ∧ decode cL_law 1418 = .ok (.aload_n 1, 1) ∧ decode cL_law 1419 = .ok (.aload_n 0, 1) ∧ decode cL_law 1420 = .ok (.iload 5, 2) ∧ decode cL_law 1422 = .ok (.iconst 1, 1) ∧ decode cL_law 1423 = .ok (.iadd, 1) := by decide +kernel
theorem dL_law_1409 : decode cL_law 1409 = .ok (.pop, 1) := ldc_75.1
theorem dL_law_1410 : decode cL_law 1410 = .ok (.aload_n 2, 1) := ldc_75.2.1
theorem dL_law_1411 : decode cL_law 1411 = .ok (.invokevirtual 286, 3) := ldc_75.2.2.1
theorem dL_law_1414 : decode cL_law 1414 = .ok (.pop, 1) := ldc_75.2.2.2.1
theorem dL_law_1415 : decode cL_law 1415 = .ok (.goto 579, 3) := ldc_75.2.2.2.2.1
theorem dL_law_1418 : decode cL_law 1418 = .ok (.aload_n 1, 1) := ldc_75.2.2.2.2.2.1
theorem dL_law_1419 : decode cL_law 1419 = .ok (.aload_n 0, 1) := ldc_75.2.2.2.2.2.2.1
theorem dL_law_1420 : decode cL_law 1420 = .ok (.iload 5, 2) := ldc_75.2.2.2.2.2.2.2.1
theorem dL_law_1422 : decode cL_law 1422 = .ok (.iconst 1, 1) := ldc_75.2.2.2.2.2.2.2.2.1
theorem dL_law_1423 : decode cL_law 1423 = .ok (.iadd, 1) := ldc_75.2.2.2.2.2.2.2.2.2
set_option maxRecDepth 100000 in
theorem ldc_76 : decode cL_law 1424 = .ok (.iaload, 1) ∧ decode cL_law 1425 = .ok (.aload_n 3, 1) ∧ decode cL_law 1426 = .ok (.invokestatic 287, 3) ∧ decode cL_law 1429 = .ok (.istore 6, 2) ∧ decode cL_law 1431 = .ok (.aload_n 2, 1) ∧ decode cL_law 1432 = .ok (.aload_n 0, 1) ∧ decode cL_law 1433 = .ok (.iload 5, 2) ∧ decode cL_law 1435 = .ok (.iconst 1, 1) ∧ decode cL_law 1436 = .ok (.iadd, 1) ∧ decode cL_law 1437 = .ok (.iaload, 1) := by decide +kernel
theorem dL_law_1424 : decode cL_law 1424 = .ok (.iaload, 1) := ldc_76.1
theorem dL_law_1425 : decode cL_law 1425 = .ok (.aload_n 3, 1) := ldc_76.2.1
theorem dL_law_1426 : decode cL_law 1426 = .ok (.invokestatic 287, 3) := ldc_76.2.2.1
theorem dL_law_1429 : decode cL_law 1429 = .ok (.istore 6, 2) := ldc_76.2.2.2.1
theorem dL_law_1431 : decode cL_law 1431 = .ok (.aload_n 2, 1) := ldc_76.2.2.2.2.1
theorem dL_law_1432 : decode cL_law 1432 = .ok (.aload_n 0, 1) := ldc_76.2.2.2.2.2.1
theorem dL_law_1433 : decode cL_law 1433 = .ok (.iload 5, 2) := ldc_76.2.2.2.2.2.2.1
theorem dL_law_1435 : decode cL_law 1435 = .ok (.iconst 1, 1) := ldc_76.2.2.2.2.2.2.2.1
theorem dL_law_1436 : decode cL_law 1436 = .ok (.iadd, 1) := ldc_76.2.2.2.2.2.2.2.2.1
theorem dL_law_1437 : decode cL_law 1437 = .ok (.iaload, 1) := ldc_76.2.2.2.2.2.2.2.2.2
set_option maxRecDepth 100000 in
theorem ldc_77 : decode cL_law 1438 = .ok (.invokevirtual 289, 3) ∧ decode cL_law 1441 = .ok (.istore 7, 2) ∧ decode cL_law 1443 = .ok (.goto 551, 3) ∧ decode cL_law 1446 = .ok (.aload_n 1, 1) ∧ decode cL_law 1447 = .ok (.invokevirtual 290, 3) ∧ decode cL_law 1450 = .ok (.pop2, 1) ∧ decode cL_law 1451 = .ok (.aload_n 2, 1) ∧ decode cL_law 1452 = .ok (.invokevirtual 293, 3) ∧ decode cL_law 1455 = .ok (.pop2, 1) ∧ decode cL_law 1456 = .ok (.goto 538, 3) := by decide +kernel
theorem dL_law_1438 : decode cL_law 1438 = .ok (.invokevirtual 289, 3) := ldc_77.1
theorem dL_law_1441 : decode cL_law 1441 = .ok (.istore 7, 2) := ldc_77.2.1
theorem dL_law_1443 : decode cL_law 1443 = .ok (.goto 551, 3) := ldc_77.2.2.1
theorem dL_law_1446 : decode cL_law 1446 = .ok (.aload_n 1, 1) := ldc_77.2.2.2.1
theorem dL_law_1447 : decode cL_law 1447 = .ok (.invokevirtual 290, 3) := ldc_77.2.2.2.2.1
theorem dL_law_1450 : decode cL_law 1450 = .ok (.pop2, 1) := ldc_77.2.2.2.2.2.1
theorem dL_law_1451 : decode cL_law 1451 = .ok (.aload_n 2, 1) := ldc_77.2.2.2.2.2.2.1
theorem dL_law_1452 : decode cL_law 1452 = .ok (.invokevirtual 293, 3) := ldc_77.2.2.2.2.2.2.2.1
theorem dL_law_1455 : decode cL_law 1455 = .ok (.pop2, 1) := ldc_77.2.2.2.2.2.2.2.2.1
theorem dL_law_1456 : decode cL_law 1456 = .ok (.goto 538, 3) := ldc_77.2.2.2.2.2.2.2.2.2
set_option maxRecDepth 100000 in
theorem ldc_78 : decode cL_law 1459 = .ok (.aload_n 1, 1) ∧ decode cL_law 1460 = .ok (.aload_n 0, 1) ∧ decode cL_law 1461 = .ok (.iload 5, 2) ∧ decode cL_law 1463 = .ok (.iconst 1, 1) ∧ decode cL_law 1464 = .ok (.iadd, 1) ∧ decode cL_law 1465 = .ok (.iaload, 1) ∧ decode cL_law 1466 = .ok (.aload_n 3, 1) ∧ decode cL_law 1467 = .ok (.invokestatic 294, 3) ∧ decode cL_law 1470 = .ok (.istore 6, 2) ∧ decode cL_law 1472 = .ok (.aload_n 2, 1) := by decide +kernel
theorem dL_law_1459 : decode cL_law 1459 = .ok (.aload_n 1, 1) := ldc_78.1
theorem dL_law_1460 : decode cL_law 1460 = .ok (.aload_n 0, 1) := ldc_78.2.1
theorem dL_law_1461 : decode cL_law 1461 = .ok (.iload 5, 2) := ldc_78.2.2.1
theorem dL_law_1463 : decode cL_law 1463 = .ok (.iconst 1, 1) := ldc_78.2.2.2.1
theorem dL_law_1464 : decode cL_law 1464 = .ok (.iadd, 1) := ldc_78.2.2.2.2.1
theorem dL_law_1465 : decode cL_law 1465 = .ok (.iaload, 1) := ldc_78.2.2.2.2.2.1
theorem dL_law_1466 : decode cL_law 1466 = .ok (.aload_n 3, 1) := ldc_78.2.2.2.2.2.2.1
theorem dL_law_1467 : decode cL_law 1467 = .ok (.invokestatic 294, 3) := ldc_78.2.2.2.2.2.2.2.1
theorem dL_law_1470 : decode cL_law 1470 = .ok (.istore 6, 2) := ldc_78.2.2.2.2.2.2.2.2.1
theorem dL_law_1472 : decode cL_law 1472 = .ok (.aload_n 2, 1) := ldc_78.2.2.2.2.2.2.2.2.2
set_option maxRecDepth 100000 in
theorem ldc_79 : decode cL_law 1473 = .ok (.aload_n 0, 1) ∧ decode cL_law 1474 = .ok (.iload 5, 2) ∧ decode cL_law 1476 = .ok (.iconst 1, 1) ∧ decode cL_law 1477 = .ok (.iadd, 1) ∧ decode cL_law 1478 = .ok (.iaload, 1) ∧ decode cL_law 1479 = .ok (.invokevirtual 296, 3) ∧ decode cL_law 1482 = .ok (.lstore 7, 2) ∧ decode cL_law 1484 = .ok (.goto 510, 3) ∧ decode cL_law 1487 = .ok (.aload_n 1, 1) ∧ decode cL_law 1488 = .ok (.aload 4, 2) := by decide +kernel
theorem dL_law_1473 : decode cL_law 1473 = .ok (.aload_n 0, 1) := ldc_79.1
theorem dL_law_1474 : decode cL_law 1474 = .ok (.iload 5, 2) := ldc_79.2.1
theorem dL_law_1476 : decode cL_law 1476 = .ok (.iconst 1, 1) := ldc_79.2.2.1
theorem dL_law_1477 : decode cL_law 1477 = .ok (.iadd, 1) := ldc_79.2.2.2.1
theorem dL_law_1478 : decode cL_law 1478 = .ok (.iaload, 1) := ldc_79.2.2.2.2.1
theorem dL_law_1479 : decode cL_law 1479 = .ok (.invokevirtual 296, 3) := ldc_79.2.2.2.2.2.1
theorem dL_law_1482 : decode cL_law 1482 = .ok (.lstore 7, 2) := ldc_79.2.2.2.2.2.2.1
theorem dL_law_1484 : decode cL_law 1484 = .ok (.goto 510, 3) := ldc_79.2.2.2.2.2.2.2.1
theorem dL_law_1487 : decode cL_law 1487 = .ok (.aload_n 1, 1) := ldc_79.2.2.2.2.2.2.2.2.1
theorem dL_law_1488 : decode cL_law 1488 = .ok (.aload 4, 2) := ldc_79.2.2.2.2.2.2.2.2.2
set_option maxRecDepth 100000 in
theorem ldc_80 : decode cL_law 1490 = .ok (.invokestatic 297, 3) ∧ decode cL_law 1493 = .ok (.istore 6, 2) ∧ decode cL_law 1495 = .ok (.aload_n 2, 1) ∧ decode cL_law 1496 = .ok (.invokevirtual 300, 3) ∧ decode cL_law 1499 = .ok (.dstore 7, 2) ∧ decode cL_law 1501 = .ok (.goto 493, 3) ∧ decode cL_law 1504 = .ok (.aload_n 1, 1) ∧ decode cL_law 1505 = .ok (.invokevirtual 301, 3) ∧ decode cL_law 1508 = .ok (.pop, 1) ∧ decode cL_law 1509 = .ok (.aload_n 2, 1) := by decide +kernel
theorem dL_law_1490 : decode cL_law 1490 = .ok (.invokestatic 297, 3) := ldc_80.1
theorem dL_law_1493 : decode cL_law 1493 = .ok (.istore 6, 2) := ldc_80.2.1
theorem dL_law_1495 : decode cL_law 1495 = .ok (.aload_n 2, 1) := ldc_80.2.2.1
theorem dL_law_1496 : decode cL_law 1496 = .ok (.invokevirtual 300, 3) := ldc_80.2.2.2.1
theorem dL_law_1499 : decode cL_law 1499 = .ok (.dstore 7, 2) := ldc_80.2.2.2.2.1
theorem dL_law_1501 : decode cL_law 1501 = .ok (.goto 493, 3) := ldc_80.2.2.2.2.2.1
theorem dL_law_1504 : decode cL_law 1504 = .ok (.aload_n 1, 1) := ldc_80.2.2.2.2.2.2.1
theorem dL_law_1505 : decode cL_law 1505 = .ok (.invokevirtual 301, 3) := ldc_80.2.2.2.2.2.2.2.1
theorem dL_law_1508 : decode cL_law 1508 = .ok (.pop, 1) := ldc_80.2.2.2.2.2.2.2.2.1
theorem dL_law_1509 : decode cL_law 1509 = .ok (.aload_n 2, 1) := ldc_80.2.2.2.2.2.2.2.2.2
set_option maxRecDepth 100000 in
theorem ldc_81 : decode cL_law 1510 = .ok (.invokevirtual 304, 3) ∧ decode cL_law 1513 = .ok (.pop, 1) ∧ decode cL_law 1514 = .ok (.goto 480, 3) ∧ decode cL_law 1517 = .ok (.aload_n 1, 1) ∧ decode cL_law 1518 = .ok (.invokevirtual 305, 3) ∧ decode cL_law 1521 = .ok (.pop, 1) ∧ decode cL_law 1522 = .ok (.aload_n 2, 1) ∧ decode cL_law 1523 = .ok (.invokevirtual 308, 3) ∧ decode cL_law 1526 = .ok (.pop, 1) ∧ decode cL_law 1527 = .ok (.goto 467, 3) := by decide +kernel
theorem dL_law_1510 : decode cL_law 1510 = .ok (.invokevirtual 304, 3) := ldc_81.1
theorem dL_law_1513 : decode cL_law 1513 = .ok (.pop, 1) := ldc_81.2.1
theorem dL_law_1514 : decode cL_law 1514 = .ok (.goto 480, 3) := ldc_81.2.2.1
theorem dL_law_1517 : decode cL_law 1517 = .ok (.aload_n 1, 1) := ldc_81.2.2.2.1
theorem dL_law_1518 : decode cL_law 1518 = .ok (.invokevirtual 305, 3) := ldc_81.2.2.2.2.1
theorem dL_law_1521 : decode cL_law 1521 = .ok (.pop, 1) := ldc_81.2.2.2.2.2.1
theorem dL_law_1522 : decode cL_law 1522 = .ok (.aload_n 2, 1) := ldc_81.2.2.2.2.2.2.1
theorem dL_law_1523 : decode cL_law 1523 = .ok (.invokevirtual 308, 3) := ldc_81.2.2.2.2.2.2.2.1
theorem dL_law_1526 : decode cL_law 1526 = .ok (.pop, 1) := ldc_81.2.2.2.2.2.2.2.2.1
theorem dL_law_1527 : decode cL_law 1527 = .ok (.goto 467, 3) := ldc_81.2.2.2.2.2.2.2.2.2
set_option maxRecDepth 100000 in
theorem ldc_82 : decode cL_law 1530 = .ok (.aload_n 1, 1) ∧ decode cL_law 1531 = .ok (.aload_n 0, 1) ∧ decode cL_law 1532 = .ok (.iload 5, 2) ∧ decode cL_law 1534 = .ok (.iconst 1, 1) ∧ decode cL_law 1535 = .ok (.iadd, 1) ∧ decode cL_law 1536 = .ok (.iaload, 1) ∧ decode cL_law 1537 = .ok (.aload_n 0, 1) ∧ decode cL_law 1538 = .ok (.iload 5, 2) ∧ decode cL_law 1540 = .ok (.iconst 2, 1) ∧ decode cL_law 1541 = .ok (.iadd, 1) := by decide +kernel
theorem dL_law_1530 : decode cL_law 1530 = .ok (.aload_n 1, 1) := ldc_82.1
theorem dL_law_1531 : decode cL_law 1531 = .ok (.aload_n 0, 1) := ldc_82.2.1
theorem dL_law_1532 : decode cL_law 1532 = .ok (.iload 5, 2) := ldc_82.2.2.1
theorem dL_law_1534 : decode cL_law 1534 = .ok (.iconst 1, 1) := ldc_82.2.2.2.1
theorem dL_law_1535 : decode cL_law 1535 = .ok (.iadd, 1) := ldc_82.2.2.2.2.1
theorem dL_law_1536 : decode cL_law 1536 = .ok (.iaload, 1) := ldc_82.2.2.2.2.2.1
theorem dL_law_1537 : decode cL_law 1537 = .ok (.aload_n 0, 1) := ldc_82.2.2.2.2.2.2.1
theorem dL_law_1538 : decode cL_law 1538 = .ok (.iload 5, 2) := ldc_82.2.2.2.2.2.2.2.1
theorem dL_law_1540 : decode cL_law 1540 = .ok (.iconst 2, 1) := ldc_82.2.2.2.2.2.2.2.2.1
theorem dL_law_1541 : decode cL_law 1541 = .ok (.iadd, 1) := ldc_82.2.2.2.2.2.2.2.2.2
set_option maxRecDepth 100000 in
theorem ldc_83 : decode cL_law 1542 = .ok (.iaload, 1) ∧ decode cL_law 1543 = .ok (.aload_n 3, 1) ∧ decode cL_law 1544 = .ok (.invokestatic 309, 3) ∧ decode cL_law 1547 = .ok (.istore 6, 2) ∧ decode cL_law 1549 = .ok (.aload_n 2, 1) ∧ decode cL_law 1550 = .ok (.aload_n 0, 1) ∧ decode cL_law 1551 = .ok (.iload 5, 2) ∧ decode cL_law 1553 = .ok (.iconst 1, 1) ∧ decode cL_law 1554 = .ok (.iadd, 1) ∧ decode cL_law 1555 = .ok (.iaload, 1) := by decide +kernel
theorem dL_law_1542 : decode cL_law 1542 = .ok (.iaload, 1) := ldc_83.1
theorem dL_law_1543 : decode cL_law 1543 = .ok (.aload_n 3, 1) := ldc_83.2.1
theorem dL_law_1544 : decode cL_law 1544 = .ok (.invokestatic 309, 3) := ldc_83.2.2.1
theorem dL_law_1547 : decode cL_law 1547 = .ok (.istore 6, 2) := ldc_83.2.2.2.1
theorem dL_law_1549 : decode cL_law 1549 = .ok (.aload_n 2, 1) := ldc_83.2.2.2.2.1
theorem dL_law_1550 : decode cL_law 1550 = .ok (.aload_n 0, 1) := ldc_83.2.2.2.2.2.1
theorem dL_law_1551 : decode cL_law 1551 = .ok (.iload 5, 2) := ldc_83.2.2.2.2.2.2.1
theorem dL_law_1553 : decode cL_law 1553 = .ok (.iconst 1, 1) := ldc_83.2.2.2.2.2.2.2.1
theorem dL_law_1554 : decode cL_law 1554 = .ok (.iadd, 1) := ldc_83.2.2.2.2.2.2.2.2.1
theorem dL_law_1555 : decode cL_law 1555 = .ok (.iaload, 1) := ldc_83.2.2.2.2.2.2.2.2.2
set_option maxRecDepth 100000 in
theorem ldc_84 : decode cL_law 1556 = .ok (.aload_n 0, 1) ∧ decode cL_law 1557 = .ok (.iload 5, 2) ∧ decode cL_law 1559 = .ok (.iconst 2, 1) ∧ decode cL_law 1560 = .ok (.iadd, 1) ∧ decode cL_law 1561 = .ok (.iaload, 1) ∧ decode cL_law 1562 = .ok (.invokevirtual 311, 3) ∧ decode cL_law 1565 = .ok (.istore 7, 2) ∧ decode cL_law 1567 = .ok (.goto 427, 3) ∧ decode cL_law 1570 = .ok (.aload_n 1, 1) ∧ decode cL_law 1571 = .ok (.aload_n 0, 1) := by decide +kernel
theorem dL_law_1556 : decode cL_law 1556 = .ok (.aload_n 0, 1) := ldc_84.1
theorem dL_law_1557 : decode cL_law 1557 = .ok (.iload 5, 2) := ldc_84.2.1
theorem dL_law_1559 : decode cL_law 1559 = .ok (.iconst 2, 1) := ldc_84.2.2.1
theorem dL_law_1560 : decode cL_law 1560 = .ok (.iadd, 1) := ldc_84.2.2.2.1
theorem dL_law_1561 : decode cL_law 1561 = .ok (.iaload, 1) := ldc_84.2.2.2.2.1
theorem dL_law_1562 : decode cL_law 1562 = .ok (.invokevirtual 311, 3) := ldc_84.2.2.2.2.2.1
theorem dL_law_1565 : decode cL_law 1565 = .ok (.istore 7, 2) := ldc_84.2.2.2.2.2.2.1
theorem dL_law_1567 : decode cL_law 1567 = .ok (.goto 427, 3) := ldc_84.2.2.2.2.2.2.2.1
theorem dL_law_1570 : decode cL_law 1570 = .ok (.aload_n 1, 1) := ldc_84.2.2.2.2.2.2.2.2.1
theorem dL_law_1571 : decode cL_law 1571 = .ok (.aload_n 0, 1) := ldc_84.2.2.2.2.2.2.2.2.2
set_option maxRecDepth 100000 in
theorem ldc_85 : decode cL_law 1572 = .ok (.iload 5, 2) ∧ decode cL_law 1574 = .ok (.iconst 1, 1) ∧ decode cL_law 1575 = .ok (.iadd, 1) ∧ decode cL_law 1576 = .ok (.iaload, 1) ∧ decode cL_law 1577 = .ok (.aload_n 0, 1) ∧ decode cL_law 1578 = .ok (.iload 5, 2) ∧ decode cL_law 1580 = .ok (.iconst 2, 1) ∧ decode cL_law 1581 = .ok (.iadd, 1) ∧ decode cL_law 1582 = .ok (.iaload, 1) ∧ decode cL_law 1583 = .ok (.aload_n 0, 1) := by decide +kernel
theorem dL_law_1572 : decode cL_law 1572 = .ok (.iload 5, 2) := ldc_85.1
theorem dL_law_1574 : decode cL_law 1574 = .ok (.iconst 1, 1) := ldc_85.2.1
theorem dL_law_1575 : decode cL_law 1575 = .ok (.iadd, 1) := ldc_85.2.2.1
theorem dL_law_1576 : decode cL_law 1576 = .ok (.iaload, 1) := ldc_85.2.2.2.1
theorem dL_law_1577 : decode cL_law 1577 = .ok (.aload_n 0, 1) := ldc_85.2.2.2.2.1
theorem dL_law_1578 : decode cL_law 1578 = .ok (.iload 5, 2) := ldc_85.2.2.2.2.2.1
theorem dL_law_1580 : decode cL_law 1580 = .ok (.iconst 2, 1) := ldc_85.2.2.2.2.2.2.1
theorem dL_law_1581 : decode cL_law 1581 = .ok (.iadd, 1) := ldc_85.2.2.2.2.2.2.2.1
theorem dL_law_1582 : decode cL_law 1582 = .ok (.iaload, 1) := ldc_85.2.2.2.2.2.2.2.2.1
theorem dL_law_1583 : decode cL_law 1583 = .ok (.aload_n 0, 1) := ldc_85.2.2.2.2.2.2.2.2.2
set_option maxRecDepth 100000 in
theorem ldc_86 : decode cL_law 1584 = .ok (.iload 5, 2) ∧ decode cL_law 1586 = .ok (.iconst 3, 1) ∧ decode cL_law 1587 = .ok (.iadd, 1) ∧ decode cL_law 1588 = .ok (.iaload, 1) ∧ decode cL_law 1589 = .ok (.aload_n 0, 1) ∧ decode cL_law 1590 = .ok (.iload 5, 2) ∧ decode cL_law 1592 = .ok (.iconst 4, 1) ∧ decode cL_law 1593 = .ok (.iadd, 1) ∧ decode cL_law 1594 = .ok (.iaload, 1) ∧ decode cL_law 1595 = .ok (.invokevirtual 312, 3) := by decide +kernel
theorem dL_law_1584 : decode cL_law 1584 = .ok (.iload 5, 2) := ldc_86.1
theorem dL_law_1586 : decode cL_law 1586 = .ok (.iconst 3, 1) := ldc_86.2.1
theorem dL_law_1587 : decode cL_law 1587 = .ok (.iadd, 1) := ldc_86.2.2.1
theorem dL_law_1588 : decode cL_law 1588 = .ok (.iaload, 1) := ldc_86.2.2.2.1
theorem dL_law_1589 : decode cL_law 1589 = .ok (.aload_n 0, 1) := ldc_86.2.2.2.2.1
theorem dL_law_1590 : decode cL_law 1590 = .ok (.iload 5, 2) := ldc_86.2.2.2.2.2.1
theorem dL_law_1592 : decode cL_law 1592 = .ok (.iconst 4, 1) := ldc_86.2.2.2.2.2.2.1
theorem dL_law_1593 : decode cL_law 1593 = .ok (.iadd, 1) := ldc_86.2.2.2.2.2.2.2.1
theorem dL_law_1594 : decode cL_law 1594 = .ok (.iaload, 1) := ldc_86.2.2.2.2.2.2.2.2.1
theorem dL_law_1595 : decode cL_law 1595 = .ok (.invokevirtual 312, 3) := ldc_86.2.2.2.2.2.2.2.2.2
set_option maxRecDepth 100000 in
theorem ldc_87 : decode cL_law 1598 = .ok (.pop, 1) ∧ decode cL_law 1599 = .ok (.aload_n 2, 1) ∧ decode cL_law 1600 = .ok (.aload_n 0, 1) ∧ decode cL_law 1601 = .ok (.iload 5, 2) ∧ decode cL_law 1603 = .ok (.iconst 1, 1) ∧ decode cL_law 1604 = .ok (.iadd, 1) ∧ decode cL_law 1605 = .ok (.iaload, 1) ∧ decode cL_law 1606 = .ok (.aload_n 0, 1) ∧ decode cL_law 1607 = .ok (.iload 5, 2) ∧ decode cL_law 1609 = .ok (.iconst 2, 1) := by decide +kernel
theorem dL_law_1598 : decode cL_law 1598 = .ok (.pop, 1) := ldc_87.1
theorem dL_law_1599 : decode cL_law 1599 = .ok (.aload_n 2, 1) := ldc_87.2.1
theorem dL_law_1600 : decode cL_law 1600 = .ok (.aload_n 0, 1) := ldc_87.2.2.1
theorem dL_law_1601 : decode cL_law 1601 = .ok (.iload 5, 2) := ldc_87.2.2.2.1
theorem dL_law_1603 : decode cL_law 1603 = .ok (.iconst 1, 1) := ldc_87.2.2.2.2.1
theorem dL_law_1604 : decode cL_law 1604 = .ok (.iadd, 1) := ldc_87.2.2.2.2.2.1
theorem dL_law_1605 : decode cL_law 1605 = .ok (.iaload, 1) := ldc_87.2.2.2.2.2.2.1
theorem dL_law_1606 : decode cL_law 1606 = .ok (.aload_n 0, 1) := ldc_87.2.2.2.2.2.2.2.1
theorem dL_law_1607 : decode cL_law 1607 = .ok (.iload 5, 2) := ldc_87.2.2.2.2.2.2.2.2.1
theorem dL_law_1609 : decode cL_law 1609 = .ok (.iconst 2, 1) := ldc_87.2.2.2.2.2.2.2.2.2
set_option maxRecDepth 100000 in
theorem ldc_88 : decode cL_law 1610 = .ok (.iadd, 1) ∧ decode cL_law 1611 = .ok (.iaload, 1) ∧ decode cL_law 1612 = .ok (.aload_n 0, 1) ∧ decode cL_law 1613 = .ok (.iload 5, 2) ∧ decode cL_law 1615 = .ok (.iconst 3, 1) ∧ decode cL_law 1616 = .ok (.iadd, 1) ∧ decode cL_law 1617 = .ok (.iaload, 1) ∧ decode cL_law 1618 = .ok (.aload_n 0, 1) ∧ decode cL_law 1619 = .ok (.iload 5, 2) ∧ decode cL_law 1621 = .ok (.iconst 4, 1) := by decide +kernel
theorem dL_law_1610 : decode cL_law 1610 = .ok (.iadd, 1) := ldc_88.1
theorem dL_law_1611 : decode cL_law 1611 = .ok (.iaload, 1) := ldc_88.2.1
theorem dL_law_1612 : decode cL_law 1612 = .ok (.aload_n 0, 1) := ldc_88.2.2.1
theorem dL_law_1613 : decode cL_law 1613 = .ok (.iload 5, 2) := ldc_88.2.2.2.1
theorem dL_law_1615 : decode cL_law 1615 = .ok (.iconst 3, 1) := ldc_88.2.2.2.2.1
theorem dL_law_1616 : decode cL_law 1616 = .ok (.iadd, 1) := ldc_88.2.2.2.2.2.1
theorem dL_law_1617 : decode cL_law 1617 = .ok (.iaload, 1) := ldc_88.2.2.2.2.2.2.1
theorem dL_law_1618 : decode cL_law 1618 = .ok (.aload_n 0, 1) := ldc_88.2.2.2.2.2.2.2.1
theorem dL_law_1619 : decode cL_law 1619 = .ok (.iload 5, 2) := ldc_88.2.2.2.2.2.2.2.2.1
theorem dL_law_1621 : decode cL_law 1621 = .ok (.iconst 4, 1) := ldc_88.2.2.2.2.2.2.2.2.2
set_option maxRecDepth 100000 in
theorem ldc_89 : decode cL_law 1622 = .ok (.iadd, 1) ∧ decode cL_law 1623 = .ok (.iaload, 1) ∧ decode cL_law 1624 = .ok (.invokevirtual 316, 3) ∧ decode cL_law 1627 = .ok (.pop, 1) ∧ decode cL_law 1628 = .ok (.goto 366, 3) ∧ decode cL_law 1631 = .ok (.aload_n 1, 1) ∧ decode cL_law 1632 = .ok (.aload_n 0, 1) ∧ decode cL_law 1633 = .ok (.iload 5, 2) ∧ decode cL_law 1635 = .ok (.iconst 1, 1) ∧ decode cL_law 1636 = .ok (.iadd, 1) := by decide +kernel
theorem dL_law_1622 : decode cL_law 1622 = .ok (.iadd, 1) := ldc_89.1
theorem dL_law_1623 : decode cL_law 1623 = .ok (.iaload, 1) := ldc_89.2.1
theorem dL_law_1624 : decode cL_law 1624 = .ok (.invokevirtual 316, 3) := ldc_89.2.2.1
theorem dL_law_1627 : decode cL_law 1627 = .ok (.pop, 1) := ldc_89.2.2.2.1
theorem dL_law_1628 : decode cL_law 1628 = .ok (.goto 366, 3) := ldc_89.2.2.2.2.1
theorem dL_law_1631 : decode cL_law 1631 = .ok (.aload_n 1, 1) := ldc_89.2.2.2.2.2.1
theorem dL_law_1632 : decode cL_law 1632 = .ok (.aload_n 0, 1) := ldc_89.2.2.2.2.2.2.1
theorem dL_law_1633 : decode cL_law 1633 = .ok (.iload 5, 2) := ldc_89.2.2.2.2.2.2.2.1
theorem dL_law_1635 : decode cL_law 1635 = .ok (.iconst 1, 1) := ldc_89.2.2.2.2.2.2.2.2.1
theorem dL_law_1636 : decode cL_law 1636 = .ok (.iadd, 1) := ldc_89.2.2.2.2.2.2.2.2.2
set_option maxRecDepth 100000 in
theorem ldc_90 : decode cL_law 1637 = .ok (.iaload, 1) ∧ decode cL_law 1638 = .ok (.aload_n 0, 1) ∧ decode cL_law 1639 = .ok (.iload 5, 2) ∧ decode cL_law 1641 = .ok (.iconst 2, 1) ∧ decode cL_law 1642 = .ok (.iadd, 1) ∧ decode cL_law 1643 = .ok (.iaload, 1) ∧ decode cL_law 1644 = .ok (.aload_n 3, 1) ∧ decode cL_law 1645 = .ok (.invokestatic 317, 3) ∧ decode cL_law 1648 = .ok (.istore 6, 2) ∧ decode cL_law 1650 = .ok (.aload_n 2, 1) := by decide +kernel
theorem dL_law_1637 : decode cL_law 1637 = .ok (.iaload, 1) := ldc_90.1
theorem dL_law_1638 : decode cL_law 1638 = .ok (.aload_n 0, 1) := ldc_90.2.1
theorem dL_law_1639 : decode cL_law 1639 = .ok (.iload 5, 2) := ldc_90.2.2.1
theorem dL_law_1641 : decode cL_law 1641 = .ok (.iconst 2, 1) := ldc_90.2.2.2.1
theorem dL_law_1642 : decode cL_law 1642 = .ok (.iadd, 1) := ldc_90.2.2.2.2.1
theorem dL_law_1643 : decode cL_law 1643 = .ok (.iaload, 1) := ldc_90.2.2.2.2.2.1
theorem dL_law_1644 : decode cL_law 1644 = .ok (.aload_n 3, 1) := ldc_90.2.2.2.2.2.2.1
theorem dL_law_1645 : decode cL_law 1645 = .ok (.invokestatic 317, 3) := ldc_90.2.2.2.2.2.2.2.1
theorem dL_law_1648 : decode cL_law 1648 = .ok (.istore 6, 2) := ldc_90.2.2.2.2.2.2.2.2.1
theorem dL_law_1650 : decode cL_law 1650 = .ok (.aload_n 2, 1) := ldc_90.2.2.2.2.2.2.2.2.2
set_option maxRecDepth 100000 in
theorem ldc_91 : decode cL_law 1651 = .ok (.aload_n 0, 1) ∧ decode cL_law 1652 = .ok (.iload 5, 2) ∧ decode cL_law 1654 = .ok (.iconst 1, 1) ∧ decode cL_law 1655 = .ok (.iadd, 1) ∧ decode cL_law 1656 = .ok (.iaload, 1) ∧ decode cL_law 1657 = .ok (.aload_n 0, 1) ∧ decode cL_law 1658 = .ok (.iload 5, 2) ∧ decode cL_law 1660 = .ok (.iconst 2, 1) ∧ decode cL_law 1661 = .ok (.iadd, 1) ∧ decode cL_law 1662 = .ok (.iaload, 1) := by decide +kernel
theorem dL_law_1651 : decode cL_law 1651 = .ok (.aload_n 0, 1) := ldc_91.1
theorem dL_law_1652 : decode cL_law 1652 = .ok (.iload 5, 2) := ldc_91.2.1
theorem dL_law_1654 : decode cL_law 1654 = .ok (.iconst 1, 1) := ldc_91.2.2.1
theorem dL_law_1655 : decode cL_law 1655 = .ok (.iadd, 1) := ldc_91.2.2.2.1
theorem dL_law_1656 : decode cL_law 1656 = .ok (.iaload, 1) := ldc_91.2.2.2.2.1
theorem dL_law_1657 : decode cL_law 1657 = .ok (.aload_n 0, 1) := ldc_91.2.2.2.2.2.1
theorem dL_law_1658 : decode cL_law 1658 = .ok (.iload 5, 2) := ldc_91.2.2.2.2.2.2.1
theorem dL_law_1660 : decode cL_law 1660 = .ok (.iconst 2, 1) := ldc_91.2.2.2.2.2.2.2.1
theorem dL_law_1661 : decode cL_law 1661 = .ok (.iadd, 1) := ldc_91.2.2.2.2.2.2.2.2.1
theorem dL_law_1662 : decode cL_law 1662 = .ok (.iaload, 1) := ldc_91.2.2.2.2.2.2.2.2.2
set_option maxRecDepth 100000 in
theorem ldc_92 : decode cL_law 1663 = .ok (.invokevirtual 319, 3) ∧ decode cL_law 1666 = .ok (.lstore 7, 2) ∧ decode cL_law 1668 = .ok (.goto 326, 3) ∧ decode cL_law 1671 = .ok (.aload_n 1, 1) ∧ decode cL_law 1672 = .ok (.aload_n 0, 1) ∧ decode cL_law 1673 = .ok (.iload 5, 2) ∧ decode cL_law 1675 = .ok (.iconst 1, 1) ∧ decode cL_law 1676 = .ok (.iadd, 1) ∧ decode cL_law 1677 = .ok (.iaload, 1) ∧ decode cL_law 1678 = .ok (.aload_n 0, 1) := by decide +kernel
theorem dL_law_1663 : decode cL_law 1663 = .ok (.invokevirtual 319, 3) := ldc_92.1
theorem dL_law_1666 : decode cL_law 1666 = .ok (.lstore 7, 2) := ldc_92.2.1
theorem dL_law_1668 : decode cL_law 1668 = .ok (.goto 326, 3) := ldc_92.2.2.1
theorem dL_law_1671 : decode cL_law 1671 = .ok (.aload_n 1, 1) := ldc_92.2.2.2.1
theorem dL_law_1672 : decode cL_law 1672 = .ok (.aload_n 0, 1) := ldc_92.2.2.2.2.1
theorem dL_law_1673 : decode cL_law 1673 = .ok (.iload 5, 2) := ldc_92.2.2.2.2.2.1
theorem dL_law_1675 : decode cL_law 1675 = .ok (.iconst 1, 1) := ldc_92.2.2.2.2.2.2.1
theorem dL_law_1676 : decode cL_law 1676 = .ok (.iadd, 1) := ldc_92.2.2.2.2.2.2.2.1
theorem dL_law_1677 : decode cL_law 1677 = .ok (.iaload, 1) := ldc_92.2.2.2.2.2.2.2.2.1
theorem dL_law_1678 : decode cL_law 1678 = .ok (.aload_n 0, 1) := ldc_92.2.2.2.2.2.2.2.2.2
set_option maxRecDepth 100000 in
theorem ldc_93 : decode cL_law 1679 = .ok (.iload 5, 2) ∧ decode cL_law 1681 = .ok (.iconst 2, 1) ∧ decode cL_law 1682 = .ok (.iadd, 1) ∧ decode cL_law 1683 = .ok (.iaload, 1) ∧ decode cL_law 1684 = .ok (.aload_n 3, 1) ∧ decode cL_law 1685 = .ok (.invokestatic 320, 3) ∧ decode cL_law 1688 = .ok (.istore 6, 2) ∧ decode cL_law 1690 = .ok (.aload_n 2, 1) ∧ decode cL_law 1691 = .ok (.aload_n 0, 1) ∧ decode cL_law 1692 = .ok (.iload 5, 2) := by decide +kernel
theorem dL_law_1679 : decode cL_law 1679 = .ok (.iload 5, 2) := ldc_93.1
theorem dL_law_1681 : decode cL_law 1681 = .ok (.iconst 2, 1) := ldc_93.2.1
theorem dL_law_1682 : decode cL_law 1682 = .ok (.iadd, 1) := ldc_93.2.2.1
theorem dL_law_1683 : decode cL_law 1683 = .ok (.iaload, 1) := ldc_93.2.2.2.1
theorem dL_law_1684 : decode cL_law 1684 = .ok (.aload_n 3, 1) := ldc_93.2.2.2.2.1
theorem dL_law_1685 : decode cL_law 1685 = .ok (.invokestatic 320, 3) := ldc_93.2.2.2.2.2.1
theorem dL_law_1688 : decode cL_law 1688 = .ok (.istore 6, 2) := ldc_93.2.2.2.2.2.2.1
theorem dL_law_1690 : decode cL_law 1690 = .ok (.aload_n 2, 1) := ldc_93.2.2.2.2.2.2.2.1
theorem dL_law_1691 : decode cL_law 1691 = .ok (.aload_n 0, 1) := ldc_93.2.2.2.2.2.2.2.2.1
theorem dL_law_1692 : decode cL_law 1692 = .ok (.iload 5, 2) := ldc_93.2.2.2.2.2.2.2.2.2
set_option maxRecDepth 100000 in
theorem ldc_94 : decode cL_law 1694 = .ok (.iconst 1, 1) ∧ decode cL_law 1695 = .ok (.iadd, 1) ∧ decode cL_law 1696 = .ok (.iaload, 1) ∧ decode cL_law 1697 = .ok (.aload_n 0, 1) ∧ decode cL_law 1698 = .ok (.iload 5, 2) ∧ decode cL_law 1700 = .ok (.iconst 2, 1) ∧ decode cL_law 1701 = .ok (.iadd, 1) ∧ decode cL_law 1702 = .ok (.iaload, 1) ∧ decode cL_law 1703 = .ok (.invokevirtual 322, 3) ∧ decode cL_law 1706 = .ok (.lstore 7, 2) := by decide +kernel
theorem dL_law_1694 : decode cL_law 1694 = .ok (.iconst 1, 1) := ldc_94.1
theorem dL_law_1695 : decode cL_law 1695 = .ok (.iadd, 1) := ldc_94.2.1
theorem dL_law_1696 : decode cL_law 1696 = .ok (.iaload, 1) := ldc_94.2.2.1
theorem dL_law_1697 : decode cL_law 1697 = .ok (.aload_n 0, 1) := ldc_94.2.2.2.1
theorem dL_law_1698 : decode cL_law 1698 = .ok (.iload 5, 2) := ldc_94.2.2.2.2.1
theorem dL_law_1700 : decode cL_law 1700 = .ok (.iconst 2, 1) := ldc_94.2.2.2.2.2.1
theorem dL_law_1701 : decode cL_law 1701 = .ok (.iadd, 1) := ldc_94.2.2.2.2.2.2.1
theorem dL_law_1702 : decode cL_law 1702 = .ok (.iaload, 1) := ldc_94.2.2.2.2.2.2.2.1
theorem dL_law_1703 : decode cL_law 1703 = .ok (.invokevirtual 322, 3) := ldc_94.2.2.2.2.2.2.2.2.1
theorem dL_law_1706 : decode cL_law 1706 = .ok (.lstore 7, 2) := ldc_94.2.2.2.2.2.2.2.2.2
set_option maxRecDepth 100000 in
theorem ldc_95 : decode cL_law 1708 = .ok (.goto 286, 3) ∧ decode cL_law 1711 = .ok (.aload_n 1, 1) ∧ decode cL_law 1712 = .ok (.aload_n 0, 1) ∧ decode cL_law 1713 = .ok (.iload 5, 2) ∧ decode cL_law 1715 = .ok (.iconst 1, 1) ∧ decode cL_law 1716 = .ok (.iadd, 1) ∧ decode cL_law 1717 = .ok (.iaload, 1) ∧ decode cL_law 1718 = .ok (.aload_n 0, 1) ∧ decode cL_law 1719 = .ok (.iload 5, 2) ∧ decode cL_law 1721 = .ok (.iconst 2, 1) := by decide +kernel
theorem dL_law_1708 : decode cL_law 1708 = .ok (.goto 286, 3) := ldc_95.1
theorem dL_law_1711 : decode cL_law 1711 = .ok (.aload_n 1, 1) := ldc_95.2.1
theorem dL_law_1712 : decode cL_law 1712 = .ok (.aload_n 0, 1) := ldc_95.2.2.1
theorem dL_law_1713 : decode cL_law 1713 = .ok (.iload 5, 2) := ldc_95.2.2.2.1
theorem dL_law_1715 : decode cL_law 1715 = .ok (.iconst 1, 1) := ldc_95.2.2.2.2.1
theorem dL_law_1716 : decode cL_law 1716 = .ok (.iadd, 1) := ldc_95.2.2.2.2.2.1
theorem dL_law_1717 : decode cL_law 1717 = .ok (.iaload, 1) := ldc_95.2.2.2.2.2.2.1
theorem dL_law_1718 : decode cL_law 1718 = .ok (.aload_n 0, 1) := ldc_95.2.2.2.2.2.2.2.1
theorem dL_law_1719 : decode cL_law 1719 = .ok (.iload 5, 2) := ldc_95.2.2.2.2.2.2.2.2.1
theorem dL_law_1721 : decode cL_law 1721 = .ok (.iconst 2, 1) := ldc_95.2.2.2.2.2.2.2.2.2
set_option maxRecDepth 100000 in
theorem ldc_96 : decode cL_law 1722 = .ok (.iadd, 1) ∧ decode cL_law 1723 = .ok (.iaload, 1) ∧ decode cL_law 1724 = .ok (.aload 4, 2) ∧ decode cL_law 1726 = .ok (.invokestatic 323, 3) ∧ decode cL_law 1729 = .ok (.istore 6, 2) ∧ decode cL_law 1731 = .ok (.aload_n 2, 1) ∧ decode cL_law 1732 = .ok (.aload_n 0, 1) ∧ decode cL_law 1733 = .ok (.iload 5, 2) ∧ decode cL_law 1735 = .ok (.iconst 1, 1) ∧ decode cL_law 1736 = .ok (.iadd, 1) := by decide +kernel
theorem dL_law_1722 : decode cL_law 1722 = .ok (.iadd, 1) := ldc_96.1
theorem dL_law_1723 : decode cL_law 1723 = .ok (.iaload, 1) := ldc_96.2.1
theorem dL_law_1724 : decode cL_law 1724 = .ok (.aload 4, 2) := ldc_96.2.2.1
theorem dL_law_1726 : decode cL_law 1726 = .ok (.invokestatic 323, 3) := ldc_96.2.2.2.1
theorem dL_law_1729 : decode cL_law 1729 = .ok (.istore 6, 2) := ldc_96.2.2.2.2.1
theorem dL_law_1731 : decode cL_law 1731 = .ok (.aload_n 2, 1) := ldc_96.2.2.2.2.2.1
theorem dL_law_1732 : decode cL_law 1732 = .ok (.aload_n 0, 1) := ldc_96.2.2.2.2.2.2.1
theorem dL_law_1733 : decode cL_law 1733 = .ok (.iload 5, 2) := ldc_96.2.2.2.2.2.2.2.1
theorem dL_law_1735 : decode cL_law 1735 = .ok (.iconst 1, 1) := ldc_96.2.2.2.2.2.2.2.2.1
theorem dL_law_1736 : decode cL_law 1736 = .ok (.iadd, 1) := ldc_96.2.2.2.2.2.2.2.2.2
set_option maxRecDepth 100000 in
theorem ldc_97 : decode cL_law 1737 = .ok (.iaload, 1) ∧ decode cL_law 1738 = .ok (.aload_n 0, 1) ∧ decode cL_law 1739 = .ok (.iload 5, 2) ∧ decode cL_law 1741 = .ok (.iconst 2, 1) ∧ decode cL_law 1742 = .ok (.iadd, 1) ∧ decode cL_law 1743 = .ok (.iaload, 1) ∧ decode cL_law 1744 = .ok (.invokevirtual 326, 3) ∧ decode cL_law 1747 = .ok (.dstore 7, 2) ∧ decode cL_law 1749 = .ok (.goto 245, 3) ∧ decode cL_law 1752 = .ok (.aload_n 1, 1) := by decide +kernel
theorem dL_law_1737 : decode cL_law 1737 = .ok (.iaload, 1) := ldc_97.1
theorem dL_law_1738 : decode cL_law 1738 = .ok (.aload_n 0, 1) := ldc_97.2.1
theorem dL_law_1739 : decode cL_law 1739 = .ok (.iload 5, 2) := ldc_97.2.2.1
theorem dL_law_1741 : decode cL_law 1741 = .ok (.iconst 2, 1) := ldc_97.2.2.2.1
theorem dL_law_1742 : decode cL_law 1742 = .ok (.iadd, 1) := ldc_97.2.2.2.2.1
theorem dL_law_1743 : decode cL_law 1743 = .ok (.iaload, 1) := ldc_97.2.2.2.2.2.1
theorem dL_law_1744 : decode cL_law 1744 = .ok (.invokevirtual 326, 3) := ldc_97.2.2.2.2.2.2.1
theorem dL_law_1747 : decode cL_law 1747 = .ok (.dstore 7, 2) := ldc_97.2.2.2.2.2.2.2.1
theorem dL_law_1749 : decode cL_law 1749 = .ok (.goto 245, 3) := ldc_97.2.2.2.2.2.2.2.2.1
theorem dL_law_1752 : decode cL_law 1752 = .ok (.aload_n 1, 1) := ldc_97.2.2.2.2.2.2.2.2.2
set_option maxRecDepth 100000 in
theorem ldc_98 : decode cL_law 1753 = .ok (.aload_n 0, 1) ∧ decode cL_law 1754 = .ok (.iload 5, 2) ∧ decode cL_law 1756 = .ok (.iconst 1, 1) ∧ decode cL_law 1757 = .ok (.iadd, 1) ∧ decode cL_law 1758 = .ok (.iaload, 1) ∧ decode cL_law 1759 = .ok (.aload_n 0, 1) ∧ decode cL_law 1760 = .ok (.iload 5, 2) ∧ decode cL_law 1762 = .ok (.iconst 2, 1) ∧ decode cL_law 1763 = .ok (.iadd, 1) ∧ decode cL_law 1764 = .ok (.iaload, 1) := by decide +kernel
theorem dL_law_1753 : decode cL_law 1753 = .ok (.aload_n 0, 1) := ldc_98.1
theorem dL_law_1754 : decode cL_law 1754 = .ok (.iload 5, 2) := ldc_98.2.1
theorem dL_law_1756 : decode cL_law 1756 = .ok (.iconst 1, 1) := ldc_98.2.2.1
theorem dL_law_1757 : decode cL_law 1757 = .ok (.iadd, 1) := ldc_98.2.2.2.1
theorem dL_law_1758 : decode cL_law 1758 = .ok (.iaload, 1) := ldc_98.2.2.2.2.1
theorem dL_law_1759 : decode cL_law 1759 = .ok (.aload_n 0, 1) := ldc_98.2.2.2.2.2.1
theorem dL_law_1760 : decode cL_law 1760 = .ok (.iload 5, 2) := ldc_98.2.2.2.2.2.2.1
theorem dL_law_1762 : decode cL_law 1762 = .ok (.iconst 2, 1) := ldc_98.2.2.2.2.2.2.2.1
theorem dL_law_1763 : decode cL_law 1763 = .ok (.iadd, 1) := ldc_98.2.2.2.2.2.2.2.2.1
theorem dL_law_1764 : decode cL_law 1764 = .ok (.iaload, 1) := ldc_98.2.2.2.2.2.2.2.2.2
set_option maxRecDepth 100000 in
theorem ldc_99 : decode cL_law 1765 = .ok (.aload 4, 2) ∧ decode cL_law 1767 = .ok (.invokestatic 327, 3) ∧ decode cL_law 1770 = .ok (.istore 6, 2) ∧ decode cL_law 1772 = .ok (.aload_n 2, 1) ∧ decode cL_law 1773 = .ok (.aload_n 0, 1) ∧ decode cL_law 1774 = .ok (.iload 5, 2) ∧ decode cL_law 1776 = .ok (.iconst 1, 1) ∧ decode cL_law 1777 = .ok (.iadd, 1) ∧ decode cL_law 1778 = .ok (.iaload, 1) ∧ decode cL_law 1779 = .ok (.aload_n 0, 1) := by decide +kernel
theorem dL_law_1765 : decode cL_law 1765 = .ok (.aload 4, 2) := ldc_99.1
theorem dL_law_1767 : decode cL_law 1767 = .ok (.invokestatic 327, 3) := ldc_99.2.1
theorem dL_law_1770 : decode cL_law 1770 = .ok (.istore 6, 2) := ldc_99.2.2.1
theorem dL_law_1772 : decode cL_law 1772 = .ok (.aload_n 2, 1) := ldc_99.2.2.2.1
theorem dL_law_1773 : decode cL_law 1773 = .ok (.aload_n 0, 1) := ldc_99.2.2.2.2.1
theorem dL_law_1774 : decode cL_law 1774 = .ok (.iload 5, 2) := ldc_99.2.2.2.2.2.1
theorem dL_law_1776 : decode cL_law 1776 = .ok (.iconst 1, 1) := ldc_99.2.2.2.2.2.2.1
theorem dL_law_1777 : decode cL_law 1777 = .ok (.iadd, 1) := ldc_99.2.2.2.2.2.2.2.1
theorem dL_law_1778 : decode cL_law 1778 = .ok (.iaload, 1) := ldc_99.2.2.2.2.2.2.2.2.1
theorem dL_law_1779 : decode cL_law 1779 = .ok (.aload_n 0, 1) := ldc_99.2.2.2.2.2.2.2.2.2
set_option maxRecDepth 100000 in
theorem ldc_100 : decode cL_law 1780 = .ok (.iload 5, 2) ∧ decode cL_law 1782 = .ok (.iconst 2, 1) ∧ decode cL_law 1783 = .ok (.iadd, 1) ∧ decode cL_law 1784 = .ok (.iaload, 1) ∧ decode cL_law 1785 = .ok (.invokevirtual 329, 3) ∧ decode cL_law 1788 = .ok (.dstore 7, 2) ∧ decode cL_law 1790 = .ok (.goto 204, 3) ∧ decode cL_law 1793 = .ok (.aload_n 1, 1) ∧ decode cL_law 1794 = .ok (.aload_n 0, 1) ∧ decode cL_law 1795 = .ok (.iload 5, 2) := by decide +kernel
theorem dL_law_1780 : decode cL_law 1780 = .ok (.iload 5, 2) := ldc_100.1
theorem dL_law_1782 : decode cL_law 1782 = .ok (.iconst 2, 1) := ldc_100.2.1
theorem dL_law_1783 : decode cL_law 1783 = .ok (.iadd, 1) := ldc_100.2.2.1
theorem dL_law_1784 : decode cL_law 1784 = .ok (.iaload, 1) := ldc_100.2.2.2.1
theorem dL_law_1785 : decode cL_law 1785 = .ok (.invokevirtual 329, 3) := ldc_100.2.2.2.2.1
theorem dL_law_1788 : decode cL_law 1788 = .ok (.dstore 7, 2) := ldc_100.2.2.2.2.2.1
theorem dL_law_1790 : decode cL_law 1790 = .ok (.goto 204, 3) := ldc_100.2.2.2.2.2.2.1
theorem dL_law_1793 : decode cL_law 1793 = .ok (.aload_n 1, 1) := ldc_100.2.2.2.2.2.2.2.1
theorem dL_law_1794 : decode cL_law 1794 = .ok (.aload_n 0, 1) := ldc_100.2.2.2.2.2.2.2.2.1
theorem dL_law_1795 : decode cL_law 1795 = .ok (.iload 5, 2) := ldc_100.2.2.2.2.2.2.2.2.2
set_option maxRecDepth 100000 in
theorem ldc_101 : decode cL_law 1797 = .ok (.iconst 1, 1) ∧ decode cL_law 1798 = .ok (.iadd, 1) ∧ decode cL_law 1799 = .ok (.iaload, 1) ∧ decode cL_law 1800 = .ok (.aload_n 0, 1) ∧ decode cL_law 1801 = .ok (.iload 5, 2) ∧ decode cL_law 1803 = .ok (.iconst 2, 1) ∧ decode cL_law 1804 = .ok (.iadd, 1) ∧ decode cL_law 1805 = .ok (.iaload, 1) ∧ decode cL_law 1806 = .ok (.aload_n 0, 1) ∧ decode cL_law 1807 = .ok (.iload 5, 2) := by decide +kernel
theorem dL_law_1797 : decode cL_law 1797 = .ok (.iconst 1, 1) := ldc_101.1
theorem dL_law_1798 : decode cL_law 1798 = .ok (.iadd, 1) := ldc_101.2.1
theorem dL_law_1799 : decode cL_law 1799 = .ok (.iaload, 1) := ldc_101.2.2.1
theorem dL_law_1800 : decode cL_law 1800 = .ok (.aload_n 0, 1) := ldc_101.2.2.2.1
theorem dL_law_1801 : decode cL_law 1801 = .ok (.iload 5, 2) := ldc_101.2.2.2.2.1
theorem dL_law_1803 : decode cL_law 1803 = .ok (.iconst 2, 1) := ldc_101.2.2.2.2.2.1
theorem dL_law_1804 : decode cL_law 1804 = .ok (.iadd, 1) := ldc_101.2.2.2.2.2.2.1
theorem dL_law_1805 : decode cL_law 1805 = .ok (.iaload, 1) := ldc_101.2.2.2.2.2.2.2.1
theorem dL_law_1806 : decode cL_law 1806 = .ok (.aload_n 0, 1) := ldc_101.2.2.2.2.2.2.2.2.1
theorem dL_law_1807 : decode cL_law 1807 = .ok (.iload 5, 2) := ldc_101.2.2.2.2.2.2.2.2.2
set_option maxRecDepth 100000 in
theorem ldc_102 : decode cL_law 1809 = .ok (.iconst 3, 1) ∧ decode cL_law 1810 = .ok (.iadd, 1) ∧ decode cL_law 1811 = .ok (.iaload, 1) ∧ decode cL_law 1812 = .ok (.aload_n 0, 1) ∧ decode cL_law 1813 = .ok (.iload 5, 2) ∧ decode cL_law 1815 = .ok (.iconst 4, 1) ∧ decode cL_law 1816 = .ok (.iadd, 1) ∧ decode cL_law 1817 = .ok (.iaload, 1) ∧ decode cL_law 1818 = .ok (.aload_n 0, 1) ∧ decode cL_law 1819 = .ok (.iload 5, 2) := by decide +kernel
theorem dL_law_1809 : decode cL_law 1809 = .ok (.iconst 3, 1) := ldc_102.1
theorem dL_law_1810 : decode cL_law 1810 = .ok (.iadd, 1) := ldc_102.2.1
theorem dL_law_1811 : decode cL_law 1811 = .ok (.iaload, 1) := ldc_102.2.2.1
theorem dL_law_1812 : decode cL_law 1812 = .ok (.aload_n 0, 1) := ldc_102.2.2.2.1
theorem dL_law_1813 : decode cL_law 1813 = .ok (.iload 5, 2) := ldc_102.2.2.2.2.1
theorem dL_law_1815 : decode cL_law 1815 = .ok (.iconst 4, 1) := ldc_102.2.2.2.2.2.1
theorem dL_law_1816 : decode cL_law 1816 = .ok (.iadd, 1) := ldc_102.2.2.2.2.2.2.1
theorem dL_law_1817 : decode cL_law 1817 = .ok (.iaload, 1) := ldc_102.2.2.2.2.2.2.2.1
theorem dL_law_1818 : decode cL_law 1818 = .ok (.aload_n 0, 1) := ldc_102.2.2.2.2.2.2.2.2.1
theorem dL_law_1819 : decode cL_law 1819 = .ok (.iload 5, 2) := ldc_102.2.2.2.2.2.2.2.2.2
set_option maxRecDepth 100000 in
theorem ldc_103 : decode cL_law 1821 = .ok (.iconst 5, 1) ∧ decode cL_law 1822 = .ok (.iadd, 1) ∧ decode cL_law 1823 = .ok (.iaload, 1) ∧ decode cL_law 1824 = .ok (.aload_n 3, 1) ∧ decode cL_law 1825 = .ok (.invokestatic 330, 3) ∧ decode cL_law 1828 = .ok (.istore 6, 2) ∧ decode cL_law 1830 = .ok (.aload_n 2, 1) ∧ decode cL_law 1831 = .ok (.aload_n 0, 1) ∧ decode cL_law 1832 = .ok (.iload 5, 2) ∧ decode cL_law 1834 = .ok (.iconst 1, 1) := by decide +kernel
theorem dL_law_1821 : decode cL_law 1821 = .ok (.iconst 5, 1) := ldc_103.1
theorem dL_law_1822 : decode cL_law 1822 = .ok (.iadd, 1) := ldc_103.2.1
theorem dL_law_1823 : decode cL_law 1823 = .ok (.iaload, 1) := ldc_103.2.2.1
theorem dL_law_1824 : decode cL_law 1824 = .ok (.aload_n 3, 1) := ldc_103.2.2.2.1
theorem dL_law_1825 : decode cL_law 1825 = .ok (.invokestatic 330, 3) := ldc_103.2.2.2.2.1
theorem dL_law_1828 : decode cL_law 1828 = .ok (.istore 6, 2) := ldc_103.2.2.2.2.2.1
theorem dL_law_1830 : decode cL_law 1830 = .ok (.aload_n 2, 1) := ldc_103.2.2.2.2.2.2.1
theorem dL_law_1831 : decode cL_law 1831 = .ok (.aload_n 0, 1) := ldc_103.2.2.2.2.2.2.2.1
theorem dL_law_1832 : decode cL_law 1832 = .ok (.iload 5, 2) := ldc_103.2.2.2.2.2.2.2.2.1
theorem dL_law_1834 : decode cL_law 1834 = .ok (.iconst 1, 1) := ldc_103.2.2.2.2.2.2.2.2.2
set_option maxRecDepth 100000 in
theorem ldc_104 : decode cL_law 1835 = .ok (.iadd, 1) ∧ decode cL_law 1836 = .ok (.iaload, 1) ∧ decode cL_law 1837 = .ok (.aload_n 0, 1) ∧ decode cL_law 1838 = .ok (.iload 5, 2) ∧ decode cL_law 1840 = .ok (.iconst 2, 1) ∧ decode cL_law 1841 = .ok (.iadd, 1) ∧ decode cL_law 1842 = .ok (.iaload, 1) ∧ decode cL_law 1843 = .ok (.aload_n 0, 1) ∧ decode cL_law 1844 = .ok (.iload 5, 2) ∧ decode cL_law 1846 = .ok (.iconst 3, 1) := by decide +kernel
theorem dL_law_1835 : decode cL_law 1835 = .ok (.iadd, 1) := ldc_104.1
theorem dL_law_1836 : decode cL_law 1836 = .ok (.iaload, 1) := ldc_104.2.1
theorem dL_law_1837 : decode cL_law 1837 = .ok (.aload_n 0, 1) := ldc_104.2.2.1
theorem dL_law_1838 : decode cL_law 1838 = .ok (.iload 5, 2) := ldc_104.2.2.2.1
theorem dL_law_1840 : decode cL_law 1840 = .ok (.iconst 2, 1) := ldc_104.2.2.2.2.1
theorem dL_law_1841 : decode cL_law 1841 = .ok (.iadd, 1) := ldc_104.2.2.2.2.2.1
theorem dL_law_1842 : decode cL_law 1842 = .ok (.iaload, 1) := ldc_104.2.2.2.2.2.2.1
theorem dL_law_1843 : decode cL_law 1843 = .ok (.aload_n 0, 1) := ldc_104.2.2.2.2.2.2.2.1
theorem dL_law_1844 : decode cL_law 1844 = .ok (.iload 5, 2) := ldc_104.2.2.2.2.2.2.2.2.1
theorem dL_law_1846 : decode cL_law 1846 = .ok (.iconst 3, 1) := ldc_104.2.2.2.2.2.2.2.2.2
set_option maxRecDepth 100000 in
theorem ldc_105 : decode cL_law 1847 = .ok (.iadd, 1) ∧ decode cL_law 1848 = .ok (.iaload, 1) ∧ decode cL_law 1849 = .ok (.aload_n 0, 1) ∧ decode cL_law 1850 = .ok (.iload 5, 2) ∧ decode cL_law 1852 = .ok (.iconst 4, 1) ∧ decode cL_law 1853 = .ok (.iadd, 1) ∧ decode cL_law 1854 = .ok (.iaload, 1) ∧ decode cL_law 1855 = .ok (.aload_n 0, 1) ∧ decode cL_law 1856 = .ok (.iload 5, 2) ∧ decode cL_law 1858 = .ok (.iconst 5, 1) := by decide +kernel
theorem dL_law_1847 : decode cL_law 1847 = .ok (.iadd, 1) := ldc_105.1
theorem dL_law_1848 : decode cL_law 1848 = .ok (.iaload, 1) := ldc_105.2.1
theorem dL_law_1849 : decode cL_law 1849 = .ok (.aload_n 0, 1) := ldc_105.2.2.1
theorem dL_law_1850 : decode cL_law 1850 = .ok (.iload 5, 2) := ldc_105.2.2.2.1
theorem dL_law_1852 : decode cL_law 1852 = .ok (.iconst 4, 1) := ldc_105.2.2.2.2.1
theorem dL_law_1853 : decode cL_law 1853 = .ok (.iadd, 1) := ldc_105.2.2.2.2.2.1
theorem dL_law_1854 : decode cL_law 1854 = .ok (.iaload, 1) := ldc_105.2.2.2.2.2.2.1
theorem dL_law_1855 : decode cL_law 1855 = .ok (.aload_n 0, 1) := ldc_105.2.2.2.2.2.2.2.1
theorem dL_law_1856 : decode cL_law 1856 = .ok (.iload 5, 2) := ldc_105.2.2.2.2.2.2.2.2.1
theorem dL_law_1858 : decode cL_law 1858 = .ok (.iconst 5, 1) := ldc_105.2.2.2.2.2.2.2.2.2
set_option maxRecDepth 100000 in
theorem ldc_106 : decode cL_law 1859 = .ok (.iadd, 1) ∧ decode cL_law 1860 = .ok (.iaload, 1) ∧ decode cL_law 1861 = .ok (.invokevirtual 332, 3) ∧ decode cL_law 1864 = .ok (.lstore 7, 2) ∧ decode cL_law 1866 = .ok (.goto 128, 3) ∧ decode cL_law 1869 = .ok (.aload_n 1, 1) ∧ decode cL_law 1870 = .ok (.aload_n 0, 1) ∧ decode cL_law 1871 = .ok (.iload 5, 2) ∧ decode cL_law 1873 = .ok (.iconst 1, 1) ∧ decode cL_law 1874 = .ok (.iadd, 1) := by decide +kernel
theorem dL_law_1859 : decode cL_law 1859 = .ok (.iadd, 1) := ldc_106.1
theorem dL_law_1860 : decode cL_law 1860 = .ok (.iaload, 1) := ldc_106.2.1
theorem dL_law_1861 : decode cL_law 1861 = .ok (.invokevirtual 332, 3) := ldc_106.2.2.1
theorem dL_law_1864 : decode cL_law 1864 = .ok (.lstore 7, 2) := ldc_106.2.2.2.1
theorem dL_law_1866 : decode cL_law 1866 = .ok (.goto 128, 3) := ldc_106.2.2.2.2.1
theorem dL_law_1869 : decode cL_law 1869 = .ok (.aload_n 1, 1) := ldc_106.2.2.2.2.2.1
theorem dL_law_1870 : decode cL_law 1870 = .ok (.aload_n 0, 1) := ldc_106.2.2.2.2.2.2.1
theorem dL_law_1871 : decode cL_law 1871 = .ok (.iload 5, 2) := ldc_106.2.2.2.2.2.2.2.1
theorem dL_law_1873 : decode cL_law 1873 = .ok (.iconst 1, 1) := ldc_106.2.2.2.2.2.2.2.2.1
theorem dL_law_1874 : decode cL_law 1874 = .ok (.iadd, 1) := ldc_106.2.2.2.2.2.2.2.2.2
set_option maxRecDepth 100000 in
theorem ldc_107 : decode cL_law 1875 = .ok (.iaload, 1) ∧ decode cL_law 1876 = .ok (.aload_n 3, 1) ∧ decode cL_law 1877 = .ok (.invokestatic 333, 3) ∧ decode cL_law 1880 = .ok (.istore 6, 2) ∧ decode cL_law 1882 = .ok (.aload_n 2, 1) ∧ decode cL_law 1883 = .ok (.aload_n 0, 1) ∧ decode cL_law 1884 = .ok (.iload 5, 2) ∧ decode cL_law 1886 = .ok (.iconst 1, 1) ∧ decode cL_law 1887 = .ok (.iadd, 1) ∧ decode cL_law 1888 = .ok (.iaload, 1) := by decide +kernel
theorem dL_law_1875 : decode cL_law 1875 = .ok (.iaload, 1) := ldc_107.1
theorem dL_law_1876 : decode cL_law 1876 = .ok (.aload_n 3, 1) := ldc_107.2.1
theorem dL_law_1877 : decode cL_law 1877 = .ok (.invokestatic 333, 3) := ldc_107.2.2.1
theorem dL_law_1880 : decode cL_law 1880 = .ok (.istore 6, 2) := ldc_107.2.2.2.1
theorem dL_law_1882 : decode cL_law 1882 = .ok (.aload_n 2, 1) := ldc_107.2.2.2.2.1
theorem dL_law_1883 : decode cL_law 1883 = .ok (.aload_n 0, 1) := ldc_107.2.2.2.2.2.1
theorem dL_law_1884 : decode cL_law 1884 = .ok (.iload 5, 2) := ldc_107.2.2.2.2.2.2.1
theorem dL_law_1886 : decode cL_law 1886 = .ok (.iconst 1, 1) := ldc_107.2.2.2.2.2.2.2.1
theorem dL_law_1887 : decode cL_law 1887 = .ok (.iadd, 1) := ldc_107.2.2.2.2.2.2.2.2.1
theorem dL_law_1888 : decode cL_law 1888 = .ok (.iaload, 1) := ldc_107.2.2.2.2.2.2.2.2.2
set_option maxRecDepth 100000 in
theorem ldc_108 : decode cL_law 1889 = .ok (.invokevirtual 335, 3) ∧ decode cL_law 1892 = .ok (.istore 7, 2) ∧ decode cL_law 1894 = .ok (.goto 100, 3) ∧ decode cL_law 1897 = .ok (.aload_n 1, 1) ∧ decode cL_law 1898 = .ok (.aload_n 0, 1) ∧ decode cL_law 1899 = .ok (.iload 5, 2) ∧ decode cL_law 1901 = .ok (.iconst 1, 1) ∧ decode cL_law 1902 = .ok (.iadd, 1) ∧ decode cL_law 1903 = .ok (.iaload, 1) ∧ decode cL_law 1904 = .ok (.aload_n 3, 1) := by decide +kernel
theorem dL_law_1889 : decode cL_law 1889 = .ok (.invokevirtual 335, 3) := ldc_108.1
theorem dL_law_1892 : decode cL_law 1892 = .ok (.istore 7, 2) := ldc_108.2.1
theorem dL_law_1894 : decode cL_law 1894 = .ok (.goto 100, 3) := ldc_108.2.2.1
theorem dL_law_1897 : decode cL_law 1897 = .ok (.aload_n 1, 1) := ldc_108.2.2.2.1
theorem dL_law_1898 : decode cL_law 1898 = .ok (.aload_n 0, 1) := ldc_108.2.2.2.2.1
theorem dL_law_1899 : decode cL_law 1899 = .ok (.iload 5, 2) := ldc_108.2.2.2.2.2.1
theorem dL_law_1901 : decode cL_law 1901 = .ok (.iconst 1, 1) := ldc_108.2.2.2.2.2.2.1
theorem dL_law_1902 : decode cL_law 1902 = .ok (.iadd, 1) := ldc_108.2.2.2.2.2.2.2.1
theorem dL_law_1903 : decode cL_law 1903 = .ok (.iaload, 1) := ldc_108.2.2.2.2.2.2.2.2.1
theorem dL_law_1904 : decode cL_law 1904 = .ok (.aload_n 3, 1) := ldc_108.2.2.2.2.2.2.2.2.2
set_option maxRecDepth 100000 in
theorem ldc_109 : decode cL_law 1905 = .ok (.invokestatic 336, 3) ∧ decode cL_law 1908 = .ok (.istore 6, 2) ∧ decode cL_law 1910 = .ok (.aload_n 2, 1) ∧ decode cL_law 1911 = .ok (.aload_n 0, 1) ∧ decode cL_law 1912 = .ok (.iload 5, 2) ∧ decode cL_law 1914 = .ok (.iconst 1, 1) ∧ decode cL_law 1915 = .ok (.iadd, 1) ∧ decode cL_law 1916 = .ok (.iaload, 1) ∧ decode cL_law 1917 = .ok (.invokevirtual 338, 3) ∧ decode cL_law 1920 = .ok (.lstore 7, 2) := by decide +kernel
theorem dL_law_1905 : decode cL_law 1905 = .ok (.invokestatic 336, 3) := ldc_109.1
theorem dL_law_1908 : decode cL_law 1908 = .ok (.istore 6, 2) := ldc_109.2.1
theorem dL_law_1910 : decode cL_law 1910 = .ok (.aload_n 2, 1) := ldc_109.2.2.1
theorem dL_law_1911 : decode cL_law 1911 = .ok (.aload_n 0, 1) := ldc_109.2.2.2.1
theorem dL_law_1912 : decode cL_law 1912 = .ok (.iload 5, 2) := ldc_109.2.2.2.2.1
theorem dL_law_1914 : decode cL_law 1914 = .ok (.iconst 1, 1) := ldc_109.2.2.2.2.2.1
theorem dL_law_1915 : decode cL_law 1915 = .ok (.iadd, 1) := ldc_109.2.2.2.2.2.2.1
theorem dL_law_1916 : decode cL_law 1916 = .ok (.iaload, 1) := ldc_109.2.2.2.2.2.2.2.1
theorem dL_law_1917 : decode cL_law 1917 = .ok (.invokevirtual 338, 3) := ldc_109.2.2.2.2.2.2.2.2.1
theorem dL_law_1920 : decode cL_law 1920 = .ok (.lstore 7, 2) := ldc_109.2.2.2.2.2.2.2.2.2
set_option maxRecDepth 100000 in
theorem ldc_110 : decode cL_law 1922 = .ok (.goto 72, 3) ∧ decode cL_law 1925 = .ok (.aload_n 1, 1) ∧ decode cL_law 1926 = .ok (.aload_n 0, 1) ∧ decode cL_law 1927 = .ok (.iload 5, 2) ∧ decode cL_law 1929 = .ok (.iconst 1, 1) ∧ decode cL_law 1930 = .ok (.iadd, 1) ∧ decode cL_law 1931 = .ok (.iaload, 1) ∧ decode cL_law 1932 = .ok (.aload 4, 2) ∧ decode cL_law 1934 = .ok (.invokestatic 339, 3) ∧ decode cL_law 1937 = .ok (.istore 6, 2) := by decide +kernel
theorem dL_law_1922 : decode cL_law 1922 = .ok (.goto 72, 3) := ldc_110.1
theorem dL_law_1925 : decode cL_law 1925 = .ok (.aload_n 1, 1) := ldc_110.2.1
theorem dL_law_1926 : decode cL_law 1926 = .ok (.aload_n 0, 1) := ldc_110.2.2.1
theorem dL_law_1927 : decode cL_law 1927 = .ok (.iload 5, 2) := ldc_110.2.2.2.1
theorem dL_law_1929 : decode cL_law 1929 = .ok (.iconst 1, 1) := ldc_110.2.2.2.2.1
theorem dL_law_1930 : decode cL_law 1930 = .ok (.iadd, 1) := ldc_110.2.2.2.2.2.1
theorem dL_law_1931 : decode cL_law 1931 = .ok (.iaload, 1) := ldc_110.2.2.2.2.2.2.1
theorem dL_law_1932 : decode cL_law 1932 = .ok (.aload 4, 2) := ldc_110.2.2.2.2.2.2.2.1
theorem dL_law_1934 : decode cL_law 1934 = .ok (.invokestatic 339, 3) := ldc_110.2.2.2.2.2.2.2.2.1
theorem dL_law_1937 : decode cL_law 1937 = .ok (.istore 6, 2) := ldc_110.2.2.2.2.2.2.2.2.2
set_option maxRecDepth 100000 in
theorem ldc_111 : decode cL_law 1939 = .ok (.aload_n 2, 1) ∧ decode cL_law 1940 = .ok (.aload_n 0, 1) ∧ decode cL_law 1941 = .ok (.iload 5, 2) ∧ decode cL_law 1943 = .ok (.iconst 1, 1) ∧ decode cL_law 1944 = .ok (.iadd, 1) ∧ decode cL_law 1945 = .ok (.iaload, 1) ∧ decode cL_law 1946 = .ok (.invokevirtual 342, 3) ∧ decode cL_law 1949 = .ok (.dstore 7, 2) ∧ decode cL_law 1951 = .ok (.goto 43, 3) ∧ decode cL_law 1954 = .ok (.aload_n 1, 1) := by decide +kernel
theorem dL_law_1939 : decode cL_law 1939 = .ok (.aload_n 2, 1) := ldc_111.1
theorem dL_law_1940 : decode cL_law 1940 = .ok (.aload_n 0, 1) := ldc_111.2.1
theorem dL_law_1941 : decode cL_law 1941 = .ok (.iload 5, 2) := ldc_111.2.2.1
theorem dL_law_1943 : decode cL_law 1943 = .ok (.iconst 1, 1) := ldc_111.2.2.2.1
theorem dL_law_1944 : decode cL_law 1944 = .ok (.iadd, 1) := ldc_111.2.2.2.2.1
theorem dL_law_1945 : decode cL_law 1945 = .ok (.iaload, 1) := ldc_111.2.2.2.2.2.1
theorem dL_law_1946 : decode cL_law 1946 = .ok (.invokevirtual 342, 3) := ldc_111.2.2.2.2.2.2.1
theorem dL_law_1949 : decode cL_law 1949 = .ok (.dstore 7, 2) := ldc_111.2.2.2.2.2.2.2.1
theorem dL_law_1951 : decode cL_law 1951 = .ok (.goto 43, 3) := ldc_111.2.2.2.2.2.2.2.2.1
theorem dL_law_1954 : decode cL_law 1954 = .ok (.aload_n 1, 1) := ldc_111.2.2.2.2.2.2.2.2.2
set_option maxRecDepth 100000 in
theorem ldc_112 : decode cL_law 1955 = .ok (.aload_n 0, 1) ∧ decode cL_law 1956 = .ok (.iload 5, 2) ∧ decode cL_law 1958 = .ok (.iconst 1, 1) ∧ decode cL_law 1959 = .ok (.iadd, 1) ∧ decode cL_law 1960 = .ok (.iaload, 1) ∧ decode cL_law 1961 = .ok (.aload_n 0, 1) ∧ decode cL_law 1962 = .ok (.iload 5, 2) ∧ decode cL_law 1964 = .ok (.iconst 2, 1) ∧ decode cL_law 1965 = .ok (.iadd, 1) ∧ decode cL_law 1966 = .ok (.iaload, 1) := by decide +kernel
theorem dL_law_1955 : decode cL_law 1955 = .ok (.aload_n 0, 1) := ldc_112.1
theorem dL_law_1956 : decode cL_law 1956 = .ok (.iload 5, 2) := ldc_112.2.1
theorem dL_law_1958 : decode cL_law 1958 = .ok (.iconst 1, 1) := ldc_112.2.2.1
theorem dL_law_1959 : decode cL_law 1959 = .ok (.iadd, 1) := ldc_112.2.2.2.1
theorem dL_law_1960 : decode cL_law 1960 = .ok (.iaload, 1) := ldc_112.2.2.2.2.1
theorem dL_law_1961 : decode cL_law 1961 = .ok (.aload_n 0, 1) := ldc_112.2.2.2.2.2.1
theorem dL_law_1962 : decode cL_law 1962 = .ok (.iload 5, 2) := ldc_112.2.2.2.2.2.2.1
theorem dL_law_1964 : decode cL_law 1964 = .ok (.iconst 2, 1) := ldc_112.2.2.2.2.2.2.2.1
theorem dL_law_1965 : decode cL_law 1965 = .ok (.iadd, 1) := ldc_112.2.2.2.2.2.2.2.2.1
theorem dL_law_1966 : decode cL_law 1966 = .ok (.iaload, 1) := ldc_112.2.2.2.2.2.2.2.2.2
set_option maxRecDepth 100000 in
theorem ldc_113 : decode cL_law 1967 = .ok (.aload_n 3, 1) ∧ decode cL_law 1968 = .ok (.invokestatic 343, 3) ∧ decode cL_law 1971 = .ok (.istore 6, 2) ∧ decode cL_law 1973 = .ok (.aload_n 2, 1) ∧ decode cL_law 1974 = .ok (.aload_n 0, 1) ∧ decode cL_law 1975 = .ok (.iload 5, 2) ∧ decode cL_law 1977 = .ok (.iconst 1, 1) ∧ decode cL_law 1978 = .ok (.iadd, 1) ∧ decode cL_law 1979 = .ok (.iaload, 1) ∧ decode cL_law 1980 = .ok (.aload_n 0, 1) := by decide +kernel
theorem dL_law_1967 : decode cL_law 1967 = .ok (.aload_n 3, 1) := ldc_113.1
theorem dL_law_1968 : decode cL_law 1968 = .ok (.invokestatic 343, 3) := ldc_113.2.1
theorem dL_law_1971 : decode cL_law 1971 = .ok (.istore 6, 2) := ldc_113.2.2.1
theorem dL_law_1973 : decode cL_law 1973 = .ok (.aload_n 2, 1) := ldc_113.2.2.2.1
theorem dL_law_1974 : decode cL_law 1974 = .ok (.aload_n 0, 1) := ldc_113.2.2.2.2.1
theorem dL_law_1975 : decode cL_law 1975 = .ok (.iload 5, 2) := ldc_113.2.2.2.2.2.1
theorem dL_law_1977 : decode cL_law 1977 = .ok (.iconst 1, 1) := ldc_113.2.2.2.2.2.2.1
theorem dL_law_1978 : decode cL_law 1978 = .ok (.iadd, 1) := ldc_113.2.2.2.2.2.2.2.1
theorem dL_law_1979 : decode cL_law 1979 = .ok (.iaload, 1) := ldc_113.2.2.2.2.2.2.2.2.1
theorem dL_law_1980 : decode cL_law 1980 = .ok (.aload_n 0, 1) := ldc_113.2.2.2.2.2.2.2.2.2
set_option maxRecDepth 100000 in
theorem ldc_114 : decode cL_law 1981 = .ok (.iload 5, 2) ∧ decode cL_law 1983 = .ok (.iconst 2, 1) ∧ decode cL_law 1984 = .ok (.iadd, 1) ∧ decode cL_law 1985 = .ok (.iaload, 1) ∧ decode cL_law 1986 = .ok (.invokevirtual 345, 3) ∧ decode cL_law 1989 = .ok (.istore 7, 2) ∧ decode cL_law 1991 = .ok (.goto 3, 3) ∧ decode cL_law 1994 = .ok (.iinc 5 7, 3) ∧ decode cL_law 1997 = .ok (.goto (-1969), 3) ∧ decode cL_law 2000 = .ok (.iconst 1, 1) := by decide +kernel
theorem dL_law_1981 : decode cL_law 1981 = .ok (.iload 5, 2) := ldc_114.1
theorem dL_law_1983 : decode cL_law 1983 = .ok (.iconst 2, 1) := ldc_114.2.1
theorem dL_law_1984 : decode cL_law 1984 = .ok (.iadd, 1) := ldc_114.2.2.1
theorem dL_law_1985 : decode cL_law 1985 = .ok (.iaload, 1) := ldc_114.2.2.2.1
theorem dL_law_1986 : decode cL_law 1986 = .ok (.invokevirtual 345, 3) := ldc_114.2.2.2.2.1
theorem dL_law_1989 : decode cL_law 1989 = .ok (.istore 7, 2) := ldc_114.2.2.2.2.2.1
theorem dL_law_1991 : decode cL_law 1991 = .ok (.goto 3, 3) := ldc_114.2.2.2.2.2.2.1
theorem dL_law_1994 : decode cL_law 1994 = .ok (.iinc 5 7, 3) := ldc_114.2.2.2.2.2.2.2.1
theorem dL_law_1997 : decode cL_law 1997 = .ok (.goto (-1969), 3) := ldc_114.2.2.2.2.2.2.2.2.1
theorem dL_law_2000 : decode cL_law 2000 = .ok (.iconst 1, 1) := ldc_114.2.2.2.2.2.2.2.2.2
set_option maxRecDepth 100000 in
theorem ldc_115 : decode cL_law 2001 = .ok (.ireturn, 1) := by decide +kernel
theorem dL_law_2001 : decode cL_law 2001 = .ok (.ireturn, 1) := ldc_115

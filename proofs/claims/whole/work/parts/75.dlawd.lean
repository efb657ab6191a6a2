theorem d_law_308 : decode code 308 = .ok (.iconst 2, 1) := by decide +kernel
theorem d_law_309 : decode code 309 = .ok (.iadd, 1) := by decide +kernel
theorem d_law_310 : decode code 310 = .ok (.iaload, 1) := by decide +kernel
theorem d_law_311 : decode code 311 = .ok (.i2l, 1) := by decide +kernel
theorem d_law_312 : decode code 312 = .ok (.ldc2_w 33, 3) := by decide +kernel
theorem d_law_315 : decode code 315 = .ok (.land, 1) := by decide +kernel
theorem d_law_316 : decode code 316 = .ok (.lor, 1) := by decide +kernel
theorem d_law_317 : decode code 317 = .ok (.invokevirtual 39, 3) := by decide +kernel
theorem d_law_320 : decode code 320 = .ok (.if_icmp .eq (337), 3) := by decide +kernel
theorem d_law_323 : decode code 323 = .ok (.iconst 0, 1) := by decide +kernel
theorem d_law_324 : decode code 324 = .ok (.ireturn, 1) := by decide +kernel
theorem d_law_325 : decode code 325 = .ok (.aload_n 1, 1) := by decide +kernel
theorem d_law_326 : decode code 326 = .ok (.invokevirtual 40, 3) := by decide +kernel
theorem d_law_329 : decode code 329 = .ok (.aload_n 2, 1) := by decide +kernel
theorem d_law_330 : decode code 330 = .ok (.invokevirtual 44, 3) := by decide +kernel
theorem d_law_333 : decode code 333 = .ok (.if_icmp .eq (324), 3) := by decide +kernel
theorem d_law_336 : decode code 336 = .ok (.iconst 0, 1) := by decide +kernel
theorem d_law_337 : decode code 337 = .ok (.ireturn, 1) := by decide +kernel
theorem d_law_338 : decode code 338 = .ok (.aload_n 1, 1) := by decide +kernel
theorem d_law_339 : decode code 339 = .ok (.aload_n 0, 1) := by decide +kernel
theorem d_law_340 : decode code 340 = .ok (.iload_n 3, 1) := by decide +kernel
theorem d_law_341 : decode code 341 = .ok (.iconst 1, 1) := by decide +kernel
theorem d_law_342 : decode code 342 = .ok (.iadd, 1) := by decide +kernel
theorem d_law_343 : decode code 343 = .ok (.iaload, 1) := by decide +kernel
theorem d_law_344 : decode code 344 = .ok (.invokevirtual 45, 3) := by decide +kernel
theorem d_law_347 : decode code 347 = .ok (.aload_n 2, 1) := by decide +kernel
theorem d_law_348 : decode code 348 = .ok (.aload_n 0, 1) := by decide +kernel
theorem d_law_349 : decode code 349 = .ok (.iload_n 3, 1) := by decide +kernel
theorem d_law_350 : decode code 350 = .ok (.iconst 1, 1) := by decide +kernel
theorem d_law_351 : decode code 351 = .ok (.iadd, 1) := by decide +kernel
theorem d_law_352 : decode code 352 = .ok (.iaload, 1) := by decide +kernel
theorem d_law_353 : decode code 353 = .ok (.invokevirtual 48, 3) := by decide +kernel
theorem d_law_356 : decode code 356 = .ok (.if_icmp .eq (301), 3) := by decide +kernel
theorem d_law_359 : decode code 359 = .ok (.iconst 0, 1) := by decide +kernel
theorem d_law_360 : decode code 360 = .ok (.ireturn, 1) := by decide +kernel
theorem d_law_361 : decode code 361 = .ok (.aload_n 1, 1) := by decide +kernel
theorem d_law_362 : decode code 362 = .ok (.aload_n 0, 1) := by decide +kernel
theorem d_law_363 : decode code 363 = .ok (.iload_n 3, 1) := by decide +kernel
theorem d_law_364 : decode code 364 = .ok (.iconst 1, 1) := by decide +kernel
theorem d_law_365 : decode code 365 = .ok (.iadd, 1) := by decide +kernel
theorem d_law_366 : decode code 366 = .ok (.iaload, 1) := by decide +kernel
theorem d_law_367 : decode code 367 = .ok (.aload_n 0, 1) := by decide +kernel
theorem d_law_368 : decode code 368 = .ok (.iload_n 3, 1) := by decide +kernel
theorem d_law_369 : decode code 369 = .ok (.iconst 2, 1) := by decide +kernel
theorem d_law_370 : decode code 370 = .ok (.iadd, 1) := by decide +kernel
theorem d_law_371 : decode code 371 = .ok (.iaload, 1) := by decide +kernel
theorem d_law_372 : decode code 372 = .ok (.aload_n 0, 1) := by decide +kernel
theorem d_law_373 : decode code 373 = .ok (.iload_n 3, 1) := by decide +kernel
theorem d_law_374 : decode code 374 = .ok (.iconst 3, 1) := by decide +kernel
theorem d_law_375 : decode code 375 = .ok (.iadd, 1) := by decide +kernel
theorem d_law_376 : decode code 376 = .ok (.iaload, 1) := by decide +kernel
theorem d_law_377 : decode code 377 = .ok (.i2l, 1) := by decide +kernel
theorem d_law_378 : decode code 378 = .ok (.bipush (32), 2) := by decide +kernel
theorem d_law_380 : decode code 380 = .ok (.lshl, 1) := by decide +kernel
theorem d_law_381 : decode code 381 = .ok (.aload_n 0, 1) := by decide +kernel
theorem d_law_382 : decode code 382 = .ok (.iload_n 3, 1) := by decide +kernel
theorem d_law_383 : decode code 383 = .ok (.iconst 4, 1) := by decide +kernel
theorem d_law_384 : decode code 384 = .ok (.iadd, 1) := by decide +kernel
theorem d_law_385 : decode code 385 = .ok (.iaload, 1) := by decide +kernel
theorem d_law_386 : decode code 386 = .ok (.i2l, 1) := by decide +kernel

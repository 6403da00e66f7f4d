/-! The code of the law, instruction by instruction -/
theorem d_LW_law_358 : decode code 358 = .ok (.ireturn, 1) := by decide +kernel
theorem d_LW_law_359 : decode code 359 = .ok (.aload_n 1, 1) := by decide +kernel
theorem d_LW_law_360 : decode code 360 = .ok (.aload_n 0, 1) := by decide +kernel
theorem d_LW_law_361 : decode code 361 = .ok (.iload_n 3, 1) := by decide +kernel
theorem d_LW_law_362 : decode code 362 = .ok (.iconst 1, 1) := by decide +kernel
theorem d_LW_law_363 : decode code 363 = .ok (.iadd, 1) := by decide +kernel
theorem d_LW_law_364 : decode code 364 = .ok (.iaload, 1) := by decide +kernel
theorem d_LW_law_365 : decode code 365 = .ok (.aload_n 0, 1) := by decide +kernel
theorem d_LW_law_366 : decode code 366 = .ok (.iload_n 3, 1) := by decide +kernel
theorem d_LW_law_367 : decode code 367 = .ok (.iconst 2, 1) := by decide +kernel
theorem d_LW_law_368 : decode code 368 = .ok (.iadd, 1) := by decide +kernel
theorem d_LW_law_369 : decode code 369 = .ok (.iaload, 1) := by decide +kernel
theorem d_LW_law_370 : decode code 370 = .ok (.invokevirtual 61, 3) := by decide +kernel
theorem d_LW_law_373 : decode code 373 = .ok (.aload_n 2, 1) := by decide +kernel
theorem d_LW_law_374 : decode code 374 = .ok (.aload_n 0, 1) := by decide +kernel
theorem d_LW_law_375 : decode code 375 = .ok (.iload_n 3, 1) := by decide +kernel
theorem d_LW_law_376 : decode code 376 = .ok (.iconst 1, 1) := by decide +kernel
theorem d_LW_law_377 : decode code 377 = .ok (.iadd, 1) := by decide +kernel
theorem d_LW_law_378 : decode code 378 = .ok (.iaload, 1) := by decide +kernel
theorem d_LW_law_379 : decode code 379 = .ok (.aload_n 0, 1) := by decide +kernel
theorem d_LW_law_380 : decode code 380 = .ok (.iload_n 3, 1) := by decide +kernel
theorem d_LW_law_381 : decode code 381 = .ok (.iconst 2, 1) := by decide +kernel
theorem d_LW_law_382 : decode code 382 = .ok (.iadd, 1) := by decide +kernel
theorem d_LW_law_383 : decode code 383 = .ok (.iaload, 1) := by decide +kernel
theorem d_LW_law_384 : decode code 384 = .ok (.invokevirtual 64, 3) := by decide +kernel
theorem d_LW_law_387 : decode code 387 = .ok (.if_icmp .eq 262, 3) := by decide +kernel
theorem d_LW_law_390 : decode code 390 = .ok (.iconst 0, 1) := by decide +kernel
theorem d_LW_law_391 : decode code 391 = .ok (.ireturn, 1) := by decide +kernel
theorem d_LW_law_392 : decode code 392 = .ok (.aload_n 1, 1) := by decide +kernel
theorem d_LW_law_393 : decode code 393 = .ok (.aload_n 0, 1) := by decide +kernel
theorem d_LW_law_394 : decode code 394 = .ok (.iload_n 3, 1) := by decide +kernel
theorem d_LW_law_395 : decode code 395 = .ok (.iconst 1, 1) := by decide +kernel
theorem d_LW_law_396 : decode code 396 = .ok (.iadd, 1) := by decide +kernel
theorem d_LW_law_397 : decode code 397 = .ok (.iaload, 1) := by decide +kernel
theorem d_LW_law_398 : decode code 398 = .ok (.aload_n 0, 1) := by decide +kernel
theorem d_LW_law_399 : decode code 399 = .ok (.iload_n 3, 1) := by decide +kernel
theorem d_LW_law_400 : decode code 400 = .ok (.iconst 2, 1) := by decide +kernel
theorem d_LW_law_401 : decode code 401 = .ok (.iadd, 1) := by decide +kernel
theorem d_LW_law_402 : decode code 402 = .ok (.iaload, 1) := by decide +kernel
theorem d_LW_law_403 : decode code 403 = .ok (.invokevirtual 65, 3) := by decide +kernel
theorem d_LW_law_406 : decode code 406 = .ok (.aload_n 2, 1) := by decide +kernel
theorem d_LW_law_407 : decode code 407 = .ok (.aload_n 0, 1) := by decide +kernel
theorem d_LW_law_408 : decode code 408 = .ok (.iload_n 3, 1) := by decide +kernel
theorem d_LW_law_409 : decode code 409 = .ok (.iconst 1, 1) := by decide +kernel
theorem d_LW_law_410 : decode code 410 = .ok (.iadd, 1) := by decide +kernel
theorem d_LW_law_411 : decode code 411 = .ok (.iaload, 1) := by decide +kernel
theorem d_LW_law_412 : decode code 412 = .ok (.aload_n 0, 1) := by decide +kernel
theorem d_LW_law_413 : decode code 413 = .ok (.iload_n 3, 1) := by decide +kernel
theorem d_LW_law_414 : decode code 414 = .ok (.iconst 2, 1) := by decide +kernel
theorem d_LW_law_415 : decode code 415 = .ok (.iadd, 1) := by decide +kernel

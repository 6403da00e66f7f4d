/-! The code of the law, instruction by instruction -/
theorem d_LW_law_292 : decode code 292 = .ok (.iconst 2, 1) := by decide +kernel
theorem d_LW_law_293 : decode code 293 = .ok (.iadd, 1) := by decide +kernel
theorem d_LW_law_294 : decode code 294 = .ok (.iaload, 1) := by decide +kernel
theorem d_LW_law_295 : decode code 295 = .ok (.invokevirtual 52, 3) := by decide +kernel
theorem d_LW_law_298 : decode code 298 = .ok (.if_icmp .eq 351, 3) := by decide +kernel
theorem d_LW_law_301 : decode code 301 = .ok (.iconst 0, 1) := by decide +kernel
theorem d_LW_law_302 : decode code 302 = .ok (.ireturn, 1) := by decide +kernel
theorem d_LW_law_303 : decode code 303 = .ok (.aload_n 1, 1) := by decide +kernel
theorem d_LW_law_304 : decode code 304 = .ok (.aload_n 0, 1) := by decide +kernel
theorem d_LW_law_305 : decode code 305 = .ok (.iload_n 3, 1) := by decide +kernel
theorem d_LW_law_306 : decode code 306 = .ok (.iconst 1, 1) := by decide +kernel
theorem d_LW_law_307 : decode code 307 = .ok (.iadd, 1) := by decide +kernel
theorem d_LW_law_308 : decode code 308 = .ok (.iaload, 1) := by decide +kernel
theorem d_LW_law_309 : decode code 309 = .ok (.invokevirtual 53, 3) := by decide +kernel
theorem d_LW_law_312 : decode code 312 = .ok (.aload_n 2, 1) := by decide +kernel
theorem d_LW_law_313 : decode code 313 = .ok (.aload_n 0, 1) := by decide +kernel
theorem d_LW_law_314 : decode code 314 = .ok (.iload_n 3, 1) := by decide +kernel
theorem d_LW_law_315 : decode code 315 = .ok (.iconst 1, 1) := by decide +kernel
theorem d_LW_law_316 : decode code 316 = .ok (.iadd, 1) := by decide +kernel
theorem d_LW_law_317 : decode code 317 = .ok (.iaload, 1) := by decide +kernel
theorem d_LW_law_318 : decode code 318 = .ok (.invokevirtual 56, 3) := by decide +kernel
theorem d_LW_law_321 : decode code 321 = .ok (.if_icmp .eq 328, 3) := by decide +kernel
theorem d_LW_law_324 : decode code 324 = .ok (.iconst 0, 1) := by decide +kernel
theorem d_LW_law_325 : decode code 325 = .ok (.ireturn, 1) := by decide +kernel
theorem d_LW_law_326 : decode code 326 = .ok (.aload_n 1, 1) := by decide +kernel
theorem d_LW_law_327 : decode code 327 = .ok (.aload_n 0, 1) := by decide +kernel
theorem d_LW_law_328 : decode code 328 = .ok (.iload_n 3, 1) := by decide +kernel
theorem d_LW_law_329 : decode code 329 = .ok (.iconst 1, 1) := by decide +kernel
theorem d_LW_law_330 : decode code 330 = .ok (.iadd, 1) := by decide +kernel
theorem d_LW_law_331 : decode code 331 = .ok (.iaload, 1) := by decide +kernel
theorem d_LW_law_332 : decode code 332 = .ok (.aload_n 0, 1) := by decide +kernel
theorem d_LW_law_333 : decode code 333 = .ok (.iload_n 3, 1) := by decide +kernel
theorem d_LW_law_334 : decode code 334 = .ok (.iconst 2, 1) := by decide +kernel
theorem d_LW_law_335 : decode code 335 = .ok (.iadd, 1) := by decide +kernel
theorem d_LW_law_336 : decode code 336 = .ok (.iaload, 1) := by decide +kernel
theorem d_LW_law_337 : decode code 337 = .ok (.invokevirtual 57, 3) := by decide +kernel
theorem d_LW_law_340 : decode code 340 = .ok (.aload_n 2, 1) := by decide +kernel
theorem d_LW_law_341 : decode code 341 = .ok (.aload_n 0, 1) := by decide +kernel
theorem d_LW_law_342 : decode code 342 = .ok (.iload_n 3, 1) := by decide +kernel
theorem d_LW_law_343 : decode code 343 = .ok (.iconst 1, 1) := by decide +kernel
theorem d_LW_law_344 : decode code 344 = .ok (.iadd, 1) := by decide +kernel
theorem d_LW_law_345 : decode code 345 = .ok (.iaload, 1) := by decide +kernel
theorem d_LW_law_346 : decode code 346 = .ok (.aload_n 0, 1) := by decide +kernel
theorem d_LW_law_347 : decode code 347 = .ok (.iload_n 3, 1) := by decide +kernel
theorem d_LW_law_348 : decode code 348 = .ok (.iconst 2, 1) := by decide +kernel
theorem d_LW_law_349 : decode code 349 = .ok (.iadd, 1) := by decide +kernel
theorem d_LW_law_350 : decode code 350 = .ok (.iaload, 1) := by decide +kernel
theorem d_LW_law_351 : decode code 351 = .ok (.invokevirtual 60, 3) := by decide +kernel
theorem d_LW_law_354 : decode code 354 = .ok (.if_icmp .eq 295, 3) := by decide +kernel
theorem d_LW_law_357 : decode code 357 = .ok (.iconst 0, 1) := by decide +kernel

theorem d_TypeFinderLaw_law_317 : decode b_TypeFinderLaw_law 317 = .ok (.i2c, 1) := by decide +kernel
theorem d_TypeFinderLaw_law_318 : decode b_TypeFinderLaw_law 318 = .ok (.aload_n 0, 1) := by decide +kernel
theorem d_TypeFinderLaw_law_319 : decode b_TypeFinderLaw_law 319 = .ok (.iload 4, 2) := by decide +kernel
theorem d_TypeFinderLaw_law_321 : decode b_TypeFinderLaw_law 321 = .ok (.iconst 2, 1) := by decide +kernel
theorem d_TypeFinderLaw_law_322 : decode b_TypeFinderLaw_law 322 = .ok (.iadd, 1) := by decide +kernel
theorem d_TypeFinderLaw_law_323 : decode b_TypeFinderLaw_law 323 = .ok (.iaload, 1) := by decide +kernel
theorem d_TypeFinderLaw_law_324 : decode b_TypeFinderLaw_law 324 = .ok (.aload_n 0, 1) := by decide +kernel
theorem d_TypeFinderLaw_law_325 : decode b_TypeFinderLaw_law 325 = .ok (.iload 4, 2) := by decide +kernel
theorem d_TypeFinderLaw_law_327 : decode b_TypeFinderLaw_law 327 = .ok (.iconst 3, 1) := by decide +kernel
theorem d_TypeFinderLaw_law_328 : decode b_TypeFinderLaw_law 328 = .ok (.iadd, 1) := by decide +kernel
theorem d_TypeFinderLaw_law_329 : decode b_TypeFinderLaw_law 329 = .ok (.iaload, 1) := by decide +kernel
theorem d_TypeFinderLaw_law_330 : decode b_TypeFinderLaw_law 330 = .ok (.ifCond .eq 7, 3) := by decide +kernel
theorem d_TypeFinderLaw_law_333 : decode b_TypeFinderLaw_law 333 = .ok (.iconst 1, 1) := by decide +kernel
theorem d_TypeFinderLaw_law_334 : decode b_TypeFinderLaw_law 334 = .ok (.goto 4, 3) := by decide +kernel
theorem d_TypeFinderLaw_law_337 : decode b_TypeFinderLaw_law 337 = .ok (.iconst 0, 1) := by decide +kernel
theorem d_TypeFinderLaw_law_338 : decode b_TypeFinderLaw_law 338 = .ok (.invokevirtual 60, 3) := by decide +kernel
theorem d_TypeFinderLaw_law_341 : decode b_TypeFinderLaw_law 341 = .ok (.if_icmp .eq 55, 3) := by decide +kernel
theorem d_TypeFinderLaw_law_346 : decode b_TypeFinderLaw_law 346 = .ok (.aload_n 1, 1) := by decide +kernel
theorem d_TypeFinderLaw_law_347 : decode b_TypeFinderLaw_law 347 = .ok (.aload_n 0, 1) := by decide +kernel
theorem d_TypeFinderLaw_law_348 : decode b_TypeFinderLaw_law 348 = .ok (.iload 4, 2) := by decide +kernel
theorem d_TypeFinderLaw_law_350 : decode b_TypeFinderLaw_law 350 = .ok (.iconst 1, 1) := by decide +kernel
theorem d_TypeFinderLaw_law_351 : decode b_TypeFinderLaw_law 351 = .ok (.iadd, 1) := by decide +kernel
theorem d_TypeFinderLaw_law_352 : decode b_TypeFinderLaw_law 352 = .ok (.iaload, 1) := by decide +kernel
theorem d_TypeFinderLaw_law_353 : decode b_TypeFinderLaw_law 353 = .ok (.invokevirtual 61, 3) := by decide +kernel
theorem d_TypeFinderLaw_law_356 : decode b_TypeFinderLaw_law 356 = .ok (.aload_n 2, 1) := by decide +kernel
theorem d_TypeFinderLaw_law_357 : decode b_TypeFinderLaw_law 357 = .ok (.aload_n 0, 1) := by decide +kernel
theorem d_TypeFinderLaw_law_358 : decode b_TypeFinderLaw_law 358 = .ok (.iload 4, 2) := by decide +kernel
theorem d_TypeFinderLaw_law_360 : decode b_TypeFinderLaw_law 360 = .ok (.iconst 1, 1) := by decide +kernel
theorem d_TypeFinderLaw_law_361 : decode b_TypeFinderLaw_law 361 = .ok (.iadd, 1) := by decide +kernel
theorem d_TypeFinderLaw_law_362 : decode b_TypeFinderLaw_law 362 = .ok (.iaload, 1) := by decide +kernel
theorem d_TypeFinderLaw_law_363 : decode b_TypeFinderLaw_law 363 = .ok (.invokevirtual 64, 3) := by decide +kernel
theorem d_TypeFinderLaw_law_366 : decode b_TypeFinderLaw_law 366 = .ok (.if_icmp .eq 30, 3) := by decide +kernel
theorem d_TypeFinderLaw_law_371 : decode b_TypeFinderLaw_law 371 = .ok (.aload_n 1, 1) := by decide +kernel
theorem d_TypeFinderLaw_law_372 : decode b_TypeFinderLaw_law 372 = .ok (.aload_n 0, 1) := by decide +kernel
theorem d_TypeFinderLaw_law_373 : decode b_TypeFinderLaw_law 373 = .ok (.iload 4, 2) := by decide +kernel
theorem d_TypeFinderLaw_law_375 : decode b_TypeFinderLaw_law 375 = .ok (.iconst 1, 1) := by decide +kernel
theorem d_TypeFinderLaw_law_376 : decode b_TypeFinderLaw_law 376 = .ok (.iadd, 1) := by decide +kernel
theorem d_TypeFinderLaw_law_377 : decode b_TypeFinderLaw_law 377 = .ok (.iaload, 1) := by decide +kernel
theorem d_TypeFinderLaw_law_378 : decode b_TypeFinderLaw_law 378 = .ok (.invokevirtual 65, 3) := by decide +kernel
theorem d_TypeFinderLaw_law_381 : decode b_TypeFinderLaw_law 381 = .ok (.aload_n 2, 1) := by decide +kernel
theorem d_TypeFinderLaw_law_382 : decode b_TypeFinderLaw_law 382 = .ok (.aload_n 0, 1) := by decide +kernel
theorem d_TypeFinderLaw_law_383 : decode b_TypeFinderLaw_law 383 = .ok (.iload 4, 2) := by decide +kernel
theorem d_TypeFinderLaw_law_385 : decode b_TypeFinderLaw_law 385 = .ok (.iconst 1, 1) := by decide +kernel
theorem d_TypeFinderLaw_law_386 : decode b_TypeFinderLaw_law 386 = .ok (.iadd, 1) := by decide +kernel
theorem d_TypeFinderLaw_law_387 : decode b_TypeFinderLaw_law 387 = .ok (.iaload, 1) := by decide +kernel
theorem d_TypeFinderLaw_law_388 : decode b_TypeFinderLaw_law 388 = .ok (.invokevirtual 68, 3) := by decide +kernel
theorem d_TypeFinderLaw_law_391 : decode b_TypeFinderLaw_law 391 = .ok (.if_icmp .eq 5, 3) := by decide +kernel
theorem d_TypeFinderLaw_law_396 : decode b_TypeFinderLaw_law 396 = .ok (.iinc 4 4, 3) := by decide +kernel
theorem d_TypeFinderLaw_law_399 : decode b_TypeFinderLaw_law 399 = .ok (.goto (-376), 3) := by decide +kernel
theorem d_TypeFinderLaw_law_402 : decode b_TypeFinderLaw_law 402 = .ok (.iconst 1, 1) := by decide +kernel
theorem d_TypeFinderLaw_law_403 : decode b_TypeFinderLaw_law 403 = .ok (.ireturn, 1) := by decide +kernel
theorem d_TypeFinderModel_thrown_0 : decode b_TypeFinderModel_thrown 0 = .ok (.aload_n 0, 1) := by decide +kernel
theorem d_TypeFinderModel_thrown_1 : decode b_TypeFinderModel_thrown 1 = .ok (.getfield 190, 3) := by decide +kernel
theorem d_TypeFinderModel_thrown_4 : decode b_TypeFinderModel_thrown 4 = .ok (.ireturn, 1) := by decide +kernel

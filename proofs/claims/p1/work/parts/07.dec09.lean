theorem d_TypeFinder_Known_init_252 : decode b_TypeFinder_Known_init 252 = .ok (.dup, 1) := by decide +kernel
theorem d_TypeFinder_Known_init_253 : decode b_TypeFinder_Known_init 253 = .ok (.ldc2_w 83, 3) := by decide +kernel
theorem d_TypeFinder_Known_init_256 : decode b_TypeFinder_Known_init 256 = .ok (.aload 4, 2) := by decide +kernel
theorem d_TypeFinder_Known_init_258 : decode b_TypeFinder_Known_init 258 = .ok (.iconst 1, 1) := by decide +kernel
theorem d_TypeFinder_Known_init_259 : decode b_TypeFinder_Known_init 259 = .ok (.invokespecial 57, 3) := by decide +kernel
theorem d_TypeFinder_Known_init_262 : decode b_TypeFinder_Known_init 262 = .ok (.invokevirtual 60, 3) := by decide +kernel
theorem d_TypeFinder_Known_init_265 : decode b_TypeFinder_Known_init 265 = .ok (.pop, 1) := by decide +kernel
theorem d_TypeFinder_Known_init_266 : decode b_TypeFinder_Known_init 266 = .ok (.aload_n 0, 1) := by decide +kernel
theorem d_TypeFinder_Known_init_267 : decode b_TypeFinder_Known_init 267 = .ok (.getfield 27, 3) := by decide +kernel
theorem d_TypeFinder_Known_init_270 : decode b_TypeFinder_Known_init 270 = .ok (.new 53, 3) := by decide +kernel
theorem d_TypeFinder_Known_init_273 : decode b_TypeFinder_Known_init 273 = .ok (.dup, 1) := by decide +kernel
theorem d_TypeFinder_Known_init_274 : decode b_TypeFinder_Known_init 274 = .ok (.ldc2_w 85, 3) := by decide +kernel
theorem d_TypeFinder_Known_init_277 : decode b_TypeFinder_Known_init 277 = .ok (.aload 4, 2) := by decide +kernel
theorem d_TypeFinder_Known_init_279 : decode b_TypeFinder_Known_init 279 = .ok (.iconst 1, 1) := by decide +kernel
theorem d_TypeFinder_Known_init_280 : decode b_TypeFinder_Known_init 280 = .ok (.invokespecial 57, 3) := by decide +kernel
theorem d_TypeFinder_Known_init_283 : decode b_TypeFinder_Known_init 283 = .ok (.invokevirtual 60, 3) := by decide +kernel
theorem d_TypeFinder_Known_init_286 : decode b_TypeFinder_Known_init 286 = .ok (.pop, 1) := by decide +kernel
theorem d_TypeFinder_Known_init_287 : decode b_TypeFinder_Known_init 287 = .ok (.aload_n 0, 1) := by decide +kernel
theorem d_TypeFinder_Known_init_288 : decode b_TypeFinder_Known_init 288 = .ok (.getfield 27, 3) := by decide +kernel
theorem d_TypeFinder_Known_init_291 : decode b_TypeFinder_Known_init 291 = .ok (.new 53, 3) := by decide +kernel
theorem d_TypeFinder_Known_init_294 : decode b_TypeFinder_Known_init 294 = .ok (.dup, 1) := by decide +kernel
theorem d_TypeFinder_Known_init_295 : decode b_TypeFinder_Known_init 295 = .ok (.ldc2_w 87, 3) := by decide +kernel
theorem d_TypeFinder_Known_init_298 : decode b_TypeFinder_Known_init 298 = .ok (.aload 4, 2) := by decide +kernel
theorem d_TypeFinder_Known_init_300 : decode b_TypeFinder_Known_init 300 = .ok (.iconst 1, 1) := by decide +kernel
theorem d_TypeFinder_Known_init_301 : decode b_TypeFinder_Known_init 301 = .ok (.invokespecial 57, 3) := by decide +kernel
theorem d_TypeFinder_Known_init_304 : decode b_TypeFinder_Known_init 304 = .ok (.invokevirtual 60, 3) := by decide +kernel
theorem d_TypeFinder_Known_init_307 : decode b_TypeFinder_Known_init 307 = .ok (.pop, 1) := by decide +kernel
theorem d_TypeFinder_Known_init_308 : decode b_TypeFinder_Known_init 308 = .ok (.aload_n 0, 1) := by decide +kernel
theorem d_TypeFinder_Known_init_309 : decode b_TypeFinder_Known_init 309 = .ok (.getfield 27, 3) := by decide +kernel
theorem d_TypeFinder_Known_init_312 : decode b_TypeFinder_Known_init 312 = .ok (.new 53, 3) := by decide +kernel
theorem d_TypeFinder_Known_init_315 : decode b_TypeFinder_Known_init 315 = .ok (.dup, 1) := by decide +kernel
theorem d_TypeFinder_Known_init_316 : decode b_TypeFinder_Known_init 316 = .ok (.ldc2_w 89, 3) := by decide +kernel
theorem d_TypeFinder_Known_init_319 : decode b_TypeFinder_Known_init 319 = .ok (.aload_n 0, 1) := by decide +kernel
theorem d_TypeFinder_Known_init_320 : decode b_TypeFinder_Known_init 320 = .ok (.getfield 14, 3) := by decide +kernel
theorem d_TypeFinder_Known_init_323 : decode b_TypeFinder_Known_init 323 = .ok (.aload_n 0, 1) := by decide +kernel
theorem d_TypeFinder_Known_init_324 : decode b_TypeFinder_Known_init 324 = .ok (.getfield 14, 3) := by decide +kernel
theorem d_TypeFinder_Known_init_327 : decode b_TypeFinder_Known_init 327 = .ok (.aload_n 0, 1) := by decide +kernel
theorem d_TypeFinder_Known_init_328 : decode b_TypeFinder_Known_init 328 = .ok (.getfield 47, 3) := by decide +kernel
theorem d_TypeFinder_Known_init_331 : decode b_TypeFinder_Known_init 331 = .ok (.invokestatic 71, 3) := by decide +kernel
theorem d_TypeFinder_Known_init_334 : decode b_TypeFinder_Known_init 334 = .ok (.invokestatic 71, 3) := by decide +kernel
theorem d_TypeFinder_Known_init_337 : decode b_TypeFinder_Known_init 337 = .ok (.iconst 1, 1) := by decide +kernel
theorem d_TypeFinder_Known_init_338 : decode b_TypeFinder_Known_init 338 = .ok (.invokespecial 57, 3) := by decide +kernel
theorem d_TypeFinder_Known_init_341 : decode b_TypeFinder_Known_init 341 = .ok (.invokevirtual 60, 3) := by decide +kernel
theorem d_TypeFinder_Known_init_344 : decode b_TypeFinder_Known_init 344 = .ok (.pop, 1) := by decide +kernel
theorem d_TypeFinder_Known_init_345 : decode b_TypeFinder_Known_init 345 = .ok (.new 9, 3) := by decide +kernel
theorem d_TypeFinder_Known_init_348 : decode b_TypeFinder_Known_init 348 = .ok (.dup, 1) := by decide +kernel
theorem d_TypeFinder_Known_init_349 : decode b_TypeFinder_Known_init 349 = .ok (.iconst 5, 1) := by decide +kernel
theorem d_TypeFinder_Known_init_350 : decode b_TypeFinder_Known_init 350 = .ok (.aconst_null, 1) := by decide +kernel
theorem d_TypeFinder_Known_init_351 : decode b_TypeFinder_Known_init 351 = .ok (.aconst_null, 1) := by decide +kernel
theorem d_TypeFinder_Known_init_352 : decode b_TypeFinder_Known_init 352 = .ok (.aconst_null, 1) := by decide +kernel
theorem d_TypeFinder_Known_init_353 : decode b_TypeFinder_Known_init 353 = .ok (.invokespecial 11, 3) := by decide +kernel
theorem d_TypeFinder_Known_init_356 : decode b_TypeFinder_Known_init 356 = .ok (.astore 5, 2) := by decide +kernel
theorem d_TypeFinder_Known_init_358 : decode b_TypeFinder_Known_init 358 = .ok (.aload 5, 2) := by decide +kernel
theorem d_TypeFinder_Known_init_360 : decode b_TypeFinder_Known_init 360 = .ok (.iconst 1, 1) := by decide +kernel
theorem d_TypeFinder_Known_init_361 : decode b_TypeFinder_Known_init 361 = .ok (.putfield 91, 3) := by decide +kernel
theorem d_TypeFinder_Known_init_364 : decode b_TypeFinder_Known_init 364 = .ok (.aload_n 0, 1) := by decide +kernel
theorem d_TypeFinder_Known_init_365 : decode b_TypeFinder_Known_init 365 = .ok (.getfield 27, 3) := by decide +kernel
theorem d_TypeFinder_Known_init_368 : decode b_TypeFinder_Known_init 368 = .ok (.new 53, 3) := by decide +kernel
theorem d_TypeFinder_Known_init_371 : decode b_TypeFinder_Known_init 371 = .ok (.dup, 1) := by decide +kernel
theorem d_TypeFinder_Known_init_372 : decode b_TypeFinder_Known_init 372 = .ok (.ldc2_w 95, 3) := by decide +kernel
theorem d_TypeFinder_Known_init_375 : decode b_TypeFinder_Known_init 375 = .ok (.aload 5, 2) := by decide +kernel
theorem d_TypeFinder_Known_init_377 : decode b_TypeFinder_Known_init 377 = .ok (.aload 5, 2) := by decide +kernel
theorem d_TypeFinder_Known_init_379 : decode b_TypeFinder_Known_init 379 = .ok (.aload_n 0, 1) := by decide +kernel
theorem d_TypeFinder_Known_init_380 : decode b_TypeFinder_Known_init 380 = .ok (.getfield 47, 3) := by decide +kernel
theorem d_TypeFinder_Known_init_383 : decode b_TypeFinder_Known_init 383 = .ok (.invokestatic 71, 3) := by decide +kernel
theorem d_TypeFinder_Known_init_386 : decode b_TypeFinder_Known_init 386 = .ok (.invokestatic 71, 3) := by decide +kernel
theorem d_TypeFinder_Known_init_389 : decode b_TypeFinder_Known_init 389 = .ok (.iconst 1, 1) := by decide +kernel
theorem d_TypeFinder_Known_init_390 : decode b_TypeFinder_Known_init 390 = .ok (.invokespecial 57, 3) := by decide +kernel
theorem d_TypeFinder_Known_init_393 : decode b_TypeFinder_Known_init 393 = .ok (.invokevirtual 60, 3) := by decide +kernel
theorem d_TypeFinder_Known_init_396 : decode b_TypeFinder_Known_init 396 = .ok (.pop, 1) := by decide +kernel
theorem d_TypeFinder_Known_init_397 : decode b_TypeFinder_Known_init 397 = .ok (.aload_n 0, 1) := by decide +kernel
theorem d_TypeFinder_Known_init_398 : decode b_TypeFinder_Known_init 398 = .ok (.aload_n 0, 1) := by decide +kernel
theorem d_TypeFinder_Known_init_399 : decode b_TypeFinder_Known_init 399 = .ok (.getfield 27, 3) := by decide +kernel
theorem d_TypeFinder_Known_init_402 : decode b_TypeFinder_Known_init 402 = .ok (.invokevirtual 97, 3) := by decide +kernel
theorem d_TypeFinder_Known_init_405 : decode b_TypeFinder_Known_init 405 = .ok (.putfield 101, 3) := by decide +kernel
theorem d_TypeFinder_Known_init_408 : decode b_TypeFinder_Known_init 408 = .ok (.return_, 1) := by decide +kernel
theorem d_TypeFinder_Name_init_0 : decode b_TypeFinder_Name_init 0 = .ok (.aload_n 0, 1) := by decide +kernel
theorem d_TypeFinder_Name_init_1 : decode b_TypeFinder_Name_init 1 = .ok (.invokespecial 1, 3) := by decide +kernel
theorem d_TypeFinder_Name_init_4 : decode b_TypeFinder_Name_init 4 = .ok (.aload_n 0, 1) := by decide +kernel
theorem d_TypeFinder_Name_init_5 : decode b_TypeFinder_Name_init 5 = .ok (.lload_n 1, 1) := by decide +kernel
theorem d_TypeFinder_Name_init_6 : decode b_TypeFinder_Name_init 6 = .ok (.putfield 7, 3) := by decide +kernel
theorem d_TypeFinder_Name_init_9 : decode b_TypeFinder_Name_init 9 = .ok (.aload_n 0, 1) := by decide +kernel
theorem d_TypeFinder_Name_init_10 : decode b_TypeFinder_Name_init 10 = .ok (.aload_n 3, 1) := by decide +kernel
theorem d_TypeFinder_Name_init_11 : decode b_TypeFinder_Name_init 11 = .ok (.putfield 13, 3) := by decide +kernel
theorem d_TypeFinder_Name_init_14 : decode b_TypeFinder_Name_init 14 = .ok (.aload_n 0, 1) := by decide +kernel
theorem d_TypeFinder_Name_init_15 : decode b_TypeFinder_Name_init 15 = .ok (.iload 4, 2) := by decide +kernel
theorem d_TypeFinder_Name_init_17 : decode b_TypeFinder_Name_init 17 = .ok (.putfield 17, 3) := by decide +kernel
theorem d_TypeFinder_Name_init_20 : decode b_TypeFinder_Name_init 20 = .ok (.return_, 1) := by decide +kernel
theorem d_TypeFinder_Parser_application_0 : decode b_TypeFinder_Parser_application 0 = .ok (.aload_n 0, 1) := by decide +kernel
theorem d_TypeFinder_Parser_application_1 : decode b_TypeFinder_Parser_application 1 = .ok (.iload_n 1, 1) := by decide +kernel
theorem d_TypeFinder_Parser_application_2 : decode b_TypeFinder_Parser_application 2 = .ok (.invokevirtual 148, 3) := by decide +kernel
theorem d_TypeFinder_Parser_atom_0 : decode b_TypeFinder_Parser_atom 0 = .ok (.aload_n 0, 1) := by decide +kernel
theorem d_TypeFinder_Parser_atom_1 : decode b_TypeFinder_Parser_atom 1 = .ok (.getfield 12, 3) := by decide +kernel
theorem d_TypeFinder_Parser_atom_4 : decode b_TypeFinder_Parser_atom 4 = .ok (.iconst 3, 1) := by decide +kernel
theorem d_TypeFinder_Parser_atom_5 : decode b_TypeFinder_Parser_atom 5 = .ok (.invokevirtual 86, 3) := by decide +kernel
theorem d_TypeFinder_Parser_atom_8 : decode b_TypeFinder_Parser_atom 8 = .ok (.ifCond .eq 20, 3) := by decide +kernel
theorem d_TypeFinder_Parser_atom_28 : decode b_TypeFinder_Parser_atom 28 = .ok (.aload_n 0, 1) := by decide +kernel
theorem d_TypeFinder_Parser_atom_29 : decode b_TypeFinder_Parser_atom 29 = .ok (.getfield 12, 3) := by decide +kernel
theorem d_TypeFinder_Parser_atom_32 : decode b_TypeFinder_Parser_atom 32 = .ok (.iconst 1, 1) := by decide +kernel
theorem d_TypeFinder_Parser_atom_33 : decode b_TypeFinder_Parser_atom 33 = .ok (.invokevirtual 86, 3) := by decide +kernel
theorem d_TypeFinder_Parser_atom_36 : decode b_TypeFinder_Parser_atom 36 = .ok (.ifCond .eq 20, 3) := by decide +kernel
theorem d_TypeFinder_Parser_atom_56 : decode b_TypeFinder_Parser_atom 56 = .ok (.aload_n 0, 1) := by decide +kernel
theorem d_TypeFinder_Parser_atom_57 : decode b_TypeFinder_Parser_atom 57 = .ok (.getfield 12, 3) := by decide +kernel
theorem d_TypeFinder_Parser_atom_60 : decode b_TypeFinder_Parser_atom 60 = .ok (.iconst 2, 1) := by decide +kernel
theorem d_TypeFinder_Parser_atom_61 : decode b_TypeFinder_Parser_atom 61 = .ok (.invokevirtual 86, 3) := by decide +kernel
theorem d_TypeFinder_Parser_atom_64 : decode b_TypeFinder_Parser_atom 64 = .ok (.ifCond .eq 20, 3) := by decide +kernel
theorem d_TypeFinder_Parser_atom_84 : decode b_TypeFinder_Parser_atom 84 = .ok (.aload_n 0, 1) := by decide +kernel
theorem d_TypeFinder_Parser_atom_85 : decode b_TypeFinder_Parser_atom 85 = .ok (.getfield 12, 3) := by decide +kernel
theorem d_TypeFinder_Parser_atom_88 : decode b_TypeFinder_Parser_atom 88 = .ok (.bipush 7, 2) := by decide +kernel
theorem d_TypeFinder_Parser_atom_90 : decode b_TypeFinder_Parser_atom 90 = .ok (.invokevirtual 66, 3) := by decide +kernel
theorem d_TypeFinder_Parser_chain_0 : decode b_TypeFinder_Parser_chain 0 = .ok (.aload_n 0, 1) := by decide +kernel
theorem d_TypeFinder_Parser_chain_1 : decode b_TypeFinder_Parser_chain 1 = .ok (.iload_n 1, 1) := by decide +kernel
theorem d_TypeFinder_Parser_chain_2 : decode b_TypeFinder_Parser_chain 2 = .ok (.invokevirtual 123, 3) := by decide +kernel
theorem d_TypeFinder_Parser_declaration_0 : decode b_TypeFinder_Parser_declaration 0 = .ok (.aload_n 0, 1) := by decide +kernel
theorem d_TypeFinder_Parser_declaration_1 : decode b_TypeFinder_Parser_declaration 1 = .ok (.getfield 12, 3) := by decide +kernel
theorem d_TypeFinder_Parser_declaration_4 : decode b_TypeFinder_Parser_declaration 4 = .ok (.aload_n 1, 1) := by decide +kernel
theorem d_TypeFinder_Parser_declaration_5 : decode b_TypeFinder_Parser_declaration 5 = .ok (.iload_n 2, 1) := by decide +kernel
theorem d_TypeFinder_Parser_declaration_6 : decode b_TypeFinder_Parser_declaration 6 = .ok (.invokevirtual 43, 3) := by decide +kernel
theorem d_TypeFinder_Parser_declaration_9 : decode b_TypeFinder_Parser_declaration 9 = .ok (.aload_n 0, 1) := by decide +kernel
theorem d_TypeFinder_Parser_declaration_10 : decode b_TypeFinder_Parser_declaration 10 = .ok (.getfield 12, 3) := by decide +kernel
theorem d_TypeFinder_Parser_declaration_13 : decode b_TypeFinder_Parser_declaration 13 = .ok (.bipush 20, 2) := by decide +kernel
theorem d_TypeFinder_Parser_declaration_15 : decode b_TypeFinder_Parser_declaration 15 = .ok (.invokevirtual 47, 3) := by decide +kernel
theorem d_TypeFinder_Parser_declaration_18 : decode b_TypeFinder_Parser_declaration 18 = .ok (.ifCond .eq 14, 3) := by decide +kernel
theorem d_TypeFinder_Parser_declaration_32 : decode b_TypeFinder_Parser_declaration 32 = .ok (.aload_n 0, 1) := by decide +kernel
theorem d_TypeFinder_Parser_declaration_33 : decode b_TypeFinder_Parser_declaration 33 = .ok (.getfield 12, 3) := by decide +kernel
theorem d_TypeFinder_Parser_declaration_36 : decode b_TypeFinder_Parser_declaration 36 = .ok (.invokevirtual 55, 3) := by decide +kernel
theorem d_TypeFinder_Parser_declaration_39 : decode b_TypeFinder_Parser_declaration 39 = .ok (.iconst 4, 1) := by decide +kernel
theorem d_TypeFinder_Parser_declaration_40 : decode b_TypeFinder_Parser_declaration 40 = .ok (.if_icmp .ne 11, 3) := by decide +kernel
theorem d_TypeFinder_Parser_declaration_51 : decode b_TypeFinder_Parser_declaration 51 = .ok (.aload_n 0, 1) := by decide +kernel
theorem d_TypeFinder_Parser_declaration_52 : decode b_TypeFinder_Parser_declaration 52 = .ok (.iconst 0, 1) := by decide +kernel
theorem d_TypeFinder_Parser_declaration_53 : decode b_TypeFinder_Parser_declaration 53 = .ok (.invokevirtual 62, 3) := by decide +kernel
theorem d_TypeFinder_Parser_definition_0 : decode b_TypeFinder_Parser_definition 0 = .ok (.aload_n 0, 1) := by decide +kernel
theorem d_TypeFinder_Parser_definition_1 : decode b_TypeFinder_Parser_definition 1 = .ok (.getfield 12, 3) := by decide +kernel
theorem d_TypeFinder_Parser_definition_4 : decode b_TypeFinder_Parser_definition 4 = .ok (.iconst 1, 1) := by decide +kernel
theorem d_TypeFinder_Parser_definition_5 : decode b_TypeFinder_Parser_definition 5 = .ok (.invokevirtual 66, 3) := by decide +kernel
theorem d_TypeFinder_Parser_expression_0 : decode b_TypeFinder_Parser_expression 0 = .ok (.iload_n 1, 1) := by decide +kernel
theorem d_TypeFinder_Parser_expression_1 : decode b_TypeFinder_Parser_expression 1 = .ok (.bipush 12, 2) := by decide +kernel
theorem d_TypeFinder_Parser_expression_3 : decode b_TypeFinder_Parser_expression 3 = .ok (.if_icmp .le 11, 3) := by decide +kernel
theorem d_TypeFinder_Parser_expression_14 : decode b_TypeFinder_Parser_expression 14 = .ok (.aload_n 0, 1) := by decide +kernel
theorem d_TypeFinder_Parser_expression_15 : decode b_TypeFinder_Parser_expression 15 = .ok (.getfield 12, 3) := by decide +kernel
theorem d_TypeFinder_Parser_expression_18 : decode b_TypeFinder_Parser_expression 18 = .ok (.bipush 12, 2) := by decide +kernel
theorem d_TypeFinder_Parser_expression_20 : decode b_TypeFinder_Parser_expression 20 = .ok (.invokevirtual 47, 3) := by decide +kernel
theorem d_TypeFinder_Parser_expression_23 : decode b_TypeFinder_Parser_expression 23 = .ok (.ifCond .eq 9, 3) := by decide +kernel
theorem d_TypeFinder_Parser_expression_32 : decode b_TypeFinder_Parser_expression 32 = .ok (.aload_n 0, 1) := by decide +kernel
theorem d_TypeFinder_Parser_expression_33 : decode b_TypeFinder_Parser_expression 33 = .ok (.getfield 12, 3) := by decide +kernel
theorem d_TypeFinder_Parser_expression_36 : decode b_TypeFinder_Parser_expression 36 = .ok (.bipush 13, 2) := by decide +kernel
theorem d_TypeFinder_Parser_expression_38 : decode b_TypeFinder_Parser_expression 38 = .ok (.invokevirtual 47, 3) := by decide +kernel
theorem d_TypeFinder_Parser_expression_41 : decode b_TypeFinder_Parser_expression 41 = .ok (.ifCond .eq 9, 3) := by decide +kernel
theorem d_TypeFinder_Parser_expression_50 : decode b_TypeFinder_Parser_expression 50 = .ok (.aload_n 0, 1) := by decide +kernel
theorem d_TypeFinder_Parser_expression_51 : decode b_TypeFinder_Parser_expression 51 = .ok (.getfield 12, 3) := by decide +kernel

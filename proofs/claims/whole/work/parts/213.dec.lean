theorem dX12_tear_65 : decode cX12_tear 65 = .ok (.iload 5, 2) := by decide +kernel
theorem dX12_tear_67 : decode cX12_tear 67 = .ok (.ireturn, 1) := by decide +kernel
theorem dX12_tear_27 : decode cX12_tear 27 = .ok (.sipush 30632, 3) := by decide +kernel
theorem dX12_tear_30 : decode cX12_tear 30 = .ok (.sipush 601, 3) := by decide +kernel
theorem dX12_tear_33 : decode cX12_tear 33 = .ok (.iconst 2, 1) := by decide +kernel
theorem dX12_tear_34 : decode cX12_tear 34 = .ok (.iload_n 1, 1) := by decide +kernel
theorem dX12_tear_35 : decode cX12_tear 35 = .ok (.imul, 1) := by decide +kernel
theorem dX12_tear_36 : decode cX12_tear 36 = .ok (.iload_n 2, 1) := by decide +kernel
theorem dX12_tear_37 : decode cX12_tear 37 = .ok (.iadd, 1) := by decide +kernel
theorem dX12_tear_38 : decode cX12_tear 38 = .ok (.imul, 1) := by decide +kernel
theorem dX12_tear_39 : decode cX12_tear 39 = .ok (.iadd, 1) := by decide +kernel
theorem dX12_tear_40 : decode cX12_tear 40 = .ok (.istore 4, 2) := by decide +kernel
theorem dX12_tear_42 : decode cX12_tear 42 = .ok (.aload_n 0, 1) := by decide +kernel
theorem dX12_tear_43 : decode cX12_tear 43 = .ok (.getfield 10, 3) := by decide +kernel
theorem dX12_tear_46 : decode cX12_tear 46 = .ok (.iload 4, 2) := by decide +kernel
theorem dX12_tear_48 : decode cX12_tear 48 = .ok (.iaload, 1) := by decide +kernel
theorem dX12_tear_49 : decode cX12_tear 49 = .ok (.istore 5, 2) := by decide +kernel
theorem dX12_tear_51 : decode cX12_tear 51 = .ok (.iload_n 3, 1) := by decide +kernel
theorem dX12_tear_52 : decode cX12_tear 52 = .ok (.iload 5, 2) := by decide +kernel
theorem dX12_tear_54 : decode cX12_tear 54 = .ok (.if_icmp .ge 11, 3) := by decide +kernel
theorem dX12_tear_57 : decode cX12_tear 57 = .ok (.aload_n 0, 1) := by decide +kernel
theorem dX12_tear_58 : decode cX12_tear 58 = .ok (.getfield 10, 3) := by decide +kernel
theorem dX12_tear_61 : decode cX12_tear 61 = .ok (.iload 4, 2) := by decide +kernel
theorem dX12_tear_63 : decode cX12_tear 63 = .ok (.iload_n 3, 1) := by decide +kernel
theorem dX12_tear_64 : decode cX12_tear 64 = .ok (.iastore, 1) := by decide +kernel
theorem dX12_tear_19 : decode cX12_tear 19 = .ok (.iload_n 3, 1) := by decide +kernel
theorem dX12_tear_20 : decode cX12_tear 20 = .ok (.iconst (-1), 1) := by decide +kernel
theorem dX12_tear_21 : decode cX12_tear 21 = .ok (.if_icmp .ge 6, 3) := by decide +kernel
theorem dX12_tear_24 : decode cX12_tear 24 = .ok (.bipush (-2), 2) := by decide +kernel
theorem dX12_tear_26 : decode cX12_tear 26 = .ok (.ireturn, 1) := by decide +kernel
theorem dX12_tear_17 : decode cX12_tear 17 = .ok (.iconst (-1), 1) := by decide +kernel
theorem dX12_tear_18 : decode cX12_tear 18 = .ok (.ireturn, 1) := by decide +kernel
theorem dX12_tear_0 : decode cX12_tear 0 = .ok (.aload_n 0, 1) := by decide +kernel
theorem dX12_tear_1 : decode cX12_tear 1 = .ok (.iload_n 1, 1) := by decide +kernel
theorem dX12_tear_2 : decode cX12_tear 2 = .ok (.invokevirtual 161, 3) := by decide +kernel
theorem dX12_tear_5 : decode cX12_tear 5 = .ok (.ifCond .eq 12, 3) := by decide +kernel
theorem dX12_tear_8 : decode cX12_tear 8 = .ok (.iload_n 2, 1) := by decide +kernel
theorem dX12_tear_9 : decode cX12_tear 9 = .ok (.ifCond .lt 8, 3) := by decide +kernel
theorem dX12_tear_12 : decode cX12_tear 12 = .ok (.iload_n 2, 1) := by decide +kernel
theorem dX12_tear_13 : decode cX12_tear 13 = .ok (.iconst 1, 1) := by decide +kernel
theorem dX12_tear_14 : decode cX12_tear 14 = .ok (.if_icmp .le 5, 3) := by decide +kernel
theorem dX12_unmade_89 : decode cX12_unmade 89 = .ok (.return_, 1) := by decide +kernel
theorem dX12_unmade_66 : decode cX12_unmade 66 = .ok (.iload 4, 2) := by decide +kernel
theorem dX12_unmade_68 : decode cX12_unmade 68 = .ok (.bipush 7, 2) := by decide +kernel
theorem dX12_unmade_70 : decode cX12_unmade 70 = .ok (.if_icmp .ge 19, 3) := by decide +kernel
theorem dX12_unmade_73 : decode cX12_unmade 73 = .ok (.aload_n 0, 1) := by decide +kernel
theorem dX12_unmade_74 : decode cX12_unmade 74 = .ok (.getfield 10, 3) := by decide +kernel
theorem dX12_unmade_77 : decode cX12_unmade 77 = .ok (.iload_n 3, 1) := by decide +kernel
theorem dX12_unmade_78 : decode cX12_unmade 78 = .ok (.iload 4, 2) := by decide +kernel
theorem dX12_unmade_80 : decode cX12_unmade 80 = .ok (.iadd, 1) := by decide +kernel
theorem dX12_unmade_81 : decode cX12_unmade 81 = .ok (.iconst (-1), 1) := by decide +kernel
theorem dX12_unmade_82 : decode cX12_unmade 82 = .ok (.iastore, 1) := by decide +kernel
theorem dX12_unmade_83 : decode cX12_unmade 83 = .ok (.iinc 4 1, 3) := by decide +kernel
theorem dX12_unmade_86 : decode cX12_unmade 86 = .ok (.goto (-20), 3) := by decide +kernel
theorem dX12_unmade_46 : decode cX12_unmade 46 = .ok (.aload_n 0, 1) := by decide +kernel
theorem dX12_unmade_47 : decode cX12_unmade 47 = .ok (.getfield 10, 3) := by decide +kernel
theorem dX12_unmade_50 : decode cX12_unmade 50 = .ok (.iload_n 3, 1) := by decide +kernel
theorem dX12_unmade_51 : decode cX12_unmade 51 = .ok (.iconst 0, 1) := by decide +kernel
theorem dX12_unmade_52 : decode cX12_unmade 52 = .ok (.iastore, 1) := by decide +kernel
theorem dX12_unmade_53 : decode cX12_unmade 53 = .ok (.aload_n 0, 1) := by decide +kernel
theorem dX12_unmade_54 : decode cX12_unmade 54 = .ok (.getfield 10, 3) := by decide +kernel
theorem dX12_unmade_57 : decode cX12_unmade 57 = .ok (.iload_n 3, 1) := by decide +kernel
theorem dX12_unmade_58 : decode cX12_unmade 58 = .ok (.bipush 11, 2) := by decide +kernel
theorem dX12_unmade_60 : decode cX12_unmade 60 = .ok (.iadd, 1) := by decide +kernel
theorem dX12_unmade_61 : decode cX12_unmade 61 = .ok (.iconst (-1), 1) := by decide +kernel
theorem dX12_unmade_62 : decode cX12_unmade 62 = .ok (.iastore, 1) := by decide +kernel
theorem dX12_unmade_63 : decode cX12_unmade 63 = .ok (.iconst 4, 1) := by decide +kernel
theorem dX12_unmade_64 : decode cX12_unmade 64 = .ok (.istore 4, 2) := by decide +kernel
theorem dX12_unmade_32 : decode cX12_unmade 32 = .ok (.aload_n 0, 1) := by decide +kernel
theorem dX12_unmade_33 : decode cX12_unmade 33 = .ok (.getfield 10, 3) := by decide +kernel
theorem dX12_unmade_36 : decode cX12_unmade 36 = .ok (.iload_n 3, 1) := by decide +kernel
theorem dX12_unmade_37 : decode cX12_unmade 37 = .ok (.bipush 11, 2) := by decide +kernel
theorem dX12_unmade_39 : decode cX12_unmade 39 = .ok (.iadd, 1) := by decide +kernel
theorem dX12_unmade_40 : decode cX12_unmade 40 = .ok (.iaload, 1) := by decide +kernel
theorem dX12_unmade_41 : decode cX12_unmade 41 = .ok (.iload_n 2, 1) := by decide +kernel
theorem dX12_unmade_42 : decode cX12_unmade 42 = .ok (.if_icmp .eq 4, 3) := by decide +kernel
theorem dX12_unmade_45 : decode cX12_unmade 45 = .ok (.return_, 1) := by decide +kernel
theorem dX12_unmade_0 : decode cX12_unmade 0 = .ok (.sipush 9552, 3) := by decide +kernel
theorem dX12_unmade_3 : decode cX12_unmade 3 = .ok (.bipush 12, 2) := by decide +kernel
theorem dX12_unmade_5 : decode cX12_unmade 5 = .ok (.iload_n 1, 1) := by decide +kernel
theorem dX12_unmade_6 : decode cX12_unmade 6 = .ok (.imul, 1) := by decide +kernel
theorem dX12_unmade_7 : decode cX12_unmade 7 = .ok (.iadd, 1) := by decide +kernel
theorem dX12_unmade_8 : decode cX12_unmade 8 = .ok (.istore_n 3, 1) := by decide +kernel
theorem dX12_unmade_9 : decode cX12_unmade 9 = .ok (.aload_n 0, 1) := by decide +kernel
theorem dX12_unmade_10 : decode cX12_unmade 10 = .ok (.getfield 10, 3) := by decide +kernel
theorem dX12_unmade_13 : decode cX12_unmade 13 = .ok (.iload_n 3, 1) := by decide +kernel
theorem dX12_unmade_14 : decode cX12_unmade 14 = .ok (.bipush 10, 2) := by decide +kernel
theorem dX12_unmade_16 : decode cX12_unmade 16 = .ok (.iadd, 1) := by decide +kernel
theorem dX12_unmade_17 : decode cX12_unmade 17 = .ok (.iaload, 1) := by decide +kernel
theorem dX12_unmade_18 : decode cX12_unmade 18 = .ok (.iload_n 2, 1) := by decide +kernel
theorem dX12_unmade_19 : decode cX12_unmade 19 = .ok (.if_icmp .ne 13, 3) := by decide +kernel
theorem dX12_unmade_22 : decode cX12_unmade 22 = .ok (.aload_n 0, 1) := by decide +kernel
theorem dX12_unmade_23 : decode cX12_unmade 23 = .ok (.getfield 10, 3) := by decide +kernel
theorem dX12_unmade_26 : decode cX12_unmade 26 = .ok (.iload_n 3, 1) := by decide +kernel
theorem dX12_unmade_27 : decode cX12_unmade 27 = .ok (.bipush 10, 2) := by decide +kernel
theorem dX12_unmade_29 : decode cX12_unmade 29 = .ok (.iadd, 1) := by decide +kernel
theorem dX12_unmade_30 : decode cX12_unmade 30 = .ok (.iconst (-1), 1) := by decide +kernel
theorem dX12_unmade_31 : decode cX12_unmade 31 = .ok (.iastore, 1) := by decide +kernel
theorem dX12_undo_420 : decode cX12_undo 420 = .ok (.aload_n 0, 1) := by decide +kernel
theorem dX12_undo_421 : decode cX12_undo 421 = .ok (.getfield 10, 3) := by decide +kernel
theorem dX12_undo_424 : decode cX12_undo 424 = .ok (.iconst 5, 1) := by decide +kernel
theorem dX12_undo_425 : decode cX12_undo 425 = .ok (.dup2, 1) := by decide +kernel
theorem dX12_undo_426 : decode cX12_undo 426 = .ok (.iaload, 1) := by decide +kernel
theorem dX12_undo_427 : decode cX12_undo 427 = .ok (.iconst 1, 1) := by decide +kernel
theorem dX12_undo_428 : decode cX12_undo 428 = .ok (.isub, 1) := by decide +kernel
theorem dX12_undo_429 : decode cX12_undo 429 = .ok (.iastore, 1) := by decide +kernel
theorem dX12_undo_430 : decode cX12_undo 430 = .ok (.aload_n 0, 1) := by decide +kernel
theorem dX12_undo_431 : decode cX12_undo 431 = .ok (.getfield 10, 3) := by decide +kernel
theorem dX12_undo_434 : decode cX12_undo 434 = .ok (.iconst 5, 1) := by decide +kernel
theorem dX12_undo_435 : decode cX12_undo 435 = .ok (.iaload, 1) := by decide +kernel
theorem dX12_undo_436 : decode cX12_undo 436 = .ok (.ireturn, 1) := by decide +kernel
theorem dX12_undo_382 : decode cX12_undo 382 = .ok (.aload_n 0, 1) := by decide +kernel
theorem dX12_undo_383 : decode cX12_undo 383 = .ok (.getfield 10, 3) := by decide +kernel
theorem dX12_undo_386 : decode cX12_undo 386 = .ok (.iconst 3, 1) := by decide +kernel
theorem dX12_undo_387 : decode cX12_undo 387 = .ok (.iaload, 1) := by decide +kernel
theorem dX12_undo_388 : decode cX12_undo 388 = .ok (.ifCond .le 32, 3) := by decide +kernel
theorem dX12_undo_391 : decode cX12_undo 391 = .ok (.aload_n 0, 1) := by decide +kernel
theorem dX12_undo_392 : decode cX12_undo 392 = .ok (.aload_n 0, 1) := by decide +kernel
theorem dX12_undo_393 : decode cX12_undo 393 = .ok (.getfield 10, 3) := by decide +kernel
theorem dX12_undo_396 : decode cX12_undo 396 = .ok (.iconst 3, 1) := by decide +kernel
theorem dX12_undo_397 : decode cX12_undo 397 = .ok (.iaload, 1) := by decide +kernel
theorem dX12_undo_398 : decode cX12_undo 398 = .ok (.iconst 1, 1) := by decide +kernel
theorem dX12_undo_399 : decode cX12_undo 399 = .ok (.isub, 1) := by decide +kernel
theorem dX12_undo_400 : decode cX12_undo 400 = .ok (.invokevirtual 138, 3) := by decide +kernel
theorem dX12_undo_403 : decode cX12_undo 403 = .ok (.iconst (-1), 1) := by decide +kernel
theorem dX12_undo_404 : decode cX12_undo 404 = .ok (.if_icmp .ne 16, 3) := by decide +kernel
theorem dX12_undo_407 : decode cX12_undo 407 = .ok (.aload_n 0, 1) := by decide +kernel
theorem dX12_undo_408 : decode cX12_undo 408 = .ok (.getfield 10, 3) := by decide +kernel
theorem dX12_undo_411 : decode cX12_undo 411 = .ok (.iconst 3, 1) := by decide +kernel
theorem dX12_undo_412 : decode cX12_undo 412 = .ok (.dup2, 1) := by decide +kernel
theorem dX12_undo_413 : decode cX12_undo 413 = .ok (.iaload, 1) := by decide +kernel
theorem dX12_undo_414 : decode cX12_undo 414 = .ok (.iconst 1, 1) := by decide +kernel
theorem dX12_undo_415 : decode cX12_undo 415 = .ok (.isub, 1) := by decide +kernel
theorem dX12_undo_416 : decode cX12_undo 416 = .ok (.iastore, 1) := by decide +kernel
theorem dX12_undo_417 : decode cX12_undo 417 = .ok (.goto (-35), 3) := by decide +kernel
theorem dX12_undo_343 : decode cX12_undo 343 = .ok (.aload_n 0, 1) := by decide +kernel
theorem dX12_undo_344 : decode cX12_undo 344 = .ok (.getfield 10, 3) := by decide +kernel
theorem dX12_undo_347 : decode cX12_undo 347 = .ok (.iload_n 2, 1) := by decide +kernel
theorem dX12_undo_348 : decode cX12_undo 348 = .ok (.bipush 6, 2) := by decide +kernel
theorem dX12_undo_350 : decode cX12_undo 350 = .ok (.iadd, 1) := by decide +kernel
theorem dX12_undo_351 : decode cX12_undo 351 = .ok (.iaload, 1) := by decide +kernel
theorem dX12_undo_352 : decode cX12_undo 352 = .ok (.iconst (-1), 1) := by decide +kernel
theorem dX12_undo_353 : decode cX12_undo 353 = .ok (.if_icmp .eq 29, 3) := by decide +kernel
theorem dX12_undo_356 : decode cX12_undo 356 = .ok (.aload_n 0, 1) := by decide +kernel
theorem dX12_undo_357 : decode cX12_undo 357 = .ok (.getfield 10, 3) := by decide +kernel
theorem dX12_undo_360 : decode cX12_undo 360 = .ok (.sipush 7528, 3) := by decide +kernel
theorem dX12_undo_363 : decode cX12_undo 363 = .ok (.aload_n 0, 1) := by decide +kernel
theorem dX12_undo_364 : decode cX12_undo 364 = .ok (.getfield 10, 3) := by decide +kernel
theorem dX12_undo_367 : decode cX12_undo 367 = .ok (.iload_n 2, 1) := by decide +kernel
theorem dX12_undo_368 : decode cX12_undo 368 = .ok (.iconst 2, 1) := by decide +kernel
theorem dX12_undo_369 : decode cX12_undo 369 = .ok (.iadd, 1) := by decide +kernel
theorem dX12_undo_370 : decode cX12_undo 370 = .ok (.iaload, 1) := by decide +kernel
theorem dX12_undo_371 : decode cX12_undo 371 = .ok (.iadd, 1) := by decide +kernel
theorem dX12_undo_372 : decode cX12_undo 372 = .ok (.aload_n 0, 1) := by decide +kernel
theorem dX12_undo_373 : decode cX12_undo 373 = .ok (.getfield 10, 3) := by decide +kernel
theorem dX12_undo_376 : decode cX12_undo 376 = .ok (.iload_n 2, 1) := by decide +kernel
theorem dX12_undo_377 : decode cX12_undo 377 = .ok (.bipush 6, 2) := by decide +kernel
theorem dX12_undo_379 : decode cX12_undo 379 = .ok (.iadd, 1) := by decide +kernel
theorem dX12_undo_380 : decode cX12_undo 380 = .ok (.iaload, 1) := by decide +kernel
theorem dX12_undo_381 : decode cX12_undo 381 = .ok (.iastore, 1) := by decide +kernel
theorem dX12_undo_337 : decode cX12_undo 337 = .ok (.iinc 3 1, 3) := by decide +kernel
theorem dX12_undo_340 : decode cX12_undo 340 = .ok (.goto (-38), 3) := by decide +kernel
theorem dX12_undo_302 : decode cX12_undo 302 = .ok (.iload_n 3, 1) := by decide +kernel
theorem dX12_undo_303 : decode cX12_undo 303 = .ok (.aload_n 0, 1) := by decide +kernel
theorem dX12_undo_304 : decode cX12_undo 304 = .ok (.getfield 10, 3) := by decide +kernel
theorem dX12_undo_307 : decode cX12_undo 307 = .ok (.iconst 2, 1) := by decide +kernel
theorem dX12_undo_308 : decode cX12_undo 308 = .ok (.iaload, 1) := by decide +kernel
theorem dX12_undo_309 : decode cX12_undo 309 = .ok (.if_icmp .ge 34, 3) := by decide +kernel
theorem dX12_undo_312 : decode cX12_undo 312 = .ok (.aload_n 0, 1) := by decide +kernel
theorem dX12_undo_313 : decode cX12_undo 313 = .ok (.getfield 10, 3) := by decide +kernel
theorem dX12_undo_316 : decode cX12_undo 316 = .ok (.sipush 7520, 3) := by decide +kernel
theorem dX12_undo_319 : decode cX12_undo 319 = .ok (.iload_n 3, 1) := by decide +kernel
theorem dX12_undo_320 : decode cX12_undo 320 = .ok (.iadd, 1) := by decide +kernel
theorem dX12_undo_321 : decode cX12_undo 321 = .ok (.iaload, 1) := by decide +kernel
theorem dX12_undo_322 : decode cX12_undo 322 = .ok (.iload_n 1, 1) := by decide +kernel
theorem dX12_undo_323 : decode cX12_undo 323 = .ok (.if_icmp .ne 14, 3) := by decide +kernel
theorem dX12_undo_326 : decode cX12_undo 326 = .ok (.aload_n 0, 1) := by decide +kernel
theorem dX12_undo_327 : decode cX12_undo 327 = .ok (.getfield 10, 3) := by decide +kernel
theorem dX12_undo_330 : decode cX12_undo 330 = .ok (.sipush 7520, 3) := by decide +kernel
theorem dX12_undo_333 : decode cX12_undo 333 = .ok (.iload_n 3, 1) := by decide +kernel
theorem dX12_undo_334 : decode cX12_undo 334 = .ok (.iadd, 1) := by decide +kernel
theorem dX12_undo_335 : decode cX12_undo 335 = .ok (.iconst (-1), 1) := by decide +kernel
theorem dX12_undo_336 : decode cX12_undo 336 = .ok (.iastore, 1) := by decide +kernel
theorem dX12_undo_300 : decode cX12_undo 300 = .ok (.iconst 0, 1) := by decide +kernel
theorem dX12_undo_301 : decode cX12_undo 301 = .ok (.istore_n 3, 1) := by decide +kernel
theorem dX12_undo_278 : decode cX12_undo 278 = .ok (.iload_n 3, 1) := by decide +kernel
theorem dX12_undo_279 : decode cX12_undo 279 = .ok (.aload_n 0, 1) := by decide +kernel
theorem dX12_undo_280 : decode cX12_undo 280 = .ok (.getfield 10, 3) := by decide +kernel
theorem dX12_undo_283 : decode cX12_undo 283 = .ok (.iconst 4, 1) := by decide +kernel
theorem dX12_undo_284 : decode cX12_undo 284 = .ok (.iaload, 1) := by decide +kernel
theorem dX12_undo_285 : decode cX12_undo 285 = .ok (.if_icmp .ge 15, 3) := by decide +kernel
theorem dX12_undo_288 : decode cX12_undo 288 = .ok (.aload_n 0, 1) := by decide +kernel
theorem dX12_undo_289 : decode cX12_undo 289 = .ok (.iload_n 3, 1) := by decide +kernel
theorem dX12_undo_290 : decode cX12_undo 290 = .ok (.iload_n 1, 1) := by decide +kernel
theorem dX12_undo_291 : decode cX12_undo 291 = .ok (.invokevirtual 269, 3) := by decide +kernel
theorem dX12_undo_294 : decode cX12_undo 294 = .ok (.iinc 3 1, 3) := by decide +kernel
theorem dX12_undo_297 : decode cX12_undo 297 = .ok (.goto (-19), 3) := by decide +kernel
theorem dX12_undo_276 : decode cX12_undo 276 = .ok (.iconst 0, 1) := by decide +kernel
theorem dX12_undo_277 : decode cX12_undo 277 = .ok (.istore_n 3, 1) := by decide +kernel
theorem dX12_undo_236 : decode cX12_undo 236 = .ok (.aload_n 0, 1) := by decide +kernel
theorem dX12_undo_237 : decode cX12_undo 237 = .ok (.getfield 10, 3) := by decide +kernel
theorem dX12_undo_240 : decode cX12_undo 240 = .ok (.iconst 4, 1) := by decide +kernel
theorem dX12_undo_241 : decode cX12_undo 241 = .ok (.iaload, 1) := by decide +kernel
theorem dX12_undo_242 : decode cX12_undo 242 = .ok (.ifCond .le 34, 3) := by decide +kernel
theorem dX12_undo_245 : decode cX12_undo 245 = .ok (.aload_n 0, 1) := by decide +kernel
theorem dX12_undo_246 : decode cX12_undo 246 = .ok (.aload_n 0, 1) := by decide +kernel
theorem dX12_undo_247 : decode cX12_undo 247 = .ok (.getfield 10, 3) := by decide +kernel
theorem dX12_undo_250 : decode cX12_undo 250 = .ok (.iconst 4, 1) := by decide +kernel
theorem dX12_undo_251 : decode cX12_undo 251 = .ok (.iaload, 1) := by decide +kernel
theorem dX12_undo_252 : decode cX12_undo 252 = .ok (.iconst 1, 1) := by decide +kernel
theorem dX12_undo_253 : decode cX12_undo 253 = .ok (.isub, 1) := by decide +kernel
theorem dX12_undo_254 : decode cX12_undo 254 = .ok (.bipush 9, 2) := by decide +kernel
theorem dX12_undo_256 : decode cX12_undo 256 = .ok (.invokevirtual 174, 3) := by decide +kernel
theorem dX12_undo_259 : decode cX12_undo 259 = .ok (.iload_n 1, 1) := by decide +kernel
theorem dX12_undo_260 : decode cX12_undo 260 = .ok (.if_icmp .ne 16, 3) := by decide +kernel
theorem dX12_undo_263 : decode cX12_undo 263 = .ok (.aload_n 0, 1) := by decide +kernel
theorem dX12_undo_264 : decode cX12_undo 264 = .ok (.getfield 10, 3) := by decide +kernel
theorem dX12_undo_267 : decode cX12_undo 267 = .ok (.iconst 4, 1) := by decide +kernel
theorem dX12_undo_268 : decode cX12_undo 268 = .ok (.dup2, 1) := by decide +kernel
theorem dX12_undo_269 : decode cX12_undo 269 = .ok (.iaload, 1) := by decide +kernel
theorem dX12_undo_270 : decode cX12_undo 270 = .ok (.iconst 1, 1) := by decide +kernel
theorem dX12_undo_271 : decode cX12_undo 271 = .ok (.isub, 1) := by decide +kernel
theorem dX12_undo_272 : decode cX12_undo 272 = .ok (.iastore, 1) := by decide +kernel
theorem dX12_undo_273 : decode cX12_undo 273 = .ok (.goto (-37), 3) := by decide +kernel
theorem dX12_undo_230 : decode cX12_undo 230 = .ok (.iinc 3 1, 3) := by decide +kernel
theorem dX12_undo_233 : decode cX12_undo 233 = .ok (.goto (-47), 3) := by decide +kernel
theorem dX12_undo_186 : decode cX12_undo 186 = .ok (.iload_n 3, 1) := by decide +kernel
theorem dX12_undo_187 : decode cX12_undo 187 = .ok (.aload_n 0, 1) := by decide +kernel
theorem dX12_undo_188 : decode cX12_undo 188 = .ok (.getfield 10, 3) := by decide +kernel
theorem dX12_undo_191 : decode cX12_undo 191 = .ok (.bipush 7, 2) := by decide +kernel
theorem dX12_undo_193 : decode cX12_undo 193 = .ok (.iaload, 1) := by decide +kernel
theorem dX12_undo_194 : decode cX12_undo 194 = .ok (.if_icmp .ge 42, 3) := by decide +kernel
theorem dX12_undo_197 : decode cX12_undo 197 = .ok (.aload_n 0, 1) := by decide +kernel
theorem dX12_undo_198 : decode cX12_undo 198 = .ok (.getfield 10, 3) := by decide +kernel
theorem dX12_undo_201 : decode cX12_undo 201 = .ok (.sipush 7552, 3) := by decide +kernel
theorem dX12_undo_204 : decode cX12_undo 204 = .ok (.iconst 5, 1) := by decide +kernel
theorem dX12_undo_205 : decode cX12_undo 205 = .ok (.iload_n 3, 1) := by decide +kernel
theorem dX12_undo_206 : decode cX12_undo 206 = .ok (.imul, 1) := by decide +kernel
theorem dX12_undo_207 : decode cX12_undo 207 = .ok (.iadd, 1) := by decide +kernel
theorem dX12_undo_208 : decode cX12_undo 208 = .ok (.iconst 4, 1) := by decide +kernel
theorem dX12_undo_209 : decode cX12_undo 209 = .ok (.iadd, 1) := by decide +kernel
theorem dX12_undo_210 : decode cX12_undo 210 = .ok (.iaload, 1) := by decide +kernel
theorem dX12_undo_211 : decode cX12_undo 211 = .ok (.iload_n 1, 1) := by decide +kernel
theorem dX12_undo_212 : decode cX12_undo 212 = .ok (.if_icmp .ne 18, 3) := by decide +kernel
theorem dX12_undo_215 : decode cX12_undo 215 = .ok (.aload_n 0, 1) := by decide +kernel
theorem dX12_undo_216 : decode cX12_undo 216 = .ok (.getfield 10, 3) := by decide +kernel
theorem dX12_undo_219 : decode cX12_undo 219 = .ok (.sipush 7552, 3) := by decide +kernel
theorem dX12_undo_222 : decode cX12_undo 222 = .ok (.iconst 5, 1) := by decide +kernel
theorem dX12_undo_223 : decode cX12_undo 223 = .ok (.iload_n 3, 1) := by decide +kernel
theorem dX12_undo_224 : decode cX12_undo 224 = .ok (.imul, 1) := by decide +kernel
theorem dX12_undo_225 : decode cX12_undo 225 = .ok (.iadd, 1) := by decide +kernel
theorem dX12_undo_226 : decode cX12_undo 226 = .ok (.iconst 4, 1) := by decide +kernel
theorem dX12_undo_227 : decode cX12_undo 227 = .ok (.iadd, 1) := by decide +kernel
theorem dX12_undo_228 : decode cX12_undo 228 = .ok (.iconst (-1), 1) := by decide +kernel
theorem dX12_undo_229 : decode cX12_undo 229 = .ok (.iastore, 1) := by decide +kernel
theorem dX12_undo_184 : decode cX12_undo 184 = .ok (.iconst 0, 1) := by decide +kernel
theorem dX12_undo_185 : decode cX12_undo 185 = .ok (.istore_n 3, 1) := by decide +kernel
theorem dX12_undo_134 : decode cX12_undo 134 = .ok (.aload_n 0, 1) := by decide +kernel
theorem dX12_undo_135 : decode cX12_undo 135 = .ok (.getfield 10, 3) := by decide +kernel
theorem dX12_undo_138 : decode cX12_undo 138 = .ok (.bipush 7, 2) := by decide +kernel
theorem dX12_undo_140 : decode cX12_undo 140 = .ok (.iaload, 1) := by decide +kernel
theorem dX12_undo_141 : decode cX12_undo 141 = .ok (.ifCond .le 43, 3) := by decide +kernel
theorem dX12_undo_144 : decode cX12_undo 144 = .ok (.aload_n 0, 1) := by decide +kernel
theorem dX12_undo_145 : decode cX12_undo 145 = .ok (.getfield 10, 3) := by decide +kernel
theorem dX12_undo_148 : decode cX12_undo 148 = .ok (.sipush 7552, 3) := by decide +kernel
theorem dX12_undo_151 : decode cX12_undo 151 = .ok (.iconst 5, 1) := by decide +kernel
theorem dX12_undo_152 : decode cX12_undo 152 = .ok (.aload_n 0, 1) := by decide +kernel
theorem dX12_undo_153 : decode cX12_undo 153 = .ok (.getfield 10, 3) := by decide +kernel
theorem dX12_undo_156 : decode cX12_undo 156 = .ok (.bipush 7, 2) := by decide +kernel
theorem dX12_undo_158 : decode cX12_undo 158 = .ok (.iaload, 1) := by decide +kernel
theorem dX12_undo_159 : decode cX12_undo 159 = .ok (.iconst 1, 1) := by decide +kernel
theorem dX12_undo_160 : decode cX12_undo 160 = .ok (.isub, 1) := by decide +kernel
theorem dX12_undo_161 : decode cX12_undo 161 = .ok (.imul, 1) := by decide +kernel
theorem dX12_undo_162 : decode cX12_undo 162 = .ok (.iadd, 1) := by decide +kernel
theorem dX12_undo_163 : decode cX12_undo 163 = .ok (.iconst 3, 1) := by decide +kernel
theorem dX12_undo_164 : decode cX12_undo 164 = .ok (.iadd, 1) := by decide +kernel
theorem dX12_undo_165 : decode cX12_undo 165 = .ok (.iaload, 1) := by decide +kernel
theorem dX12_undo_166 : decode cX12_undo 166 = .ok (.iload_n 1, 1) := by decide +kernel
theorem dX12_undo_167 : decode cX12_undo 167 = .ok (.if_icmp .ne 17, 3) := by decide +kernel
theorem dX12_undo_170 : decode cX12_undo 170 = .ok (.aload_n 0, 1) := by decide +kernel
theorem dX12_undo_171 : decode cX12_undo 171 = .ok (.getfield 10, 3) := by decide +kernel
theorem dX12_undo_174 : decode cX12_undo 174 = .ok (.bipush 7, 2) := by decide +kernel
theorem dX12_undo_176 : decode cX12_undo 176 = .ok (.dup2, 1) := by decide +kernel
theorem dX12_undo_177 : decode cX12_undo 177 = .ok (.iaload, 1) := by decide +kernel
theorem dX12_undo_178 : decode cX12_undo 178 = .ok (.iconst 1, 1) := by decide +kernel
theorem dX12_undo_179 : decode cX12_undo 179 = .ok (.isub, 1) := by decide +kernel
theorem dX12_undo_180 : decode cX12_undo 180 = .ok (.iastore, 1) := by decide +kernel
theorem dX12_undo_181 : decode cX12_undo 181 = .ok (.goto (-47), 3) := by decide +kernel
theorem dX12_undo_128 : decode cX12_undo 128 = .ok (.iinc 3 1, 3) := by decide +kernel
theorem dX12_undo_131 : decode cX12_undo 131 = .ok (.goto (-49), 3) := by decide +kernel
theorem dX12_undo_82 : decode cX12_undo 82 = .ok (.iload_n 3, 1) := by decide +kernel
theorem dX12_undo_83 : decode cX12_undo 83 = .ok (.aload_n 0, 1) := by decide +kernel
theorem dX12_undo_84 : decode cX12_undo 84 = .ok (.getfield 10, 3) := by decide +kernel
theorem dX12_undo_87 : decode cX12_undo 87 = .ok (.bipush 6, 2) := by decide +kernel
theorem dX12_undo_89 : decode cX12_undo 89 = .ok (.iaload, 1) := by decide +kernel
theorem dX12_undo_90 : decode cX12_undo 90 = .ok (.if_icmp .ge 44, 3) := by decide +kernel
theorem dX12_undo_93 : decode cX12_undo 93 = .ok (.aload_n 0, 1) := by decide +kernel
theorem dX12_undo_94 : decode cX12_undo 94 = .ok (.getfield 10, 3) := by decide +kernel
theorem dX12_undo_97 : decode cX12_undo 97 = .ok (.sipush 10752, 3) := by decide +kernel
theorem dX12_undo_100 : decode cX12_undo 100 = .ok (.bipush 6, 2) := by decide +kernel
theorem dX12_undo_102 : decode cX12_undo 102 = .ok (.iload_n 3, 1) := by decide +kernel
theorem dX12_undo_103 : decode cX12_undo 103 = .ok (.imul, 1) := by decide +kernel
theorem dX12_undo_104 : decode cX12_undo 104 = .ok (.iadd, 1) := by decide +kernel
theorem dX12_undo_105 : decode cX12_undo 105 = .ok (.iconst 5, 1) := by decide +kernel
theorem dX12_undo_106 : decode cX12_undo 106 = .ok (.iadd, 1) := by decide +kernel
theorem dX12_undo_107 : decode cX12_undo 107 = .ok (.iaload, 1) := by decide +kernel
theorem dX12_undo_108 : decode cX12_undo 108 = .ok (.iload_n 1, 1) := by decide +kernel
theorem dX12_undo_109 : decode cX12_undo 109 = .ok (.if_icmp .ne 19, 3) := by decide +kernel
theorem dX12_undo_112 : decode cX12_undo 112 = .ok (.aload_n 0, 1) := by decide +kernel
theorem dX12_undo_113 : decode cX12_undo 113 = .ok (.getfield 10, 3) := by decide +kernel
theorem dX12_undo_116 : decode cX12_undo 116 = .ok (.sipush 10752, 3) := by decide +kernel
theorem dX12_undo_119 : decode cX12_undo 119 = .ok (.bipush 6, 2) := by decide +kernel
theorem dX12_undo_121 : decode cX12_undo 121 = .ok (.iload_n 3, 1) := by decide +kernel
theorem dX12_undo_122 : decode cX12_undo 122 = .ok (.imul, 1) := by decide +kernel
theorem dX12_undo_123 : decode cX12_undo 123 = .ok (.iadd, 1) := by decide +kernel
theorem dX12_undo_124 : decode cX12_undo 124 = .ok (.iconst 5, 1) := by decide +kernel
theorem dX12_undo_125 : decode cX12_undo 125 = .ok (.iadd, 1) := by decide +kernel
theorem dX12_undo_126 : decode cX12_undo 126 = .ok (.iconst (-1), 1) := by decide +kernel
theorem dX12_undo_127 : decode cX12_undo 127 = .ok (.iastore, 1) := by decide +kernel
theorem dX12_undo_80 : decode cX12_undo 80 = .ok (.iconst 0, 1) := by decide +kernel
theorem dX12_undo_81 : decode cX12_undo 81 = .ok (.istore_n 3, 1) := by decide +kernel
theorem dX12_undo_29 : decode cX12_undo 29 = .ok (.aload_n 0, 1) := by decide +kernel
theorem dX12_undo_30 : decode cX12_undo 30 = .ok (.getfield 10, 3) := by decide +kernel
theorem dX12_undo_33 : decode cX12_undo 33 = .ok (.bipush 6, 2) := by decide +kernel
theorem dX12_undo_35 : decode cX12_undo 35 = .ok (.iaload, 1) := by decide +kernel
theorem dX12_undo_36 : decode cX12_undo 36 = .ok (.ifCond .le 44, 3) := by decide +kernel
theorem dX12_undo_39 : decode cX12_undo 39 = .ok (.aload_n 0, 1) := by decide +kernel
theorem dX12_undo_40 : decode cX12_undo 40 = .ok (.getfield 10, 3) := by decide +kernel
theorem dX12_undo_43 : decode cX12_undo 43 = .ok (.sipush 10752, 3) := by decide +kernel
theorem dX12_undo_46 : decode cX12_undo 46 = .ok (.bipush 6, 2) := by decide +kernel
theorem dX12_undo_48 : decode cX12_undo 48 = .ok (.aload_n 0, 1) := by decide +kernel
theorem dX12_undo_49 : decode cX12_undo 49 = .ok (.getfield 10, 3) := by decide +kernel
theorem dX12_undo_52 : decode cX12_undo 52 = .ok (.bipush 6, 2) := by decide +kernel
theorem dX12_undo_54 : decode cX12_undo 54 = .ok (.iaload, 1) := by decide +kernel
theorem dX12_undo_55 : decode cX12_undo 55 = .ok (.iconst 1, 1) := by decide +kernel
theorem dX12_undo_56 : decode cX12_undo 56 = .ok (.isub, 1) := by decide +kernel
theorem dX12_undo_57 : decode cX12_undo 57 = .ok (.imul, 1) := by decide +kernel
theorem dX12_undo_58 : decode cX12_undo 58 = .ok (.iadd, 1) := by decide +kernel
theorem dX12_undo_59 : decode cX12_undo 59 = .ok (.iconst 4, 1) := by decide +kernel
theorem dX12_undo_60 : decode cX12_undo 60 = .ok (.iadd, 1) := by decide +kernel
theorem dX12_undo_61 : decode cX12_undo 61 = .ok (.iaload, 1) := by decide +kernel
theorem dX12_undo_62 : decode cX12_undo 62 = .ok (.iload_n 1, 1) := by decide +kernel
theorem dX12_undo_63 : decode cX12_undo 63 = .ok (.if_icmp .ne 17, 3) := by decide +kernel
theorem dX12_undo_66 : decode cX12_undo 66 = .ok (.aload_n 0, 1) := by decide +kernel
theorem dX12_undo_67 : decode cX12_undo 67 = .ok (.getfield 10, 3) := by decide +kernel
theorem dX12_undo_70 : decode cX12_undo 70 = .ok (.bipush 6, 2) := by decide +kernel
theorem dX12_undo_72 : decode cX12_undo 72 = .ok (.dup2, 1) := by decide +kernel
theorem dX12_undo_73 : decode cX12_undo 73 = .ok (.iaload, 1) := by decide +kernel
theorem dX12_undo_74 : decode cX12_undo 74 = .ok (.iconst 1, 1) := by decide +kernel
theorem dX12_undo_75 : decode cX12_undo 75 = .ok (.isub, 1) := by decide +kernel
theorem dX12_undo_76 : decode cX12_undo 76 = .ok (.iastore, 1) := by decide +kernel
theorem dX12_undo_77 : decode cX12_undo 77 = .ok (.goto (-48), 3) := by decide +kernel
theorem dX12_undo_11 : decode cX12_undo 11 = .ok (.aload_n 0, 1) := by decide +kernel
theorem dX12_undo_12 : decode cX12_undo 12 = .ok (.getfield 10, 3) := by decide +kernel
theorem dX12_undo_15 : decode cX12_undo 15 = .ok (.iconst 5, 1) := by decide +kernel
theorem dX12_undo_16 : decode cX12_undo 16 = .ok (.iaload, 1) := by decide +kernel
theorem dX12_undo_17 : decode cX12_undo 17 = .ok (.iconst 1, 1) := by decide +kernel
theorem dX12_undo_18 : decode cX12_undo 18 = .ok (.isub, 1) := by decide +kernel
theorem dX12_undo_19 : decode cX12_undo 19 = .ok (.istore_n 1, 1) := by decide +kernel
theorem dX12_undo_20 : decode cX12_undo 20 = .ok (.sipush 28752, 3) := by decide +kernel
theorem dX12_undo_23 : decode cX12_undo 23 = .ok (.bipush 7, 2) := by decide +kernel
theorem dX12_undo_25 : decode cX12_undo 25 = .ok (.iload_n 1, 1) := by decide +kernel
theorem dX12_undo_26 : decode cX12_undo 26 = .ok (.imul, 1) := by decide +kernel
theorem dX12_undo_27 : decode cX12_undo 27 = .ok (.iadd, 1) := by decide +kernel
theorem dX12_undo_28 : decode cX12_undo 28 = .ok (.istore_n 2, 1) := by decide +kernel
theorem dX12_undo_0 : decode cX12_undo 0 = .ok (.aload_n 0, 1) := by decide +kernel
theorem dX12_undo_1 : decode cX12_undo 1 = .ok (.getfield 10, 3) := by decide +kernel
theorem dX12_undo_4 : decode cX12_undo 4 = .ok (.iconst 5, 1) := by decide +kernel
theorem dX12_undo_5 : decode cX12_undo 5 = .ok (.iaload, 1) := by decide +kernel
theorem dX12_undo_6 : decode cX12_undo 6 = .ok (.ifCond .ne 5, 3) := by decide +kernel
theorem dX12_undo_9 : decode cX12_undo 9 = .ok (.iconst (-1), 1) := by decide +kernel
theorem dX12_undo_10 : decode cX12_undo 10 = .ok (.ireturn, 1) := by decide +kernel
theorem dX12_image_42 : decode cX12_image 42 = .ok (.aload_n 0, 1) := by decide +kernel
theorem dX12_image_43 : decode cX12_image 43 = .ok (.getfield 18, 3) := by decide +kernel
theorem dX12_image_46 : decode cX12_image 46 = .ok (.iload_n 1, 1) := by decide +kernel
theorem dX12_image_47 : decode cX12_image 47 = .ok (.iconst 1, 1) := by decide +kernel
theorem dX12_image_48 : decode cX12_image 48 = .ok (.bastore, 1) := by decide +kernel
theorem dX12_image_49 : decode cX12_image 49 = .ok (.iconst 1, 1) := by decide +kernel
theorem dX12_image_50 : decode cX12_image 50 = .ok (.ireturn, 1) := by decide +kernel
theorem dX12_image_13 : decode cX12_image 13 = .ok (.iload_n 2, 1) := by decide +kernel
theorem dX12_image_14 : decode cX12_image 14 = .ok (.ldc 9, 2) := by decide +kernel
theorem dX12_image_16 : decode cX12_image 16 = .ok (.if_icmp .ge 26, 3) := by decide +kernel
theorem dX12_image_19 : decode cX12_image 19 = .ok (.aload_n 0, 1) := by decide +kernel
theorem dX12_image_20 : decode cX12_image 20 = .ok (.getfield 15, 3) := by decide +kernel
theorem dX12_image_23 : decode cX12_image 23 = .ok (.ldc 9, 2) := by decide +kernel
theorem dX12_image_25 : decode cX12_image 25 = .ok (.iload_n 1, 1) := by decide +kernel
theorem dX12_image_26 : decode cX12_image 26 = .ok (.imul, 1) := by decide +kernel
theorem dX12_image_27 : decode cX12_image 27 = .ok (.iload_n 2, 1) := by decide +kernel
theorem dX12_image_28 : decode cX12_image 28 = .ok (.iadd, 1) := by decide +kernel
theorem dX12_image_29 : decode cX12_image 29 = .ok (.aload_n 0, 1) := by decide +kernel
theorem dX12_image_30 : decode cX12_image 30 = .ok (.getfield 10, 3) := by decide +kernel
theorem dX12_image_33 : decode cX12_image 33 = .ok (.iload_n 2, 1) := by decide +kernel
theorem dX12_image_34 : decode cX12_image 34 = .ok (.iaload, 1) := by decide +kernel
theorem dX12_image_35 : decode cX12_image 35 = .ok (.iastore, 1) := by decide +kernel
theorem dX12_image_36 : decode cX12_image 36 = .ok (.iinc 2 1, 3) := by decide +kernel
theorem dX12_image_39 : decode cX12_image 39 = .ok (.goto (-26), 3) := by decide +kernel
theorem dX12_image_11 : decode cX12_image 11 = .ok (.iconst 0, 1) := by decide +kernel
theorem dX12_image_12 : decode cX12_image 12 = .ok (.istore_n 2, 1) := by decide +kernel
theorem dX12_image_9 : decode cX12_image 9 = .ok (.iconst 0, 1) := by decide +kernel
theorem dX12_image_10 : decode cX12_image 10 = .ok (.ireturn, 1) := by decide +kernel
theorem dX12_image_0 : decode cX12_image 0 = .ok (.iload_n 1, 1) := by decide +kernel
theorem dX12_image_1 : decode cX12_image 1 = .ok (.ifCond .lt 8, 3) := by decide +kernel
theorem dX12_image_4 : decode cX12_image 4 = .ok (.iload_n 1, 1) := by decide +kernel
theorem dX12_image_5 : decode cX12_image 5 = .ok (.iconst 2, 1) := by decide +kernel
theorem dX12_image_6 : decode cX12_image 6 = .ok (.if_icmp .le 5, 3) := by decide +kernel
theorem dX12_back_51 : decode cX12_back 51 = .ok (.iconst 1, 1) := by decide +kernel
theorem dX12_back_52 : decode cX12_back 52 = .ok (.ireturn, 1) := by decide +kernel
theorem dX12_back_22 : decode cX12_back 22 = .ok (.iload_n 2, 1) := by decide +kernel
theorem dX12_back_23 : decode cX12_back 23 = .ok (.ldc 9, 2) := by decide +kernel
theorem dX12_back_25 : decode cX12_back 25 = .ok (.if_icmp .ge 26, 3) := by decide +kernel
theorem dX12_back_28 : decode cX12_back 28 = .ok (.aload_n 0, 1) := by decide +kernel
theorem dX12_back_29 : decode cX12_back 29 = .ok (.getfield 10, 3) := by decide +kernel
theorem dX12_back_32 : decode cX12_back 32 = .ok (.iload_n 2, 1) := by decide +kernel
theorem dX12_back_33 : decode cX12_back 33 = .ok (.aload_n 0, 1) := by decide +kernel
theorem dX12_back_34 : decode cX12_back 34 = .ok (.getfield 15, 3) := by decide +kernel
theorem dX12_back_37 : decode cX12_back 37 = .ok (.ldc 9, 2) := by decide +kernel
theorem dX12_back_39 : decode cX12_back 39 = .ok (.iload_n 1, 1) := by decide +kernel
theorem dX12_back_40 : decode cX12_back 40 = .ok (.imul, 1) := by decide +kernel
theorem dX12_back_41 : decode cX12_back 41 = .ok (.iload_n 2, 1) := by decide +kernel
theorem dX12_back_42 : decode cX12_back 42 = .ok (.iadd, 1) := by decide +kernel
theorem dX12_back_43 : decode cX12_back 43 = .ok (.iaload, 1) := by decide +kernel
theorem dX12_back_44 : decode cX12_back 44 = .ok (.iastore, 1) := by decide +kernel
theorem dX12_back_45 : decode cX12_back 45 = .ok (.iinc 2 1, 3) := by decide +kernel
theorem dX12_back_48 : decode cX12_back 48 = .ok (.goto (-26), 3) := by decide +kernel
theorem dX12_back_20 : decode cX12_back 20 = .ok (.iconst 0, 1) := by decide +kernel
theorem dX12_back_21 : decode cX12_back 21 = .ok (.istore_n 2, 1) := by decide +kernel
theorem dX12_back_18 : decode cX12_back 18 = .ok (.iconst 0, 1) := by decide +kernel
theorem dX12_back_19 : decode cX12_back 19 = .ok (.ireturn, 1) := by decide +kernel
theorem dX12_back_0 : decode cX12_back 0 = .ok (.iload_n 1, 1) := by decide +kernel
theorem dX12_back_1 : decode cX12_back 1 = .ok (.ifCond .lt 17, 3) := by decide +kernel
theorem dX12_back_4 : decode cX12_back 4 = .ok (.iload_n 1, 1) := by decide +kernel
theorem dX12_back_5 : decode cX12_back 5 = .ok (.iconst 2, 1) := by decide +kernel
theorem dX12_back_6 : decode cX12_back 6 = .ok (.if_icmp .gt 12, 3) := by decide +kernel
theorem dX12_back_9 : decode cX12_back 9 = .ok (.aload_n 0, 1) := by decide +kernel
theorem dX12_back_10 : decode cX12_back 10 = .ok (.getfield 18, 3) := by decide +kernel
theorem dX12_back_13 : decode cX12_back 13 = .ok (.iload_n 1, 1) := by decide +kernel
theorem dX12_back_14 : decode cX12_back 14 = .ok (.baload, 1) := by decide +kernel
theorem dX12_back_15 : decode cX12_back 15 = .ok (.ifCond .ne 5, 3) := by decide +kernel
theorem dX12_faulty_0 : decode cX12_faulty 0 = .ok (.aload_n 0, 1) := by decide +kernel
theorem dX12_faulty_1 : decode cX12_faulty 1 = .ok (.getfield 10, 3) := by decide +kernel
theorem dX12_faulty_4 : decode cX12_faulty 4 = .ok (.bipush 15, 2) := by decide +kernel
theorem dX12_faulty_6 : decode cX12_faulty 6 = .ok (.iload_n 1, 1) := by decide +kernel
theorem dX12_faulty_7 : decode cX12_faulty 7 = .ok (.iastore, 1) := by decide +kernel
theorem dX12_faulty_8 : decode cX12_faulty 8 = .ok (.iconst 0, 1) := by decide +kernel
theorem dX12_faulty_9 : decode cX12_faulty 9 = .ok (.ireturn, 1) := by decide +kernel
theorem dX12_word_83 : decode cX12_word 83 = .ok (.ireturn, 1) := by decide +kernel
theorem dX12_word_82 : decode cX12_word 82 = .ok (.iconst 0, 1) := by decide +kernel
theorem dX12_word_78 : decode cX12_word 78 = .ok (.iconst 1, 1) := by decide +kernel
theorem dX12_word_79 : decode cX12_word 79 = .ok (.goto 4, 3) := by decide +kernel
theorem dX12_word_63 : decode cX12_word 63 = .ok (.iload_n 3, 1) := by decide +kernel
theorem dX12_word_64 : decode cX12_word 64 = .ok (.ifCond .gt 14, 3) := by decide +kernel
theorem dX12_word_67 : decode cX12_word 67 = .ok (.aload_n 0, 1) := by decide +kernel
theorem dX12_word_68 : decode cX12_word 68 = .ok (.aload_n 0, 1) := by decide +kernel
theorem dX12_word_69 : decode cX12_word 69 = .ok (.getfield 75, 3) := by decide +kernel
theorem dX12_word_72 : decode cX12_word 72 = .ok (.invokevirtual 272, 3) := by decide +kernel
theorem dX12_word_75 : decode cX12_word 75 = .ok (.ifCond .eq 7, 3) := by decide +kernel
theorem dX12_word_31 : decode cX12_word 31 = .ok (.aload_n 1, 1) := by decide +kernel
theorem dX12_word_32 : decode cX12_word 32 = .ok (.bipush 12, 2) := by decide +kernel
theorem dX12_word_34 : decode cX12_word 34 = .ok (.iload_n 2, 1) := by decide +kernel
theorem dX12_word_35 : decode cX12_word 35 = .ok (.imul, 1) := by decide +kernel
theorem dX12_word_36 : decode cX12_word 36 = .ok (.iload_n 3, 1) := by decide +kernel
theorem dX12_word_37 : decode cX12_word 37 = .ok (.iadd, 1) := by decide +kernel
theorem dX12_word_38 : decode cX12_word 38 = .ok (.aload_n 0, 1) := by decide +kernel
theorem dX12_word_39 : decode cX12_word 39 = .ok (.aload_n 0, 1) := by decide +kernel
theorem dX12_word_40 : decode cX12_word 40 = .ok (.getfield 75, 3) := by decide +kernel
theorem dX12_word_43 : decode cX12_word 43 = .ok (.invokevirtual 106, 3) := by decide +kernel
theorem dX12_word_46 : decode cX12_word 46 = .ok (.iastore, 1) := by decide +kernel
theorem dX12_word_47 : decode cX12_word 47 = .ok (.iinc 3 1, 3) := by decide +kernel
theorem dX12_word_50 : decode cX12_word 50 = .ok (.aload_n 0, 1) := by decide +kernel
theorem dX12_word_51 : decode cX12_word 51 = .ok (.dup, 1) := by decide +kernel
theorem dX12_word_52 : decode cX12_word 52 = .ok (.getfield 75, 3) := by decide +kernel
theorem dX12_word_55 : decode cX12_word 55 = .ok (.iconst 1, 1) := by decide +kernel
theorem dX12_word_56 : decode cX12_word 56 = .ok (.iadd, 1) := by decide +kernel
theorem dX12_word_57 : decode cX12_word 57 = .ok (.putfield 75, 3) := by decide +kernel
theorem dX12_word_60 : decode cX12_word 60 = .ok (.goto (-58), 3) := by decide +kernel
theorem dX12_word_2 : decode cX12_word 2 = .ok (.aload_n 0, 1) := by decide +kernel
theorem dX12_word_3 : decode cX12_word 3 = .ok (.aload_n 0, 1) := by decide +kernel
theorem dX12_word_4 : decode cX12_word 4 = .ok (.getfield 75, 3) := by decide +kernel
theorem dX12_word_7 : decode cX12_word 7 = .ok (.invokevirtual 106, 3) := by decide +kernel
theorem dX12_word_10 : decode cX12_word 10 = .ok (.invokestatic 109, 3) := by decide +kernel
theorem dX12_word_13 : decode cX12_word 13 = .ok (.ifCond .eq 50, 3) := by decide +kernel
theorem dX12_word_16 : decode cX12_word 16 = .ok (.iload_n 3, 1) := by decide +kernel
theorem dX12_word_17 : decode cX12_word 17 = .ok (.bipush 12, 2) := by decide +kernel
theorem dX12_word_19 : decode cX12_word 19 = .ok (.if_icmp .ne 12, 3) := by decide +kernel
theorem dX12_word_22 : decode cX12_word 22 = .ok (.aload_n 0, 1) := by decide +kernel
theorem dX12_word_23 : decode cX12_word 23 = .ok (.aload_n 0, 1) := by decide +kernel
theorem dX12_word_24 : decode cX12_word 24 = .ok (.getfield 75, 3) := by decide +kernel
theorem dX12_word_27 : decode cX12_word 27 = .ok (.invokevirtual 272, 3) := by decide +kernel
theorem dX12_word_30 : decode cX12_word 30 = .ok (.ireturn, 1) := by decide +kernel
theorem dX12_word_0 : decode cX12_word 0 = .ok (.iconst 0, 1) := by decide +kernel
theorem dX12_word_1 : decode cX12_word 1 = .ok (.istore_n 3, 1) := by decide +kernel
theorem dX12_must_21 : decode cX12_must 21 = .ok (.aload_n 0, 1) := by decide +kernel
theorem dX12_must_22 : decode cX12_must 22 = .ok (.dup, 1) := by decide +kernel
theorem dX12_must_23 : decode cX12_must 23 = .ok (.getfield 75, 3) := by decide +kernel
theorem dX12_must_26 : decode cX12_must 26 = .ok (.iconst 1, 1) := by decide +kernel
theorem dX12_must_27 : decode cX12_must 27 = .ok (.iadd, 1) := by decide +kernel
theorem dX12_must_28 : decode cX12_must 28 = .ok (.putfield 75, 3) := by decide +kernel
theorem dX12_must_31 : decode cX12_must 31 = .ok (.iconst 1, 1) := by decide +kernel
theorem dX12_must_32 : decode cX12_must 32 = .ok (.ireturn, 1) := by decide +kernel
theorem dX12_must_0 : decode cX12_must 0 = .ok (.aload_n 0, 1) := by decide +kernel
theorem dX12_must_1 : decode cX12_must 1 = .ok (.aload_n 0, 1) := by decide +kernel
theorem dX12_must_2 : decode cX12_must 2 = .ok (.getfield 75, 3) := by decide +kernel
theorem dX12_must_5 : decode cX12_must 5 = .ok (.invokevirtual 106, 3) := by decide +kernel
theorem dX12_must_8 : decode cX12_must 8 = .ok (.iload_n 1, 1) := by decide +kernel
theorem dX12_must_9 : decode cX12_must 9 = .ok (.if_icmp .eq 12, 3) := by decide +kernel
theorem dX12_must_12 : decode cX12_must 12 = .ok (.aload_n 0, 1) := by decide +kernel
theorem dX12_must_13 : decode cX12_must 13 = .ok (.aload_n 0, 1) := by decide +kernel
theorem dX12_must_14 : decode cX12_must 14 = .ok (.getfield 75, 3) := by decide +kernel
theorem dX12_must_17 : decode cX12_must 17 = .ok (.invokevirtual 272, 3) := by decide +kernel
theorem dX12_must_20 : decode cX12_must 20 = .ok (.ireturn, 1) := by decide +kernel
theorem dX12_isDigit_17 : decode cX12_isDigit 17 = .ok (.ireturn, 1) := by decide +kernel
theorem dX12_isDigit_16 : decode cX12_isDigit 16 = .ok (.iconst 0, 1) := by decide +kernel
theorem dX12_isDigit_0 : decode cX12_isDigit 0 = .ok (.iload_n 0, 1) := by decide +kernel
theorem dX12_isDigit_1 : decode cX12_isDigit 1 = .ok (.bipush 48, 2) := by decide +kernel
theorem dX12_isDigit_3 : decode cX12_isDigit 3 = .ok (.if_icmp .lt 13, 3) := by decide +kernel
theorem dX12_isDigit_6 : decode cX12_isDigit 6 = .ok (.iload_n 0, 1) := by decide +kernel
theorem dX12_isDigit_7 : decode cX12_isDigit 7 = .ok (.bipush 57, 2) := by decide +kernel
theorem dX12_isDigit_9 : decode cX12_isDigit 9 = .ok (.if_icmp .gt 7, 3) := by decide +kernel
theorem dX12_isDigit_12 : decode cX12_isDigit 12 = .ok (.iconst 1, 1) := by decide +kernel
theorem dX12_isDigit_13 : decode cX12_isDigit 13 = .ok (.goto 4, 3) := by decide +kernel
theorem dX12_streetPart_70 : decode cX12_streetPart 70 = .ok (.iinc 1 1, 3) := by decide +kernel
theorem dX12_streetPart_73 : decode cX12_streetPart 73 = .ok (.goto (-71), 3) := by decide +kernel
theorem dX12_streetPart_61 : decode cX12_streetPart 61 = .ok (.aload_n 0, 1) := by decide +kernel
theorem dX12_streetPart_62 : decode cX12_streetPart 62 = .ok (.aload_n 0, 1) := by decide +kernel
theorem dX12_streetPart_63 : decode cX12_streetPart 63 = .ok (.getfield 75, 3) := by decide +kernel
theorem dX12_streetPart_66 : decode cX12_streetPart 66 = .ok (.invokevirtual 272, 3) := by decide +kernel
theorem dX12_streetPart_69 : decode cX12_streetPart 69 = .ok (.ireturn, 1) := by decide +kernel
theorem dX12_streetPart_49 : decode cX12_streetPart 49 = .ok (.iload_n 2, 1) := by decide +kernel
theorem dX12_streetPart_50 : decode cX12_streetPart 50 = .ok (.invokestatic 109, 3) := by decide +kernel
theorem dX12_streetPart_53 : decode cX12_streetPart 53 = .ok (.ifCond .eq 8, 3) := by decide +kernel
theorem dX12_streetPart_56 : decode cX12_streetPart 56 = .ok (.iload_n 1, 1) := by decide +kernel
theorem dX12_streetPart_57 : decode cX12_streetPart 57 = .ok (.iconst 2, 1) := by decide +kernel
theorem dX12_streetPart_58 : decode cX12_streetPart 58 = .ok (.if_icmp .ne 12, 3) := by decide +kernel
theorem dX12_streetPart_25 : decode cX12_streetPart 25 = .ok (.aload_n 0, 1) := by decide +kernel
theorem dX12_streetPart_26 : decode cX12_streetPart 26 = .ok (.aload_n 0, 1) := by decide +kernel
theorem dX12_streetPart_27 : decode cX12_streetPart 27 = .ok (.getfield 75, 3) := by decide +kernel
theorem dX12_streetPart_30 : decode cX12_streetPart 30 = .ok (.invokevirtual 106, 3) := by decide +kernel
theorem dX12_streetPart_33 : decode cX12_streetPart 33 = .ok (.istore_n 2, 1) := by decide +kernel
theorem dX12_streetPart_34 : decode cX12_streetPart 34 = .ok (.iload_n 2, 1) := by decide +kernel
theorem dX12_streetPart_35 : decode cX12_streetPart 35 = .ok (.invokestatic 281, 3) := by decide +kernel
theorem dX12_streetPart_38 : decode cX12_streetPart 38 = .ok (.ifCond .eq 11, 3) := by decide +kernel
theorem dX12_streetPart_41 : decode cX12_streetPart 41 = .ok (.iload_n 2, 1) := by decide +kernel
theorem dX12_streetPart_42 : decode cX12_streetPart 42 = .ok (.bipush 48, 2) := by decide +kernel
theorem dX12_streetPart_44 : decode cX12_streetPart 44 = .ok (.if_icmp .eq 5, 3) := by decide +kernel
theorem dX12_streetPart_47 : decode cX12_streetPart 47 = .ok (.iconst 1, 1) := by decide +kernel
theorem dX12_streetPart_48 : decode cX12_streetPart 48 = .ok (.ireturn, 1) := by decide +kernel
theorem dX12_streetPart_23 : decode cX12_streetPart 23 = .ok (.iconst 0, 1) := by decide +kernel
theorem dX12_streetPart_24 : decode cX12_streetPart 24 = .ok (.ireturn, 1) := by decide +kernel
theorem dX12_streetPart_2 : decode cX12_streetPart 2 = .ok (.aload_n 0, 1) := by decide +kernel
theorem dX12_streetPart_3 : decode cX12_streetPart 3 = .ok (.aload_n 0, 1) := by decide +kernel
theorem dX12_streetPart_4 : decode cX12_streetPart 4 = .ok (.getfield 42, 3) := by decide +kernel
theorem dX12_streetPart_7 : decode cX12_streetPart 7 = .ok (.iload_n 1, 1) := by decide +kernel
theorem dX12_streetPart_8 : decode cX12_streetPart 8 = .ok (.invokevirtual 275, 3) := by decide +kernel
theorem dX12_streetPart_11 : decode cX12_streetPart 11 = .ok (.ifCond .eq 12, 3) := by decide +kernel
theorem dX12_streetPart_14 : decode cX12_streetPart 14 = .ok (.aload_n 0, 1) := by decide +kernel
theorem dX12_streetPart_15 : decode cX12_streetPart 15 = .ok (.bipush 32, 2) := by decide +kernel
theorem dX12_streetPart_17 : decode cX12_streetPart 17 = .ok (.invokevirtual 278, 3) := by decide +kernel
theorem dX12_streetPart_20 : decode cX12_streetPart 20 = .ok (.ifCond .ne 5, 3) := by decide +kernel
theorem dX12_streetPart_0 : decode cX12_streetPart 0 = .ok (.iconst 0, 1) := by decide +kernel
theorem dX12_streetPart_1 : decode cX12_streetPart 1 = .ok (.istore_n 1, 1) := by decide +kernel
theorem dX12_numberPart_124 : decode cX12_numberPart 124 = .ok (.aload_n 0, 1) := by decide +kernel
theorem dX12_numberPart_125 : decode cX12_numberPart 125 = .ok (.bipush 16, 2) := by decide +kernel
theorem dX12_numberPart_127 : decode cX12_numberPart 127 = .ok (.iload_n 2, 1) := by decide +kernel
theorem dX12_numberPart_128 : decode cX12_numberPart 128 = .ok (.imul, 1) := by decide +kernel
theorem dX12_numberPart_129 : decode cX12_numberPart 129 = .ok (.iload 4, 2) := by decide +kernel
theorem dX12_numberPart_131 : decode cX12_numberPart 131 = .ok (.iadd, 1) := by decide +kernel
theorem dX12_numberPart_132 : decode cX12_numberPart 132 = .ok (.putfield 66, 3) := by decide +kernel
theorem dX12_numberPart_135 : decode cX12_numberPart 135 = .ok (.iconst 1, 1) := by decide +kernel
theorem dX12_numberPart_136 : decode cX12_numberPart 136 = .ok (.ireturn, 1) := by decide +kernel
theorem dX12_numberPart_107 : decode cX12_numberPart 107 = .ok (.istore 4, 2) := by decide +kernel
theorem dX12_numberPart_109 : decode cX12_numberPart 109 = .ok (.iload 4, 2) := by decide +kernel
theorem dX12_numberPart_111 : decode cX12_numberPart 111 = .ok (.ifCond .le 13, 3) := by decide +kernel
theorem dX12_numberPart_114 : decode cX12_numberPart 114 = .ok (.aload_n 0, 1) := by decide +kernel
theorem dX12_numberPart_115 : decode cX12_numberPart 115 = .ok (.dup, 1) := by decide +kernel
theorem dX12_numberPart_116 : decode cX12_numberPart 116 = .ok (.getfield 75, 3) := by decide +kernel
theorem dX12_numberPart_119 : decode cX12_numberPart 119 = .ok (.iconst 1, 1) := by decide +kernel
theorem dX12_numberPart_120 : decode cX12_numberPart 120 = .ok (.iadd, 1) := by decide +kernel
theorem dX12_numberPart_121 : decode cX12_numberPart 121 = .ok (.putfield 75, 3) := by decide +kernel
theorem dX12_numberPart_106 : decode cX12_numberPart 106 = .ok (.iconst 0, 1) := by decide +kernel
theorem dX12_numberPart_95 : decode cX12_numberPart 95 = .ok (.iload_n 3, 1) := by decide +kernel
theorem dX12_numberPart_96 : decode cX12_numberPart 96 = .ok (.bipush 43, 2) := by decide +kernel
theorem dX12_numberPart_98 : decode cX12_numberPart 98 = .ok (.if_icmp .ne 8, 3) := by decide +kernel
theorem dX12_numberPart_101 : decode cX12_numberPart 101 = .ok (.bipush 9, 2) := by decide +kernel
theorem dX12_numberPart_103 : decode cX12_numberPart 103 = .ok (.goto 4, 3) := by decide +kernel
theorem dX12_numberPart_65 : decode cX12_numberPart 65 = .ok (.aload_n 0, 1) := by decide +kernel
theorem dX12_numberPart_66 : decode cX12_numberPart 66 = .ok (.aload_n 0, 1) := by decide +kernel
theorem dX12_numberPart_67 : decode cX12_numberPart 67 = .ok (.getfield 75, 3) := by decide +kernel
theorem dX12_numberPart_70 : decode cX12_numberPart 70 = .ok (.invokevirtual 106, 3) := by decide +kernel
theorem dX12_numberPart_73 : decode cX12_numberPart 73 = .ok (.istore_n 3, 1) := by decide +kernel
theorem dX12_numberPart_74 : decode cX12_numberPart 74 = .ok (.iload_n 3, 1) := by decide +kernel
theorem dX12_numberPart_75 : decode cX12_numberPart 75 = .ok (.bipush 97, 2) := by decide +kernel
theorem dX12_numberPart_77 : decode cX12_numberPart 77 = .ok (.if_icmp .lt 18, 3) := by decide +kernel
theorem dX12_numberPart_80 : decode cX12_numberPart 80 = .ok (.iload_n 3, 1) := by decide +kernel
theorem dX12_numberPart_81 : decode cX12_numberPart 81 = .ok (.bipush 104, 2) := by decide +kernel
theorem dX12_numberPart_83 : decode cX12_numberPart 83 = .ok (.if_icmp .gt 12, 3) := by decide +kernel
theorem dX12_numberPart_86 : decode cX12_numberPart 86 = .ok (.iload_n 3, 1) := by decide +kernel
theorem dX12_numberPart_87 : decode cX12_numberPart 87 = .ok (.bipush 97, 2) := by decide +kernel
theorem dX12_numberPart_89 : decode cX12_numberPart 89 = .ok (.isub, 1) := by decide +kernel
theorem dX12_numberPart_90 : decode cX12_numberPart 90 = .ok (.iconst 1, 1) := by decide +kernel
theorem dX12_numberPart_91 : decode cX12_numberPart 91 = .ok (.iadd, 1) := by decide +kernel
theorem dX12_numberPart_92 : decode cX12_numberPart 92 = .ok (.goto 15, 3) := by decide +kernel
theorem dX12_numberPart_32 : decode cX12_numberPart 32 = .ok (.bipush 10, 2) := by decide +kernel
theorem dX12_numberPart_34 : decode cX12_numberPart 34 = .ok (.iload_n 2, 1) := by decide +kernel
theorem dX12_numberPart_35 : decode cX12_numberPart 35 = .ok (.imul, 1) := by decide +kernel
theorem dX12_numberPart_36 : decode cX12_numberPart 36 = .ok (.aload_n 0, 1) := by decide +kernel
theorem dX12_numberPart_37 : decode cX12_numberPart 37 = .ok (.aload_n 0, 1) := by decide +kernel
theorem dX12_numberPart_38 : decode cX12_numberPart 38 = .ok (.getfield 75, 3) := by decide +kernel
theorem dX12_numberPart_41 : decode cX12_numberPart 41 = .ok (.invokevirtual 106, 3) := by decide +kernel
theorem dX12_numberPart_44 : decode cX12_numberPart 44 = .ok (.iadd, 1) := by decide +kernel
theorem dX12_numberPart_45 : decode cX12_numberPart 45 = .ok (.bipush 48, 2) := by decide +kernel
theorem dX12_numberPart_47 : decode cX12_numberPart 47 = .ok (.isub, 1) := by decide +kernel
theorem dX12_numberPart_48 : decode cX12_numberPart 48 = .ok (.istore_n 2, 1) := by decide +kernel
theorem dX12_numberPart_49 : decode cX12_numberPart 49 = .ok (.iinc 1 1, 3) := by decide +kernel
theorem dX12_numberPart_52 : decode cX12_numberPart 52 = .ok (.aload_n 0, 1) := by decide +kernel
theorem dX12_numberPart_53 : decode cX12_numberPart 53 = .ok (.dup, 1) := by decide +kernel
theorem dX12_numberPart_54 : decode cX12_numberPart 54 = .ok (.getfield 75, 3) := by decide +kernel
theorem dX12_numberPart_57 : decode cX12_numberPart 57 = .ok (.iconst 1, 1) := by decide +kernel
theorem dX12_numberPart_58 : decode cX12_numberPart 58 = .ok (.iadd, 1) := by decide +kernel
theorem dX12_numberPart_59 : decode cX12_numberPart 59 = .ok (.putfield 75, 3) := by decide +kernel
theorem dX12_numberPart_62 : decode cX12_numberPart 62 = .ok (.goto (-58), 3) := by decide +kernel
theorem dX12_numberPart_4 : decode cX12_numberPart 4 = .ok (.aload_n 0, 1) := by decide +kernel
theorem dX12_numberPart_5 : decode cX12_numberPart 5 = .ok (.aload_n 0, 1) := by decide +kernel
theorem dX12_numberPart_6 : decode cX12_numberPart 6 = .ok (.getfield 75, 3) := by decide +kernel
theorem dX12_numberPart_9 : decode cX12_numberPart 9 = .ok (.invokevirtual 106, 3) := by decide +kernel
theorem dX12_numberPart_12 : decode cX12_numberPart 12 = .ok (.invokestatic 281, 3) := by decide +kernel
theorem dX12_numberPart_15 : decode cX12_numberPart 15 = .ok (.ifCond .eq 50, 3) := by decide +kernel
theorem dX12_numberPart_18 : decode cX12_numberPart 18 = .ok (.iload_n 1, 1) := by decide +kernel
theorem dX12_numberPart_19 : decode cX12_numberPart 19 = .ok (.iconst 4, 1) := by decide +kernel
theorem dX12_numberPart_20 : decode cX12_numberPart 20 = .ok (.if_icmp .ne 12, 3) := by decide +kernel
theorem dX12_numberPart_23 : decode cX12_numberPart 23 = .ok (.aload_n 0, 1) := by decide +kernel
theorem dX12_numberPart_24 : decode cX12_numberPart 24 = .ok (.aload_n 0, 1) := by decide +kernel
theorem dX12_numberPart_25 : decode cX12_numberPart 25 = .ok (.getfield 75, 3) := by decide +kernel
theorem dX12_numberPart_28 : decode cX12_numberPart 28 = .ok (.invokevirtual 272, 3) := by decide +kernel
theorem dX12_numberPart_31 : decode cX12_numberPart 31 = .ok (.ireturn, 1) := by decide +kernel
theorem dX12_numberPart_0 : decode cX12_numberPart 0 = .ok (.iconst 0, 1) := by decide +kernel
theorem dX12_numberPart_1 : decode cX12_numberPart 1 = .ok (.istore_n 1, 1) := by decide +kernel
theorem dX12_numberPart_2 : decode cX12_numberPart 2 = .ok (.iconst 0, 1) := by decide +kernel
theorem dX12_numberPart_3 : decode cX12_numberPart 3 = .ok (.istore_n 2, 1) := by decide +kernel
theorem dX12_court_59 : decode cX12_court 59 = .ok (.ireturn, 1) := by decide +kernel
theorem dX12_court_58 : decode cX12_court 58 = .ok (.iconst 0, 1) := by decide +kernel
theorem dX12_court_0 : decode cX12_court 0 = .ok (.aload_n 0, 1) := by decide +kernel
theorem dX12_court_1 : decode cX12_court 1 = .ok (.bipush 99, 2) := by decide +kernel
theorem dX12_court_3 : decode cX12_court 3 = .ok (.invokevirtual 278, 3) := by decide +kernel
theorem dX12_court_6 : decode cX12_court 6 = .ok (.ifCond .eq 52, 3) := by decide +kernel
theorem dX12_court_9 : decode cX12_court 9 = .ok (.aload_n 0, 1) := by decide +kernel
theorem dX12_court_10 : decode cX12_court 10 = .ok (.bipush 111, 2) := by decide +kernel
theorem dX12_court_12 : decode cX12_court 12 = .ok (.invokevirtual 278, 3) := by decide +kernel
theorem dX12_court_15 : decode cX12_court 15 = .ok (.ifCond .eq 43, 3) := by decide +kernel
theorem dX12_court_18 : decode cX12_court 18 = .ok (.aload_n 0, 1) := by decide +kernel
theorem dX12_court_19 : decode cX12_court 19 = .ok (.bipush 117, 2) := by decide +kernel
theorem dX12_court_21 : decode cX12_court 21 = .ok (.invokevirtual 278, 3) := by decide +kernel
theorem dX12_court_24 : decode cX12_court 24 = .ok (.ifCond .eq 34, 3) := by decide +kernel
theorem dX12_court_27 : decode cX12_court 27 = .ok (.aload_n 0, 1) := by decide +kernel
theorem dX12_court_28 : decode cX12_court 28 = .ok (.bipush 114, 2) := by decide +kernel
theorem dX12_court_30 : decode cX12_court 30 = .ok (.invokevirtual 278, 3) := by decide +kernel
theorem dX12_court_33 : decode cX12_court 33 = .ok (.ifCond .eq 25, 3) := by decide +kernel
theorem dX12_court_36 : decode cX12_court 36 = .ok (.aload_n 0, 1) := by decide +kernel
theorem dX12_court_37 : decode cX12_court 37 = .ok (.bipush 116, 2) := by decide +kernel
theorem dX12_court_39 : decode cX12_court 39 = .ok (.invokevirtual 278, 3) := by decide +kernel
theorem dX12_court_42 : decode cX12_court 42 = .ok (.ifCond .eq 16, 3) := by decide +kernel
theorem dX12_court_45 : decode cX12_court 45 = .ok (.aload_n 0, 1) := by decide +kernel
theorem dX12_court_46 : decode cX12_court 46 = .ok (.bipush 32, 2) := by decide +kernel
theorem dX12_court_48 : decode cX12_court 48 = .ok (.invokevirtual 278, 3) := by decide +kernel
theorem dX12_court_51 : decode cX12_court 51 = .ok (.ifCond .eq 7, 3) := by decide +kernel
theorem dX12_court_54 : decode cX12_court 54 = .ok (.iconst 1, 1) := by decide +kernel
theorem dX12_court_55 : decode cX12_court 55 = .ok (.goto 4, 3) := by decide +kernel
theorem dX12_floor_59 : decode cX12_floor 59 = .ok (.ireturn, 1) := by decide +kernel
theorem dX12_floor_58 : decode cX12_floor 58 = .ok (.iconst 0, 1) := by decide +kernel
theorem dX12_floor_0 : decode cX12_floor 0 = .ok (.aload_n 0, 1) := by decide +kernel
theorem dX12_floor_1 : decode cX12_floor 1 = .ok (.bipush 102, 2) := by decide +kernel
theorem dX12_floor_3 : decode cX12_floor 3 = .ok (.invokevirtual 278, 3) := by decide +kernel
theorem dX12_floor_6 : decode cX12_floor 6 = .ok (.ifCond .eq 52, 3) := by decide +kernel
theorem dX12_floor_9 : decode cX12_floor 9 = .ok (.aload_n 0, 1) := by decide +kernel
theorem dX12_floor_10 : decode cX12_floor 10 = .ok (.bipush 108, 2) := by decide +kernel
theorem dX12_floor_12 : decode cX12_floor 12 = .ok (.invokevirtual 278, 3) := by decide +kernel
theorem dX12_floor_15 : decode cX12_floor 15 = .ok (.ifCond .eq 43, 3) := by decide +kernel
theorem dX12_floor_18 : decode cX12_floor 18 = .ok (.aload_n 0, 1) := by decide +kernel
theorem dX12_floor_19 : decode cX12_floor 19 = .ok (.bipush 111, 2) := by decide +kernel
theorem dX12_floor_21 : decode cX12_floor 21 = .ok (.invokevirtual 278, 3) := by decide +kernel
theorem dX12_floor_24 : decode cX12_floor 24 = .ok (.ifCond .eq 34, 3) := by decide +kernel
theorem dX12_floor_27 : decode cX12_floor 27 = .ok (.aload_n 0, 1) := by decide +kernel
theorem dX12_floor_28 : decode cX12_floor 28 = .ok (.bipush 111, 2) := by decide +kernel
theorem dX12_floor_30 : decode cX12_floor 30 = .ok (.invokevirtual 278, 3) := by decide +kernel
theorem dX12_floor_33 : decode cX12_floor 33 = .ok (.ifCond .eq 25, 3) := by decide +kernel
theorem dX12_floor_36 : decode cX12_floor 36 = .ok (.aload_n 0, 1) := by decide +kernel
theorem dX12_floor_37 : decode cX12_floor 37 = .ok (.bipush 114, 2) := by decide +kernel
theorem dX12_floor_39 : decode cX12_floor 39 = .ok (.invokevirtual 278, 3) := by decide +kernel
theorem dX12_floor_42 : decode cX12_floor 42 = .ok (.ifCond .eq 16, 3) := by decide +kernel
theorem dX12_floor_45 : decode cX12_floor 45 = .ok (.aload_n 0, 1) := by decide +kernel
theorem dX12_floor_46 : decode cX12_floor 46 = .ok (.bipush 32, 2) := by decide +kernel
theorem dX12_floor_48 : decode cX12_floor 48 = .ok (.invokevirtual 278, 3) := by decide +kernel
theorem dX12_floor_51 : decode cX12_floor 51 = .ok (.ifCond .eq 7, 3) := by decide +kernel
theorem dX12_floor_54 : decode cX12_floor 54 = .ok (.iconst 1, 1) := by decide +kernel
theorem dX12_floor_55 : decode cX12_floor 55 = .ok (.goto 4, 3) := by decide +kernel
theorem dX12_extraPart_266 : decode cX12_extraPart 266 = .ok (.iconst 1, 1) := by decide +kernel
theorem dX12_extraPart_267 : decode cX12_extraPart 267 = .ok (.ireturn, 1) := by decide +kernel
theorem dX12_extraPart_194 : decode cX12_extraPart 194 = .ok (.aload_n 0, 1) := by decide +kernel
theorem dX12_extraPart_195 : decode cX12_extraPart 195 = .ok (.aload_n 0, 1) := by decide +kernel
theorem dX12_extraPart_196 : decode cX12_extraPart 196 = .ok (.aload_n 0, 1) := by decide +kernel
theorem dX12_extraPart_197 : decode cX12_extraPart 197 = .ok (.getfield 75, 3) := by decide +kernel
theorem dX12_extraPart_200 : decode cX12_extraPart 200 = .ok (.invokevirtual 106, 3) := by decide +kernel
theorem dX12_extraPart_203 : decode cX12_extraPart 203 = .ok (.bipush 48, 2) := by decide +kernel
theorem dX12_extraPart_205 : decode cX12_extraPart 205 = .ok (.isub, 1) := by decide +kernel
theorem dX12_extraPart_206 : decode cX12_extraPart 206 = .ok (.putfield 72, 3) := by decide +kernel
theorem dX12_extraPart_209 : decode cX12_extraPart 209 = .ok (.aload_n 0, 1) := by decide +kernel
theorem dX12_extraPart_210 : decode cX12_extraPart 210 = .ok (.dup, 1) := by decide +kernel
theorem dX12_extraPart_211 : decode cX12_extraPart 211 = .ok (.getfield 75, 3) := by decide +kernel
theorem dX12_extraPart_214 : decode cX12_extraPart 214 = .ok (.iconst 1, 1) := by decide +kernel
theorem dX12_extraPart_215 : decode cX12_extraPart 215 = .ok (.iadd, 1) := by decide +kernel
theorem dX12_extraPart_216 : decode cX12_extraPart 216 = .ok (.putfield 75, 3) := by decide +kernel
theorem dX12_extraPart_219 : decode cX12_extraPart 219 = .ok (.aload_n 0, 1) := by decide +kernel
theorem dX12_extraPart_220 : decode cX12_extraPart 220 = .ok (.aload_n 0, 1) := by decide +kernel
theorem dX12_extraPart_221 : decode cX12_extraPart 221 = .ok (.getfield 75, 3) := by decide +kernel
theorem dX12_extraPart_224 : decode cX12_extraPart 224 = .ok (.invokevirtual 106, 3) := by decide +kernel
theorem dX12_extraPart_227 : decode cX12_extraPart 227 = .ok (.invokestatic 281, 3) := by decide +kernel
theorem dX12_extraPart_230 : decode cX12_extraPart 230 = .ok (.ifCond .eq 36, 3) := by decide +kernel
theorem dX12_extraPart_233 : decode cX12_extraPart 233 = .ok (.aload_n 0, 1) := by decide +kernel
theorem dX12_extraPart_234 : decode cX12_extraPart 234 = .ok (.bipush 10, 2) := by decide +kernel
theorem dX12_extraPart_236 : decode cX12_extraPart 236 = .ok (.aload_n 0, 1) := by decide +kernel
theorem dX12_extraPart_237 : decode cX12_extraPart 237 = .ok (.getfield 72, 3) := by decide +kernel
theorem dX12_extraPart_240 : decode cX12_extraPart 240 = .ok (.imul, 1) := by decide +kernel
theorem dX12_extraPart_241 : decode cX12_extraPart 241 = .ok (.aload_n 0, 1) := by decide +kernel
theorem dX12_extraPart_242 : decode cX12_extraPart 242 = .ok (.aload_n 0, 1) := by decide +kernel
theorem dX12_extraPart_243 : decode cX12_extraPart 243 = .ok (.getfield 75, 3) := by decide +kernel
theorem dX12_extraPart_246 : decode cX12_extraPart 246 = .ok (.invokevirtual 106, 3) := by decide +kernel
theorem dX12_extraPart_249 : decode cX12_extraPart 249 = .ok (.iadd, 1) := by decide +kernel
theorem dX12_extraPart_250 : decode cX12_extraPart 250 = .ok (.bipush 48, 2) := by decide +kernel
theorem dX12_extraPart_252 : decode cX12_extraPart 252 = .ok (.isub, 1) := by decide +kernel
theorem dX12_extraPart_253 : decode cX12_extraPart 253 = .ok (.putfield 72, 3) := by decide +kernel
theorem dX12_extraPart_256 : decode cX12_extraPart 256 = .ok (.aload_n 0, 1) := by decide +kernel
theorem dX12_extraPart_257 : decode cX12_extraPart 257 = .ok (.dup, 1) := by decide +kernel
theorem dX12_extraPart_258 : decode cX12_extraPart 258 = .ok (.getfield 75, 3) := by decide +kernel
theorem dX12_extraPart_261 : decode cX12_extraPart 261 = .ok (.iconst 1, 1) := by decide +kernel
theorem dX12_extraPart_262 : decode cX12_extraPart 262 = .ok (.iadd, 1) := by decide +kernel
theorem dX12_extraPart_263 : decode cX12_extraPart 263 = .ok (.putfield 75, 3) := by decide +kernel
theorem dX12_extraPart_185 : decode cX12_extraPart 185 = .ok (.aload_n 0, 1) := by decide +kernel
theorem dX12_extraPart_186 : decode cX12_extraPart 186 = .ok (.aload_n 0, 1) := by decide +kernel
theorem dX12_extraPart_187 : decode cX12_extraPart 187 = .ok (.getfield 75, 3) := by decide +kernel
theorem dX12_extraPart_190 : decode cX12_extraPart 190 = .ok (.invokevirtual 272, 3) := by decide +kernel
theorem dX12_extraPart_193 : decode cX12_extraPart 193 = .ok (.ireturn, 1) := by decide +kernel
theorem dX12_extraPart_158 : decode cX12_extraPart 158 = .ok (.aload_n 0, 1) := by decide +kernel
theorem dX12_extraPart_159 : decode cX12_extraPart 159 = .ok (.aload_n 0, 1) := by decide +kernel
theorem dX12_extraPart_160 : decode cX12_extraPart 160 = .ok (.getfield 75, 3) := by decide +kernel
theorem dX12_extraPart_163 : decode cX12_extraPart 163 = .ok (.invokevirtual 106, 3) := by decide +kernel
theorem dX12_extraPart_166 : decode cX12_extraPart 166 = .ok (.invokestatic 281, 3) := by decide +kernel
theorem dX12_extraPart_169 : decode cX12_extraPart 169 = .ok (.ifCond .eq 16, 3) := by decide +kernel
theorem dX12_extraPart_172 : decode cX12_extraPart 172 = .ok (.aload_n 0, 1) := by decide +kernel
theorem dX12_extraPart_173 : decode cX12_extraPart 173 = .ok (.aload_n 0, 1) := by decide +kernel
theorem dX12_extraPart_174 : decode cX12_extraPart 174 = .ok (.getfield 75, 3) := by decide +kernel
theorem dX12_extraPart_177 : decode cX12_extraPart 177 = .ok (.invokevirtual 106, 3) := by decide +kernel
theorem dX12_extraPart_180 : decode cX12_extraPart 180 = .ok (.bipush 48, 2) := by decide +kernel
theorem dX12_extraPart_182 : decode cX12_extraPart 182 = .ok (.if_icmp .ne 12, 3) := by decide +kernel
theorem dX12_extraPart_156 : decode cX12_extraPart 156 = .ok (.iconst 0, 1) := by decide +kernel
theorem dX12_extraPart_157 : decode cX12_extraPart 157 = .ok (.ireturn, 1) := by decide +kernel
theorem dX12_extraPart_149 : decode cX12_extraPart 149 = .ok (.aload_n 0, 1) := by decide +kernel
theorem dX12_extraPart_150 : decode cX12_extraPart 150 = .ok (.invokevirtual 287, 3) := by decide +kernel
theorem dX12_extraPart_153 : decode cX12_extraPart 153 = .ok (.ifCond .ne 5, 3) := by decide +kernel
theorem dX12_extraPart_130 : decode cX12_extraPart 130 = .ok (.putfield 69, 3) := by decide +kernel
theorem dX12_extraPart_133 : decode cX12_extraPart 133 = .ok (.iload_n 1, 1) := by decide +kernel
theorem dX12_extraPart_134 : decode cX12_extraPart 134 = .ok (.bipush 99, 2) := by decide +kernel
theorem dX12_extraPart_136 : decode cX12_extraPart 136 = .ok (.if_icmp .ne 13, 3) := by decide +kernel
theorem dX12_extraPart_139 : decode cX12_extraPart 139 = .ok (.aload_n 0, 1) := by decide +kernel
theorem dX12_extraPart_140 : decode cX12_extraPart 140 = .ok (.invokevirtual 284, 3) := by decide +kernel
theorem dX12_extraPart_143 : decode cX12_extraPart 143 = .ok (.ifCond .eq 13, 3) := by decide +kernel
theorem dX12_extraPart_146 : decode cX12_extraPart 146 = .ok (.goto 12, 3) := by decide +kernel
theorem dX12_extraPart_129 : decode cX12_extraPart 129 = .ok (.iconst 4, 1) := by decide +kernel
theorem dX12_extraPart_118 : decode cX12_extraPart 118 = .ok (.aload_n 0, 1) := by decide +kernel
theorem dX12_extraPart_119 : decode cX12_extraPart 119 = .ok (.iload_n 1, 1) := by decide +kernel
theorem dX12_extraPart_120 : decode cX12_extraPart 120 = .ok (.bipush 99, 2) := by decide +kernel
theorem dX12_extraPart_122 : decode cX12_extraPart 122 = .ok (.if_icmp .ne 7, 3) := by decide +kernel
theorem dX12_extraPart_125 : decode cX12_extraPart 125 = .ok (.iconst 3, 1) := by decide +kernel
theorem dX12_extraPart_126 : decode cX12_extraPart 126 = .ok (.goto 4, 3) := by decide +kernel
theorem dX12_extraPart_97 : decode cX12_extraPart 97 = .ok (.iload_n 1, 1) := by decide +kernel
theorem dX12_extraPart_98 : decode cX12_extraPart 98 = .ok (.bipush 99, 2) := by decide +kernel
theorem dX12_extraPart_100 : decode cX12_extraPart 100 = .ok (.if_icmp .eq 18, 3) := by decide +kernel
theorem dX12_extraPart_103 : decode cX12_extraPart 103 = .ok (.iload_n 1, 1) := by decide +kernel
theorem dX12_extraPart_104 : decode cX12_extraPart 104 = .ok (.bipush 102, 2) := by decide +kernel
theorem dX12_extraPart_106 : decode cX12_extraPart 106 = .ok (.if_icmp .eq 12, 3) := by decide +kernel
theorem dX12_extraPart_109 : decode cX12_extraPart 109 = .ok (.aload_n 0, 1) := by decide +kernel
theorem dX12_extraPart_110 : decode cX12_extraPart 110 = .ok (.aload_n 0, 1) := by decide +kernel
theorem dX12_extraPart_111 : decode cX12_extraPart 111 = .ok (.getfield 75, 3) := by decide +kernel
theorem dX12_extraPart_114 : decode cX12_extraPart 114 = .ok (.invokevirtual 272, 3) := by decide +kernel
theorem dX12_extraPart_117 : decode cX12_extraPart 117 = .ok (.ireturn, 1) := by decide +kernel
theorem dX12_extraPart_96 : decode cX12_extraPart 96 = .ok (.ireturn, 1) := by decide +kernel
theorem dX12_extraPart_95 : decode cX12_extraPart 95 = .ok (.iconst 0, 1) := by decide +kernel
theorem dX12_extraPart_25 : decode cX12_extraPart 25 = .ok (.aload_n 0, 1) := by decide +kernel
theorem dX12_extraPart_26 : decode cX12_extraPart 26 = .ok (.dup, 1) := by decide +kernel
theorem dX12_extraPart_27 : decode cX12_extraPart 27 = .ok (.getfield 75, 3) := by decide +kernel
theorem dX12_extraPart_30 : decode cX12_extraPart 30 = .ok (.iconst 1, 1) := by decide +kernel
theorem dX12_extraPart_31 : decode cX12_extraPart 31 = .ok (.iadd, 1) := by decide +kernel
theorem dX12_extraPart_32 : decode cX12_extraPart 32 = .ok (.putfield 75, 3) := by decide +kernel
theorem dX12_extraPart_35 : decode cX12_extraPart 35 = .ok (.aload_n 0, 1) := by decide +kernel
theorem dX12_extraPart_36 : decode cX12_extraPart 36 = .ok (.aload_n 0, 1) := by decide +kernel
theorem dX12_extraPart_37 : decode cX12_extraPart 37 = .ok (.getfield 75, 3) := by decide +kernel
theorem dX12_extraPart_40 : decode cX12_extraPart 40 = .ok (.invokevirtual 106, 3) := by decide +kernel
theorem dX12_extraPart_43 : decode cX12_extraPart 43 = .ok (.istore_n 1, 1) := by decide +kernel
theorem dX12_extraPart_44 : decode cX12_extraPart 44 = .ok (.iload_n 1, 1) := by decide +kernel
theorem dX12_extraPart_45 : decode cX12_extraPart 45 = .ok (.bipush 98, 2) := by decide +kernel
theorem dX12_extraPart_47 : decode cX12_extraPart 47 = .ok (.if_icmp .ne 50, 3) := by decide +kernel
theorem dX12_extraPart_50 : decode cX12_extraPart 50 = .ok (.aload_n 0, 1) := by decide +kernel
theorem dX12_extraPart_51 : decode cX12_extraPart 51 = .ok (.iconst 2, 1) := by decide +kernel
theorem dX12_extraPart_52 : decode cX12_extraPart 52 = .ok (.putfield 69, 3) := by decide +kernel
theorem dX12_extraPart_55 : decode cX12_extraPart 55 = .ok (.aload_n 0, 1) := by decide +kernel
theorem dX12_extraPart_56 : decode cX12_extraPart 56 = .ok (.bipush 98, 2) := by decide +kernel
theorem dX12_extraPart_58 : decode cX12_extraPart 58 = .ok (.invokevirtual 278, 3) := by decide +kernel
theorem dX12_extraPart_61 : decode cX12_extraPart 61 = .ok (.ifCond .eq 34, 3) := by decide +kernel
theorem dX12_extraPart_64 : decode cX12_extraPart 64 = .ok (.aload_n 0, 1) := by decide +kernel
theorem dX12_extraPart_65 : decode cX12_extraPart 65 = .ok (.bipush 97, 2) := by decide +kernel
theorem dX12_extraPart_67 : decode cX12_extraPart 67 = .ok (.invokevirtual 278, 3) := by decide +kernel
theorem dX12_extraPart_70 : decode cX12_extraPart 70 = .ok (.ifCond .eq 25, 3) := by decide +kernel
theorem dX12_extraPart_73 : decode cX12_extraPart 73 = .ok (.aload_n 0, 1) := by decide +kernel
theorem dX12_extraPart_74 : decode cX12_extraPart 74 = .ok (.bipush 99, 2) := by decide +kernel
theorem dX12_extraPart_76 : decode cX12_extraPart 76 = .ok (.invokevirtual 278, 3) := by decide +kernel
theorem dX12_extraPart_79 : decode cX12_extraPart 79 = .ok (.ifCond .eq 16, 3) := by decide +kernel
theorem dX12_extraPart_82 : decode cX12_extraPart 82 = .ok (.aload_n 0, 1) := by decide +kernel
theorem dX12_extraPart_83 : decode cX12_extraPart 83 = .ok (.bipush 107, 2) := by decide +kernel
theorem dX12_extraPart_85 : decode cX12_extraPart 85 = .ok (.invokevirtual 278, 3) := by decide +kernel
theorem dX12_extraPart_88 : decode cX12_extraPart 88 = .ok (.ifCond .eq 7, 3) := by decide +kernel
theorem dX12_extraPart_91 : decode cX12_extraPart 91 = .ok (.iconst 1, 1) := by decide +kernel
theorem dX12_extraPart_92 : decode cX12_extraPart 92 = .ok (.goto 4, 3) := by decide +kernel
theorem dX12_extraPart_0 : decode cX12_extraPart 0 = .ok (.aload_n 0, 1) := by decide +kernel
theorem dX12_extraPart_1 : decode cX12_extraPart 1 = .ok (.iconst 0, 1) := by decide +kernel
theorem dX12_extraPart_2 : decode cX12_extraPart 2 = .ok (.putfield 69, 3) := by decide +kernel
theorem dX12_extraPart_5 : decode cX12_extraPart 5 = .ok (.aload_n 0, 1) := by decide +kernel
theorem dX12_extraPart_6 : decode cX12_extraPart 6 = .ok (.iconst 0, 1) := by decide +kernel
theorem dX12_extraPart_7 : decode cX12_extraPart 7 = .ok (.putfield 72, 3) := by decide +kernel
theorem dX12_extraPart_10 : decode cX12_extraPart 10 = .ok (.aload_n 0, 1) := by decide +kernel
theorem dX12_extraPart_11 : decode cX12_extraPart 11 = .ok (.aload_n 0, 1) := by decide +kernel
theorem dX12_extraPart_12 : decode cX12_extraPart 12 = .ok (.getfield 75, 3) := by decide +kernel
theorem dX12_extraPart_15 : decode cX12_extraPart 15 = .ok (.invokevirtual 106, 3) := by decide +kernel
theorem dX12_extraPart_18 : decode cX12_extraPart 18 = .ok (.bipush 32, 2) := by decide +kernel
theorem dX12_extraPart_20 : decode cX12_extraPart 20 = .ok (.if_icmp .eq 5, 3) := by decide +kernel
theorem dX12_extraPart_23 : decode cX12_extraPart 23 = .ok (.iconst 1, 1) := by decide +kernel
theorem dX12_extraPart_24 : decode cX12_extraPart 24 = .ok (.ireturn, 1) := by decide +kernel
theorem dX12_townPart_56 : decode cX12_townPart 56 = .ok (.aload_n 0, 1) := by decide +kernel
theorem dX12_townPart_57 : decode cX12_townPart 57 = .ok (.dup, 1) := by decide +kernel
theorem dX12_townPart_58 : decode cX12_townPart 58 = .ok (.getfield 75, 3) := by decide +kernel
theorem dX12_townPart_61 : decode cX12_townPart 61 = .ok (.iconst 1, 1) := by decide +kernel
theorem dX12_townPart_62 : decode cX12_townPart 62 = .ok (.iadd, 1) := by decide +kernel
theorem dX12_townPart_63 : decode cX12_townPart 63 = .ok (.putfield 75, 3) := by decide +kernel
theorem dX12_townPart_66 : decode cX12_townPart 66 = .ok (.iinc 1 1, 3) := by decide +kernel
theorem dX12_townPart_69 : decode cX12_townPart 69 = .ok (.goto (-67), 3) := by decide +kernel
theorem dX12_townPart_47 : decode cX12_townPart 47 = .ok (.aload_n 0, 1) := by decide +kernel
theorem dX12_townPart_48 : decode cX12_townPart 48 = .ok (.aload_n 0, 1) := by decide +kernel
theorem dX12_townPart_49 : decode cX12_townPart 49 = .ok (.getfield 75, 3) := by decide +kernel
theorem dX12_townPart_52 : decode cX12_townPart 52 = .ok (.invokevirtual 272, 3) := by decide +kernel
theorem dX12_townPart_55 : decode cX12_townPart 55 = .ok (.ireturn, 1) := by decide +kernel
theorem dX12_townPart_29 : decode cX12_townPart 29 = .ok (.aload_n 0, 1) := by decide +kernel
theorem dX12_townPart_30 : decode cX12_townPart 30 = .ok (.aload_n 0, 1) := by decide +kernel
theorem dX12_townPart_31 : decode cX12_townPart 31 = .ok (.getfield 75, 3) := by decide +kernel
theorem dX12_townPart_34 : decode cX12_townPart 34 = .ok (.invokevirtual 106, 3) := by decide +kernel
theorem dX12_townPart_37 : decode cX12_townPart 37 = .ok (.bipush 32, 2) := by decide +kernel
theorem dX12_townPart_39 : decode cX12_townPart 39 = .ok (.if_icmp .ne 8, 3) := by decide +kernel
theorem dX12_townPart_42 : decode cX12_townPart 42 = .ok (.iload_n 1, 1) := by decide +kernel
theorem dX12_townPart_43 : decode cX12_townPart 43 = .ok (.iconst 2, 1) := by decide +kernel
theorem dX12_townPart_44 : decode cX12_townPart 44 = .ok (.if_icmp .ne 12, 3) := by decide +kernel
theorem dX12_townPart_16 : decode cX12_townPart 16 = .ok (.aload_n 0, 1) := by decide +kernel
theorem dX12_townPart_17 : decode cX12_townPart 17 = .ok (.getfield 75, 3) := by decide +kernel
theorem dX12_townPart_20 : decode cX12_townPart 20 = .ok (.aload_n 0, 1) := by decide +kernel
theorem dX12_townPart_21 : decode cX12_townPart 21 = .ok (.getfield 33, 3) := by decide +kernel
theorem dX12_townPart_24 : decode cX12_townPart 24 = .ok (.if_icmp .ne 5, 3) := by decide +kernel
theorem dX12_townPart_27 : decode cX12_townPart 27 = .ok (.iconst 1, 1) := by decide +kernel
theorem dX12_townPart_28 : decode cX12_townPart 28 = .ok (.ireturn, 1) := by decide +kernel
theorem dX12_townPart_2 : decode cX12_townPart 2 = .ok (.aload_n 0, 1) := by decide +kernel
theorem dX12_townPart_3 : decode cX12_townPart 3 = .ok (.aload_n 0, 1) := by decide +kernel
theorem dX12_townPart_4 : decode cX12_townPart 4 = .ok (.getfield 63, 3) := by decide +kernel
theorem dX12_townPart_7 : decode cX12_townPart 7 = .ok (.iload_n 1, 1) := by decide +kernel
theorem dX12_townPart_8 : decode cX12_townPart 8 = .ok (.invokevirtual 275, 3) := by decide +kernel
theorem dX12_townPart_11 : decode cX12_townPart 11 = .ok (.ifCond .ne 5, 3) := by decide +kernel
theorem dX12_townPart_14 : decode cX12_townPart 14 = .ok (.iconst 0, 1) := by decide +kernel
theorem dX12_townPart_15 : decode cX12_townPart 15 = .ok (.ireturn, 1) := by decide +kernel
theorem dX12_townPart_0 : decode cX12_townPart 0 = .ok (.iconst 0, 1) := by decide +kernel
theorem dX12_townPart_1 : decode cX12_townPart 1 = .ok (.istore_n 1, 1) := by decide +kernel

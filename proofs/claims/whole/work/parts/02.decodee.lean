theorem dX10_findSittings_299 : decode cX10_findSittings 299 = .ok (.iload_n 2, 1) := by decide +kernel
theorem dX10_findSittings_300 : decode cX10_findSittings 300 = .ok (.iload 4, 2) := by decide +kernel
theorem dX10_findSittings_302 : decode cX10_findSittings 302 = .ok (.isub, 1) := by decide +kernel
theorem dX10_findSittings_303 : decode cX10_findSittings 303 = .ok (.aload_n 0, 1) := by decide +kernel
theorem dX10_findSittings_304 : decode cX10_findSittings 304 = .ok (.getfield 41, 3) := by decide +kernel
theorem dX10_findSittings_307 : decode cX10_findSittings 307 = .ok (.iconst 1, 1) := by decide +kernel
theorem dX10_findSittings_308 : decode cX10_findSittings 308 = .ok (.iaload, 1) := by decide +kernel
theorem dX10_findSittings_309 : decode cX10_findSittings 309 = .ok (.if_icmp .gt 17, 3) := by decide +kernel
theorem dX10_findSittings_312 : decode cX10_findSittings 312 = .ok (.aload_n 0, 1) := by decide +kernel
theorem dX10_findSittings_313 : decode cX10_findSittings 313 = .ok (.getfield 50, 3) := by decide +kernel
theorem dX10_findSittings_316 : decode cX10_findSittings 316 = .ok (.iload 4, 2) := by decide +kernel
theorem dX10_findSittings_318 : decode cX10_findSittings 318 = .ok (.baload, 1) := by decide +kernel
theorem dX10_findSittings_319 : decode cX10_findSittings 319 = .ok (.ifCond .eq 7, 3) := by decide +kernel
theorem dX10_findSittings_322 : decode cX10_findSittings 322 = .ok (.iconst 1, 1) := by decide +kernel
theorem dX10_findSittings_323 : decode cX10_findSittings 323 = .ok (.goto 4, 3) := by decide +kernel
theorem dX10_findSittings_326 : decode cX10_findSittings 326 = .ok (.iconst 0, 1) := by decide +kernel
theorem dX10_findSittings_327 : decode cX10_findSittings 327 = .ok (.istore 6, 2) := by decide +kernel
theorem dX10_findSittings_329 : decode cX10_findSittings 329 = .ok (.iload 5, 2) := by decide +kernel
theorem dX10_findSittings_331 : decode cX10_findSittings 331 = .ok (.aload_n 0, 1) := by decide +kernel
theorem dX10_findSittings_332 : decode cX10_findSittings 332 = .ok (.getfield 41, 3) := by decide +kernel
theorem dX10_findSittings_335 : decode cX10_findSittings 335 = .ok (.iconst 0, 1) := by decide +kernel
theorem dX10_findSittings_336 : decode cX10_findSittings 336 = .ok (.iaload, 1) := by decide +kernel
theorem dX10_findSittings_337 : decode cX10_findSittings 337 = .ok (.if_icmp .gt 30, 3) := by decide +kernel
theorem dX10_findSittings_340 : decode cX10_findSittings 340 = .ok (.iload_n 2, 1) := by decide +kernel
theorem dX10_findSittings_341 : decode cX10_findSittings 341 = .ok (.iload 5, 2) := by decide +kernel
theorem dX10_findSittings_343 : decode cX10_findSittings 343 = .ok (.isub, 1) := by decide +kernel
theorem dX10_findSittings_344 : decode cX10_findSittings 344 = .ok (.aload_n 0, 1) := by decide +kernel
theorem dX10_findSittings_345 : decode cX10_findSittings 345 = .ok (.getfield 41, 3) := by decide +kernel
theorem dX10_findSittings_348 : decode cX10_findSittings 348 = .ok (.iconst 1, 1) := by decide +kernel
theorem dX10_findSittings_349 : decode cX10_findSittings 349 = .ok (.iaload, 1) := by decide +kernel
theorem dX10_findSittings_350 : decode cX10_findSittings 350 = .ok (.if_icmp .gt 17, 3) := by decide +kernel
theorem dX10_findSittings_353 : decode cX10_findSittings 353 = .ok (.aload_n 0, 1) := by decide +kernel
theorem dX10_findSittings_354 : decode cX10_findSittings 354 = .ok (.getfield 50, 3) := by decide +kernel
theorem dX10_findSittings_357 : decode cX10_findSittings 357 = .ok (.iload 5, 2) := by decide +kernel
theorem dX10_findSittings_359 : decode cX10_findSittings 359 = .ok (.baload, 1) := by decide +kernel
theorem dX10_findSittings_360 : decode cX10_findSittings 360 = .ok (.ifCond .eq 7, 3) := by decide +kernel
theorem dX10_findSittings_363 : decode cX10_findSittings 363 = .ok (.iconst 1, 1) := by decide +kernel
theorem dX10_findSittings_364 : decode cX10_findSittings 364 = .ok (.goto 4, 3) := by decide +kernel
theorem dX10_findSittings_367 : decode cX10_findSittings 367 = .ok (.iconst 0, 1) := by decide +kernel
theorem dX10_findSittings_368 : decode cX10_findSittings 368 = .ok (.istore 7, 2) := by decide +kernel
theorem dX10_findSittings_370 : decode cX10_findSittings 370 = .ok (.iconst 0, 1) := by decide +kernel
theorem dX10_findSittings_371 : decode cX10_findSittings 371 = .ok (.istore 8, 2) := by decide +kernel
theorem dX10_findSittings_373 : decode cX10_findSittings 373 = .ok (.iconst 0, 1) := by decide +kernel
theorem dX10_findSittings_374 : decode cX10_findSittings 374 = .ok (.istore 9, 2) := by decide +kernel
theorem dX10_findSittings_376 : decode cX10_findSittings 376 = .ok (.iload 9, 2) := by decide +kernel
theorem dX10_findSittings_378 : decode cX10_findSittings 378 = .ok (.aload_n 0, 1) := by decide +kernel
theorem dX10_findSittings_379 : decode cX10_findSittings 379 = .ok (.getfield 185, 3) := by decide +kernel
theorem dX10_findSittings_382 : decode cX10_findSittings 382 = .ok (.if_icmp .ge 144, 3) := by decide +kernel
theorem dX10_findSittings_385 : decode cX10_findSittings 385 = .ok (.iload 8, 2) := by decide +kernel
theorem dX10_findSittings_387 : decode cX10_findSittings 387 = .ok (.aload_n 0, 1) := by decide +kernel
theorem dX10_findSittings_388 : decode cX10_findSittings 388 = .ok (.getfield 47, 3) := by decide +kernel
theorem dX10_findSittings_391 : decode cX10_findSittings 391 = .ok (.iload 9, 2) := by decide +kernel
theorem dX10_findSittings_393 : decode cX10_findSittings 393 = .ok (.iaload, 1) := by decide +kernel
theorem dX10_findSittings_394 : decode cX10_findSittings 394 = .ok (.iadd, 1) := by decide +kernel
theorem dX10_findSittings_395 : decode cX10_findSittings 395 = .ok (.istore 10, 2) := by decide +kernel
theorem dX10_findSittings_397 : decode cX10_findSittings 397 = .ok (.iload 6, 2) := by decide +kernel
theorem dX10_findSittings_399 : decode cX10_findSittings 399 = .ok (.ifCond .eq 36, 3) := by decide +kernel
theorem dX10_findSittings_402 : decode cX10_findSittings 402 = .ok (.iload 4, 2) := by decide +kernel
theorem dX10_findSittings_404 : decode cX10_findSittings 404 = .ok (.iload 10, 2) := by decide +kernel
theorem dX10_findSittings_406 : decode cX10_findSittings 406 = .ok (.if_icmp .lt 29, 3) := by decide +kernel
theorem dX10_findSittings_409 : decode cX10_findSittings 409 = .ok (.aload_n 0, 1) := by decide +kernel
theorem dX10_findSittings_410 : decode cX10_findSittings 410 = .ok (.getfield 50, 3) := by decide +kernel
theorem dX10_findSittings_413 : decode cX10_findSittings 413 = .ok (.sipush 200, 3) := by decide +kernel
theorem dX10_findSittings_416 : decode cX10_findSittings 416 = .ok (.iload 9, 2) := by decide +kernel
theorem dX10_findSittings_418 : decode cX10_findSittings 418 = .ok (.iconst 1, 1) := by decide +kernel
theorem dX10_findSittings_419 : decode cX10_findSittings 419 = .ok (.iadd, 1) := by decide +kernel
theorem dX10_findSittings_420 : decode cX10_findSittings 420 = .ok (.imul, 1) := by decide +kernel
theorem dX10_findSittings_421 : decode cX10_findSittings 421 = .ok (.iload 4, 2) := by decide +kernel
theorem dX10_findSittings_423 : decode cX10_findSittings 423 = .ok (.iadd, 1) := by decide +kernel
theorem dX10_findSittings_424 : decode cX10_findSittings 424 = .ok (.iload 10, 2) := by decide +kernel
theorem dX10_findSittings_426 : decode cX10_findSittings 426 = .ok (.isub, 1) := by decide +kernel
theorem dX10_findSittings_427 : decode cX10_findSittings 427 = .ok (.baload, 1) := by decide +kernel
theorem dX10_findSittings_428 : decode cX10_findSittings 428 = .ok (.ifCond .eq 7, 3) := by decide +kernel
theorem dX10_findSittings_431 : decode cX10_findSittings 431 = .ok (.iconst 1, 1) := by decide +kernel
theorem dX10_findSittings_432 : decode cX10_findSittings 432 = .ok (.goto 4, 3) := by decide +kernel
theorem dX10_findSittings_435 : decode cX10_findSittings 435 = .ok (.iconst 0, 1) := by decide +kernel
theorem dX10_findSittings_436 : decode cX10_findSittings 436 = .ok (.istore 11, 2) := by decide +kernel
theorem dX10_findSittings_438 : decode cX10_findSittings 438 = .ok (.iload 7, 2) := by decide +kernel
theorem dX10_findSittings_440 : decode cX10_findSittings 440 = .ok (.ifCond .eq 36, 3) := by decide +kernel
theorem dX10_findSittings_443 : decode cX10_findSittings 443 = .ok (.iload 5, 2) := by decide +kernel
theorem dX10_findSittings_445 : decode cX10_findSittings 445 = .ok (.iload 10, 2) := by decide +kernel
theorem dX10_findSittings_447 : decode cX10_findSittings 447 = .ok (.if_icmp .lt 29, 3) := by decide +kernel
theorem dX10_findSittings_450 : decode cX10_findSittings 450 = .ok (.aload_n 0, 1) := by decide +kernel
theorem dX10_findSittings_451 : decode cX10_findSittings 451 = .ok (.getfield 50, 3) := by decide +kernel
theorem dX10_findSittings_454 : decode cX10_findSittings 454 = .ok (.sipush 200, 3) := by decide +kernel
theorem dX10_findSittings_457 : decode cX10_findSittings 457 = .ok (.iload 9, 2) := by decide +kernel
theorem dX10_findSittings_459 : decode cX10_findSittings 459 = .ok (.iconst 1, 1) := by decide +kernel
theorem dX10_findSittings_460 : decode cX10_findSittings 460 = .ok (.iadd, 1) := by decide +kernel
theorem dX10_findSittings_461 : decode cX10_findSittings 461 = .ok (.imul, 1) := by decide +kernel
theorem dX10_findSittings_462 : decode cX10_findSittings 462 = .ok (.iload 5, 2) := by decide +kernel
theorem dX10_findSittings_464 : decode cX10_findSittings 464 = .ok (.iadd, 1) := by decide +kernel
theorem dX10_findSittings_465 : decode cX10_findSittings 465 = .ok (.iload 10, 2) := by decide +kernel
theorem dX10_findSittings_467 : decode cX10_findSittings 467 = .ok (.isub, 1) := by decide +kernel
theorem dX10_findSittings_468 : decode cX10_findSittings 468 = .ok (.baload, 1) := by decide +kernel
theorem dX10_findSittings_469 : decode cX10_findSittings 469 = .ok (.ifCond .eq 7, 3) := by decide +kernel
theorem dX10_findSittings_472 : decode cX10_findSittings 472 = .ok (.iconst 1, 1) := by decide +kernel
theorem dX10_findSittings_473 : decode cX10_findSittings 473 = .ok (.goto 4, 3) := by decide +kernel
theorem dX10_findSittings_476 : decode cX10_findSittings 476 = .ok (.iconst 0, 1) := by decide +kernel
theorem dX10_findSittings_477 : decode cX10_findSittings 477 = .ok (.istore 12, 2) := by decide +kernel
theorem dX10_findSittings_479 : decode cX10_findSittings 479 = .ok (.iload 11, 2) := by decide +kernel
theorem dX10_findSittings_481 : decode cX10_findSittings 481 = .ok (.ifCond .ne 8, 3) := by decide +kernel
theorem dX10_findSittings_484 : decode cX10_findSittings 484 = .ok (.iload 12, 2) := by decide +kernel
theorem dX10_findSittings_486 : decode cX10_findSittings 486 = .ok (.ifCond .eq 26, 3) := by decide +kernel
theorem dX10_findSittings_489 : decode cX10_findSittings 489 = .ok (.aload_n 0, 1) := by decide +kernel
theorem dX10_findSittings_490 : decode cX10_findSittings 490 = .ok (.getfield 54, 3) := by decide +kernel
theorem dX10_findSittings_493 : decode cX10_findSittings 493 = .ok (.iload 9, 2) := by decide +kernel
theorem dX10_findSittings_495 : decode cX10_findSittings 495 = .ok (.iconst 0, 1) := by decide +kernel
theorem dX10_findSittings_496 : decode cX10_findSittings 496 = .ok (.iastore, 1) := by decide +kernel
theorem dX10_findSittings_497 : decode cX10_findSittings 497 = .ok (.iload 10, 2) := by decide +kernel
theorem dX10_findSittings_499 : decode cX10_findSittings 499 = .ok (.istore 8, 2) := by decide +kernel
theorem dX10_findSittings_501 : decode cX10_findSittings 501 = .ok (.iload 11, 2) := by decide +kernel
theorem dX10_findSittings_503 : decode cX10_findSittings 503 = .ok (.istore 6, 2) := by decide +kernel
theorem dX10_findSittings_505 : decode cX10_findSittings 505 = .ok (.iload 12, 2) := by decide +kernel
theorem dX10_findSittings_507 : decode cX10_findSittings 507 = .ok (.istore 7, 2) := by decide +kernel
theorem dX10_findSittings_509 : decode cX10_findSittings 509 = .ok (.goto 11, 3) := by decide +kernel
theorem dX10_findSittings_512 : decode cX10_findSittings 512 = .ok (.aload_n 0, 1) := by decide +kernel
theorem dX10_findSittings_513 : decode cX10_findSittings 513 = .ok (.getfield 54, 3) := by decide +kernel
theorem dX10_findSittings_516 : decode cX10_findSittings 516 = .ok (.iload 9, 2) := by decide +kernel
theorem dX10_findSittings_518 : decode cX10_findSittings 518 = .ok (.iconst 1, 1) := by decide +kernel
theorem dX10_findSittings_519 : decode cX10_findSittings 519 = .ok (.iastore, 1) := by decide +kernel
theorem dX10_findSittings_520 : decode cX10_findSittings 520 = .ok (.iinc 9 1, 3) := by decide +kernel
theorem dX10_findSittings_523 : decode cX10_findSittings 523 = .ok (.goto (-147), 3) := by decide +kernel
theorem dX10_findSittings_526 : decode cX10_findSittings 526 = .ok (.iload_n 3, 1) := by decide +kernel
theorem dX10_findSittings_527 : decode cX10_findSittings 527 = .ok (.ireturn, 1) := by decide +kernel
theorem dX10_apart_0 : decode cX10_apart 0 = .ok (.iload_n 1, 1) := by decide +kernel
theorem dX10_apart_1 : decode cX10_apart 1 = .ok (.invokestatic 145, 3) := by decide +kernel
theorem dX10_apart_4 : decode cX10_apart 4 = .ok (.ifCond .eq 11, 3) := by decide +kernel
theorem dX10_apart_7 : decode cX10_apart 7 = .ok (.aload_n 0, 1) := by decide +kernel
theorem dX10_apart_8 : decode cX10_apart 8 = .ok (.iload_n 1, 1) := by decide +kernel
theorem dX10_apart_9 : decode cX10_apart 9 = .ok (.invokevirtual 192, 3) := by decide +kernel
theorem dX10_apart_12 : decode cX10_apart 12 = .ok (.goto 5, 3) := by decide +kernel
theorem dX10_apart_15 : decode cX10_apart 15 = .ok (.bipush (-2), 2) := by decide +kernel
theorem dX10_apart_17 : decode cX10_apart 17 = .ok (.ireturn, 1) := by decide +kernel
theorem dX10_sits_0 : decode cX10_sits 0 = .ok (.aload_n 0, 1) := by decide +kernel
theorem dX10_sits_1 : decode cX10_sits 1 = .ok (.iload_n 1, 1) := by decide +kernel
theorem dX10_sits_2 : decode cX10_sits 2 = .ok (.invokevirtual 151, 3) := by decide +kernel
theorem dX10_sits_5 : decode cX10_sits 5 = .ok (.ifCond .eq 10, 3) := by decide +kernel
theorem dX10_sits_8 : decode cX10_sits 8 = .ok (.iload_n 2, 1) := by decide +kernel
theorem dX10_sits_9 : decode cX10_sits 9 = .ok (.invokestatic 145, 3) := by decide +kernel
theorem dX10_sits_12 : decode cX10_sits 12 = .ok (.ifCond .ne 6, 3) := by decide +kernel
theorem dX10_sits_15 : decode cX10_sits 15 = .ok (.bipush (-2), 2) := by decide +kernel
theorem dX10_sits_17 : decode cX10_sits 17 = .ok (.ireturn, 1) := by decide +kernel
theorem dX10_sits_18 : decode cX10_sits 18 = .ok (.aload_n 0, 1) := by decide +kernel
theorem dX10_sits_19 : decode cX10_sits 19 = .ok (.iload_n 1, 1) := by decide +kernel
theorem dX10_sits_20 : decode cX10_sits 20 = .ok (.iload_n 2, 1) := by decide +kernel
theorem dX10_sits_21 : decode cX10_sits 21 = .ok (.invokevirtual 174, 3) := by decide +kernel
theorem dX10_sits_24 : decode cX10_sits 24 = .ok (.ifCond .eq 12, 3) := by decide +kernel
theorem dX10_sits_27 : decode cX10_sits 27 = .ok (.aload_n 0, 1) := by decide +kernel
theorem dX10_sits_28 : decode cX10_sits 28 = .ok (.iload_n 2, 1) := by decide +kernel
theorem dX10_sits_29 : decode cX10_sits 29 = .ok (.invokevirtual 192, 3) := by decide +kernel
theorem dX10_sits_32 : decode cX10_sits 32 = .ok (.iconst (-1), 1) := by decide +kernel
theorem dX10_sits_33 : decode cX10_sits 33 = .ok (.if_icmp .ne 7, 3) := by decide +kernel
theorem dX10_sits_36 : decode cX10_sits 36 = .ok (.iconst (-1), 1) := by decide +kernel
theorem dX10_sits_37 : decode cX10_sits 37 = .ok (.goto 14, 3) := by decide +kernel
theorem dX10_sits_40 : decode cX10_sits 40 = .ok (.aload_n 0, 1) := by decide +kernel
theorem dX10_sits_41 : decode cX10_sits 41 = .ok (.getfield 54, 3) := by decide +kernel
theorem dX10_sits_44 : decode cX10_sits 44 = .ok (.aload_n 0, 1) := by decide +kernel
theorem dX10_sits_45 : decode cX10_sits 45 = .ok (.getfield 44, 3) := by decide +kernel
theorem dX10_sits_48 : decode cX10_sits 48 = .ok (.iload_n 1, 1) := by decide +kernel
theorem dX10_sits_49 : decode cX10_sits 49 = .ok (.iaload, 1) := by decide +kernel
theorem dX10_sits_50 : decode cX10_sits 50 = .ok (.iaload, 1) := by decide +kernel
theorem dX10_sits_51 : decode cX10_sits 51 = .ok (.ireturn, 1) := by decide +kernel
theorem dX10_more_0 : decode cX10_more 0 = .ok (.iload_n 1, 1) := by decide +kernel
theorem dX10_more_1 : decode cX10_more 1 = .ok (.i2l, 1) := by decide +kernel
theorem dX10_more_2 : decode cX10_more 2 = .ok (.lconst 0, 1) := by decide +kernel
theorem dX10_more_3 : decode cX10_more 3 = .ok (.ldc2_w 196, 3) := by decide +kernel
theorem dX10_more_6 : decode cX10_more 6 = .ok (.invokestatic 132, 3) := by decide +kernel
theorem dX10_more_9 : decode cX10_more 9 = .ok (.ifCond .ne 6, 3) := by decide +kernel
theorem dX10_more_12 : decode cX10_more 12 = .ok (.bipush (-2), 2) := by decide +kernel
theorem dX10_more_14 : decode cX10_more 14 = .ok (.ireturn, 1) := by decide +kernel
theorem dX10_more_15 : decode cX10_more 15 = .ok (.aload_n 0, 1) := by decide +kernel
theorem dX10_more_16 : decode cX10_more 16 = .ok (.getfield 57, 3) := by decide +kernel
theorem dX10_more_19 : decode cX10_more 19 = .ok (.istore_n 2, 1) := by decide +kernel
theorem dX10_more_20 : decode cX10_more 20 = .ok (.aload_n 0, 1) := by decide +kernel
theorem dX10_more_21 : decode cX10_more 21 = .ok (.iload_n 1, 1) := by decide +kernel
theorem dX10_more_22 : decode cX10_more 22 = .ok (.putfield 57, 3) := by decide +kernel
theorem dX10_more_25 : decode cX10_more 25 = .ok (.iload_n 2, 1) := by decide +kernel
theorem dX10_more_26 : decode cX10_more 26 = .ok (.ireturn, 1) := by decide +kernel
theorem dX10_dinners_0 : decode cX10_dinners 0 = .ok (.aload_n 0, 1) := by decide +kernel
theorem dX10_dinners_1 : decode cX10_dinners 1 = .ok (.iload_n 1, 1) := by decide +kernel
theorem dX10_dinners_2 : decode cX10_dinners 2 = .ok (.invokevirtual 192, 3) := by decide +kernel
theorem dX10_dinners_5 : decode cX10_dinners 5 = .ok (.iconst (-1), 1) := by decide +kernel
theorem dX10_dinners_6 : decode cX10_dinners 6 = .ok (.if_icmp .ne 5, 3) := by decide +kernel
theorem dX10_dinners_9 : decode cX10_dinners 9 = .ok (.iconst (-1), 1) := by decide +kernel
theorem dX10_dinners_10 : decode cX10_dinners 10 = .ok (.ireturn, 1) := by decide +kernel
theorem dX10_dinners_11 : decode cX10_dinners 11 = .ok (.iconst 0, 1) := by decide +kernel
theorem dX10_dinners_12 : decode cX10_dinners 12 = .ok (.istore_n 3, 1) := by decide +kernel
theorem dX10_dinners_13 : decode cX10_dinners 13 = .ok (.iconst 0, 1) := by decide +kernel
theorem dX10_dinners_14 : decode cX10_dinners 14 = .ok (.istore 4, 2) := by decide +kernel
theorem dX10_dinners_16 : decode cX10_dinners 16 = .ok (.iconst 0, 1) := by decide +kernel
theorem dX10_dinners_17 : decode cX10_dinners 17 = .ok (.istore 5, 2) := by decide +kernel
theorem dX10_dinners_19 : decode cX10_dinners 19 = .ok (.iload 5, 2) := by decide +kernel
theorem dX10_dinners_21 : decode cX10_dinners 21 = .ok (.aload_n 0, 1) := by decide +kernel
theorem dX10_dinners_22 : decode cX10_dinners 22 = .ok (.getfield 136, 3) := by decide +kernel
theorem dX10_dinners_25 : decode cX10_dinners 25 = .ok (.if_icmp .ge 58, 3) := by decide +kernel
theorem dX10_dinners_28 : decode cX10_dinners 28 = .ok (.aload_n 0, 1) := by decide +kernel
theorem dX10_dinners_29 : decode cX10_dinners 29 = .ok (.getfield 44, 3) := by decide +kernel
theorem dX10_dinners_32 : decode cX10_dinners 32 = .ok (.iload 5, 2) := by decide +kernel
theorem dX10_dinners_34 : decode cX10_dinners 34 = .ok (.iaload, 1) := by decide +kernel
theorem dX10_dinners_35 : decode cX10_dinners 35 = .ok (.iconst (-1), 1) := by decide +kernel
theorem dX10_dinners_36 : decode cX10_dinners 36 = .ok (.if_icmp .eq 41, 3) := by decide +kernel
theorem dX10_dinners_39 : decode cX10_dinners 39 = .ok (.aload_n 0, 1) := by decide +kernel
theorem dX10_dinners_40 : decode cX10_dinners 40 = .ok (.getfield 54, 3) := by decide +kernel
theorem dX10_dinners_43 : decode cX10_dinners 43 = .ok (.aload_n 0, 1) := by decide +kernel
theorem dX10_dinners_44 : decode cX10_dinners 44 = .ok (.getfield 44, 3) := by decide +kernel
theorem dX10_dinners_47 : decode cX10_dinners 47 = .ok (.iload 5, 2) := by decide +kernel
theorem dX10_dinners_49 : decode cX10_dinners 49 = .ok (.iaload, 1) := by decide +kernel
theorem dX10_dinners_50 : decode cX10_dinners 50 = .ok (.iaload, 1) := by decide +kernel
theorem dX10_dinners_51 : decode cX10_dinners 51 = .ok (.iload_n 2, 1) := by decide +kernel
theorem dX10_dinners_52 : decode cX10_dinners 52 = .ok (.if_icmp .ne 25, 3) := by decide +kernel
theorem dX10_dinners_55 : decode cX10_dinners 55 = .ok (.iload_n 3, 1) := by decide +kernel
theorem dX10_dinners_56 : decode cX10_dinners 56 = .ok (.aload_n 0, 1) := by decide +kernel
theorem dX10_dinners_57 : decode cX10_dinners 57 = .ok (.getfield 16, 3) := by decide +kernel
theorem dX10_dinners_60 : decode cX10_dinners 60 = .ok (.iload 5, 2) := by decide +kernel
theorem dX10_dinners_62 : decode cX10_dinners 62 = .ok (.iaload, 1) := by decide +kernel
theorem dX10_dinners_63 : decode cX10_dinners 63 = .ok (.iadd, 1) := by decide +kernel
theorem dX10_dinners_64 : decode cX10_dinners 64 = .ok (.istore_n 3, 1) := by decide +kernel
theorem dX10_dinners_65 : decode cX10_dinners 65 = .ok (.iload 4, 2) := by decide +kernel
theorem dX10_dinners_67 : decode cX10_dinners 67 = .ok (.aload_n 0, 1) := by decide +kernel
theorem dX10_dinners_68 : decode cX10_dinners 68 = .ok (.getfield 19, 3) := by decide +kernel
theorem dX10_dinners_71 : decode cX10_dinners 71 = .ok (.iload 5, 2) := by decide +kernel
theorem dX10_dinners_73 : decode cX10_dinners 73 = .ok (.iaload, 1) := by decide +kernel
theorem dX10_dinners_74 : decode cX10_dinners 74 = .ok (.iadd, 1) := by decide +kernel
theorem dX10_dinners_75 : decode cX10_dinners 75 = .ok (.istore 4, 2) := by decide +kernel
theorem dX10_dinners_77 : decode cX10_dinners 77 = .ok (.iinc 5 1, 3) := by decide +kernel
theorem dX10_dinners_80 : decode cX10_dinners 80 = .ok (.goto (-61), 3) := by decide +kernel
theorem dX10_dinners_83 : decode cX10_dinners 83 = .ok (.iload_n 3, 1) := by decide +kernel
theorem dX10_dinners_84 : decode cX10_dinners 84 = .ok (.iload 4, 2) := by decide +kernel
theorem dX10_dinners_86 : decode cX10_dinners 86 = .ok (.isub, 1) := by decide +kernel
theorem dX10_dinners_87 : decode cX10_dinners 87 = .ok (.iload 4, 2) := by decide +kernel
theorem dX10_dinners_89 : decode cX10_dinners 89 = .ok (.iconst 2, 1) := by decide +kernel
theorem dX10_dinners_90 : decode cX10_dinners 90 = .ok (.idiv, 1) := by decide +kernel
theorem dX10_dinners_91 : decode cX10_dinners 91 = .ok (.iadd, 1) := by decide +kernel
theorem dX10_dinners_92 : decode cX10_dinners 92 = .ok (.ireturn, 1) := by decide +kernel
theorem dX10_foretell_0 : decode cX10_foretell 0 = .ok (.iload_n 1, 1) := by decide +kernel
theorem dX10_foretell_1 : decode cX10_foretell 1 = .ok (.invokestatic 145, 3) := by decide +kernel
theorem dX10_foretell_4 : decode cX10_foretell 4 = .ok (.ifCond .eq 22, 3) := by decide +kernel
theorem dX10_foretell_7 : decode cX10_foretell 7 = .ok (.iload_n 2, 1) := by decide +kernel
theorem dX10_foretell_8 : decode cX10_foretell 8 = .ok (.i2l, 1) := by decide +kernel
theorem dX10_foretell_9 : decode cX10_foretell 9 = .ok (.lconst 0, 1) := by decide +kernel
theorem dX10_foretell_10 : decode cX10_foretell 10 = .ok (.lconst 1, 1) := by decide +kernel
theorem dX10_foretell_11 : decode cX10_foretell 11 = .ok (.invokestatic 132, 3) := by decide +kernel
theorem dX10_foretell_14 : decode cX10_foretell 14 = .ok (.ifCond .eq 12, 3) := by decide +kernel
theorem dX10_foretell_17 : decode cX10_foretell 17 = .ok (.aload_n 0, 1) := by decide +kernel
theorem dX10_foretell_18 : decode cX10_foretell 18 = .ok (.iload_n 1, 1) := by decide +kernel
theorem dX10_foretell_19 : decode cX10_foretell 19 = .ok (.iload_n 2, 1) := by decide +kernel
theorem dX10_foretell_20 : decode cX10_foretell 20 = .ok (.invokevirtual 198, 3) := by decide +kernel
theorem dX10_foretell_23 : decode cX10_foretell 23 = .ok (.goto 5, 3) := by decide +kernel
theorem dX10_foretell_26 : decode cX10_foretell 26 = .ok (.bipush (-2), 2) := by decide +kernel
theorem dX10_foretell_28 : decode cX10_foretell 28 = .ok (.ireturn, 1) := by decide +kernel
theorem dX10_cook_0 : decode cX10_cook 0 = .ok (.iload_n 1, 1) := by decide +kernel
theorem dX10_cook_1 : decode cX10_cook 1 = .ok (.invokestatic 145, 3) := by decide +kernel
theorem dX10_cook_4 : decode cX10_cook 4 = .ok (.ifCond .eq 25, 3) := by decide +kernel
theorem dX10_cook_7 : decode cX10_cook 7 = .ok (.iload_n 2, 1) := by decide +kernel
theorem dX10_cook_8 : decode cX10_cook 8 = .ok (.i2l, 1) := by decide +kernel
theorem dX10_cook_9 : decode cX10_cook 9 = .ok (.lconst 0, 1) := by decide +kernel
theorem dX10_cook_10 : decode cX10_cook 10 = .ok (.lconst 1, 1) := by decide +kernel
theorem dX10_cook_11 : decode cX10_cook 11 = .ok (.invokestatic 132, 3) := by decide +kernel
theorem dX10_cook_14 : decode cX10_cook 14 = .ok (.ifCond .eq 15, 3) := by decide +kernel
theorem dX10_cook_17 : decode cX10_cook 17 = .ok (.iload_n 3, 1) := by decide +kernel
theorem dX10_cook_18 : decode cX10_cook 18 = .ok (.i2l, 1) := by decide +kernel
theorem dX10_cook_19 : decode cX10_cook 19 = .ok (.lconst 0, 1) := by decide +kernel
theorem dX10_cook_20 : decode cX10_cook 20 = .ok (.ldc2_w 201, 3) := by decide +kernel
theorem dX10_cook_23 : decode cX10_cook 23 = .ok (.invokestatic 132, 3) := by decide +kernel
theorem dX10_cook_26 : decode cX10_cook 26 = .ok (.ifCond .ne 6, 3) := by decide +kernel
theorem dX10_cook_29 : decode cX10_cook 29 = .ok (.bipush (-2), 2) := by decide +kernel
theorem dX10_cook_31 : decode cX10_cook 31 = .ok (.ireturn, 1) := by decide +kernel
theorem dX10_cook_32 : decode cX10_cook 32 = .ok (.aload_n 0, 1) := by decide +kernel
theorem dX10_cook_33 : decode cX10_cook 33 = .ok (.iload_n 1, 1) := by decide +kernel
theorem dX10_cook_34 : decode cX10_cook 34 = .ok (.iload_n 2, 1) := by decide +kernel
theorem dX10_cook_35 : decode cX10_cook 35 = .ok (.invokevirtual 198, 3) := by decide +kernel
theorem dX10_cook_38 : decode cX10_cook 38 = .ok (.istore 4, 2) := by decide +kernel
theorem dX10_cook_40 : decode cX10_cook 40 = .ok (.iload 4, 2) := by decide +kernel
theorem dX10_cook_42 : decode cX10_cook 42 = .ok (.iconst (-1), 1) := by decide +kernel
theorem dX10_cook_43 : decode cX10_cook 43 = .ok (.if_icmp .ne 6, 3) := by decide +kernel
theorem dX10_cook_46 : decode cX10_cook 46 = .ok (.bipush (-3), 2) := by decide +kernel
theorem dX10_cook_48 : decode cX10_cook 48 = .ok (.ireturn, 1) := by decide +kernel
theorem dX10_cook_49 : decode cX10_cook 49 = .ok (.aload_n 0, 1) := by decide +kernel
theorem dX10_cook_50 : decode cX10_cook 50 = .ok (.getfield 203, 3) := by decide +kernel
theorem dX10_cook_53 : decode cX10_cook 53 = .ok (.bipush 40, 2) := by decide +kernel
theorem dX10_cook_55 : decode cX10_cook 55 = .ok (.if_icmp .ne 6, 3) := by decide +kernel
theorem dX10_cook_58 : decode cX10_cook 58 = .ok (.bipush (-4), 2) := by decide +kernel
theorem dX10_cook_60 : decode cX10_cook 60 = .ok (.ireturn, 1) := by decide +kernel
theorem dX10_cook_61 : decode cX10_cook 61 = .ok (.iload 4, 2) := by decide +kernel
theorem dX10_cook_63 : decode cX10_cook 63 = .ok (.iload 4, 2) := by decide +kernel
theorem dX10_cook_65 : decode cX10_cook 65 = .ok (.aload_n 0, 1) := by decide +kernel
theorem dX10_cook_66 : decode cX10_cook 66 = .ok (.getfield 57, 3) := by decide +kernel
theorem dX10_cook_69 : decode cX10_cook 69 = .ok (.imul, 1) := by decide +kernel
theorem dX10_cook_70 : decode cX10_cook 70 = .ok (.bipush 100, 2) := by decide +kernel
theorem dX10_cook_72 : decode cX10_cook 72 = .ok (.idiv, 1) := by decide +kernel
theorem dX10_cook_73 : decode cX10_cook 73 = .ok (.iadd, 1) := by decide +kernel
theorem dX10_cook_74 : decode cX10_cook 74 = .ok (.istore 5, 2) := by decide +kernel
theorem dX10_cook_76 : decode cX10_cook 76 = .ok (.aload_n 0, 1) := by decide +kernel
theorem dX10_cook_77 : decode cX10_cook 77 = .ok (.getfield 60, 3) := by decide +kernel
theorem dX10_cook_80 : decode cX10_cook 80 = .ok (.iconst 5, 1) := by decide +kernel
theorem dX10_cook_81 : decode cX10_cook 81 = .ok (.aload_n 0, 1) := by decide +kernel
theorem dX10_cook_82 : decode cX10_cook 82 = .ok (.getfield 203, 3) := by decide +kernel
theorem dX10_cook_85 : decode cX10_cook 85 = .ok (.imul, 1) := by decide +kernel
theorem dX10_cook_86 : decode cX10_cook 86 = .ok (.iload_n 1, 1) := by decide +kernel
theorem dX10_cook_87 : decode cX10_cook 87 = .ok (.iastore, 1) := by decide +kernel
theorem dX10_cook_88 : decode cX10_cook 88 = .ok (.aload_n 0, 1) := by decide +kernel
theorem dX10_cook_89 : decode cX10_cook 89 = .ok (.getfield 60, 3) := by decide +kernel
theorem dX10_cook_92 : decode cX10_cook 92 = .ok (.iconst 5, 1) := by decide +kernel
theorem dX10_cook_93 : decode cX10_cook 93 = .ok (.aload_n 0, 1) := by decide +kernel
theorem dX10_cook_94 : decode cX10_cook 94 = .ok (.getfield 203, 3) := by decide +kernel
theorem dX10_cook_97 : decode cX10_cook 97 = .ok (.imul, 1) := by decide +kernel
theorem dX10_cook_98 : decode cX10_cook 98 = .ok (.iconst 1, 1) := by decide +kernel
theorem dX10_cook_99 : decode cX10_cook 99 = .ok (.iadd, 1) := by decide +kernel
theorem dX10_cook_100 : decode cX10_cook 100 = .ok (.iload_n 2, 1) := by decide +kernel
theorem dX10_cook_101 : decode cX10_cook 101 = .ok (.iastore, 1) := by decide +kernel
theorem dX10_cook_102 : decode cX10_cook 102 = .ok (.aload_n 0, 1) := by decide +kernel
theorem dX10_cook_103 : decode cX10_cook 103 = .ok (.getfield 60, 3) := by decide +kernel
theorem dX10_cook_106 : decode cX10_cook 106 = .ok (.iconst 5, 1) := by decide +kernel
theorem dX10_cook_107 : decode cX10_cook 107 = .ok (.aload_n 0, 1) := by decide +kernel
theorem dX10_cook_108 : decode cX10_cook 108 = .ok (.getfield 203, 3) := by decide +kernel
theorem dX10_cook_111 : decode cX10_cook 111 = .ok (.imul, 1) := by decide +kernel
theorem dX10_cook_112 : decode cX10_cook 112 = .ok (.iconst 2, 1) := by decide +kernel
theorem dX10_cook_113 : decode cX10_cook 113 = .ok (.iadd, 1) := by decide +kernel
theorem dX10_cook_114 : decode cX10_cook 114 = .ok (.iload 4, 2) := by decide +kernel
theorem dX10_cook_116 : decode cX10_cook 116 = .ok (.iastore, 1) := by decide +kernel
theorem dX10_cook_117 : decode cX10_cook 117 = .ok (.aload_n 0, 1) := by decide +kernel
theorem dX10_cook_118 : decode cX10_cook 118 = .ok (.getfield 60, 3) := by decide +kernel
theorem dX10_cook_121 : decode cX10_cook 121 = .ok (.iconst 5, 1) := by decide +kernel
theorem dX10_cook_122 : decode cX10_cook 122 = .ok (.aload_n 0, 1) := by decide +kernel
theorem dX10_cook_123 : decode cX10_cook 123 = .ok (.getfield 203, 3) := by decide +kernel
theorem dX10_cook_126 : decode cX10_cook 126 = .ok (.imul, 1) := by decide +kernel
theorem dX10_cook_127 : decode cX10_cook 127 = .ok (.iconst 3, 1) := by decide +kernel
theorem dX10_cook_128 : decode cX10_cook 128 = .ok (.iadd, 1) := by decide +kernel
theorem dX10_cook_129 : decode cX10_cook 129 = .ok (.iload 5, 2) := by decide +kernel
theorem dX10_cook_131 : decode cX10_cook 131 = .ok (.iastore, 1) := by decide +kernel
theorem dX10_cook_132 : decode cX10_cook 132 = .ok (.aload_n 0, 1) := by decide +kernel
theorem dX10_cook_133 : decode cX10_cook 133 = .ok (.getfield 60, 3) := by decide +kernel
theorem dX10_cook_136 : decode cX10_cook 136 = .ok (.iconst 5, 1) := by decide +kernel
theorem dX10_cook_137 : decode cX10_cook 137 = .ok (.aload_n 0, 1) := by decide +kernel
theorem dX10_cook_138 : decode cX10_cook 138 = .ok (.getfield 203, 3) := by decide +kernel
theorem dX10_cook_141 : decode cX10_cook 141 = .ok (.imul, 1) := by decide +kernel
theorem dX10_cook_142 : decode cX10_cook 142 = .ok (.iconst 4, 1) := by decide +kernel
theorem dX10_cook_143 : decode cX10_cook 143 = .ok (.iadd, 1) := by decide +kernel
theorem dX10_cook_144 : decode cX10_cook 144 = .ok (.iload_n 3, 1) := by decide +kernel
theorem dX10_cook_145 : decode cX10_cook 145 = .ok (.iastore, 1) := by decide +kernel
theorem dX10_cook_146 : decode cX10_cook 146 = .ok (.aload_n 0, 1) := by decide +kernel
theorem dX10_cook_147 : decode cX10_cook 147 = .ok (.dup, 1) := by decide +kernel
theorem dX10_cook_148 : decode cX10_cook 148 = .ok (.getfield 203, 3) := by decide +kernel
theorem dX10_cook_151 : decode cX10_cook 151 = .ok (.iconst 1, 1) := by decide +kernel
theorem dX10_cook_152 : decode cX10_cook 152 = .ok (.iadd, 1) := by decide +kernel
theorem dX10_cook_153 : decode cX10_cook 153 = .ok (.putfield 203, 3) := by decide +kernel
theorem dX10_cook_156 : decode cX10_cook 156 = .ok (.iload 5, 2) := by decide +kernel
theorem dX10_cook_158 : decode cX10_cook 158 = .ok (.iload_n 3, 1) := by decide +kernel
theorem dX10_cook_159 : decode cX10_cook 159 = .ok (.if_icmp .lt 10, 3) := by decide +kernel
theorem dX10_cook_162 : decode cX10_cook 162 = .ok (.iload 5, 2) := by decide +kernel
theorem dX10_cook_164 : decode cX10_cook 164 = .ok (.iload_n 3, 1) := by decide +kernel
theorem dX10_cook_165 : decode cX10_cook 165 = .ok (.isub, 1) := by decide +kernel
theorem dX10_cook_166 : decode cX10_cook 166 = .ok (.goto 11, 3) := by decide +kernel
theorem dX10_cook_169 : decode cX10_cook 169 = .ok (.sipush (-1000), 3) := by decide +kernel
theorem dX10_cook_172 : decode cX10_cook 172 = .ok (.iload_n 3, 1) := by decide +kernel
theorem dX10_cook_173 : decode cX10_cook 173 = .ok (.iload 5, 2) := by decide +kernel
theorem dX10_cook_175 : decode cX10_cook 175 = .ok (.isub, 1) := by decide +kernel
theorem dX10_cook_176 : decode cX10_cook 176 = .ok (.isub, 1) := by decide +kernel
theorem dX10_cook_177 : decode cX10_cook 177 = .ok (.ireturn, 1) := by decide +kernel
theorem dX10_line_0 : decode cX10_line 0 = .ok (.iload_n 1, 1) := by decide +kernel
theorem dX10_line_1 : decode cX10_line 1 = .ok (.i2l, 1) := by decide +kernel
theorem dX10_line_2 : decode cX10_line 2 = .ok (.lconst 0, 1) := by decide +kernel
theorem dX10_line_3 : decode cX10_line 3 = .ok (.aload_n 0, 1) := by decide +kernel
theorem dX10_line_4 : decode cX10_line 4 = .ok (.getfield 203, 3) := by decide +kernel
theorem dX10_line_7 : decode cX10_line 7 = .ok (.iconst 1, 1) := by decide +kernel
theorem dX10_line_8 : decode cX10_line 8 = .ok (.isub, 1) := by decide +kernel
theorem dX10_line_9 : decode cX10_line 9 = .ok (.i2l, 1) := by decide +kernel
theorem dX10_line_10 : decode cX10_line 10 = .ok (.invokestatic 132, 3) := by decide +kernel
theorem dX10_line_13 : decode cX10_line 13 = .ok (.ifCond .eq 28, 3) := by decide +kernel
theorem dX10_line_16 : decode cX10_line 16 = .ok (.iload_n 2, 1) := by decide +kernel
theorem dX10_line_17 : decode cX10_line 17 = .ok (.i2l, 1) := by decide +kernel
theorem dX10_line_18 : decode cX10_line 18 = .ok (.lconst 0, 1) := by decide +kernel
theorem dX10_line_19 : decode cX10_line 19 = .ok (.ldc2_w 206, 3) := by decide +kernel
theorem dX10_line_22 : decode cX10_line 22 = .ok (.invokestatic 132, 3) := by decide +kernel
theorem dX10_line_25 : decode cX10_line 25 = .ok (.ifCond .eq 16, 3) := by decide +kernel
theorem dX10_line_28 : decode cX10_line 28 = .ok (.aload_n 0, 1) := by decide +kernel
theorem dX10_line_29 : decode cX10_line 29 = .ok (.getfield 60, 3) := by decide +kernel
theorem dX10_line_32 : decode cX10_line 32 = .ok (.iconst 5, 1) := by decide +kernel
theorem dX10_line_33 : decode cX10_line 33 = .ok (.iload_n 1, 1) := by decide +kernel
theorem dX10_line_34 : decode cX10_line 34 = .ok (.imul, 1) := by decide +kernel
theorem dX10_line_35 : decode cX10_line 35 = .ok (.iload_n 2, 1) := by decide +kernel
theorem dX10_line_36 : decode cX10_line 36 = .ok (.iadd, 1) := by decide +kernel
theorem dX10_line_37 : decode cX10_line 37 = .ok (.iaload, 1) := by decide +kernel
theorem dX10_line_38 : decode cX10_line 38 = .ok (.goto 5, 3) := by decide +kernel
theorem dX10_line_41 : decode cX10_line 41 = .ok (.bipush (-2), 2) := by decide +kernel
theorem dX10_line_43 : decode cX10_line 43 = .ok (.ireturn, 1) := by decide +kernel
theorem dX10_hall_0 : decode cX10_hall 0 = .ok (.iload_n 1, 1) := by decide +kernel
theorem dX10_hall_1 : decode cX10_hall 1 = .ok (.i2l, 1) := by decide +kernel
theorem dX10_hall_2 : decode cX10_hall 2 = .ok (.lconst 0, 1) := by decide +kernel
theorem dX10_hall_3 : decode cX10_hall 3 = .ok (.ldc2_w 141, 3) := by decide +kernel
theorem dX10_hall_6 : decode cX10_hall 6 = .ok (.invokestatic 132, 3) := by decide +kernel
theorem dX10_hall_9 : decode cX10_hall 9 = .ok (.ifCond .eq 15, 3) := by decide +kernel
theorem dX10_hall_12 : decode cX10_hall 12 = .ok (.iload_n 2, 1) := by decide +kernel
theorem dX10_hall_13 : decode cX10_hall 13 = .ok (.i2l, 1) := by decide +kernel
theorem dX10_hall_14 : decode cX10_hall 14 = .ok (.lconst 0, 1) := by decide +kernel
theorem dX10_hall_15 : decode cX10_hall 15 = .ok (.ldc2_w 201, 3) := by decide +kernel
theorem dX10_hall_18 : decode cX10_hall 18 = .ok (.invokestatic 132, 3) := by decide +kernel
theorem dX10_hall_21 : decode cX10_hall 21 = .ok (.ifCond .ne 6, 3) := by decide +kernel
theorem dX10_hall_24 : decode cX10_hall 24 = .ok (.bipush (-2), 2) := by decide +kernel
theorem dX10_hall_26 : decode cX10_hall 26 = .ok (.ireturn, 1) := by decide +kernel
theorem dX10_hall_27 : decode cX10_hall 27 = .ok (.aload_n 0, 1) := by decide +kernel
theorem dX10_hall_28 : decode cX10_hall 28 = .ok (.getfield 63, 3) := by decide +kernel
theorem dX10_hall_31 : decode cX10_hall 31 = .ok (.iload_n 1, 1) := by decide +kernel
theorem dX10_hall_32 : decode cX10_hall 32 = .ok (.iaload, 1) := by decide +kernel
theorem dX10_hall_33 : decode cX10_hall 33 = .ok (.istore_n 3, 1) := by decide +kernel
theorem dX10_hall_34 : decode cX10_hall 34 = .ok (.aload_n 0, 1) := by decide +kernel
theorem dX10_hall_35 : decode cX10_hall 35 = .ok (.getfield 63, 3) := by decide +kernel
theorem dX10_hall_38 : decode cX10_hall 38 = .ok (.iload_n 1, 1) := by decide +kernel
theorem dX10_hall_39 : decode cX10_hall 39 = .ok (.iload_n 2, 1) := by decide +kernel
theorem dX10_hall_40 : decode cX10_hall 40 = .ok (.iastore, 1) := by decide +kernel
theorem dX10_hall_41 : decode cX10_hall 41 = .ok (.iload_n 3, 1) := by decide +kernel
theorem dX10_hall_42 : decode cX10_hall 42 = .ok (.ireturn, 1) := by decide +kernel
theorem dX10_show_0 : decode cX10_show 0 = .ok (.iload_n 1, 1) := by decide +kernel
theorem dX10_show_1 : decode cX10_show 1 = .ok (.i2l, 1) := by decide +kernel
theorem dX10_show_2 : decode cX10_show 2 = .ok (.ldc2_w 149, 3) := by decide +kernel
theorem dX10_show_5 : decode cX10_show 5 = .ok (.ldc2_w 141, 3) := by decide +kernel
theorem dX10_show_8 : decode cX10_show 8 = .ok (.invokestatic 132, 3) := by decide +kernel
theorem dX10_show_11 : decode cX10_show 11 = .ok (.ifCond .eq 39, 3) := by decide +kernel
theorem dX10_show_14 : decode cX10_show 14 = .ok (.iload_n 2, 1) := by decide +kernel
theorem dX10_show_15 : decode cX10_show 15 = .ok (.i2l, 1) := by decide +kernel
theorem dX10_show_16 : decode cX10_show 16 = .ok (.lconst 0, 1) := by decide +kernel
theorem dX10_show_17 : decode cX10_show 17 = .ok (.ldc2_w 208, 3) := by decide +kernel
theorem dX10_show_20 : decode cX10_show 20 = .ok (.invokestatic 132, 3) := by decide +kernel
theorem dX10_show_23 : decode cX10_show 23 = .ok (.ifCond .eq 27, 3) := by decide +kernel
theorem dX10_show_26 : decode cX10_show 26 = .ok (.iload_n 3, 1) := by decide +kernel
theorem dX10_show_27 : decode cX10_show 27 = .ok (.i2l, 1) := by decide +kernel
theorem dX10_show_28 : decode cX10_show 28 = .ok (.ldc2_w 149, 3) := by decide +kernel
theorem dX10_show_31 : decode cX10_show 31 = .ok (.ldc2_w 141, 3) := by decide +kernel
theorem dX10_show_34 : decode cX10_show 34 = .ok (.invokestatic 132, 3) := by decide +kernel
theorem dX10_show_37 : decode cX10_show 37 = .ok (.ifCond .eq 13, 3) := by decide +kernel
theorem dX10_show_40 : decode cX10_show 40 = .ok (.iload_n 1, 1) := by decide +kernel
theorem dX10_show_41 : decode cX10_show 41 = .ok (.iconst (-1), 1) := by decide +kernel
theorem dX10_show_42 : decode cX10_show 42 = .ok (.if_icmp .eq 11, 3) := by decide +kernel
theorem dX10_show_45 : decode cX10_show 45 = .ok (.iload_n 3, 1) := by decide +kernel
theorem dX10_show_46 : decode cX10_show 46 = .ok (.iconst (-1), 1) := by decide +kernel
theorem dX10_show_47 : decode cX10_show 47 = .ok (.if_icmp .eq 6, 3) := by decide +kernel
theorem dX10_show_50 : decode cX10_show 50 = .ok (.bipush (-2), 2) := by decide +kernel
theorem dX10_show_52 : decode cX10_show 52 = .ok (.ireturn, 1) := by decide +kernel
theorem dX10_show_53 : decode cX10_show 53 = .ok (.aload_n 0, 1) := by decide +kernel
theorem dX10_show_54 : decode cX10_show 54 = .ok (.getfield 210, 3) := by decide +kernel
theorem dX10_show_57 : decode cX10_show 57 = .ok (.bipush 12, 2) := by decide +kernel
theorem dX10_show_59 : decode cX10_show 59 = .ok (.if_icmp .ne 6, 3) := by decide +kernel
theorem dX10_show_62 : decode cX10_show 62 = .ok (.bipush (-4), 2) := by decide +kernel
theorem dX10_show_64 : decode cX10_show 64 = .ok (.ireturn, 1) := by decide +kernel
theorem dX10_show_65 : decode cX10_show 65 = .ok (.aload_n 0, 1) := by decide +kernel
theorem dX10_show_66 : decode cX10_show 66 = .ok (.getfield 66, 3) := by decide +kernel
theorem dX10_show_69 : decode cX10_show 69 = .ok (.aload_n 0, 1) := by decide +kernel
theorem dX10_show_70 : decode cX10_show 70 = .ok (.getfield 210, 3) := by decide +kernel
theorem dX10_show_73 : decode cX10_show 73 = .ok (.iload_n 1, 1) := by decide +kernel
theorem dX10_show_74 : decode cX10_show 74 = .ok (.iastore, 1) := by decide +kernel
theorem dX10_show_75 : decode cX10_show 75 = .ok (.aload_n 0, 1) := by decide +kernel
theorem dX10_show_76 : decode cX10_show 76 = .ok (.getfield 69, 3) := by decide +kernel
theorem dX10_show_79 : decode cX10_show 79 = .ok (.aload_n 0, 1) := by decide +kernel
theorem dX10_show_80 : decode cX10_show 80 = .ok (.getfield 210, 3) := by decide +kernel
theorem dX10_show_83 : decode cX10_show 83 = .ok (.iload_n 2, 1) := by decide +kernel
theorem dX10_show_84 : decode cX10_show 84 = .ok (.iastore, 1) := by decide +kernel
theorem dX10_show_85 : decode cX10_show 85 = .ok (.aload_n 0, 1) := by decide +kernel
theorem dX10_show_86 : decode cX10_show 86 = .ok (.getfield 72, 3) := by decide +kernel
theorem dX10_show_89 : decode cX10_show 89 = .ok (.aload_n 0, 1) := by decide +kernel
theorem dX10_show_90 : decode cX10_show 90 = .ok (.getfield 210, 3) := by decide +kernel
theorem dX10_show_93 : decode cX10_show 93 = .ok (.iload_n 3, 1) := by decide +kernel
theorem dX10_show_94 : decode cX10_show 94 = .ok (.iastore, 1) := by decide +kernel
theorem dX10_show_95 : decode cX10_show 95 = .ok (.aload_n 0, 1) := by decide +kernel
theorem dX10_show_96 : decode cX10_show 96 = .ok (.dup, 1) := by decide +kernel
theorem dX10_show_97 : decode cX10_show 97 = .ok (.getfield 210, 3) := by decide +kernel
theorem dX10_show_100 : decode cX10_show 100 = .ok (.iconst 1, 1) := by decide +kernel
theorem dX10_show_101 : decode cX10_show 101 = .ok (.iadd, 1) := by decide +kernel
theorem dX10_show_102 : decode cX10_show 102 = .ok (.putfield 210, 3) := by decide +kernel
theorem dX10_show_105 : decode cX10_show 105 = .ok (.aload_n 0, 1) := by decide +kernel
theorem dX10_show_106 : decode cX10_show 106 = .ok (.getfield 210, 3) := by decide +kernel
theorem dX10_show_109 : decode cX10_show 109 = .ok (.iconst 1, 1) := by decide +kernel
theorem dX10_show_110 : decode cX10_show 110 = .ok (.isub, 1) := by decide +kernel
theorem dX10_show_111 : decode cX10_show 111 = .ok (.ireturn, 1) := by decide +kernel
theorem dX10_wish_0 : decode cX10_wish 0 = .ok (.aload_n 0, 1) := by decide +kernel
theorem dX10_wish_1 : decode cX10_wish 1 = .ok (.iload_n 1, 1) := by decide +kernel
theorem dX10_wish_2 : decode cX10_wish 2 = .ok (.invokevirtual 151, 3) := by decide +kernel
theorem dX10_wish_5 : decode cX10_wish 5 = .ok (.ifCond .eq 19, 3) := by decide +kernel
theorem dX10_wish_8 : decode cX10_wish 8 = .ok (.iload_n 2, 1) := by decide +kernel
theorem dX10_wish_9 : decode cX10_wish 9 = .ok (.i2l, 1) := by decide +kernel
theorem dX10_wish_10 : decode cX10_wish 10 = .ok (.lconst 0, 1) := by decide +kernel
theorem dX10_wish_11 : decode cX10_wish 11 = .ok (.aload_n 0, 1) := by decide +kernel
theorem dX10_wish_12 : decode cX10_wish 12 = .ok (.getfield 210, 3) := by decide +kernel
theorem dX10_wish_15 : decode cX10_wish 15 = .ok (.iconst 1, 1) := by decide +kernel
theorem dX10_wish_16 : decode cX10_wish 16 = .ok (.isub, 1) := by decide +kernel
theorem dX10_wish_17 : decode cX10_wish 17 = .ok (.i2l, 1) := by decide +kernel
theorem dX10_wish_18 : decode cX10_wish 18 = .ok (.invokestatic 132, 3) := by decide +kernel
theorem dX10_wish_21 : decode cX10_wish 21 = .ok (.ifCond .ne 6, 3) := by decide +kernel
theorem dX10_wish_24 : decode cX10_wish 24 = .ok (.bipush (-2), 2) := by decide +kernel
theorem dX10_wish_26 : decode cX10_wish 26 = .ok (.ireturn, 1) := by decide +kernel
theorem dX10_wish_27 : decode cX10_wish 27 = .ok (.iconst 0, 1) := by decide +kernel
theorem dX10_wish_28 : decode cX10_wish 28 = .ok (.istore_n 3, 1) := by decide +kernel
theorem dX10_wish_29 : decode cX10_wish 29 = .ok (.iload_n 3, 1) := by decide +kernel
theorem dX10_wish_30 : decode cX10_wish 30 = .ok (.aload_n 0, 1) := by decide +kernel
theorem dX10_wish_31 : decode cX10_wish 31 = .ok (.getfield 75, 3) := by decide +kernel
theorem dX10_wish_34 : decode cX10_wish 34 = .ok (.iload_n 1, 1) := by decide +kernel
theorem dX10_wish_35 : decode cX10_wish 35 = .ok (.iaload, 1) := by decide +kernel
theorem dX10_wish_36 : decode cX10_wish 36 = .ok (.if_icmp .ge 27, 3) := by decide +kernel
theorem dX10_wish_39 : decode cX10_wish 39 = .ok (.aload_n 0, 1) := by decide +kernel
theorem dX10_wish_40 : decode cX10_wish 40 = .ok (.getfield 78, 3) := by decide +kernel
theorem dX10_wish_43 : decode cX10_wish 43 = .ok (.bipush 6, 2) := by decide +kernel
theorem dX10_wish_45 : decode cX10_wish 45 = .ok (.iload_n 1, 1) := by decide +kernel
theorem dX10_wish_46 : decode cX10_wish 46 = .ok (.imul, 1) := by decide +kernel
theorem dX10_wish_47 : decode cX10_wish 47 = .ok (.iload_n 3, 1) := by decide +kernel
theorem dX10_wish_48 : decode cX10_wish 48 = .ok (.iadd, 1) := by decide +kernel
theorem dX10_wish_49 : decode cX10_wish 49 = .ok (.iaload, 1) := by decide +kernel
theorem dX10_wish_50 : decode cX10_wish 50 = .ok (.iload_n 2, 1) := by decide +kernel
theorem dX10_wish_51 : decode cX10_wish 51 = .ok (.if_icmp .ne 6, 3) := by decide +kernel
theorem dX10_wish_54 : decode cX10_wish 54 = .ok (.bipush (-2), 2) := by decide +kernel
theorem dX10_wish_56 : decode cX10_wish 56 = .ok (.ireturn, 1) := by decide +kernel
theorem dX10_wish_57 : decode cX10_wish 57 = .ok (.iinc 3 1, 3) := by decide +kernel
theorem dX10_wish_60 : decode cX10_wish 60 = .ok (.goto (-31), 3) := by decide +kernel
theorem dX10_wish_63 : decode cX10_wish 63 = .ok (.aload_n 0, 1) := by decide +kernel
theorem dX10_wish_64 : decode cX10_wish 64 = .ok (.getfield 75, 3) := by decide +kernel
theorem dX10_wish_67 : decode cX10_wish 67 = .ok (.iload_n 1, 1) := by decide +kernel
theorem dX10_wish_68 : decode cX10_wish 68 = .ok (.iaload, 1) := by decide +kernel
theorem dX10_wish_69 : decode cX10_wish 69 = .ok (.bipush 6, 2) := by decide +kernel
theorem dX10_wish_71 : decode cX10_wish 71 = .ok (.if_icmp .ne 6, 3) := by decide +kernel
theorem dX10_wish_74 : decode cX10_wish 74 = .ok (.bipush (-4), 2) := by decide +kernel
theorem dX10_wish_76 : decode cX10_wish 76 = .ok (.ireturn, 1) := by decide +kernel
theorem dX10_wish_77 : decode cX10_wish 77 = .ok (.aload_n 0, 1) := by decide +kernel
theorem dX10_wish_78 : decode cX10_wish 78 = .ok (.getfield 78, 3) := by decide +kernel
theorem dX10_wish_81 : decode cX10_wish 81 = .ok (.bipush 6, 2) := by decide +kernel
theorem dX10_wish_83 : decode cX10_wish 83 = .ok (.iload_n 1, 1) := by decide +kernel
theorem dX10_wish_84 : decode cX10_wish 84 = .ok (.imul, 1) := by decide +kernel
theorem dX10_wish_85 : decode cX10_wish 85 = .ok (.aload_n 0, 1) := by decide +kernel
theorem dX10_wish_86 : decode cX10_wish 86 = .ok (.getfield 75, 3) := by decide +kernel
theorem dX10_wish_89 : decode cX10_wish 89 = .ok (.iload_n 1, 1) := by decide +kernel
theorem dX10_wish_90 : decode cX10_wish 90 = .ok (.iaload, 1) := by decide +kernel
theorem dX10_wish_91 : decode cX10_wish 91 = .ok (.iadd, 1) := by decide +kernel
theorem dX10_wish_92 : decode cX10_wish 92 = .ok (.iload_n 2, 1) := by decide +kernel
theorem dX10_wish_93 : decode cX10_wish 93 = .ok (.iastore, 1) := by decide +kernel
theorem dX10_wish_94 : decode cX10_wish 94 = .ok (.aload_n 0, 1) := by decide +kernel
theorem dX10_wish_95 : decode cX10_wish 95 = .ok (.getfield 75, 3) := by decide +kernel
theorem dX10_wish_98 : decode cX10_wish 98 = .ok (.iload_n 1, 1) := by decide +kernel
theorem dX10_wish_99 : decode cX10_wish 99 = .ok (.dup2, 1) := by decide +kernel
theorem dX10_wish_100 : decode cX10_wish 100 = .ok (.iaload, 1) := by decide +kernel
theorem dX10_wish_101 : decode cX10_wish 101 = .ok (.iconst 1, 1) := by decide +kernel
theorem dX10_wish_102 : decode cX10_wish 102 = .ok (.iadd, 1) := by decide +kernel
theorem dX10_wish_103 : decode cX10_wish 103 = .ok (.iastore, 1) := by decide +kernel
theorem dX10_wish_104 : decode cX10_wish 104 = .ok (.aload_n 0, 1) := by decide +kernel
theorem dX10_wish_105 : decode cX10_wish 105 = .ok (.getfield 75, 3) := by decide +kernel
theorem dX10_wish_108 : decode cX10_wish 108 = .ok (.iload_n 1, 1) := by decide +kernel
theorem dX10_wish_109 : decode cX10_wish 109 = .ok (.iaload, 1) := by decide +kernel
theorem dX10_wish_110 : decode cX10_wish 110 = .ok (.ireturn, 1) := by decide +kernel
theorem dX10_isWet_0 : decode cX10_isWet 0 = .ok (.iconst 0, 1) := by decide +kernel
theorem dX10_isWet_1 : decode cX10_isWet 1 = .ok (.istore_n 2, 1) := by decide +kernel
theorem dX10_isWet_2 : decode cX10_isWet 2 = .ok (.iload_n 1, 1) := by decide +kernel
theorem dX10_isWet_3 : decode cX10_isWet 3 = .ok (.iload_n 1, 1) := by decide +kernel
theorem dX10_isWet_4 : decode cX10_isWet 4 = .ok (.bipush 8, 2) := by decide +kernel
theorem dX10_isWet_6 : decode cX10_isWet 6 = .ok (.irem, 1) := by decide +kernel
theorem dX10_isWet_7 : decode cX10_isWet 7 = .ok (.isub, 1) := by decide +kernel
theorem dX10_isWet_8 : decode cX10_isWet 8 = .ok (.istore_n 3, 1) := by decide +kernel
theorem dX10_isWet_9 : decode cX10_isWet 9 = .ok (.iload_n 3, 1) := by decide +kernel
theorem dX10_isWet_10 : decode cX10_isWet 10 = .ok (.iload_n 1, 1) := by decide +kernel
theorem dX10_isWet_11 : decode cX10_isWet 11 = .ok (.if_icmp .gt 48, 3) := by decide +kernel
theorem dX10_isWet_14 : decode cX10_isWet 14 = .ok (.iload_n 2, 1) := by decide +kernel
theorem dX10_isWet_15 : decode cX10_isWet 15 = .ok (.ifCond .ne 32, 3) := by decide +kernel
theorem dX10_isWet_18 : decode cX10_isWet 18 = .ok (.aload_n 0, 1) := by decide +kernel
theorem dX10_isWet_19 : decode cX10_isWet 19 = .ok (.getfield 117, 3) := by decide +kernel
theorem dX10_isWet_22 : decode cX10_isWet 22 = .ok (.iconst 0, 1) := by decide +kernel
theorem dX10_isWet_23 : decode cX10_isWet 23 = .ok (.iaload, 1) := by decide +kernel
theorem dX10_isWet_24 : decode cX10_isWet 24 = .ok (.iconst (-1), 1) := by decide +kernel
theorem dX10_isWet_25 : decode cX10_isWet 25 = .ok (.if_icmp .eq 26, 3) := by decide +kernel
theorem dX10_isWet_28 : decode cX10_isWet 28 = .ok (.iload_n 3, 1) := by decide +kernel
theorem dX10_isWet_29 : decode cX10_isWet 29 = .ok (.aload_n 0, 1) := by decide +kernel
theorem dX10_isWet_30 : decode cX10_isWet 30 = .ok (.getfield 120, 3) := by decide +kernel
theorem dX10_isWet_33 : decode cX10_isWet 33 = .ok (.iconst 0, 1) := by decide +kernel
theorem dX10_isWet_34 : decode cX10_isWet 34 = .ok (.iaload, 1) := by decide +kernel
theorem dX10_isWet_35 : decode cX10_isWet 35 = .ok (.if_icmp .ge 16, 3) := by decide +kernel
theorem dX10_isWet_38 : decode cX10_isWet 38 = .ok (.aload_n 0, 1) := by decide +kernel
theorem dX10_isWet_39 : decode cX10_isWet 39 = .ok (.getfield 123, 3) := by decide +kernel
theorem dX10_isWet_42 : decode cX10_isWet 42 = .ok (.iload_n 3, 1) := by decide +kernel
theorem dX10_isWet_43 : decode cX10_isWet 43 = .ok (.iaload, 1) := by decide +kernel
theorem dX10_isWet_44 : decode cX10_isWet 44 = .ok (.ifCond .le 7, 3) := by decide +kernel
theorem dX10_isWet_47 : decode cX10_isWet 47 = .ok (.iconst 1, 1) := by decide +kernel
theorem dX10_isWet_48 : decode cX10_isWet 48 = .ok (.goto 4, 3) := by decide +kernel
theorem dX10_isWet_51 : decode cX10_isWet 51 = .ok (.iconst 0, 1) := by decide +kernel
theorem dX10_isWet_52 : decode cX10_isWet 52 = .ok (.istore_n 2, 1) := by decide +kernel
theorem dX10_isWet_53 : decode cX10_isWet 53 = .ok (.iinc 3 1, 3) := by decide +kernel
theorem dX10_isWet_56 : decode cX10_isWet 56 = .ok (.goto (-47), 3) := by decide +kernel
theorem dX10_isWet_59 : decode cX10_isWet 59 = .ok (.iload_n 2, 1) := by decide +kernel
theorem dX10_isWet_60 : decode cX10_isWet 60 = .ok (.ireturn, 1) := by decide +kernel
theorem dX10_wet_0 : decode cX10_wet 0 = .ok (.iload_n 1, 1) := by decide +kernel
theorem dX10_wet_1 : decode cX10_wet 1 = .ok (.i2l, 1) := by decide +kernel
theorem dX10_wet_2 : decode cX10_wet 2 = .ok (.lconst 0, 1) := by decide +kernel
theorem dX10_wet_3 : decode cX10_wet 3 = .ok (.ldc2_w 208, 3) := by decide +kernel
theorem dX10_wet_6 : decode cX10_wet 6 = .ok (.invokestatic 132, 3) := by decide +kernel
theorem dX10_wet_9 : decode cX10_wet 9 = .ok (.ifCond .ne 8, 3) := by decide +kernel
theorem dX10_wet_12 : decode cX10_wet 12 = .ok (.bipush (-2), 2) := by decide +kernel
theorem dX10_wet_14 : decode cX10_wet 14 = .ok (.goto 16, 3) := by decide +kernel
theorem dX10_wet_17 : decode cX10_wet 17 = .ok (.aload_n 0, 1) := by decide +kernel
theorem dX10_wet_18 : decode cX10_wet 18 = .ok (.iload_n 1, 1) := by decide +kernel
theorem dX10_wet_19 : decode cX10_wet 19 = .ok (.invokevirtual 213, 3) := by decide +kernel
theorem dX10_wet_22 : decode cX10_wet 22 = .ok (.ifCond .eq 7, 3) := by decide +kernel
theorem dX10_wet_25 : decode cX10_wet 25 = .ok (.iconst 1, 1) := by decide +kernel
theorem dX10_wet_26 : decode cX10_wet 26 = .ok (.goto 4, 3) := by decide +kernel
theorem dX10_wet_29 : decode cX10_wet 29 = .ok (.iconst 0, 1) := by decide +kernel
theorem dX10_wet_30 : decode cX10_wet 30 = .ok (.ireturn, 1) := by decide +kernel
theorem dX10_placeOf_0 : decode cX10_placeOf 0 = .ok (.aload_n 0, 1) := by decide +kernel
theorem dX10_placeOf_1 : decode cX10_placeOf 1 = .ok (.getfield 66, 3) := by decide +kernel
theorem dX10_placeOf_4 : decode cX10_placeOf 4 = .ok (.iload_n 1, 1) := by decide +kernel
theorem dX10_placeOf_5 : decode cX10_placeOf 5 = .ok (.iaload, 1) := by decide +kernel
theorem dX10_placeOf_6 : decode cX10_placeOf 6 = .ok (.iconst (-1), 1) := by decide +kernel
theorem dX10_placeOf_7 : decode cX10_placeOf 7 = .ok (.if_icmp .eq 10, 3) := by decide +kernel
theorem dX10_placeOf_10 : decode cX10_placeOf 10 = .ok (.aload_n 0, 1) := by decide +kernel
theorem dX10_placeOf_11 : decode cX10_placeOf 11 = .ok (.getfield 66, 3) := by decide +kernel
theorem dX10_placeOf_14 : decode cX10_placeOf 14 = .ok (.iload_n 1, 1) := by decide +kernel
theorem dX10_placeOf_15 : decode cX10_placeOf 15 = .ok (.iaload, 1) := by decide +kernel
theorem dX10_placeOf_16 : decode cX10_placeOf 16 = .ok (.ireturn, 1) := by decide +kernel
theorem dX10_placeOf_17 : decode cX10_placeOf 17 = .ok (.aload_n 0, 1) := by decide +kernel
theorem dX10_placeOf_18 : decode cX10_placeOf 18 = .ok (.aload_n 0, 1) := by decide +kernel
theorem dX10_placeOf_19 : decode cX10_placeOf 19 = .ok (.getfield 69, 3) := by decide +kernel
theorem dX10_placeOf_22 : decode cX10_placeOf 22 = .ok (.iload_n 1, 1) := by decide +kernel
theorem dX10_placeOf_23 : decode cX10_placeOf 23 = .ok (.iaload, 1) := by decide +kernel
theorem dX10_placeOf_24 : decode cX10_placeOf 24 = .ok (.invokevirtual 213, 3) := by decide +kernel
theorem dX10_placeOf_27 : decode cX10_placeOf 27 = .ok (.ifCond .eq 12, 3) := by decide +kernel
theorem dX10_placeOf_30 : decode cX10_placeOf 30 = .ok (.aload_n 0, 1) := by decide +kernel
theorem dX10_placeOf_31 : decode cX10_placeOf 31 = .ok (.getfield 72, 3) := by decide +kernel
theorem dX10_placeOf_34 : decode cX10_placeOf 34 = .ok (.iload_n 1, 1) := by decide +kernel
theorem dX10_placeOf_35 : decode cX10_placeOf 35 = .ok (.iaload, 1) := by decide +kernel
theorem dX10_placeOf_36 : decode cX10_placeOf 36 = .ok (.goto 5, 3) := by decide +kernel
theorem dX10_placeOf_39 : decode cX10_placeOf 39 = .ok (.bipush 6, 2) := by decide +kernel
theorem dX10_placeOf_41 : decode cX10_placeOf 41 = .ok (.ireturn, 1) := by decide +kernel
theorem dX10_where_0 : decode cX10_where 0 = .ok (.iload_n 1, 1) := by decide +kernel
theorem dX10_where_1 : decode cX10_where 1 = .ok (.i2l, 1) := by decide +kernel
theorem dX10_where_2 : decode cX10_where 2 = .ok (.lconst 0, 1) := by decide +kernel
theorem dX10_where_3 : decode cX10_where 3 = .ok (.aload_n 0, 1) := by decide +kernel
theorem dX10_where_4 : decode cX10_where 4 = .ok (.getfield 210, 3) := by decide +kernel
theorem dX10_where_7 : decode cX10_where 7 = .ok (.iconst 1, 1) := by decide +kernel
theorem dX10_where_8 : decode cX10_where 8 = .ok (.isub, 1) := by decide +kernel
theorem dX10_where_9 : decode cX10_where 9 = .ok (.i2l, 1) := by decide +kernel
theorem dX10_where_10 : decode cX10_where 10 = .ok (.invokestatic 132, 3) := by decide +kernel
theorem dX10_where_13 : decode cX10_where 13 = .ok (.ifCond .eq 11, 3) := by decide +kernel
theorem dX10_where_16 : decode cX10_where 16 = .ok (.aload_n 0, 1) := by decide +kernel
theorem dX10_where_17 : decode cX10_where 17 = .ok (.iload_n 1, 1) := by decide +kernel
theorem dX10_where_18 : decode cX10_where 18 = .ok (.invokevirtual 216, 3) := by decide +kernel
theorem dX10_where_21 : decode cX10_where 21 = .ok (.goto 5, 3) := by decide +kernel
theorem dX10_where_24 : decode cX10_where 24 = .ok (.bipush (-2), 2) := by decide +kernel
theorem dX10_where_26 : decode cX10_where 26 = .ok (.ireturn, 1) := by decide +kernel
theorem dX10_findCrowds_0 : decode cX10_findCrowds 0 = .ok (.iconst 0, 1) := by decide +kernel
theorem dX10_findCrowds_1 : decode cX10_findCrowds 1 = .ok (.istore_n 3, 1) := by decide +kernel
theorem dX10_findCrowds_2 : decode cX10_findCrowds 2 = .ok (.iload_n 3, 1) := by decide +kernel
theorem dX10_findCrowds_3 : decode cX10_findCrowds 3 = .ok (.bipush 7, 2) := by decide +kernel
theorem dX10_findCrowds_5 : decode cX10_findCrowds 5 = .ok (.if_icmp .ge 33, 3) := by decide +kernel
theorem dX10_findCrowds_8 : decode cX10_findCrowds 8 = .ok (.aload_n 0, 1) := by decide +kernel
theorem dX10_findCrowds_9 : decode cX10_findCrowds 9 = .ok (.getfield 81, 3) := by decide +kernel
theorem dX10_findCrowds_12 : decode cX10_findCrowds 12 = .ok (.iload_n 3, 1) := by decide +kernel
theorem dX10_findCrowds_13 : decode cX10_findCrowds 13 = .ok (.iload_n 3, 1) := by decide +kernel
theorem dX10_findCrowds_14 : decode cX10_findCrowds 14 = .ok (.bipush 6, 2) := by decide +kernel
theorem dX10_findCrowds_16 : decode cX10_findCrowds 16 = .ok (.if_icmp .ne 9, 3) := by decide +kernel
theorem dX10_findCrowds_19 : decode cX10_findCrowds 19 = .ok (.sipush 1000, 3) := by decide +kernel
theorem dX10_findCrowds_22 : decode cX10_findCrowds 22 = .ok (.goto 9, 3) := by decide +kernel
theorem dX10_findCrowds_25 : decode cX10_findCrowds 25 = .ok (.aload_n 0, 1) := by decide +kernel
theorem dX10_findCrowds_26 : decode cX10_findCrowds 26 = .ok (.getfield 63, 3) := by decide +kernel
theorem dX10_findCrowds_29 : decode cX10_findCrowds 29 = .ok (.iload_n 3, 1) := by decide +kernel
theorem dX10_findCrowds_30 : decode cX10_findCrowds 30 = .ok (.iaload, 1) := by decide +kernel
theorem dX10_findCrowds_31 : decode cX10_findCrowds 31 = .ok (.iastore, 1) := by decide +kernel
theorem dX10_findCrowds_32 : decode cX10_findCrowds 32 = .ok (.iinc 3 1, 3) := by decide +kernel
theorem dX10_findCrowds_35 : decode cX10_findCrowds 35 = .ok (.goto (-33), 3) := by decide +kernel
theorem dX10_findCrowds_38 : decode cX10_findCrowds 38 = .ok (.iconst 0, 1) := by decide +kernel
theorem dX10_findCrowds_39 : decode cX10_findCrowds 39 = .ok (.istore_n 3, 1) := by decide +kernel
theorem dX10_findCrowds_40 : decode cX10_findCrowds 40 = .ok (.iload_n 3, 1) := by decide +kernel
theorem dX10_findCrowds_41 : decode cX10_findCrowds 41 = .ok (.aload_n 0, 1) := by decide +kernel
theorem dX10_findCrowds_42 : decode cX10_findCrowds 42 = .ok (.getfield 136, 3) := by decide +kernel
theorem dX10_findCrowds_45 : decode cX10_findCrowds 45 = .ok (.if_icmp .ge 154, 3) := by decide +kernel
theorem dX10_findCrowds_48 : decode cX10_findCrowds 48 = .ok (.aload_n 0, 1) := by decide +kernel
theorem dX10_findCrowds_49 : decode cX10_findCrowds 49 = .ok (.getfield 84, 3) := by decide +kernel
theorem dX10_findCrowds_52 : decode cX10_findCrowds 52 = .ok (.iload_n 3, 1) := by decide +kernel
theorem dX10_findCrowds_53 : decode cX10_findCrowds 53 = .ok (.iconst (-1), 1) := by decide +kernel
theorem dX10_findCrowds_54 : decode cX10_findCrowds 54 = .ok (.iastore, 1) := by decide +kernel
theorem dX10_findCrowds_55 : decode cX10_findCrowds 55 = .ok (.aload_n 0, 1) := by decide +kernel
theorem dX10_findCrowds_56 : decode cX10_findCrowds 56 = .ok (.getfield 87, 3) := by decide +kernel
theorem dX10_findCrowds_59 : decode cX10_findCrowds 59 = .ok (.iload_n 3, 1) := by decide +kernel
theorem dX10_findCrowds_60 : decode cX10_findCrowds 60 = .ok (.iconst 0, 1) := by decide +kernel
theorem dX10_findCrowds_61 : decode cX10_findCrowds 61 = .ok (.iastore, 1) := by decide +kernel
theorem dX10_findCrowds_62 : decode cX10_findCrowds 62 = .ok (.iconst 0, 1) := by decide +kernel
theorem dX10_findCrowds_63 : decode cX10_findCrowds 63 = .ok (.istore 4, 2) := by decide +kernel
theorem dX10_findCrowds_65 : decode cX10_findCrowds 65 = .ok (.iload 4, 2) := by decide +kernel
theorem dX10_findCrowds_67 : decode cX10_findCrowds 67 = .ok (.aload_n 0, 1) := by decide +kernel
theorem dX10_findCrowds_68 : decode cX10_findCrowds 68 = .ok (.getfield 75, 3) := by decide +kernel
theorem dX10_findCrowds_71 : decode cX10_findCrowds 71 = .ok (.iload_n 3, 1) := by decide +kernel
theorem dX10_findCrowds_72 : decode cX10_findCrowds 72 = .ok (.iaload, 1) := by decide +kernel
theorem dX10_findCrowds_73 : decode cX10_findCrowds 73 = .ok (.if_icmp .ge 120, 3) := by decide +kernel
theorem dX10_findCrowds_76 : decode cX10_findCrowds 76 = .ok (.aload_n 0, 1) := by decide +kernel
theorem dX10_findCrowds_77 : decode cX10_findCrowds 77 = .ok (.iload_n 3, 1) := by decide +kernel
theorem dX10_findCrowds_78 : decode cX10_findCrowds 78 = .ok (.iload_n 1, 1) := by decide +kernel
theorem dX10_findCrowds_79 : decode cX10_findCrowds 79 = .ok (.invokevirtual 174, 3) := by decide +kernel
theorem dX10_findCrowds_82 : decode cX10_findCrowds 82 = .ok (.ifCond .eq 111, 3) := by decide +kernel
theorem dX10_findCrowds_85 : decode cX10_findCrowds 85 = .ok (.aload_n 0, 1) := by decide +kernel
theorem dX10_findCrowds_86 : decode cX10_findCrowds 86 = .ok (.getfield 84, 3) := by decide +kernel
theorem dX10_findCrowds_89 : decode cX10_findCrowds 89 = .ok (.iload_n 3, 1) := by decide +kernel
theorem dX10_findCrowds_90 : decode cX10_findCrowds 90 = .ok (.iaload, 1) := by decide +kernel
theorem dX10_findCrowds_91 : decode cX10_findCrowds 91 = .ok (.iconst (-1), 1) := by decide +kernel
theorem dX10_findCrowds_92 : decode cX10_findCrowds 92 = .ok (.if_icmp .ne 101, 3) := by decide +kernel
theorem dX10_findCrowds_95 : decode cX10_findCrowds 95 = .ok (.aload_n 0, 1) := by decide +kernel
theorem dX10_findCrowds_96 : decode cX10_findCrowds 96 = .ok (.getfield 78, 3) := by decide +kernel
theorem dX10_findCrowds_99 : decode cX10_findCrowds 99 = .ok (.bipush 6, 2) := by decide +kernel
theorem dX10_findCrowds_101 : decode cX10_findCrowds 101 = .ok (.iload_n 3, 1) := by decide +kernel
theorem dX10_findCrowds_102 : decode cX10_findCrowds 102 = .ok (.imul, 1) := by decide +kernel
theorem dX10_findCrowds_103 : decode cX10_findCrowds 103 = .ok (.iload 4, 2) := by decide +kernel
theorem dX10_findCrowds_105 : decode cX10_findCrowds 105 = .ok (.iadd, 1) := by decide +kernel
theorem dX10_findCrowds_106 : decode cX10_findCrowds 106 = .ok (.iaload, 1) := by decide +kernel
theorem dX10_findCrowds_107 : decode cX10_findCrowds 107 = .ok (.istore 5, 2) := by decide +kernel
theorem dX10_findCrowds_109 : decode cX10_findCrowds 109 = .ok (.aload_n 0, 1) := by decide +kernel
theorem dX10_findCrowds_110 : decode cX10_findCrowds 110 = .ok (.iload 5, 2) := by decide +kernel
theorem dX10_findCrowds_112 : decode cX10_findCrowds 112 = .ok (.invokevirtual 216, 3) := by decide +kernel
theorem dX10_findCrowds_115 : decode cX10_findCrowds 115 = .ok (.istore 6, 2) := by decide +kernel
theorem dX10_findCrowds_117 : decode cX10_findCrowds 117 = .ok (.aload_n 0, 1) := by decide +kernel
theorem dX10_findCrowds_118 : decode cX10_findCrowds 118 = .ok (.getfield 69, 3) := by decide +kernel
theorem dX10_findCrowds_121 : decode cX10_findCrowds 121 = .ok (.iload 5, 2) := by decide +kernel
theorem dX10_findCrowds_123 : decode cX10_findCrowds 123 = .ok (.iaload, 1) := by decide +kernel
theorem dX10_findCrowds_124 : decode cX10_findCrowds 124 = .ok (.iload_n 2, 1) := by decide +kernel
theorem dX10_findCrowds_125 : decode cX10_findCrowds 125 = .ok (.if_icmp .ne 62, 3) := by decide +kernel
theorem dX10_findCrowds_128 : decode cX10_findCrowds 128 = .ok (.iload 6, 2) := by decide +kernel
theorem dX10_findCrowds_130 : decode cX10_findCrowds 130 = .ok (.iconst (-1), 1) := by decide +kernel
theorem dX10_findCrowds_131 : decode cX10_findCrowds 131 = .ok (.if_icmp .eq 56, 3) := by decide +kernel
theorem dX10_findCrowds_134 : decode cX10_findCrowds 134 = .ok (.aload_n 0, 1) := by decide +kernel
theorem dX10_findCrowds_135 : decode cX10_findCrowds 135 = .ok (.getfield 81, 3) := by decide +kernel
theorem dX10_findCrowds_138 : decode cX10_findCrowds 138 = .ok (.iload 6, 2) := by decide +kernel
theorem dX10_findCrowds_140 : decode cX10_findCrowds 140 = .ok (.iaload, 1) := by decide +kernel
theorem dX10_findCrowds_141 : decode cX10_findCrowds 141 = .ok (.aload_n 0, 1) := by decide +kernel
theorem dX10_findCrowds_142 : decode cX10_findCrowds 142 = .ok (.getfield 16, 3) := by decide +kernel
theorem dX10_findCrowds_145 : decode cX10_findCrowds 145 = .ok (.iload_n 3, 1) := by decide +kernel
theorem dX10_findCrowds_146 : decode cX10_findCrowds 146 = .ok (.iaload, 1) := by decide +kernel
theorem dX10_findCrowds_147 : decode cX10_findCrowds 147 = .ok (.if_icmp .lt 30, 3) := by decide +kernel
theorem dX10_findCrowds_150 : decode cX10_findCrowds 150 = .ok (.aload_n 0, 1) := by decide +kernel
theorem dX10_findCrowds_151 : decode cX10_findCrowds 151 = .ok (.getfield 81, 3) := by decide +kernel
theorem dX10_findCrowds_154 : decode cX10_findCrowds 154 = .ok (.iload 6, 2) := by decide +kernel
theorem dX10_findCrowds_156 : decode cX10_findCrowds 156 = .ok (.dup2, 1) := by decide +kernel
theorem dX10_findCrowds_157 : decode cX10_findCrowds 157 = .ok (.iaload, 1) := by decide +kernel
theorem dX10_findCrowds_158 : decode cX10_findCrowds 158 = .ok (.aload_n 0, 1) := by decide +kernel
theorem dX10_findCrowds_159 : decode cX10_findCrowds 159 = .ok (.getfield 16, 3) := by decide +kernel
theorem dX10_findCrowds_162 : decode cX10_findCrowds 162 = .ok (.iload_n 3, 1) := by decide +kernel
theorem dX10_findCrowds_163 : decode cX10_findCrowds 163 = .ok (.iaload, 1) := by decide +kernel
theorem dX10_findCrowds_164 : decode cX10_findCrowds 164 = .ok (.isub, 1) := by decide +kernel
theorem dX10_findCrowds_165 : decode cX10_findCrowds 165 = .ok (.iastore, 1) := by decide +kernel
theorem dX10_findCrowds_166 : decode cX10_findCrowds 166 = .ok (.aload_n 0, 1) := by decide +kernel
theorem dX10_findCrowds_167 : decode cX10_findCrowds 167 = .ok (.getfield 84, 3) := by decide +kernel
theorem dX10_findCrowds_170 : decode cX10_findCrowds 170 = .ok (.iload_n 3, 1) := by decide +kernel
theorem dX10_findCrowds_171 : decode cX10_findCrowds 171 = .ok (.iload 5, 2) := by decide +kernel
theorem dX10_findCrowds_173 : decode cX10_findCrowds 173 = .ok (.iastore, 1) := by decide +kernel
theorem dX10_findCrowds_174 : decode cX10_findCrowds 174 = .ok (.goto 13, 3) := by decide +kernel
theorem dX10_findCrowds_177 : decode cX10_findCrowds 177 = .ok (.aload_n 0, 1) := by decide +kernel
theorem dX10_findCrowds_178 : decode cX10_findCrowds 178 = .ok (.getfield 87, 3) := by decide +kernel
theorem dX10_findCrowds_181 : decode cX10_findCrowds 181 = .ok (.iload_n 3, 1) := by decide +kernel
theorem dX10_findCrowds_182 : decode cX10_findCrowds 182 = .ok (.dup2, 1) := by decide +kernel
theorem dX10_findCrowds_183 : decode cX10_findCrowds 183 = .ok (.iaload, 1) := by decide +kernel
theorem dX10_findCrowds_184 : decode cX10_findCrowds 184 = .ok (.iconst 1, 1) := by decide +kernel
theorem dX10_findCrowds_185 : decode cX10_findCrowds 185 = .ok (.iadd, 1) := by decide +kernel
theorem dX10_findCrowds_186 : decode cX10_findCrowds 186 = .ok (.iastore, 1) := by decide +kernel
theorem dX10_findCrowds_187 : decode cX10_findCrowds 187 = .ok (.iinc 4 1, 3) := by decide +kernel
theorem dX10_findCrowds_190 : decode cX10_findCrowds 190 = .ok (.goto (-125), 3) := by decide +kernel
theorem dX10_findCrowds_193 : decode cX10_findCrowds 193 = .ok (.iinc 3 1, 3) := by decide +kernel
theorem dX10_findCrowds_196 : decode cX10_findCrowds 196 = .ok (.goto (-156), 3) := by decide +kernel
theorem dX10_findCrowds_199 : decode cX10_findCrowds 199 = .ok (.return_, 1) := by decide +kernel
theorem dX10_goes_0 : decode cX10_goes 0 = .ok (.aload_n 0, 1) := by decide +kernel
theorem dX10_goes_1 : decode cX10_goes 1 = .ok (.iload_n 1, 1) := by decide +kernel
theorem dX10_goes_2 : decode cX10_goes 2 = .ok (.invokevirtual 151, 3) := by decide +kernel
theorem dX10_goes_5 : decode cX10_goes 5 = .ok (.ifCond .eq 22, 3) := by decide +kernel
theorem dX10_goes_8 : decode cX10_goes 8 = .ok (.iload_n 2, 1) := by decide +kernel
theorem dX10_goes_9 : decode cX10_goes 9 = .ok (.invokestatic 145, 3) := by decide +kernel
theorem dX10_goes_12 : decode cX10_goes 12 = .ok (.ifCond .eq 15, 3) := by decide +kernel
theorem dX10_goes_15 : decode cX10_goes 15 = .ok (.iload_n 3, 1) := by decide +kernel
theorem dX10_goes_16 : decode cX10_goes 16 = .ok (.i2l, 1) := by decide +kernel
theorem dX10_goes_17 : decode cX10_goes 17 = .ok (.lconst 0, 1) := by decide +kernel
theorem dX10_goes_18 : decode cX10_goes 18 = .ok (.ldc2_w 208, 3) := by decide +kernel
theorem dX10_goes_21 : decode cX10_goes 21 = .ok (.invokestatic 132, 3) := by decide +kernel
theorem dX10_goes_24 : decode cX10_goes 24 = .ok (.ifCond .ne 6, 3) := by decide +kernel
theorem dX10_goes_27 : decode cX10_goes 27 = .ok (.bipush (-2), 2) := by decide +kernel
theorem dX10_goes_29 : decode cX10_goes 29 = .ok (.ireturn, 1) := by decide +kernel
theorem dX10_goes_30 : decode cX10_goes 30 = .ok (.aload_n 0, 1) := by decide +kernel
theorem dX10_goes_31 : decode cX10_goes 31 = .ok (.iload_n 2, 1) := by decide +kernel
theorem dX10_goes_32 : decode cX10_goes 32 = .ok (.iload_n 3, 1) := by decide +kernel
theorem dX10_goes_33 : decode cX10_goes 33 = .ok (.invokevirtual 219, 3) := by decide +kernel
theorem dX10_goes_36 : decode cX10_goes 36 = .ok (.aload_n 0, 1) := by decide +kernel
theorem dX10_goes_37 : decode cX10_goes 37 = .ok (.getfield 84, 3) := by decide +kernel
theorem dX10_goes_40 : decode cX10_goes 40 = .ok (.iload_n 1, 1) := by decide +kernel
theorem dX10_goes_41 : decode cX10_goes 41 = .ok (.iaload, 1) := by decide +kernel
theorem dX10_goes_42 : decode cX10_goes 42 = .ok (.ireturn, 1) := by decide +kernel
theorem dX10_turned_0 : decode cX10_turned 0 = .ok (.aload_n 0, 1) := by decide +kernel
theorem dX10_turned_1 : decode cX10_turned 1 = .ok (.iload_n 1, 1) := by decide +kernel
theorem dX10_turned_2 : decode cX10_turned 2 = .ok (.invokevirtual 151, 3) := by decide +kernel
theorem dX10_turned_5 : decode cX10_turned 5 = .ok (.ifCond .eq 22, 3) := by decide +kernel
theorem dX10_turned_8 : decode cX10_turned 8 = .ok (.iload_n 2, 1) := by decide +kernel
theorem dX10_turned_9 : decode cX10_turned 9 = .ok (.invokestatic 145, 3) := by decide +kernel
theorem dX10_turned_12 : decode cX10_turned 12 = .ok (.ifCond .eq 15, 3) := by decide +kernel
theorem dX10_turned_15 : decode cX10_turned 15 = .ok (.iload_n 3, 1) := by decide +kernel
theorem dX10_turned_16 : decode cX10_turned 16 = .ok (.i2l, 1) := by decide +kernel
theorem dX10_turned_17 : decode cX10_turned 17 = .ok (.lconst 0, 1) := by decide +kernel
theorem dX10_turned_18 : decode cX10_turned 18 = .ok (.ldc2_w 208, 3) := by decide +kernel
theorem dX10_turned_21 : decode cX10_turned 21 = .ok (.invokestatic 132, 3) := by decide +kernel
theorem dX10_turned_24 : decode cX10_turned 24 = .ok (.ifCond .ne 6, 3) := by decide +kernel
theorem dX10_turned_27 : decode cX10_turned 27 = .ok (.bipush (-2), 2) := by decide +kernel
theorem dX10_turned_29 : decode cX10_turned 29 = .ok (.ireturn, 1) := by decide +kernel
theorem dX10_turned_30 : decode cX10_turned 30 = .ok (.aload_n 0, 1) := by decide +kernel
theorem dX10_turned_31 : decode cX10_turned 31 = .ok (.iload_n 2, 1) := by decide +kernel
theorem dX10_turned_32 : decode cX10_turned 32 = .ok (.iload_n 3, 1) := by decide +kernel
theorem dX10_turned_33 : decode cX10_turned 33 = .ok (.invokevirtual 219, 3) := by decide +kernel
theorem dX10_turned_36 : decode cX10_turned 36 = .ok (.aload_n 0, 1) := by decide +kernel
theorem dX10_turned_37 : decode cX10_turned 37 = .ok (.getfield 87, 3) := by decide +kernel
theorem dX10_turned_40 : decode cX10_turned 40 = .ok (.iload_n 1, 1) := by decide +kernel
theorem dX10_turned_41 : decode cX10_turned 41 = .ok (.iaload, 1) := by decide +kernel
theorem dX10_turned_42 : decode cX10_turned 42 = .ok (.ireturn, 1) := by decide +kernel
theorem dX10_crowd_0 : decode cX10_crowd 0 = .ok (.iload_n 1, 1) := by decide +kernel
theorem dX10_crowd_1 : decode cX10_crowd 1 = .ok (.i2l, 1) := by decide +kernel
theorem dX10_crowd_2 : decode cX10_crowd 2 = .ok (.lconst 0, 1) := by decide +kernel
theorem dX10_crowd_3 : decode cX10_crowd 3 = .ok (.aload_n 0, 1) := by decide +kernel
theorem dX10_crowd_4 : decode cX10_crowd 4 = .ok (.getfield 210, 3) := by decide +kernel
theorem dX10_crowd_7 : decode cX10_crowd 7 = .ok (.iconst 1, 1) := by decide +kernel
theorem dX10_crowd_8 : decode cX10_crowd 8 = .ok (.isub, 1) := by decide +kernel
theorem dX10_crowd_9 : decode cX10_crowd 9 = .ok (.i2l, 1) := by decide +kernel
theorem dX10_crowd_10 : decode cX10_crowd 10 = .ok (.invokestatic 132, 3) := by decide +kernel
theorem dX10_crowd_13 : decode cX10_crowd 13 = .ok (.ifCond .eq 10, 3) := by decide +kernel
theorem dX10_crowd_16 : decode cX10_crowd 16 = .ok (.iload_n 2, 1) := by decide +kernel
theorem dX10_crowd_17 : decode cX10_crowd 17 = .ok (.invokestatic 145, 3) := by decide +kernel
theorem dX10_crowd_20 : decode cX10_crowd 20 = .ok (.ifCond .ne 6, 3) := by decide +kernel
theorem dX10_crowd_23 : decode cX10_crowd 23 = .ok (.bipush (-2), 2) := by decide +kernel
theorem dX10_crowd_25 : decode cX10_crowd 25 = .ok (.ireturn, 1) := by decide +kernel
theorem dX10_crowd_26 : decode cX10_crowd 26 = .ok (.aload_n 0, 1) := by decide +kernel
theorem dX10_crowd_27 : decode cX10_crowd 27 = .ok (.iload_n 2, 1) := by decide +kernel
theorem dX10_crowd_28 : decode cX10_crowd 28 = .ok (.aload_n 0, 1) := by decide +kernel
theorem dX10_crowd_29 : decode cX10_crowd 29 = .ok (.getfield 69, 3) := by decide +kernel
theorem dX10_crowd_32 : decode cX10_crowd 32 = .ok (.iload_n 1, 1) := by decide +kernel
theorem dX10_crowd_33 : decode cX10_crowd 33 = .ok (.iaload, 1) := by decide +kernel
theorem dX10_crowd_34 : decode cX10_crowd 34 = .ok (.invokevirtual 219, 3) := by decide +kernel
theorem dX10_crowd_37 : decode cX10_crowd 37 = .ok (.iconst 0, 1) := by decide +kernel
theorem dX10_crowd_38 : decode cX10_crowd 38 = .ok (.istore_n 3, 1) := by decide +kernel
theorem dX10_crowd_39 : decode cX10_crowd 39 = .ok (.iconst 0, 1) := by decide +kernel
theorem dX10_crowd_40 : decode cX10_crowd 40 = .ok (.istore 4, 2) := by decide +kernel
theorem dX10_crowd_42 : decode cX10_crowd 42 = .ok (.iload 4, 2) := by decide +kernel
theorem dX10_crowd_44 : decode cX10_crowd 44 = .ok (.aload_n 0, 1) := by decide +kernel
theorem dX10_crowd_45 : decode cX10_crowd 45 = .ok (.getfield 136, 3) := by decide +kernel
theorem dX10_crowd_48 : decode cX10_crowd 48 = .ok (.if_icmp .ge 34, 3) := by decide +kernel
theorem dX10_crowd_51 : decode cX10_crowd 51 = .ok (.iload_n 3, 1) := by decide +kernel
theorem dX10_crowd_52 : decode cX10_crowd 52 = .ok (.aload_n 0, 1) := by decide +kernel
theorem dX10_crowd_53 : decode cX10_crowd 53 = .ok (.getfield 84, 3) := by decide +kernel
theorem dX10_crowd_56 : decode cX10_crowd 56 = .ok (.iload 4, 2) := by decide +kernel
theorem dX10_crowd_58 : decode cX10_crowd 58 = .ok (.iaload, 1) := by decide +kernel
theorem dX10_crowd_59 : decode cX10_crowd 59 = .ok (.iload_n 1, 1) := by decide +kernel
theorem dX10_crowd_60 : decode cX10_crowd 60 = .ok (.if_icmp .ne 13, 3) := by decide +kernel
theorem dX10_crowd_63 : decode cX10_crowd 63 = .ok (.aload_n 0, 1) := by decide +kernel
theorem dX10_crowd_64 : decode cX10_crowd 64 = .ok (.getfield 16, 3) := by decide +kernel
theorem dX10_crowd_67 : decode cX10_crowd 67 = .ok (.iload 4, 2) := by decide +kernel
theorem dX10_crowd_69 : decode cX10_crowd 69 = .ok (.iaload, 1) := by decide +kernel
theorem dX10_crowd_70 : decode cX10_crowd 70 = .ok (.goto 4, 3) := by decide +kernel
theorem dX10_crowd_73 : decode cX10_crowd 73 = .ok (.iconst 0, 1) := by decide +kernel
theorem dX10_crowd_74 : decode cX10_crowd 74 = .ok (.iadd, 1) := by decide +kernel
theorem dX10_crowd_75 : decode cX10_crowd 75 = .ok (.istore_n 3, 1) := by decide +kernel
theorem dX10_crowd_76 : decode cX10_crowd 76 = .ok (.iinc 4 1, 3) := by decide +kernel
theorem dX10_crowd_79 : decode cX10_crowd 79 = .ok (.goto (-37), 3) := by decide +kernel
theorem dX10_crowd_82 : decode cX10_crowd 82 = .ok (.iload_n 3, 1) := by decide +kernel
theorem dX10_crowd_83 : decode cX10_crowd 83 = .ok (.ireturn, 1) := by decide +kernel
theorem dX10_manyIn_0 : decode cX10_manyIn 0 = .ok (.iconst 0, 1) := by decide +kernel
theorem dX10_manyIn_1 : decode cX10_manyIn 1 = .ok (.istore_n 2, 1) := by decide +kernel
theorem dX10_manyIn_2 : decode cX10_manyIn 2 = .ok (.iconst 0, 1) := by decide +kernel
theorem dX10_manyIn_3 : decode cX10_manyIn 3 = .ok (.istore_n 3, 1) := by decide +kernel
theorem dX10_manyIn_4 : decode cX10_manyIn 4 = .ok (.iload_n 3, 1) := by decide +kernel
theorem dX10_manyIn_5 : decode cX10_manyIn 5 = .ok (.aload_n 0, 1) := by decide +kernel
theorem dX10_manyIn_6 : decode cX10_manyIn 6 = .ok (.getfield 223, 3) := by decide +kernel
theorem dX10_manyIn_9 : decode cX10_manyIn 9 = .ok (.if_icmp .ge 27, 3) := by decide +kernel
theorem dX10_manyIn_12 : decode cX10_manyIn 12 = .ok (.iload_n 2, 1) := by decide +kernel
theorem dX10_manyIn_13 : decode cX10_manyIn 13 = .ok (.aload_n 0, 1) := by decide +kernel
theorem dX10_manyIn_14 : decode cX10_manyIn 14 = .ok (.getfield 105, 3) := by decide +kernel
theorem dX10_manyIn_17 : decode cX10_manyIn 17 = .ok (.iload_n 3, 1) := by decide +kernel
theorem dX10_manyIn_18 : decode cX10_manyIn 18 = .ok (.iaload, 1) := by decide +kernel
theorem dX10_manyIn_19 : decode cX10_manyIn 19 = .ok (.iload_n 1, 1) := by decide +kernel
theorem dX10_manyIn_20 : decode cX10_manyIn 20 = .ok (.if_icmp .ne 7, 3) := by decide +kernel
theorem dX10_manyIn_23 : decode cX10_manyIn 23 = .ok (.iconst 1, 1) := by decide +kernel
theorem dX10_manyIn_24 : decode cX10_manyIn 24 = .ok (.goto 4, 3) := by decide +kernel
theorem dX10_manyIn_27 : decode cX10_manyIn 27 = .ok (.iconst 0, 1) := by decide +kernel
theorem dX10_manyIn_28 : decode cX10_manyIn 28 = .ok (.iadd, 1) := by decide +kernel
theorem dX10_manyIn_29 : decode cX10_manyIn 29 = .ok (.istore_n 2, 1) := by decide +kernel
theorem dX10_manyIn_30 : decode cX10_manyIn 30 = .ok (.iinc 3 1, 3) := by decide +kernel
theorem dX10_manyIn_33 : decode cX10_manyIn 33 = .ok (.goto (-29), 3) := by decide +kernel
theorem dX10_manyIn_36 : decode cX10_manyIn 36 = .ok (.iload_n 2, 1) := by decide +kernel
theorem dX10_manyIn_37 : decode cX10_manyIn 37 = .ok (.ireturn, 1) := by decide +kernel
theorem dX10_group_0 : decode cX10_group 0 = .ok (.iload_n 1, 1) := by decide +kernel
theorem dX10_group_1 : decode cX10_group 1 = .ok (.i2l, 1) := by decide +kernel
theorem dX10_group_2 : decode cX10_group 2 = .ok (.lconst 0, 1) := by decide +kernel
theorem dX10_group_3 : decode cX10_group 3 = .ok (.ldc2_w 226, 3) := by decide +kernel
theorem dX10_group_6 : decode cX10_group 6 = .ok (.invokestatic 132, 3) := by decide +kernel
theorem dX10_group_9 : decode cX10_group 9 = .ok (.ifCond .eq 41, 3) := by decide +kernel
theorem dX10_group_12 : decode cX10_group 12 = .ok (.iload_n 2, 1) := by decide +kernel
theorem dX10_group_13 : decode cX10_group 13 = .ok (.i2l, 1) := by decide +kernel
theorem dX10_group_14 : decode cX10_group 14 = .ok (.lconst 0, 1) := by decide +kernel
theorem dX10_group_15 : decode cX10_group 15 = .ok (.ldc2_w 228, 3) := by decide +kernel
theorem dX10_group_18 : decode cX10_group 18 = .ok (.invokestatic 132, 3) := by decide +kernel
theorem dX10_group_21 : decode cX10_group 21 = .ok (.ifCond .eq 29, 3) := by decide +kernel
theorem dX10_group_24 : decode cX10_group 24 = .ok (.iload_n 3, 1) := by decide +kernel
theorem dX10_group_25 : decode cX10_group 25 = .ok (.i2l, 1) := by decide +kernel
theorem dX10_group_26 : decode cX10_group 26 = .ok (.iload_n 2, 1) := by decide +kernel
theorem dX10_group_27 : decode cX10_group 27 = .ok (.i2l, 1) := by decide +kernel
theorem dX10_group_28 : decode cX10_group 28 = .ok (.ldc2_w 228, 3) := by decide +kernel
theorem dX10_group_31 : decode cX10_group 31 = .ok (.invokestatic 132, 3) := by decide +kernel
theorem dX10_group_34 : decode cX10_group 34 = .ok (.ifCond .eq 16, 3) := by decide +kernel
theorem dX10_group_37 : decode cX10_group 37 = .ok (.iload 4, 2) := by decide +kernel
theorem dX10_group_39 : decode cX10_group 39 = .ok (.i2l, 1) := by decide +kernel
theorem dX10_group_40 : decode cX10_group 40 = .ok (.lconst 1, 1) := by decide +kernel
theorem dX10_group_41 : decode cX10_group 41 = .ok (.ldc2_w 230, 3) := by decide +kernel
theorem dX10_group_44 : decode cX10_group 44 = .ok (.invokestatic 132, 3) := by decide +kernel
theorem dX10_group_47 : decode cX10_group 47 = .ok (.ifCond .ne 6, 3) := by decide +kernel
theorem dX10_group_50 : decode cX10_group 50 = .ok (.bipush (-2), 2) := by decide +kernel
theorem dX10_group_52 : decode cX10_group 52 = .ok (.ireturn, 1) := by decide +kernel
theorem dX10_group_53 : decode cX10_group 53 = .ok (.iconst 0, 1) := by decide +kernel
theorem dX10_group_54 : decode cX10_group 54 = .ok (.istore 5, 2) := by decide +kernel
theorem dX10_group_56 : decode cX10_group 56 = .ok (.iload 5, 2) := by decide +kernel
theorem dX10_group_58 : decode cX10_group 58 = .ok (.iconst 4, 1) := by decide +kernel
theorem dX10_group_59 : decode cX10_group 59 = .ok (.if_icmp .ge 40, 3) := by decide +kernel
theorem dX10_group_62 : decode cX10_group 62 = .ok (.iload 5, 2) := by decide +kernel
theorem dX10_group_64 : decode cX10_group 64 = .ok (.iload_n 1, 1) := by decide +kernel
theorem dX10_group_65 : decode cX10_group 65 = .ok (.if_icmp .eq 28, 3) := by decide +kernel
theorem dX10_group_68 : decode cX10_group 68 = .ok (.aload_n 0, 1) := by decide +kernel
theorem dX10_group_69 : decode cX10_group 69 = .ok (.getfield 90, 3) := by decide +kernel
theorem dX10_group_72 : decode cX10_group 72 = .ok (.iload 5, 2) := by decide +kernel
theorem dX10_group_74 : decode cX10_group 74 = .ok (.iaload, 1) := by decide +kernel
theorem dX10_group_75 : decode cX10_group 75 = .ok (.iload_n 3, 1) := by decide +kernel
theorem dX10_group_76 : decode cX10_group 76 = .ok (.if_icmp .gt 17, 3) := by decide +kernel
theorem dX10_group_79 : decode cX10_group 79 = .ok (.iload_n 2, 1) := by decide +kernel
theorem dX10_group_80 : decode cX10_group 80 = .ok (.aload_n 0, 1) := by decide +kernel
theorem dX10_group_81 : decode cX10_group 81 = .ok (.getfield 93, 3) := by decide +kernel
theorem dX10_group_84 : decode cX10_group 84 = .ok (.iload 5, 2) := by decide +kernel
theorem dX10_group_86 : decode cX10_group 86 = .ok (.iaload, 1) := by decide +kernel
theorem dX10_group_87 : decode cX10_group 87 = .ok (.if_icmp .gt 6, 3) := by decide +kernel
theorem dX10_group_90 : decode cX10_group 90 = .ok (.bipush (-2), 2) := by decide +kernel
theorem dX10_group_92 : decode cX10_group 92 = .ok (.ireturn, 1) := by decide +kernel
theorem dX10_group_93 : decode cX10_group 93 = .ok (.iinc 5 1, 3) := by decide +kernel
theorem dX10_group_96 : decode cX10_group 96 = .ok (.goto (-40), 3) := by decide +kernel
theorem dX10_group_99 : decode cX10_group 99 = .ok (.aload_n 0, 1) := by decide +kernel
theorem dX10_group_100 : decode cX10_group 100 = .ok (.iload_n 1, 1) := by decide +kernel
theorem dX10_group_101 : decode cX10_group 101 = .ok (.invokevirtual 232, 3) := by decide +kernel
theorem dX10_group_104 : decode cX10_group 104 = .ok (.ifCond .le 6, 3) := by decide +kernel
theorem dX10_group_107 : decode cX10_group 107 = .ok (.bipush (-3), 2) := by decide +kernel
theorem dX10_group_109 : decode cX10_group 109 = .ok (.ireturn, 1) := by decide +kernel
theorem dX10_group_110 : decode cX10_group 110 = .ok (.aload_n 0, 1) := by decide +kernel
theorem dX10_group_111 : decode cX10_group 111 = .ok (.getfield 90, 3) := by decide +kernel
theorem dX10_group_114 : decode cX10_group 114 = .ok (.iload_n 1, 1) := by decide +kernel
theorem dX10_group_115 : decode cX10_group 115 = .ok (.iload_n 2, 1) := by decide +kernel
theorem dX10_group_116 : decode cX10_group 116 = .ok (.iastore, 1) := by decide +kernel
theorem dX10_group_117 : decode cX10_group 117 = .ok (.aload_n 0, 1) := by decide +kernel
theorem dX10_group_118 : decode cX10_group 118 = .ok (.getfield 93, 3) := by decide +kernel
theorem dX10_group_121 : decode cX10_group 121 = .ok (.iload_n 1, 1) := by decide +kernel
theorem dX10_group_122 : decode cX10_group 122 = .ok (.iload_n 3, 1) := by decide +kernel
theorem dX10_group_123 : decode cX10_group 123 = .ok (.iastore, 1) := by decide +kernel
theorem dX10_group_124 : decode cX10_group 124 = .ok (.aload_n 0, 1) := by decide +kernel
theorem dX10_group_125 : decode cX10_group 125 = .ok (.getfield 96, 3) := by decide +kernel
theorem dX10_group_128 : decode cX10_group 128 = .ok (.iload_n 1, 1) := by decide +kernel
theorem dX10_group_129 : decode cX10_group 129 = .ok (.iload 4, 2) := by decide +kernel
theorem dX10_group_131 : decode cX10_group 131 = .ok (.iastore, 1) := by decide +kernel
theorem dX10_group_132 : decode cX10_group 132 = .ok (.iconst 1, 1) := by decide +kernel
theorem dX10_group_133 : decode cX10_group 133 = .ok (.ireturn, 1) := by decide +kernel
theorem dX10_isChild_0 : decode cX10_isChild 0 = .ok (.iload_n 1, 1) := by decide +kernel
theorem dX10_isChild_1 : decode cX10_isChild 1 = .ok (.i2l, 1) := by decide +kernel
theorem dX10_isChild_2 : decode cX10_isChild 2 = .ok (.lconst 0, 1) := by decide +kernel
theorem dX10_isChild_3 : decode cX10_isChild 3 = .ok (.aload_n 0, 1) := by decide +kernel
theorem dX10_isChild_4 : decode cX10_isChild 4 = .ok (.getfield 223, 3) := by decide +kernel
theorem dX10_isChild_7 : decode cX10_isChild 7 = .ok (.iconst 1, 1) := by decide +kernel
theorem dX10_isChild_8 : decode cX10_isChild 8 = .ok (.isub, 1) := by decide +kernel
theorem dX10_isChild_9 : decode cX10_isChild 9 = .ok (.i2l, 1) := by decide +kernel
theorem dX10_isChild_10 : decode cX10_isChild 10 = .ok (.invokestatic 132, 3) := by decide +kernel
theorem dX10_isChild_13 : decode cX10_isChild 13 = .ok (.ireturn, 1) := by decide +kernel
theorem dX10_child_0 : decode cX10_child 0 = .ok (.aload_n 0, 1) := by decide +kernel
theorem dX10_child_1 : decode cX10_child 1 = .ok (.iload_n 1, 1) := by decide +kernel
theorem dX10_child_2 : decode cX10_child 2 = .ok (.invokevirtual 151, 3) := by decide +kernel
theorem dX10_child_5 : decode cX10_child 5 = .ok (.ifCond .eq 15, 3) := by decide +kernel
theorem dX10_child_8 : decode cX10_child 8 = .ok (.iload_n 2, 1) := by decide +kernel
theorem dX10_child_9 : decode cX10_child 9 = .ok (.i2l, 1) := by decide +kernel
theorem dX10_child_10 : decode cX10_child 10 = .ok (.lconst 0, 1) := by decide +kernel
theorem dX10_child_11 : decode cX10_child 11 = .ok (.ldc2_w 228, 3) := by decide +kernel
theorem dX10_child_14 : decode cX10_child 14 = .ok (.invokestatic 132, 3) := by decide +kernel
theorem dX10_child_17 : decode cX10_child 17 = .ok (.ifCond .ne 6, 3) := by decide +kernel
theorem dX10_child_20 : decode cX10_child 20 = .ok (.bipush (-2), 2) := by decide +kernel
theorem dX10_child_22 : decode cX10_child 22 = .ok (.ireturn, 1) := by decide +kernel
theorem dX10_child_23 : decode cX10_child 23 = .ok (.iconst 0, 1) := by decide +kernel
theorem dX10_child_24 : decode cX10_child 24 = .ok (.istore_n 3, 1) := by decide +kernel
theorem dX10_child_25 : decode cX10_child 25 = .ok (.iconst 0, 1) := by decide +kernel
theorem dX10_child_26 : decode cX10_child 26 = .ok (.istore 4, 2) := by decide +kernel
theorem dX10_child_28 : decode cX10_child 28 = .ok (.iload 4, 2) := by decide +kernel
theorem dX10_child_30 : decode cX10_child 30 = .ok (.aload_n 0, 1) := by decide +kernel
theorem dX10_child_31 : decode cX10_child 31 = .ok (.getfield 223, 3) := by decide +kernel
theorem dX10_child_34 : decode cX10_child 34 = .ok (.if_icmp .ge 28, 3) := by decide +kernel
theorem dX10_child_37 : decode cX10_child 37 = .ok (.iload_n 3, 1) := by decide +kernel
theorem dX10_child_38 : decode cX10_child 38 = .ok (.aload_n 0, 1) := by decide +kernel
theorem dX10_child_39 : decode cX10_child 39 = .ok (.getfield 99, 3) := by decide +kernel
theorem dX10_child_42 : decode cX10_child 42 = .ok (.iload 4, 2) := by decide +kernel
theorem dX10_child_44 : decode cX10_child 44 = .ok (.iaload, 1) := by decide +kernel
theorem dX10_child_45 : decode cX10_child 45 = .ok (.iload_n 1, 1) := by decide +kernel
theorem dX10_child_46 : decode cX10_child 46 = .ok (.if_icmp .ne 7, 3) := by decide +kernel
theorem dX10_child_49 : decode cX10_child 49 = .ok (.iconst 1, 1) := by decide +kernel
theorem dX10_child_50 : decode cX10_child 50 = .ok (.goto 4, 3) := by decide +kernel
theorem dX10_child_53 : decode cX10_child 53 = .ok (.iconst 0, 1) := by decide +kernel
theorem dX10_child_54 : decode cX10_child 54 = .ok (.iadd, 1) := by decide +kernel
theorem dX10_child_55 : decode cX10_child 55 = .ok (.istore_n 3, 1) := by decide +kernel
theorem dX10_child_56 : decode cX10_child 56 = .ok (.iinc 4 1, 3) := by decide +kernel
theorem dX10_child_59 : decode cX10_child 59 = .ok (.goto (-31), 3) := by decide +kernel
theorem dX10_child_62 : decode cX10_child 62 = .ok (.aload_n 0, 1) := by decide +kernel
theorem dX10_child_63 : decode cX10_child 63 = .ok (.getfield 223, 3) := by decide +kernel
theorem dX10_child_66 : decode cX10_child 66 = .ok (.bipush 40, 2) := by decide +kernel
theorem dX10_child_68 : decode cX10_child 68 = .ok (.if_icmp .eq 13, 3) := by decide +kernel
theorem dX10_child_71 : decode cX10_child 71 = .ok (.iload_n 3, 1) := by decide +kernel
theorem dX10_child_72 : decode cX10_child 72 = .ok (.aload_n 0, 1) := by decide +kernel
theorem dX10_child_73 : decode cX10_child 73 = .ok (.getfield 19, 3) := by decide +kernel
theorem dX10_child_76 : decode cX10_child 76 = .ok (.iload_n 1, 1) := by decide +kernel
theorem dX10_child_77 : decode cX10_child 77 = .ok (.iaload, 1) := by decide +kernel
theorem dX10_child_78 : decode cX10_child 78 = .ok (.if_icmp .ne 6, 3) := by decide +kernel
theorem dX10_child_81 : decode cX10_child 81 = .ok (.bipush (-4), 2) := by decide +kernel
theorem dX10_child_83 : decode cX10_child 83 = .ok (.ireturn, 1) := by decide +kernel
theorem dX10_child_84 : decode cX10_child 84 = .ok (.aload_n 0, 1) := by decide +kernel
theorem dX10_child_85 : decode cX10_child 85 = .ok (.getfield 99, 3) := by decide +kernel
theorem dX10_child_88 : decode cX10_child 88 = .ok (.aload_n 0, 1) := by decide +kernel
theorem dX10_child_89 : decode cX10_child 89 = .ok (.getfield 223, 3) := by decide +kernel
theorem dX10_child_92 : decode cX10_child 92 = .ok (.iload_n 1, 1) := by decide +kernel
theorem dX10_child_93 : decode cX10_child 93 = .ok (.iastore, 1) := by decide +kernel
theorem dX10_child_94 : decode cX10_child 94 = .ok (.aload_n 0, 1) := by decide +kernel
theorem dX10_child_95 : decode cX10_child 95 = .ok (.getfield 102, 3) := by decide +kernel
theorem dX10_child_98 : decode cX10_child 98 = .ok (.aload_n 0, 1) := by decide +kernel
theorem dX10_child_99 : decode cX10_child 99 = .ok (.getfield 223, 3) := by decide +kernel
theorem dX10_child_102 : decode cX10_child 102 = .ok (.iload_n 2, 1) := by decide +kernel
theorem dX10_child_103 : decode cX10_child 103 = .ok (.iastore, 1) := by decide +kernel
theorem dX10_child_104 : decode cX10_child 104 = .ok (.aload_n 0, 1) := by decide +kernel
theorem dX10_child_105 : decode cX10_child 105 = .ok (.getfield 105, 3) := by decide +kernel
theorem dX10_child_108 : decode cX10_child 108 = .ok (.aload_n 0, 1) := by decide +kernel
theorem dX10_child_109 : decode cX10_child 109 = .ok (.getfield 223, 3) := by decide +kernel
theorem dX10_child_112 : decode cX10_child 112 = .ok (.iconst (-1), 1) := by decide +kernel
theorem dX10_child_113 : decode cX10_child 113 = .ok (.iastore, 1) := by decide +kernel
theorem dX10_child_114 : decode cX10_child 114 = .ok (.aload_n 0, 1) := by decide +kernel
theorem dX10_child_115 : decode cX10_child 115 = .ok (.dup, 1) := by decide +kernel
theorem dX10_child_116 : decode cX10_child 116 = .ok (.getfield 223, 3) := by decide +kernel
theorem dX10_child_119 : decode cX10_child 119 = .ok (.iconst 1, 1) := by decide +kernel
theorem dX10_child_120 : decode cX10_child 120 = .ok (.iadd, 1) := by decide +kernel
theorem dX10_child_121 : decode cX10_child 121 = .ok (.putfield 223, 3) := by decide +kernel
theorem dX10_child_124 : decode cX10_child 124 = .ok (.aload_n 0, 1) := by decide +kernel
theorem dX10_child_125 : decode cX10_child 125 = .ok (.getfield 223, 3) := by decide +kernel
theorem dX10_child_128 : decode cX10_child 128 = .ok (.iconst 1, 1) := by decide +kernel
theorem dX10_child_129 : decode cX10_child 129 = .ok (.isub, 1) := by decide +kernel
theorem dX10_child_130 : decode cX10_child 130 = .ok (.ireturn, 1) := by decide +kernel
theorem dX10_hand_0 : decode cX10_hand 0 = .ok (.aload_n 0, 1) := by decide +kernel
theorem dX10_hand_1 : decode cX10_hand 1 = .ok (.iload_n 1, 1) := by decide +kernel
theorem dX10_hand_2 : decode cX10_hand 2 = .ok (.invokevirtual 235, 3) := by decide +kernel
theorem dX10_hand_5 : decode cX10_hand 5 = .ok (.ifCond .ne 6, 3) := by decide +kernel
theorem dX10_hand_8 : decode cX10_hand 8 = .ok (.bipush (-2), 2) := by decide +kernel
theorem dX10_hand_10 : decode cX10_hand 10 = .ok (.ireturn, 1) := by decide +kernel
theorem dX10_hand_11 : decode cX10_hand 11 = .ok (.iconst (-1), 1) := by decide +kernel
theorem dX10_hand_12 : decode cX10_hand 12 = .ok (.istore_n 2, 1) := by decide +kernel
theorem dX10_hand_13 : decode cX10_hand 13 = .ok (.iconst 0, 1) := by decide +kernel
theorem dX10_hand_14 : decode cX10_hand 14 = .ok (.istore_n 3, 1) := by decide +kernel
theorem dX10_hand_15 : decode cX10_hand 15 = .ok (.iload_n 3, 1) := by decide +kernel
theorem dX10_hand_16 : decode cX10_hand 16 = .ok (.iconst 4, 1) := by decide +kernel
theorem dX10_hand_17 : decode cX10_hand 17 = .ok (.if_icmp .ge 42, 3) := by decide +kernel
theorem dX10_hand_20 : decode cX10_hand 20 = .ok (.aload_n 0, 1) := by decide +kernel
theorem dX10_hand_21 : decode cX10_hand 21 = .ok (.getfield 102, 3) := by decide +kernel
theorem dX10_hand_24 : decode cX10_hand 24 = .ok (.iload_n 1, 1) := by decide +kernel
theorem dX10_hand_25 : decode cX10_hand 25 = .ok (.iaload, 1) := by decide +kernel
theorem dX10_hand_26 : decode cX10_hand 26 = .ok (.i2l, 1) := by decide +kernel
theorem dX10_hand_27 : decode cX10_hand 27 = .ok (.aload_n 0, 1) := by decide +kernel
theorem dX10_hand_28 : decode cX10_hand 28 = .ok (.getfield 90, 3) := by decide +kernel
theorem dX10_hand_31 : decode cX10_hand 31 = .ok (.iload_n 3, 1) := by decide +kernel
theorem dX10_hand_32 : decode cX10_hand 32 = .ok (.iaload, 1) := by decide +kernel
theorem dX10_hand_33 : decode cX10_hand 33 = .ok (.i2l, 1) := by decide +kernel
theorem dX10_hand_34 : decode cX10_hand 34 = .ok (.aload_n 0, 1) := by decide +kernel
theorem dX10_hand_35 : decode cX10_hand 35 = .ok (.getfield 93, 3) := by decide +kernel
theorem dX10_hand_38 : decode cX10_hand 38 = .ok (.iload_n 3, 1) := by decide +kernel
theorem dX10_hand_39 : decode cX10_hand 39 = .ok (.iaload, 1) := by decide +kernel
theorem dX10_hand_40 : decode cX10_hand 40 = .ok (.i2l, 1) := by decide +kernel
theorem dX10_hand_41 : decode cX10_hand 41 = .ok (.invokestatic 132, 3) := by decide +kernel
theorem dX10_hand_44 : decode cX10_hand 44 = .ok (.ifCond .eq 7, 3) := by decide +kernel
theorem dX10_hand_47 : decode cX10_hand 47 = .ok (.iload_n 3, 1) := by decide +kernel
theorem dX10_hand_48 : decode cX10_hand 48 = .ok (.goto 4, 3) := by decide +kernel
theorem dX10_hand_51 : decode cX10_hand 51 = .ok (.iload_n 2, 1) := by decide +kernel
theorem dX10_hand_52 : decode cX10_hand 52 = .ok (.istore_n 2, 1) := by decide +kernel
theorem dX10_hand_53 : decode cX10_hand 53 = .ok (.iinc 3 1, 3) := by decide +kernel
theorem dX10_hand_56 : decode cX10_hand 56 = .ok (.goto (-41), 3) := by decide +kernel
theorem dX10_hand_59 : decode cX10_hand 59 = .ok (.iload_n 2, 1) := by decide +kernel
theorem dX10_hand_60 : decode cX10_hand 60 = .ok (.iconst (-1), 1) := by decide +kernel
theorem dX10_hand_61 : decode cX10_hand 61 = .ok (.if_icmp .eq 13, 3) := by decide +kernel
theorem dX10_hand_64 : decode cX10_hand 64 = .ok (.aload_n 0, 1) := by decide +kernel
theorem dX10_hand_65 : decode cX10_hand 65 = .ok (.getfield 105, 3) := by decide +kernel
theorem dX10_hand_68 : decode cX10_hand 68 = .ok (.iload_n 1, 1) := by decide +kernel
theorem dX10_hand_69 : decode cX10_hand 69 = .ok (.iaload, 1) := by decide +kernel
theorem dX10_hand_70 : decode cX10_hand 70 = .ok (.iconst (-1), 1) := by decide +kernel
theorem dX10_hand_71 : decode cX10_hand 71 = .ok (.if_icmp .eq 6, 3) := by decide +kernel
theorem dX10_hand_74 : decode cX10_hand 74 = .ok (.bipush (-3), 2) := by decide +kernel
theorem dX10_hand_76 : decode cX10_hand 76 = .ok (.ireturn, 1) := by decide +kernel
theorem dX10_hand_77 : decode cX10_hand 77 = .ok (.aload_n 0, 1) := by decide +kernel
theorem dX10_hand_78 : decode cX10_hand 78 = .ok (.iload_n 2, 1) := by decide +kernel
theorem dX10_hand_79 : decode cX10_hand 79 = .ok (.invokevirtual 232, 3) := by decide +kernel
theorem dX10_hand_82 : decode cX10_hand 82 = .ok (.aload_n 0, 1) := by decide +kernel
theorem dX10_hand_83 : decode cX10_hand 83 = .ok (.getfield 96, 3) := by decide +kernel
theorem dX10_hand_86 : decode cX10_hand 86 = .ok (.iload_n 2, 1) := by decide +kernel
theorem dX10_hand_87 : decode cX10_hand 87 = .ok (.iaload, 1) := by decide +kernel
theorem dX10_hand_88 : decode cX10_hand 88 = .ok (.if_icmp .lt 6, 3) := by decide +kernel
theorem dX10_hand_91 : decode cX10_hand 91 = .ok (.bipush (-4), 2) := by decide +kernel
theorem dX10_hand_93 : decode cX10_hand 93 = .ok (.ireturn, 1) := by decide +kernel
theorem dX10_hand_94 : decode cX10_hand 94 = .ok (.aload_n 0, 1) := by decide +kernel
theorem dX10_hand_95 : decode cX10_hand 95 = .ok (.getfield 105, 3) := by decide +kernel
theorem dX10_hand_98 : decode cX10_hand 98 = .ok (.iload_n 1, 1) := by decide +kernel
theorem dX10_hand_99 : decode cX10_hand 99 = .ok (.iload_n 2, 1) := by decide +kernel
theorem dX10_hand_100 : decode cX10_hand 100 = .ok (.iastore, 1) := by decide +kernel
theorem dX10_hand_101 : decode cX10_hand 101 = .ok (.iload_n 2, 1) := by decide +kernel
theorem dX10_hand_102 : decode cX10_hand 102 = .ok (.ireturn, 1) := by decide +kernel
theorem dX10_fetch_0 : decode cX10_fetch 0 = .ok (.aload_n 0, 1) := by decide +kernel
theorem dX10_fetch_1 : decode cX10_fetch 1 = .ok (.iload_n 1, 1) := by decide +kernel
theorem dX10_fetch_2 : decode cX10_fetch 2 = .ok (.invokevirtual 235, 3) := by decide +kernel
theorem dX10_fetch_5 : decode cX10_fetch 5 = .ok (.ifCond .eq 11, 3) := by decide +kernel
theorem dX10_fetch_8 : decode cX10_fetch 8 = .ok (.aload_n 0, 1) := by decide +kernel
theorem dX10_fetch_9 : decode cX10_fetch 9 = .ok (.iload_n 2, 1) := by decide +kernel
theorem dX10_fetch_10 : decode cX10_fetch 10 = .ok (.invokevirtual 151, 3) := by decide +kernel
theorem dX10_fetch_13 : decode cX10_fetch 13 = .ok (.ifCond .ne 6, 3) := by decide +kernel
theorem dX10_fetch_16 : decode cX10_fetch 16 = .ok (.bipush (-2), 2) := by decide +kernel
theorem dX10_fetch_18 : decode cX10_fetch 18 = .ok (.ireturn, 1) := by decide +kernel
theorem dX10_fetch_19 : decode cX10_fetch 19 = .ok (.aload_n 0, 1) := by decide +kernel
theorem dX10_fetch_20 : decode cX10_fetch 20 = .ok (.getfield 105, 3) := by decide +kernel
theorem dX10_fetch_23 : decode cX10_fetch 23 = .ok (.iload_n 1, 1) := by decide +kernel
theorem dX10_fetch_24 : decode cX10_fetch 24 = .ok (.iaload, 1) := by decide +kernel
theorem dX10_fetch_25 : decode cX10_fetch 25 = .ok (.iconst (-1), 1) := by decide +kernel
theorem dX10_fetch_26 : decode cX10_fetch 26 = .ok (.if_icmp .eq 13, 3) := by decide +kernel
theorem dX10_fetch_29 : decode cX10_fetch 29 = .ok (.aload_n 0, 1) := by decide +kernel
theorem dX10_fetch_30 : decode cX10_fetch 30 = .ok (.getfield 99, 3) := by decide +kernel
theorem dX10_fetch_33 : decode cX10_fetch 33 = .ok (.iload_n 1, 1) := by decide +kernel
theorem dX10_fetch_34 : decode cX10_fetch 34 = .ok (.iaload, 1) := by decide +kernel
theorem dX10_fetch_35 : decode cX10_fetch 35 = .ok (.iload_n 2, 1) := by decide +kernel
theorem dX10_fetch_36 : decode cX10_fetch 36 = .ok (.if_icmp .eq 6, 3) := by decide +kernel
theorem dX10_fetch_39 : decode cX10_fetch 39 = .ok (.bipush (-3), 2) := by decide +kernel
theorem dX10_fetch_41 : decode cX10_fetch 41 = .ok (.ireturn, 1) := by decide +kernel
theorem dX10_fetch_42 : decode cX10_fetch 42 = .ok (.aload_n 0, 1) := by decide +kernel
theorem dX10_fetch_43 : decode cX10_fetch 43 = .ok (.getfield 105, 3) := by decide +kernel
theorem dX10_fetch_46 : decode cX10_fetch 46 = .ok (.iload_n 1, 1) := by decide +kernel
theorem dX10_fetch_47 : decode cX10_fetch 47 = .ok (.iconst (-1), 1) := by decide +kernel
theorem dX10_fetch_48 : decode cX10_fetch 48 = .ok (.iastore, 1) := by decide +kernel
theorem dX10_fetch_49 : decode cX10_fetch 49 = .ok (.iconst 1, 1) := by decide +kernel
theorem dX10_fetch_50 : decode cX10_fetch 50 = .ok (.ireturn, 1) := by decide +kernel
theorem dX10_with_0 : decode cX10_with 0 = .ok (.aload_n 0, 1) := by decide +kernel
theorem dX10_with_1 : decode cX10_with 1 = .ok (.iload_n 1, 1) := by decide +kernel
theorem dX10_with_2 : decode cX10_with 2 = .ok (.invokevirtual 235, 3) := by decide +kernel
theorem dX10_with_5 : decode cX10_with 5 = .ok (.ifCond .eq 12, 3) := by decide +kernel
theorem dX10_with_8 : decode cX10_with 8 = .ok (.aload_n 0, 1) := by decide +kernel
theorem dX10_with_9 : decode cX10_with 9 = .ok (.getfield 105, 3) := by decide +kernel
theorem dX10_with_12 : decode cX10_with 12 = .ok (.iload_n 1, 1) := by decide +kernel
theorem dX10_with_13 : decode cX10_with 13 = .ok (.iaload, 1) := by decide +kernel
theorem dX10_with_14 : decode cX10_with 14 = .ok (.goto 5, 3) := by decide +kernel
theorem dX10_with_17 : decode cX10_with 17 = .ok (.bipush (-2), 2) := by decide +kernel
theorem dX10_with_19 : decode cX10_with 19 = .ok (.ireturn, 1) := by decide +kernel
theorem dX10_list_0 : decode cX10_list 0 = .ok (.iload_n 1, 1) := by decide +kernel
theorem dX10_list_1 : decode cX10_list 1 = .ok (.i2l, 1) := by decide +kernel
theorem dX10_list_2 : decode cX10_list 2 = .ok (.lconst 0, 1) := by decide +kernel
theorem dX10_list_3 : decode cX10_list 3 = .ok (.ldc2_w 238, 3) := by decide +kernel
theorem dX10_list_6 : decode cX10_list 6 = .ok (.invokestatic 132, 3) := by decide +kernel
theorem dX10_list_9 : decode cX10_list 9 = .ok (.ifCond .eq 27, 3) := by decide +kernel
theorem dX10_list_12 : decode cX10_list 12 = .ok (.iload_n 2, 1) := by decide +kernel
theorem dX10_list_13 : decode cX10_list 13 = .ok (.i2l, 1) := by decide +kernel
theorem dX10_list_14 : decode cX10_list 14 = .ok (.lconst 0, 1) := by decide +kernel
theorem dX10_list_15 : decode cX10_list 15 = .ok (.ldc2_w 240, 3) := by decide +kernel
theorem dX10_list_18 : decode cX10_list 18 = .ok (.invokestatic 132, 3) := by decide +kernel
theorem dX10_list_21 : decode cX10_list 21 = .ok (.ifCond .eq 15, 3) := by decide +kernel
theorem dX10_list_24 : decode cX10_list 24 = .ok (.iload_n 3, 1) := by decide +kernel
theorem dX10_list_25 : decode cX10_list 25 = .ok (.i2l, 1) := by decide +kernel
theorem dX10_list_26 : decode cX10_list 26 = .ok (.lconst 0, 1) := by decide +kernel
theorem dX10_list_27 : decode cX10_list 27 = .ok (.ldc2_w 242, 3) := by decide +kernel
theorem dX10_list_30 : decode cX10_list 30 = .ok (.invokestatic 132, 3) := by decide +kernel
theorem dX10_list_33 : decode cX10_list 33 = .ok (.ifCond .ne 6, 3) := by decide +kernel
theorem dX10_list_36 : decode cX10_list 36 = .ok (.bipush (-2), 2) := by decide +kernel
theorem dX10_list_38 : decode cX10_list 38 = .ok (.ireturn, 1) := by decide +kernel
theorem dX10_list_39 : decode cX10_list 39 = .ok (.aload_n 0, 1) := by decide +kernel
theorem dX10_list_40 : decode cX10_list 40 = .ok (.getfield 244, 3) := by decide +kernel
theorem dX10_list_43 : decode cX10_list 43 = .ok (.bipush 30, 2) := by decide +kernel
theorem dX10_list_45 : decode cX10_list 45 = .ok (.if_icmp .ne 6, 3) := by decide +kernel
theorem dX10_list_48 : decode cX10_list 48 = .ok (.bipush (-4), 2) := by decide +kernel
theorem dX10_list_50 : decode cX10_list 50 = .ok (.ireturn, 1) := by decide +kernel
theorem dX10_list_51 : decode cX10_list 51 = .ok (.aload_n 0, 1) := by decide +kernel
theorem dX10_list_52 : decode cX10_list 52 = .ok (.getfield 108, 3) := by decide +kernel
theorem dX10_list_55 : decode cX10_list 55 = .ok (.aload_n 0, 1) := by decide +kernel
theorem dX10_list_56 : decode cX10_list 56 = .ok (.getfield 244, 3) := by decide +kernel
theorem dX10_list_59 : decode cX10_list 59 = .ok (.iload_n 1, 1) := by decide +kernel
theorem dX10_list_60 : decode cX10_list 60 = .ok (.iastore, 1) := by decide +kernel
theorem dX10_list_61 : decode cX10_list 61 = .ok (.aload_n 0, 1) := by decide +kernel
theorem dX10_list_62 : decode cX10_list 62 = .ok (.getfield 111, 3) := by decide +kernel
theorem dX10_list_65 : decode cX10_list 65 = .ok (.aload_n 0, 1) := by decide +kernel
theorem dX10_list_66 : decode cX10_list 66 = .ok (.getfield 244, 3) := by decide +kernel
theorem dX10_list_69 : decode cX10_list 69 = .ok (.iload_n 2, 1) := by decide +kernel
theorem dX10_list_70 : decode cX10_list 70 = .ok (.iastore, 1) := by decide +kernel
theorem dX10_list_71 : decode cX10_list 71 = .ok (.aload_n 0, 1) := by decide +kernel
theorem dX10_list_72 : decode cX10_list 72 = .ok (.getfield 114, 3) := by decide +kernel
theorem dX10_list_75 : decode cX10_list 75 = .ok (.aload_n 0, 1) := by decide +kernel
theorem dX10_list_76 : decode cX10_list 76 = .ok (.getfield 244, 3) := by decide +kernel
theorem dX10_list_79 : decode cX10_list 79 = .ok (.iload_n 3, 1) := by decide +kernel
theorem dX10_list_80 : decode cX10_list 80 = .ok (.iastore, 1) := by decide +kernel
theorem dX10_list_81 : decode cX10_list 81 = .ok (.aload_n 0, 1) := by decide +kernel
theorem dX10_list_82 : decode cX10_list 82 = .ok (.dup, 1) := by decide +kernel
theorem dX10_list_83 : decode cX10_list 83 = .ok (.getfield 244, 3) := by decide +kernel
theorem dX10_list_86 : decode cX10_list 86 = .ok (.iconst 1, 1) := by decide +kernel
theorem dX10_list_87 : decode cX10_list 87 = .ok (.iadd, 1) := by decide +kernel
theorem dX10_list_88 : decode cX10_list 88 = .ok (.putfield 244, 3) := by decide +kernel
theorem dX10_list_91 : decode cX10_list 91 = .ok (.aload_n 0, 1) := by decide +kernel
theorem dX10_list_92 : decode cX10_list 92 = .ok (.getfield 244, 3) := by decide +kernel
theorem dX10_list_95 : decode cX10_list 95 = .ok (.ireturn, 1) := by decide +kernel
theorem dX10_pays_0 : decode cX10_pays 0 = .ok (.iload_n 1, 1) := by decide +kernel
theorem dX10_pays_1 : decode cX10_pays 1 = .ok (.i2l, 1) := by decide +kernel
theorem dX10_pays_2 : decode cX10_pays 2 = .ok (.lconst 0, 1) := by decide +kernel
theorem dX10_pays_3 : decode cX10_pays 3 = .ok (.ldc2_w 238, 3) := by decide +kernel
theorem dX10_pays_6 : decode cX10_pays 6 = .ok (.invokestatic 132, 3) := by decide +kernel
theorem dX10_pays_9 : decode cX10_pays 9 = .ok (.ifCond .eq 15, 3) := by decide +kernel

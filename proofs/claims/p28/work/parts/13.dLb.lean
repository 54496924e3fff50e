theorem dL_act_275 : decode cL_act 275 = .ok (.aload_n 0, 1) := by decide +kernel
theorem dL_act_276 : decode cL_act 276 = .ok (.invokevirtual 44, 3) := by decide +kernel
theorem dL_act_279 : decode cL_act 279 = .ok (.goto 7, 3) := by decide +kernel
theorem dL_act_282 : decode cL_act 282 = .ok (.aload_n 0, 1) := by decide +kernel
theorem dL_act_283 : decode cL_act 283 = .ok (.invokevirtual 47, 3) := by decide +kernel
theorem dL_act_286 : decode cL_act 286 = .ok (.ireturn, 1) := by decide +kernel
theorem dL_act_287 : decode cL_act 287 = .ok (.iload 7, 2) := by decide +kernel
theorem dL_act_289 : decode cL_act 289 = .ok (.ifCond .eq 22, 3) := by decide +kernel
theorem dL_act_292 : decode cL_act 292 = .ok (.iload 4, 2) := by decide +kernel
theorem dL_act_294 : decode cL_act 294 = .ok (.iconst (-1), 1) := by decide +kernel
theorem dL_act_295 : decode cL_act 295 = .ok (.if_icmp .ne 10, 3) := by decide +kernel
theorem dL_act_298 : decode cL_act 298 = .ok (.aload_n 0, 1) := by decide +kernel
theorem dL_act_299 : decode cL_act 299 = .ok (.invokevirtual 40, 3) := by decide +kernel
theorem dL_act_302 : decode cL_act 302 = .ok (.goto 13, 3) := by decide +kernel
theorem dL_act_305 : decode cL_act 305 = .ok (.sipush (-200), 3) := by decide +kernel
theorem dL_act_308 : decode cL_act 308 = .ok (.goto 7, 3) := by decide +kernel
theorem dL_act_311 : decode cL_act 311 = .ok (.aload_n 0, 1) := by decide +kernel
theorem dL_act_312 : decode cL_act 312 = .ok (.invokevirtual 47, 3) := by decide +kernel
theorem dL_act_315 : decode cL_act 315 = .ok (.ireturn, 1) := by decide +kernel
theorem dL_act_316 : decode cL_act 316 = .ok (.iload 4, 2) := by decide +kernel
theorem dL_act_318 : decode cL_act 318 = .ok (.ifCond .lt 74, 3) := by decide +kernel
theorem dL_act_321 : decode cL_act 321 = .ok (.iload 7, 2) := by decide +kernel
theorem dL_act_323 : decode cL_act 323 = .ok (.ifCond .ne 12, 3) := by decide +kernel
theorem dL_act_326 : decode cL_act 326 = .ok (.aload_n 0, 1) := by decide +kernel
theorem dL_act_327 : decode cL_act 327 = .ok (.iload 5, 2) := by decide +kernel
theorem dL_act_329 : decode cL_act 329 = .ok (.invokevirtual 20, 3) := by decide +kernel
theorem dL_act_332 : decode cL_act 332 = .ok (.ifCond .eq 60, 3) := by decide +kernel
theorem dL_act_335 : decode cL_act 335 = .ok (.aload_n 0, 1) := by decide +kernel
theorem dL_act_336 : decode cL_act 336 = .ok (.iload 7, 2) := by decide +kernel
theorem dL_act_338 : decode cL_act 338 = .ok (.ifCond .eq 8, 3) := by decide +kernel
theorem dL_act_341 : decode cL_act 341 = .ok (.iload 4, 2) := by decide +kernel
theorem dL_act_343 : decode cL_act 343 = .ok (.goto 5, 3) := by decide +kernel
theorem dL_act_346 : decode cL_act 346 = .ok (.iload 5, 2) := by decide +kernel
theorem dL_act_348 : decode cL_act 348 = .ok (.iload 6, 2) := by decide +kernel
theorem dL_act_350 : decode cL_act 350 = .ok (.iload_n 1, 1) := by decide +kernel
theorem dL_act_351 : decode cL_act 351 = .ok (.bipush 6, 2) := by decide +kernel
theorem dL_act_353 : decode cL_act 353 = .ok (.ishr, 1) := by decide +kernel
theorem dL_act_354 : decode cL_act 354 = .ok (.iconst 5, 1) := by decide +kernel
theorem dL_act_355 : decode cL_act 355 = .ok (.invokestatic 14, 3) := by decide +kernel
theorem dL_act_358 : decode cL_act 358 = .ok (.iconst 1, 1) := by decide +kernel
theorem dL_act_359 : decode cL_act 359 = .ok (.iload_n 1, 1) := by decide +kernel
theorem dL_act_360 : decode cL_act 360 = .ok (.bipush 8, 2) := by decide +kernel
theorem dL_act_362 : decode cL_act 362 = .ok (.ishr, 1) := by decide +kernel
theorem dL_act_363 : decode cL_act 363 = .ok (.bipush 20, 2) := by decide +kernel
theorem dL_act_365 : decode cL_act 365 = .ok (.invokestatic 14, 3) := by decide +kernel
theorem dL_act_368 : decode cL_act 368 = .ok (.iadd, 1) := by decide +kernel
theorem dL_act_369 : decode cL_act 369 = .ok (.iconst 1, 1) := by decide +kernel
theorem dL_act_370 : decode cL_act 370 = .ok (.iload_n 1, 1) := by decide +kernel
theorem dL_act_371 : decode cL_act 371 = .ok (.iconst 5, 1) := by decide +kernel
theorem dL_act_372 : decode cL_act 372 = .ok (.ishr, 1) := by decide +kernel
theorem dL_act_373 : decode cL_act 373 = .ok (.iconst 4, 1) := by decide +kernel
theorem dL_act_374 : decode cL_act 374 = .ok (.invokestatic 14, 3) := by decide +kernel
theorem dL_act_377 : decode cL_act 377 = .ok (.iadd, 1) := by decide +kernel
theorem dL_act_378 : decode cL_act 378 = .ok (.iload_n 1, 1) := by decide +kernel
theorem dL_act_379 : decode cL_act 379 = .ok (.bipush 9, 2) := by decide +kernel
theorem dL_act_381 : decode cL_act 381 = .ok (.ishr, 1) := by decide +kernel
theorem dL_act_382 : decode cL_act 382 = .ok (.iconst 4, 1) := by decide +kernel
theorem dL_act_383 : decode cL_act 383 = .ok (.invokestatic 14, 3) := by decide +kernel
theorem dL_act_386 : decode cL_act 386 = .ok (.invokevirtual 50, 3) := by decide +kernel
theorem dL_act_389 : decode cL_act 389 = .ok (.goto 6, 3) := by decide +kernel
theorem dL_act_392 : decode cL_act 392 = .ok (.sipush (-200), 3) := by decide +kernel
theorem dL_act_395 : decode cL_act 395 = .ok (.ireturn, 1) := by decide +kernel
theorem dL_act_396 : decode cL_act 396 = .ok (.iload 7, 2) := by decide +kernel
theorem dL_act_398 : decode cL_act 398 = .ok (.ifCond .ne 25, 3) := by decide +kernel
theorem dL_act_401 : decode cL_act 401 = .ok (.aload_n 0, 1) := by decide +kernel
theorem dL_act_402 : decode cL_act 402 = .ok (.iload 5, 2) := by decide +kernel
theorem dL_act_404 : decode cL_act 404 = .ok (.invokevirtual 20, 3) := by decide +kernel
theorem dL_act_407 : decode cL_act 407 = .ok (.ifCond .eq 16, 3) := by decide +kernel
theorem dL_act_410 : decode cL_act 410 = .ok (.aload_n 0, 1) := by decide +kernel
theorem dL_act_411 : decode cL_act 411 = .ok (.iload 5, 2) := by decide +kernel
theorem dL_act_413 : decode cL_act 413 = .ok (.iconst 3, 1) := by decide +kernel
theorem dL_act_414 : decode cL_act 414 = .ok (.iload 6, 2) := by decide +kernel
theorem dL_act_416 : decode cL_act 416 = .ok (.iconst 1, 1) := by decide +kernel
theorem dL_act_417 : decode cL_act 417 = .ok (.invokevirtual 54, 3) := by decide +kernel
theorem dL_act_420 : decode cL_act 420 = .ok (.goto 6, 3) := by decide +kernel
theorem dL_act_423 : decode cL_act 423 = .ok (.sipush (-200), 3) := by decide +kernel
theorem dL_act_426 : decode cL_act 426 = .ok (.ireturn, 1) := by decide +kernel
theorem dL_act_427 : decode cL_act 427 = .ok (.iload 4, 2) := by decide +kernel
theorem dL_act_429 : decode cL_act 429 = .ok (.ifCond .lt 51, 3) := by decide +kernel
theorem dL_act_432 : decode cL_act 432 = .ok (.iload 8, 2) := by decide +kernel
theorem dL_act_434 : decode cL_act 434 = .ok (.ifCond .ne 8, 3) := by decide +kernel
theorem dL_act_437 : decode cL_act 437 = .ok (.iload 7, 2) := by decide +kernel
theorem dL_act_439 : decode cL_act 439 = .ok (.ifCond .eq 41, 3) := by decide +kernel
theorem dL_act_442 : decode cL_act 442 = .ok (.aload_n 0, 1) := by decide +kernel
theorem dL_act_443 : decode cL_act 443 = .ok (.iload 7, 2) := by decide +kernel
theorem dL_act_445 : decode cL_act 445 = .ok (.ifCond .eq 8, 3) := by decide +kernel
theorem dL_act_448 : decode cL_act 448 = .ok (.iload 4, 2) := by decide +kernel
theorem dL_act_450 : decode cL_act 450 = .ok (.goto 5, 3) := by decide +kernel
theorem dL_act_453 : decode cL_act 453 = .ok (.iload 5, 2) := by decide +kernel
theorem dL_act_455 : decode cL_act 455 = .ok (.iload_n 1, 1) := by decide +kernel
theorem dL_act_456 : decode cL_act 456 = .ok (.bipush 10, 2) := by decide +kernel
theorem dL_act_458 : decode cL_act 458 = .ok (.ishr, 1) := by decide +kernel
theorem dL_act_459 : decode cL_act 459 = .ok (.iconst 1, 1) := by decide +kernel
theorem dL_act_460 : decode cL_act 460 = .ok (.iand, 1) := by decide +kernel
theorem dL_act_461 : decode cL_act 461 = .ok (.iload 6, 2) := by decide +kernel
theorem dL_act_463 : decode cL_act 463 = .ok (.iconst 1, 1) := by decide +kernel
theorem dL_act_464 : decode cL_act 464 = .ok (.iload_n 1, 1) := by decide +kernel
theorem dL_act_465 : decode cL_act 465 = .ok (.bipush 6, 2) := by decide +kernel
theorem dL_act_467 : decode cL_act 467 = .ok (.ishr, 1) := by decide +kernel
theorem dL_act_468 : decode cL_act 468 = .ok (.bipush 40, 2) := by decide +kernel
theorem dL_act_470 : decode cL_act 470 = .ok (.invokestatic 14, 3) := by decide +kernel
theorem dL_act_473 : decode cL_act 473 = .ok (.iadd, 1) := by decide +kernel
theorem dL_act_474 : decode cL_act 474 = .ok (.invokevirtual 54, 3) := by decide +kernel
theorem dL_act_477 : decode cL_act 477 = .ok (.goto 6, 3) := by decide +kernel
theorem dL_act_480 : decode cL_act 480 = .ok (.sipush (-200), 3) := by decide +kernel
theorem dL_act_483 : decode cL_act 483 = .ok (.ireturn, 1) := by decide +kernel
theorem dL_isRight_0 : decode cL_isRight 0 = .ok (.iconst 0, 1) := by decide +kernel
theorem dL_isRight_1 : decode cL_isRight 1 = .ok (.istore_n 1, 1) := by decide +kernel
theorem dL_isRight_2 : decode cL_isRight 2 = .ok (.iconst 0, 1) := by decide +kernel
theorem dL_isRight_3 : decode cL_isRight 3 = .ok (.istore_n 2, 1) := by decide +kernel
theorem dL_isRight_4 : decode cL_isRight 4 = .ok (.iconst 0, 1) := by decide +kernel
theorem dL_isRight_5 : decode cL_isRight 5 = .ok (.istore_n 3, 1) := by decide +kernel
theorem dL_isRight_6 : decode cL_isRight 6 = .ok (.aload_n 0, 1) := by decide +kernel
theorem dL_isRight_7 : decode cL_isRight 7 = .ok (.iconst 4, 1) := by decide +kernel
theorem dL_isRight_8 : decode cL_isRight 8 = .ok (.invokevirtual 8, 3) := by decide +kernel
theorem dL_isRight_11 : decode cL_isRight 11 = .ok (.istore 4, 2) := by decide +kernel
theorem dL_isRight_13 : decode cL_isRight 13 = .ok (.iconst 0, 1) := by decide +kernel
theorem dL_isRight_14 : decode cL_isRight 14 = .ok (.istore 5, 2) := by decide +kernel
theorem dL_isRight_16 : decode cL_isRight 16 = .ok (.iload 5, 2) := by decide +kernel
theorem dL_isRight_18 : decode cL_isRight 18 = .ok (.aload_n 0, 1) := by decide +kernel
theorem dL_isRight_19 : decode cL_isRight 19 = .ok (.iconst 0, 1) := by decide +kernel
theorem dL_isRight_20 : decode cL_isRight 20 = .ok (.invokevirtual 8, 3) := by decide +kernel
theorem dL_isRight_23 : decode cL_isRight 23 = .ok (.if_icmp .ge 433, 3) := by decide +kernel
theorem dL_isRight_26 : decode cL_isRight 26 = .ok (.aload_n 0, 1) := by decide +kernel
theorem dL_isRight_27 : decode cL_isRight 27 = .ok (.iload 5, 2) := by decide +kernel
theorem dL_isRight_29 : decode cL_isRight 29 = .ok (.iconst 2, 1) := by decide +kernel
theorem dL_isRight_30 : decode cL_isRight 30 = .ok (.invokevirtual 33, 3) := by decide +kernel
theorem dL_isRight_33 : decode cL_isRight 33 = .ok (.istore 6, 2) := by decide +kernel
theorem dL_isRight_35 : decode cL_isRight 35 = .ok (.iload_n 3, 1) := by decide +kernel
theorem dL_isRight_36 : decode cL_isRight 36 = .ok (.iload 6, 2) := by decide +kernel
theorem dL_isRight_38 : decode cL_isRight 38 = .ok (.iadd, 1) := by decide +kernel
theorem dL_isRight_39 : decode cL_isRight 39 = .ok (.istore_n 3, 1) := by decide +kernel
theorem dL_isRight_40 : decode cL_isRight 40 = .ok (.iload_n 1, 1) := by decide +kernel
theorem dL_isRight_41 : decode cL_isRight 41 = .ok (.iload 6, 2) := by decide +kernel
theorem dL_isRight_43 : decode cL_isRight 43 = .ok (.ifCond .le 7, 3) := by decide +kernel
theorem dL_isRight_46 : decode cL_isRight 46 = .ok (.iconst 1, 1) := by decide +kernel
theorem dL_isRight_47 : decode cL_isRight 47 = .ok (.goto 4, 3) := by decide +kernel
theorem dL_isRight_50 : decode cL_isRight 50 = .ok (.iconst 0, 1) := by decide +kernel
theorem dL_isRight_51 : decode cL_isRight 51 = .ok (.iadd, 1) := by decide +kernel
theorem dL_isRight_52 : decode cL_isRight 52 = .ok (.istore_n 1, 1) := by decide +kernel
theorem dL_isRight_53 : decode cL_isRight 53 = .ok (.aload_n 0, 1) := by decide +kernel
theorem dL_isRight_54 : decode cL_isRight 54 = .ok (.iload 5, 2) := by decide +kernel
theorem dL_isRight_56 : decode cL_isRight 56 = .ok (.bipush 6, 2) := by decide +kernel
theorem dL_isRight_58 : decode cL_isRight 58 = .ok (.invokevirtual 33, 3) := by decide +kernel
theorem dL_isRight_61 : decode cL_isRight 61 = .ok (.istore 7, 2) := by decide +kernel
theorem dL_isRight_63 : decode cL_isRight 63 = .ok (.iload_n 2, 1) := by decide +kernel
theorem dL_isRight_64 : decode cL_isRight 64 = .ok (.iload 7, 2) := by decide +kernel
theorem dL_isRight_66 : decode cL_isRight 66 = .ok (.ifCond .lt 7, 3) := by decide +kernel
theorem dL_isRight_69 : decode cL_isRight 69 = .ok (.iconst 1, 1) := by decide +kernel
theorem dL_isRight_70 : decode cL_isRight 70 = .ok (.goto 4, 3) := by decide +kernel

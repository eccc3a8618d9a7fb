theorem dL_sound_276 : decode cL_sound 276 = .ok (.aload_n 0, 1) := by decide +kernel
theorem dL_sound_277 : decode cL_sound 277 = .ok (.iload_n 3, 1) := by decide +kernel
theorem dL_sound_278 : decode cL_sound 278 = .ok (.iload 5, 2) := by decide +kernel
theorem dL_sound_280 : decode cL_sound 280 = .ok (.iconst 1, 1) := by decide +kernel
theorem dL_sound_281 : decode cL_sound 281 = .ok (.invokevirtual 26, 3) := by decide +kernel
theorem dL_sound_284 : decode cL_sound 284 = .ok (.aload_n 0, 1) := by decide +kernel
theorem dL_sound_285 : decode cL_sound 285 = .ok (.iload 5, 2) := by decide +kernel
theorem dL_sound_287 : decode cL_sound 287 = .ok (.iload_n 3, 1) := by decide +kernel
theorem dL_sound_288 : decode cL_sound 288 = .ok (.iconst 2, 1) := by decide +kernel
theorem dL_sound_289 : decode cL_sound 289 = .ok (.invokevirtual 26, 3) := by decide +kernel
theorem dL_sound_292 : decode cL_sound 292 = .ok (.if_icmp .eq 5, 3) := by decide +kernel
theorem dL_sound_295 : decode cL_sound 295 = .ok (.iconst 0, 1) := by decide +kernel
theorem dL_sound_296 : decode cL_sound 296 = .ok (.ireturn, 1) := by decide +kernel
theorem dL_sound_297 : decode cL_sound 297 = .ok (.iload 6, 2) := by decide +kernel
theorem dL_sound_299 : decode cL_sound 299 = .ok (.iconst 1, 1) := by decide +kernel
theorem dL_sound_300 : decode cL_sound 300 = .ok (.if_icmp .ne 62, 3) := by decide +kernel
theorem dL_sound_303 : decode cL_sound 303 = .ok (.aload_n 0, 1) := by decide +kernel
theorem dL_sound_304 : decode cL_sound 304 = .ok (.aload_n 0, 1) := by decide +kernel
theorem dL_sound_305 : decode cL_sound 305 = .ok (.iload_n 3, 1) := by decide +kernel
theorem dL_sound_306 : decode cL_sound 306 = .ok (.iconst 0, 1) := by decide +kernel
theorem dL_sound_307 : decode cL_sound 307 = .ok (.invokevirtual 13, 3) := by decide +kernel
theorem dL_sound_310 : decode cL_sound 310 = .ok (.aload_n 0, 1) := by decide +kernel
theorem dL_sound_311 : decode cL_sound 311 = .ok (.iload 5, 2) := by decide +kernel
theorem dL_sound_313 : decode cL_sound 313 = .ok (.iconst 0, 1) := by decide +kernel
theorem dL_sound_314 : decode cL_sound 314 = .ok (.invokevirtual 13, 3) := by decide +kernel
theorem dL_sound_317 : decode cL_sound 317 = .ok (.ior, 1) := by decide +kernel
theorem dL_sound_318 : decode cL_sound 318 = .ok (.invokevirtual 30, 3) := by decide +kernel
theorem dL_sound_321 : decode cL_sound 321 = .ok (.iconst 1, 1) := by decide +kernel
theorem dL_sound_322 : decode cL_sound 322 = .ok (.if_icmp .ne 38, 3) := by decide +kernel
theorem dL_sound_325 : decode cL_sound 325 = .ok (.aload_n 0, 1) := by decide +kernel
theorem dL_sound_326 : decode cL_sound 326 = .ok (.iload_n 3, 1) := by decide +kernel
theorem dL_sound_327 : decode cL_sound 327 = .ok (.iload 5, 2) := by decide +kernel
theorem dL_sound_329 : decode cL_sound 329 = .ok (.iconst (-1), 1) := by decide +kernel
theorem dL_sound_330 : decode cL_sound 330 = .ok (.invokevirtual 35, 3) := by decide +kernel
theorem dL_sound_333 : decode cL_sound 333 = .ok (.iconst 1, 1) := by decide +kernel
theorem dL_sound_334 : decode cL_sound 334 = .ok (.if_icmp .ne 26, 3) := by decide +kernel
theorem dL_sound_337 : decode cL_sound 337 = .ok (.aload_n 0, 1) := by decide +kernel
theorem dL_sound_338 : decode cL_sound 338 = .ok (.iload_n 3, 1) := by decide +kernel
theorem dL_sound_339 : decode cL_sound 339 = .ok (.iload 5, 2) := by decide +kernel
theorem dL_sound_341 : decode cL_sound 341 = .ok (.iconst 0, 1) := by decide +kernel
theorem dL_sound_342 : decode cL_sound 342 = .ok (.invokevirtual 35, 3) := by decide +kernel
theorem dL_sound_345 : decode cL_sound 345 = .ok (.iload 5, 2) := by decide +kernel
theorem dL_sound_347 : decode cL_sound 347 = .ok (.if_icmp .ne 13, 3) := by decide +kernel
theorem dL_sound_350 : decode cL_sound 350 = .ok (.aload_n 0, 1) := by decide +kernel
theorem dL_sound_351 : decode cL_sound 351 = .ok (.iload_n 3, 1) := by decide +kernel
theorem dL_sound_352 : decode cL_sound 352 = .ok (.iload 5, 2) := by decide +kernel
theorem dL_sound_354 : decode cL_sound 354 = .ok (.invokestatic 38, 3) := by decide +kernel
theorem dL_sound_357 : decode cL_sound 357 = .ok (.ifCond .ne 5, 3) := by decide +kernel
theorem dL_sound_360 : decode cL_sound 360 = .ok (.iconst 0, 1) := by decide +kernel
theorem dL_sound_361 : decode cL_sound 361 = .ok (.ireturn, 1) := by decide +kernel
theorem dL_sound_362 : decode cL_sound 362 = .ok (.aload_n 0, 1) := by decide +kernel
theorem dL_sound_363 : decode cL_sound 363 = .ok (.iload_n 3, 1) := by decide +kernel
theorem dL_sound_364 : decode cL_sound 364 = .ok (.iconst 1, 1) := by decide +kernel
theorem dL_sound_365 : decode cL_sound 365 = .ok (.invokevirtual 13, 3) := by decide +kernel
theorem dL_sound_368 : decode cL_sound 368 = .ok (.iconst 1, 1) := by decide +kernel
theorem dL_sound_369 : decode cL_sound 369 = .ok (.if_icmp .ne 18, 3) := by decide +kernel
theorem dL_sound_372 : decode cL_sound 372 = .ok (.aload_n 0, 1) := by decide +kernel
theorem dL_sound_373 : decode cL_sound 373 = .ok (.iload 5, 2) := by decide +kernel
theorem dL_sound_375 : decode cL_sound 375 = .ok (.iconst 1, 1) := by decide +kernel
theorem dL_sound_376 : decode cL_sound 376 = .ok (.invokevirtual 13, 3) := by decide +kernel
theorem dL_sound_379 : decode cL_sound 379 = .ok (.iconst 1, 1) := by decide +kernel
theorem dL_sound_380 : decode cL_sound 380 = .ok (.if_icmp .ne 7, 3) := by decide +kernel
theorem dL_sound_383 : decode cL_sound 383 = .ok (.iconst 1, 1) := by decide +kernel
theorem dL_sound_384 : decode cL_sound 384 = .ok (.goto 4, 3) := by decide +kernel
theorem dL_sound_387 : decode cL_sound 387 = .ok (.iconst 0, 1) := by decide +kernel
theorem dL_sound_388 : decode cL_sound 388 = .ok (.istore 7, 2) := by decide +kernel
theorem dL_sound_390 : decode cL_sound 390 = .ok (.iload 7, 2) := by decide +kernel
theorem dL_sound_392 : decode cL_sound 392 = .ok (.ifCond .eq 14, 3) := by decide +kernel
theorem dL_sound_395 : decode cL_sound 395 = .ok (.aload_n 0, 1) := by decide +kernel
theorem dL_sound_396 : decode cL_sound 396 = .ok (.iload_n 3, 1) := by decide +kernel
theorem dL_sound_397 : decode cL_sound 397 = .ok (.iload 5, 2) := by decide +kernel
theorem dL_sound_399 : decode cL_sound 399 = .ok (.iconst (-1), 1) := by decide +kernel
theorem dL_sound_400 : decode cL_sound 400 = .ok (.invokevirtual 35, 3) := by decide +kernel
theorem dL_sound_403 : decode cL_sound 403 = .ok (.goto 4, 3) := by decide +kernel
theorem dL_sound_406 : decode cL_sound 406 = .ok (.iconst 0, 1) := by decide +kernel
theorem dL_sound_407 : decode cL_sound 407 = .ok (.istore 8, 2) := by decide +kernel
theorem dL_sound_409 : decode cL_sound 409 = .ok (.iload 7, 2) := by decide +kernel
theorem dL_sound_411 : decode cL_sound 411 = .ok (.ifCond .eq 30, 3) := by decide +kernel
theorem dL_sound_414 : decode cL_sound 414 = .ok (.iload 8, 2) := by decide +kernel
theorem dL_sound_416 : decode cL_sound 416 = .ok (.aload_n 0, 1) := by decide +kernel
theorem dL_sound_417 : decode cL_sound 417 = .ok (.iload 5, 2) := by decide +kernel
theorem dL_sound_419 : decode cL_sound 419 = .ok (.iload_n 3, 1) := by decide +kernel
theorem dL_sound_420 : decode cL_sound 420 = .ok (.iconst (-1), 1) := by decide +kernel
theorem dL_sound_421 : decode cL_sound 421 = .ok (.invokevirtual 35, 3) := by decide +kernel
theorem dL_sound_424 : decode cL_sound 424 = .ok (.if_icmp .ne 15, 3) := by decide +kernel
theorem dL_sound_427 : decode cL_sound 427 = .ok (.iload 8, 2) := by decide +kernel
theorem dL_sound_429 : decode cL_sound 429 = .ok (.ifCond .eq 10, 3) := by decide +kernel
theorem dL_sound_432 : decode cL_sound 432 = .ok (.iload 8, 2) := by decide +kernel
theorem dL_sound_434 : decode cL_sound 434 = .ok (.bipush 6, 2) := by decide +kernel
theorem dL_sound_436 : decode cL_sound 436 = .ok (.if_icmp .le 5, 3) := by decide +kernel
theorem dL_sound_439 : decode cL_sound 439 = .ok (.iconst 0, 1) := by decide +kernel
theorem dL_sound_440 : decode cL_sound 440 = .ok (.ireturn, 1) := by decide +kernel
theorem dL_sound_441 : decode cL_sound 441 = .ok (.iload_n 3, 1) := by decide +kernel
theorem dL_sound_442 : decode cL_sound 442 = .ok (.istore 9, 2) := by decide +kernel
theorem dL_sound_444 : decode cL_sound 444 = .ok (.iconst 0, 1) := by decide +kernel
theorem dL_sound_445 : decode cL_sound 445 = .ok (.istore 10, 2) := by decide +kernel
theorem dL_sound_447 : decode cL_sound 447 = .ok (.iload 10, 2) := by decide +kernel
theorem dL_sound_449 : decode cL_sound 449 = .ok (.iload 8, 2) := by decide +kernel
theorem dL_sound_451 : decode cL_sound 451 = .ok (.if_icmp .ge 39, 3) := by decide +kernel
theorem dL_sound_454 : decode cL_sound 454 = .ok (.aload_n 0, 1) := by decide +kernel
theorem dL_sound_455 : decode cL_sound 455 = .ok (.iload_n 3, 1) := by decide +kernel
theorem dL_sound_456 : decode cL_sound 456 = .ok (.iload 5, 2) := by decide +kernel
theorem dL_sound_458 : decode cL_sound 458 = .ok (.iload 10, 2) := by decide +kernel
theorem dL_sound_460 : decode cL_sound 460 = .ok (.invokevirtual 35, 3) := by decide +kernel
theorem dL_sound_463 : decode cL_sound 463 = .ok (.istore 11, 2) := by decide +kernel
theorem dL_sound_465 : decode cL_sound 465 = .ok (.aload_n 0, 1) := by decide +kernel
theorem dL_sound_466 : decode cL_sound 466 = .ok (.iload 9, 2) := by decide +kernel
theorem dL_sound_468 : decode cL_sound 468 = .ok (.iload 11, 2) := by decide +kernel
theorem dL_sound_470 : decode cL_sound 470 = .ok (.iconst 0, 1) := by decide +kernel
theorem dL_sound_471 : decode cL_sound 471 = .ok (.invokevirtual 26, 3) := by decide +kernel
theorem dL_sound_474 : decode cL_sound 474 = .ok (.iconst 1, 1) := by decide +kernel
theorem dL_sound_475 : decode cL_sound 475 = .ok (.if_icmp .eq 5, 3) := by decide +kernel
theorem dL_sound_478 : decode cL_sound 478 = .ok (.iconst 0, 1) := by decide +kernel
theorem dL_sound_479 : decode cL_sound 479 = .ok (.ireturn, 1) := by decide +kernel
theorem dL_sound_480 : decode cL_sound 480 = .ok (.iload 11, 2) := by decide +kernel
theorem dL_sound_482 : decode cL_sound 482 = .ok (.istore 9, 2) := by decide +kernel
theorem dL_sound_484 : decode cL_sound 484 = .ok (.iinc 10 1, 3) := by decide +kernel
theorem dL_sound_487 : decode cL_sound 487 = .ok (.goto (-40), 3) := by decide +kernel
theorem dL_sound_490 : decode cL_sound 490 = .ok (.iload 8, 2) := by decide +kernel
theorem dL_sound_492 : decode cL_sound 492 = .ok (.ifCond .le 12, 3) := by decide +kernel
theorem dL_sound_495 : decode cL_sound 495 = .ok (.iload 9, 2) := by decide +kernel
theorem dL_sound_497 : decode cL_sound 497 = .ok (.iload 5, 2) := by decide +kernel
theorem dL_sound_499 : decode cL_sound 499 = .ok (.if_icmp .eq 5, 3) := by decide +kernel
theorem dL_sound_502 : decode cL_sound 502 = .ok (.iconst 0, 1) := by decide +kernel
theorem dL_sound_503 : decode cL_sound 503 = .ok (.ireturn, 1) := by decide +kernel
theorem dL_sound_504 : decode cL_sound 504 = .ok (.iinc 5 1, 3) := by decide +kernel
theorem dL_sound_507 : decode cL_sound 507 = .ok (.goto (-277), 3) := by decide +kernel
theorem dL_sound_510 : decode cL_sound 510 = .ok (.iload 4, 2) := by decide +kernel
theorem dL_sound_512 : decode cL_sound 512 = .ok (.aload_n 0, 1) := by decide +kernel
theorem dL_sound_513 : decode cL_sound 513 = .ok (.iload_n 3, 1) := by decide +kernel
theorem dL_sound_514 : decode cL_sound 514 = .ok (.iconst 4, 1) := by decide +kernel
theorem dL_sound_515 : decode cL_sound 515 = .ok (.invokevirtual 13, 3) := by decide +kernel
theorem dL_sound_518 : decode cL_sound 518 = .ok (.if_icmp .eq 5, 3) := by decide +kernel
theorem dL_sound_521 : decode cL_sound 521 = .ok (.iconst 0, 1) := by decide +kernel
theorem dL_sound_522 : decode cL_sound 522 = .ok (.ireturn, 1) := by decide +kernel
theorem dL_sound_523 : decode cL_sound 523 = .ok (.iinc 3 1, 3) := by decide +kernel
theorem dL_sound_526 : decode cL_sound 526 = .ok (.goto (-308), 3) := by decide +kernel
theorem dL_sound_529 : decode cL_sound 529 = .ok (.iconst 1, 1) := by decide +kernel
theorem dL_sound_530 : decode cL_sound 530 = .ok (.ireturn, 1) := by decide +kernel
theorem dL_overlaps_0 : decode cL_overlaps 0 = .ok (.aload_n 0, 1) := by decide +kernel
theorem dL_overlaps_1 : decode cL_overlaps 1 = .ok (.iload_n 1, 1) := by decide +kernel
theorem dL_overlaps_2 : decode cL_overlaps 2 = .ok (.iload_n 2, 1) := by decide +kernel
theorem dL_overlaps_3 : decode cL_overlaps 3 = .ok (.iconst 1, 1) := by decide +kernel
theorem dL_overlaps_4 : decode cL_overlaps 4 = .ok (.invokevirtual 26, 3) := by decide +kernel
theorem dL_overlaps_7 : decode cL_overlaps 7 = .ok (.istore_n 3, 1) := by decide +kernel
theorem dL_overlaps_8 : decode cL_overlaps 8 = .ok (.aload_n 0, 1) := by decide +kernel
theorem dL_overlaps_9 : decode cL_overlaps 9 = .ok (.iload_n 1, 1) := by decide +kernel
theorem dL_overlaps_10 : decode cL_overlaps 10 = .ok (.iload_n 2, 1) := by decide +kernel
theorem dL_overlaps_11 : decode cL_overlaps 11 = .ok (.iconst 0, 1) := by decide +kernel
theorem dL_overlaps_12 : decode cL_overlaps 12 = .ok (.invokevirtual 42, 3) := by decide +kernel
theorem dL_overlaps_15 : decode cL_overlaps 15 = .ok (.istore 4, 2) := by decide +kernel
theorem dL_overlaps_17 : decode cL_overlaps 17 = .ok (.aload_n 0, 1) := by decide +kernel
theorem dL_overlaps_18 : decode cL_overlaps 18 = .ok (.iload_n 1, 1) := by decide +kernel
theorem dL_overlaps_19 : decode cL_overlaps 19 = .ok (.iload_n 2, 1) := by decide +kernel
theorem dL_overlaps_20 : decode cL_overlaps 20 = .ok (.iconst 1, 1) := by decide +kernel
theorem dL_overlaps_21 : decode cL_overlaps 21 = .ok (.invokevirtual 42, 3) := by decide +kernel
theorem dL_overlaps_24 : decode cL_overlaps 24 = .ok (.istore 5, 2) := by decide +kernel
theorem dL_overlaps_26 : decode cL_overlaps 26 = .ok (.aload_n 0, 1) := by decide +kernel
theorem dL_overlaps_27 : decode cL_overlaps 27 = .ok (.iload_n 3, 1) := by decide +kernel
theorem dL_overlaps_28 : decode cL_overlaps 28 = .ok (.iconst 1, 1) := by decide +kernel
theorem dL_overlaps_29 : decode cL_overlaps 29 = .ok (.invokevirtual 19, 3) := by decide +kernel
theorem dL_overlaps_32 : decode cL_overlaps 32 = .ok (.aload_n 0, 1) := by decide +kernel
theorem dL_overlaps_33 : decode cL_overlaps 33 = .ok (.iload_n 3, 1) := by decide +kernel
theorem dL_overlaps_34 : decode cL_overlaps 34 = .ok (.iconst 2, 1) := by decide +kernel
theorem dL_overlaps_35 : decode cL_overlaps 35 = .ok (.invokevirtual 19, 3) := by decide +kernel
theorem dL_overlaps_38 : decode cL_overlaps 38 = .ok (.isub, 1) := by decide +kernel
theorem dL_overlaps_39 : decode cL_overlaps 39 = .ok (.istore 6, 2) := by decide +kernel
theorem dL_overlaps_41 : decode cL_overlaps 41 = .ok (.iload 4, 2) := by decide +kernel
theorem dL_overlaps_43 : decode cL_overlaps 43 = .ok (.ifCond .lt 101, 3) := by decide +kernel
theorem dL_overlaps_46 : decode cL_overlaps 46 = .ok (.iload 5, 2) := by decide +kernel
theorem dL_overlaps_48 : decode cL_overlaps 48 = .ok (.ifCond .lt 96, 3) := by decide +kernel
theorem dL_overlaps_51 : decode cL_overlaps 51 = .ok (.iload 4, 2) := by decide +kernel
theorem dL_overlaps_53 : decode cL_overlaps 53 = .ok (.sipush 1000, 3) := by decide +kernel
theorem dL_overlaps_56 : decode cL_overlaps 56 = .ok (.if_icmp .gt 88, 3) := by decide +kernel
theorem dL_overlaps_59 : decode cL_overlaps 59 = .ok (.iload 5, 2) := by decide +kernel
theorem dL_overlaps_61 : decode cL_overlaps 61 = .ok (.sipush 1000, 3) := by decide +kernel
theorem dL_overlaps_64 : decode cL_overlaps 64 = .ok (.if_icmp .gt 80, 3) := by decide +kernel
theorem dL_overlaps_67 : decode cL_overlaps 67 = .ok (.iload 6, 2) := by decide +kernel
theorem dL_overlaps_69 : decode cL_overlaps 69 = .ok (.ifCond .le 16, 3) := by decide +kernel
theorem dL_overlaps_72 : decode cL_overlaps 72 = .ok (.iload 4, 2) := by decide +kernel
theorem dL_overlaps_74 : decode cL_overlaps 74 = .ok (.ifCond .le 70, 3) := by decide +kernel
theorem dL_overlaps_77 : decode cL_overlaps 77 = .ok (.iload 5, 2) := by decide +kernel
theorem dL_overlaps_79 : decode cL_overlaps 79 = .ok (.ifCond .ne 65, 3) := by decide +kernel
theorem dL_overlaps_82 : decode cL_overlaps 82 = .ok (.goto 31, 3) := by decide +kernel
theorem dL_overlaps_85 : decode cL_overlaps 85 = .ok (.iload 6, 2) := by decide +kernel
theorem dL_overlaps_87 : decode cL_overlaps 87 = .ok (.ifCond .ge 16, 3) := by decide +kernel
theorem dL_overlaps_90 : decode cL_overlaps 90 = .ok (.iload 4, 2) := by decide +kernel
theorem dL_overlaps_92 : decode cL_overlaps 92 = .ok (.ifCond .ne 52, 3) := by decide +kernel
theorem dL_overlaps_95 : decode cL_overlaps 95 = .ok (.iload 5, 2) := by decide +kernel
theorem dL_overlaps_97 : decode cL_overlaps 97 = .ok (.ifCond .le 47, 3) := by decide +kernel
theorem dL_overlaps_100 : decode cL_overlaps 100 = .ok (.goto 13, 3) := by decide +kernel
theorem dL_overlaps_103 : decode cL_overlaps 103 = .ok (.iload 4, 2) := by decide +kernel
theorem dL_overlaps_105 : decode cL_overlaps 105 = .ok (.ifCond .ne 39, 3) := by decide +kernel
theorem dL_overlaps_108 : decode cL_overlaps 108 = .ok (.iload 5, 2) := by decide +kernel
theorem dL_overlaps_110 : decode cL_overlaps 110 = .ok (.ifCond .ne 34, 3) := by decide +kernel
theorem dL_overlaps_113 : decode cL_overlaps 113 = .ok (.aload_n 0, 1) := by decide +kernel
theorem dL_overlaps_114 : decode cL_overlaps 114 = .ok (.iload_n 1, 1) := by decide +kernel
theorem dL_overlaps_115 : decode cL_overlaps 115 = .ok (.iload_n 2, 1) := by decide +kernel
theorem dL_overlaps_116 : decode cL_overlaps 116 = .ok (.iconst 0, 1) := by decide +kernel
theorem dL_overlaps_117 : decode cL_overlaps 117 = .ok (.invokevirtual 45, 3) := by decide +kernel
theorem dL_overlaps_120 : decode cL_overlaps 120 = .ok (.sipush 1000, 3) := by decide +kernel
theorem dL_overlaps_123 : decode cL_overlaps 123 = .ok (.if_icmp .ne 21, 3) := by decide +kernel
theorem dL_overlaps_126 : decode cL_overlaps 126 = .ok (.aload_n 0, 1) := by decide +kernel
theorem dL_overlaps_127 : decode cL_overlaps 127 = .ok (.iload_n 1, 1) := by decide +kernel
theorem dL_overlaps_128 : decode cL_overlaps 128 = .ok (.iload_n 2, 1) := by decide +kernel
theorem dL_overlaps_129 : decode cL_overlaps 129 = .ok (.bipush 40, 2) := by decide +kernel
theorem dL_overlaps_131 : decode cL_overlaps 131 = .ok (.invokevirtual 45, 3) := by decide +kernel
theorem dL_overlaps_134 : decode cL_overlaps 134 = .ok (.sipush 1000, 3) := by decide +kernel
theorem dL_overlaps_137 : decode cL_overlaps 137 = .ok (.if_icmp .ne 7, 3) := by decide +kernel
theorem dL_overlaps_140 : decode cL_overlaps 140 = .ok (.iconst 1, 1) := by decide +kernel
theorem dL_overlaps_141 : decode cL_overlaps 141 = .ok (.goto 4, 3) := by decide +kernel
theorem dL_overlaps_144 : decode cL_overlaps 144 = .ok (.iconst 0, 1) := by decide +kernel
theorem dL_overlaps_145 : decode cL_overlaps 145 = .ok (.ireturn, 1) := by decide +kernel
theorem dL_ticks_0 : decode cL_ticks 0 = .ok (.iconst 0, 1) := by decide +kernel
theorem dL_ticks_1 : decode cL_ticks 1 = .ok (.istore_n 2, 1) := by decide +kernel
theorem dL_ticks_2 : decode cL_ticks 2 = .ok (.iload_n 2, 1) := by decide +kernel
theorem dL_ticks_3 : decode cL_ticks 3 = .ok (.bipush 6, 2) := by decide +kernel
theorem dL_ticks_5 : decode cL_ticks 5 = .ok (.if_icmp .ge 387, 3) := by decide +kernel
theorem dL_ticks_8 : decode cL_ticks 8 = .ok (.iload_n 2, 1) := by decide +kernel
theorem dL_ticks_9 : decode cL_ticks 9 = .ok (.iconst 2, 1) := by decide +kernel
theorem dL_ticks_10 : decode cL_ticks 10 = .ok (.irem, 1) := by decide +kernel
theorem dL_ticks_11 : decode cL_ticks 11 = .ok (.ifCond .ne 17, 3) := by decide +kernel
theorem dL_ticks_14 : decode cL_ticks 14 = .ok (.iload_n 1, 1) := by decide +kernel
theorem dL_ticks_15 : decode cL_ticks 15 = .ok (.iconst 3, 1) := by decide +kernel
theorem dL_ticks_16 : decode cL_ticks 16 = .ok (.iload_n 2, 1) := by decide +kernel
theorem dL_ticks_17 : decode cL_ticks 17 = .ok (.imul, 1) := by decide +kernel
theorem dL_ticks_18 : decode cL_ticks 18 = .ok (.ishr, 1) := by decide +kernel
theorem dL_ticks_19 : decode cL_ticks 19 = .ok (.sipush 200, 3) := by decide +kernel
theorem dL_ticks_22 : decode cL_ticks 22 = .ok (.invokestatic 48, 3) := by decide +kernel
theorem dL_ticks_25 : decode cL_ticks 25 = .ok (.goto 15, 3) := by decide +kernel
theorem dL_ticks_28 : decode cL_ticks 28 = .ok (.iload_n 2, 1) := by decide +kernel
theorem dL_ticks_29 : decode cL_ticks 29 = .ok (.iconst 3, 1) := by decide +kernel
theorem dL_ticks_30 : decode cL_ticks 30 = .ok (.if_icmp .ne 7, 3) := by decide +kernel
theorem dL_ticks_33 : decode cL_ticks 33 = .ok (.iconst 0, 1) := by decide +kernel
theorem dL_ticks_34 : decode cL_ticks 34 = .ok (.goto 6, 3) := by decide +kernel
theorem dL_ticks_37 : decode cL_ticks 37 = .ok (.sipush 300, 3) := by decide +kernel
theorem dL_ticks_40 : decode cL_ticks 40 = .ok (.istore_n 3, 1) := by decide +kernel
theorem dL_ticks_41 : decode cL_ticks 41 = .ok (.aload_n 0, 1) := by decide +kernel
theorem dL_ticks_42 : decode cL_ticks 42 = .ok (.iconst 0, 1) := by decide +kernel
theorem dL_ticks_43 : decode cL_ticks 43 = .ok (.invokevirtual 22, 3) := by decide +kernel

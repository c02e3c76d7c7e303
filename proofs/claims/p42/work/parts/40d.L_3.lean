/-! ===== printed: decode rows of L ===== -/
theorem dL_shelves_257 : decode cL_shelves 257 = .ok (.istore 5, 2) := by decide +kernel
theorem dL_shelves_259 : decode cL_shelves 259 = .ok (.iload 7, 2) := by decide +kernel
theorem dL_shelves_261 : decode cL_shelves 261 = .ok (.iload 10, 2) := by decide +kernel
theorem dL_shelves_263 : decode cL_shelves 263 = .ok (.invokestatic 283, 3) := by decide +kernel
theorem dL_shelves_266 : decode cL_shelves 266 = .ok (.istore 7, 2) := by decide +kernel
theorem dL_shelves_268 : decode cL_shelves 268 = .ok (.aload 8, 2) := by decide +kernel
theorem dL_shelves_270 : decode cL_shelves 270 = .ok (.iload 10, 2) := by decide +kernel
theorem dL_shelves_272 : decode cL_shelves 272 = .ok (.iconst 1, 1) := by decide +kernel
theorem dL_shelves_273 : decode cL_shelves 273 = .ok (.if_icmp .le 20, 3) := by decide +kernel
theorem dL_shelves_276 : decode cL_shelves 276 = .ok (.iload 11, 2) := by decide +kernel
theorem dL_shelves_278 : decode cL_shelves 278 = .ok (.iload 9, 2) := by decide +kernel
theorem dL_shelves_280 : decode cL_shelves 280 = .ok (.if_icmp .ne 13, 3) := by decide +kernel
theorem dL_shelves_283 : decode cL_shelves 283 = .ok (.aload 12, 2) := by decide +kernel
theorem dL_shelves_285 : decode cL_shelves 285 = .ok (.bipush 41, 2) := by decide +kernel
theorem dL_shelves_287 : decode cL_shelves 287 = .ok (.invokevirtual 159, 3) := by decide +kernel
theorem dL_shelves_290 : decode cL_shelves 290 = .ok (.goto 6, 3) := by decide +kernel
theorem dL_shelves_293 : decode cL_shelves 293 = .ok (.ldc_w 286, 3) := by decide +kernel
theorem dL_shelves_296 : decode cL_shelves 296 = .ok (.invokevirtual 288, 3) := by decide +kernel
theorem dL_shelves_299 : decode cL_shelves 299 = .ok (.pop, 1) := by decide +kernel
theorem dL_shelves_300 : decode cL_shelves 300 = .ok (.aload_n 0, 1) := by decide +kernel
theorem dL_shelves_301 : decode cL_shelves 301 = .ok (.iload_n 2, 1) := by decide +kernel
theorem dL_shelves_302 : decode cL_shelves 302 = .ok (.iload 9, 2) := by decide +kernel
theorem dL_shelves_304 : decode cL_shelves 304 = .ok (.invokestatic 272, 3) := by decide +kernel
theorem dL_shelves_307 : decode cL_shelves 307 = .ok (.iload 10, 2) := by decide +kernel
theorem dL_shelves_309 : decode cL_shelves 309 = .ok (.if_icmp .eq 5, 3) := by decide +kernel
theorem dL_shelves_312 : decode cL_shelves 312 = .ok (.iconst 0, 1) := by decide +kernel
theorem dL_shelves_313 : decode cL_shelves 313 = .ok (.ireturn, 1) := by decide +kernel
theorem dL_shelves_314 : decode cL_shelves 314 = .ok (.iinc 9 1, 3) := by decide +kernel
theorem dL_shelves_317 : decode cL_shelves 317 = .ok (.goto (-194), 3) := by decide +kernel
theorem dL_shelves_320 : decode cL_shelves 320 = .ok (.iconst 1, 1) := by decide +kernel
theorem dL_shelves_321 : decode cL_shelves 321 = .ok (.istore 9, 2) := by decide +kernel
theorem dL_shelves_323 : decode cL_shelves 323 = .ok (.aload_n 3, 1) := by decide +kernel
theorem dL_shelves_324 : decode cL_shelves 324 = .ok (.astore 10, 2) := by decide +kernel
theorem dL_shelves_326 : decode cL_shelves 326 = .ok (.aload 10, 2) := by decide +kernel
theorem dL_shelves_328 : decode cL_shelves 328 = .ok (.invokestatic 291, 3) := by decide +kernel
theorem dL_shelves_331 : decode cL_shelves 331 = .ok (.ifCond .ne 17, 3) := by decide +kernel
theorem dL_shelves_334 : decode cL_shelves 334 = .ok (.aload 10, 2) := by decide +kernel
theorem dL_shelves_336 : decode cL_shelves 336 = .ok (.aload_n 3, 1) := by decide +kernel
theorem dL_shelves_337 : decode cL_shelves 337 = .ok (.invokestatic 169, 3) := by decide +kernel
theorem dL_shelves_340 : decode cL_shelves 340 = .ok (.astore 10, 2) := by decide +kernel
theorem dL_shelves_342 : decode cL_shelves 342 = .ok (.iinc 9 1, 3) := by decide +kernel
theorem dL_shelves_345 : decode cL_shelves 345 = .ok (.goto (-19), 3) := by decide +kernel
theorem dL_shelves_348 : decode cL_shelves 348 = .ok (.bipush 32, 2) := by decide +kernel
theorem dL_shelves_350 : decode cL_shelves 350 = .ok (.iload 6, 2) := by decide +kernel
theorem dL_shelves_352 : decode cL_shelves 352 = .ok (.isub, 1) := by decide +kernel
theorem dL_shelves_353 : decode cL_shelves 353 = .ok (.iconst 2, 1) := by decide +kernel
theorem dL_shelves_354 : decode cL_shelves 354 = .ok (.irem, 1) := by decide +kernel
theorem dL_shelves_355 : decode cL_shelves 355 = .ok (.ifCond .ne 7, 3) := by decide +kernel
theorem dL_shelves_358 : decode cL_shelves 358 = .ok (.iconst 1, 1) := by decide +kernel
theorem dL_shelves_359 : decode cL_shelves 359 = .ok (.goto 4, 3) := by decide +kernel
theorem dL_shelves_362 : decode cL_shelves 362 = .ok (.iconst 0, 1) := by decide +kernel
theorem dL_shelves_363 : decode cL_shelves 363 = .ok (.istore 11, 2) := by decide +kernel
theorem dL_shelves_365 : decode cL_shelves 365 = .ok (.aload_n 0, 1) := by decide +kernel
theorem dL_shelves_366 : decode cL_shelves 366 = .ok (.iload_n 2, 1) := by decide +kernel
theorem dL_shelves_367 : decode cL_shelves 367 = .ok (.iconst 0, 1) := by decide +kernel
theorem dL_shelves_368 : decode cL_shelves 368 = .ok (.invokestatic 265, 3) := by decide +kernel
theorem dL_shelves_371 : decode cL_shelves 371 = .ok (.iload 4, 2) := by decide +kernel
theorem dL_shelves_373 : decode cL_shelves 373 = .ok (.if_icmp .ne 85, 3) := by decide +kernel
theorem dL_shelves_376 : decode cL_shelves 376 = .ok (.aload_n 0, 1) := by decide +kernel
theorem dL_shelves_377 : decode cL_shelves 377 = .ok (.iload_n 2, 1) := by decide +kernel
theorem dL_shelves_378 : decode cL_shelves 378 = .ok (.iconst 1, 1) := by decide +kernel
theorem dL_shelves_379 : decode cL_shelves 379 = .ok (.invokestatic 265, 3) := by decide +kernel
theorem dL_shelves_382 : decode cL_shelves 382 = .ok (.iload 5, 2) := by decide +kernel
theorem dL_shelves_384 : decode cL_shelves 384 = .ok (.if_icmp .ne 74, 3) := by decide +kernel
theorem dL_shelves_387 : decode cL_shelves 387 = .ok (.aload_n 0, 1) := by decide +kernel
theorem dL_shelves_388 : decode cL_shelves 388 = .ok (.iload_n 2, 1) := by decide +kernel
theorem dL_shelves_389 : decode cL_shelves 389 = .ok (.iconst 2, 1) := by decide +kernel
theorem dL_shelves_390 : decode cL_shelves 390 = .ok (.invokestatic 265, 3) := by decide +kernel
theorem dL_shelves_393 : decode cL_shelves 393 = .ok (.iload 7, 2) := by decide +kernel
theorem dL_shelves_395 : decode cL_shelves 395 = .ok (.if_icmp .ne 63, 3) := by decide +kernel
theorem dL_shelves_398 : decode cL_shelves 398 = .ok (.aload_n 0, 1) := by decide +kernel
theorem dL_shelves_399 : decode cL_shelves 399 = .ok (.iload_n 2, 1) := by decide +kernel
theorem dL_shelves_400 : decode cL_shelves 400 = .ok (.iconst 3, 1) := by decide +kernel
theorem dL_shelves_401 : decode cL_shelves 401 = .ok (.invokestatic 265, 3) := by decide +kernel
theorem dL_shelves_404 : decode cL_shelves 404 = .ok (.iload 9, 2) := by decide +kernel
theorem dL_shelves_406 : decode cL_shelves 406 = .ok (.if_icmp .ne 52, 3) := by decide +kernel
theorem dL_shelves_409 : decode cL_shelves 409 = .ok (.aload_n 0, 1) := by decide +kernel
theorem dL_shelves_410 : decode cL_shelves 410 = .ok (.iload_n 2, 1) := by decide +kernel
theorem dL_shelves_411 : decode cL_shelves 411 = .ok (.invokestatic 267, 3) := by decide +kernel
theorem dL_shelves_414 : decode cL_shelves 414 = .ok (.iload 9, 2) := by decide +kernel
theorem dL_shelves_416 : decode cL_shelves 416 = .ok (.if_icmp .ne 42, 3) := by decide +kernel
theorem dL_shelves_419 : decode cL_shelves 419 = .ok (.aload_n 0, 1) := by decide +kernel
theorem dL_shelves_420 : decode cL_shelves 420 = .ok (.iload_n 2, 1) := by decide +kernel
theorem dL_shelves_421 : decode cL_shelves 421 = .ok (.iconst 0, 1) := by decide +kernel
theorem dL_shelves_422 : decode cL_shelves 422 = .ok (.invokestatic 269, 3) := by decide +kernel
theorem dL_shelves_425 : decode cL_shelves 425 = .ok (.iload 11, 2) := by decide +kernel
theorem dL_shelves_427 : decode cL_shelves 427 = .ok (.if_icmp .ne 31, 3) := by decide +kernel
theorem dL_shelves_430 : decode cL_shelves 430 = .ok (.aload_n 0, 1) := by decide +kernel
theorem dL_shelves_431 : decode cL_shelves 431 = .ok (.iload_n 2, 1) := by decide +kernel
theorem dL_shelves_432 : decode cL_shelves 432 = .ok (.iconst 1, 1) := by decide +kernel
theorem dL_shelves_433 : decode cL_shelves 433 = .ok (.invokestatic 269, 3) := by decide +kernel
theorem dL_shelves_436 : decode cL_shelves 436 = .ok (.iload 11, 2) := by decide +kernel
theorem dL_shelves_438 : decode cL_shelves 438 = .ok (.if_icmp .ne 20, 3) := by decide +kernel
theorem dL_shelves_441 : decode cL_shelves 441 = .ok (.aload_n 0, 1) := by decide +kernel
theorem dL_shelves_442 : decode cL_shelves 442 = .ok (.aload_n 0, 1) := by decide +kernel
theorem dL_shelves_443 : decode cL_shelves 443 = .ok (.iload_n 2, 1) := by decide +kernel
theorem dL_shelves_444 : decode cL_shelves 444 = .ok (.invokestatic 276, 3) := by decide +kernel
theorem dL_shelves_447 : decode cL_shelves 447 = .ok (.aload 8, 2) := by decide +kernel
theorem dL_shelves_449 : decode cL_shelves 449 = .ok (.invokevirtual 188, 3) := by decide +kernel
theorem dL_shelves_452 : decode cL_shelves 452 = .ok (.invokestatic 250, 3) := by decide +kernel
theorem dL_shelves_455 : decode cL_shelves 455 = .ok (.ifCond .ne 5, 3) := by decide +kernel
theorem dL_shelves_458 : decode cL_shelves 458 = .ok (.iconst 0, 1) := by decide +kernel
theorem dL_shelves_459 : decode cL_shelves 459 = .ok (.ireturn, 1) := by decide +kernel
theorem dL_shelves_460 : decode cL_shelves 460 = .ok (.iconst 0, 1) := by decide +kernel
theorem dL_shelves_461 : decode cL_shelves 461 = .ok (.istore 12, 2) := by decide +kernel
theorem dL_shelves_463 : decode cL_shelves 463 = .ok (.iload 12, 2) := by decide +kernel
theorem dL_shelves_465 : decode cL_shelves 465 = .ok (.iconst 5, 1) := by decide +kernel
theorem dL_shelves_466 : decode cL_shelves 466 = .ok (.if_icmp .ge 85, 3) := by decide +kernel
theorem dL_shelves_469 : decode cL_shelves 469 = .ok (.aload_n 0, 1) := by decide +kernel
theorem dL_shelves_470 : decode cL_shelves 470 = .ok (.iload 12, 2) := by decide +kernel
theorem dL_shelves_472 : decode cL_shelves 472 = .ok (.invokestatic 261, 3) := by decide +kernel
theorem dL_shelves_475 : decode cL_shelves 475 = .ok (.astore 13, 2) := by decide +kernel
theorem dL_shelves_477 : decode cL_shelves 477 = .ok (.aload 13, 2) := by decide +kernel
theorem dL_shelves_479 : decode cL_shelves 479 = .ok (.ifnull 31, 3) := by decide +kernel
theorem dL_shelves_482 : decode cL_shelves 482 = .ok (.aload_n 3, 1) := by decide +kernel
theorem dL_shelves_483 : decode cL_shelves 483 = .ok (.aload 13, 2) := by decide +kernel
theorem dL_shelves_485 : decode cL_shelves 485 = .ok (.invokestatic 169, 3) := by decide +kernel
theorem dL_shelves_488 : decode cL_shelves 488 = .ok (.aload 13, 2) := by decide +kernel
theorem dL_shelves_490 : decode cL_shelves 490 = .ok (.aload_n 3, 1) := by decide +kernel
theorem dL_shelves_491 : decode cL_shelves 491 = .ok (.invokestatic 169, 3) := by decide +kernel
theorem dL_shelves_494 : decode cL_shelves 494 = .ok (.invokestatic 173, 3) := by decide +kernel
theorem dL_shelves_497 : decode cL_shelves 497 = .ok (.invokestatic 169, 3) := by decide +kernel
theorem dL_shelves_500 : decode cL_shelves 500 = .ok (.invokestatic 291, 3) := by decide +kernel
theorem dL_shelves_503 : decode cL_shelves 503 = .ok (.ifCond .eq 7, 3) := by decide +kernel
theorem dL_shelves_506 : decode cL_shelves 506 = .ok (.iconst 1, 1) := by decide +kernel
theorem dL_shelves_507 : decode cL_shelves 507 = .ok (.goto 4, 3) := by decide +kernel
theorem dL_shelves_510 : decode cL_shelves 510 = .ok (.iconst 0, 1) := by decide +kernel
theorem dL_shelves_511 : decode cL_shelves 511 = .ok (.istore 14, 2) := by decide +kernel
theorem dL_shelves_513 : decode cL_shelves 513 = .ok (.aload_n 0, 1) := by decide +kernel
theorem dL_shelves_514 : decode cL_shelves 514 = .ok (.iload_n 2, 1) := by decide +kernel
theorem dL_shelves_515 : decode cL_shelves 515 = .ok (.iload 12, 2) := by decide +kernel
theorem dL_shelves_517 : decode cL_shelves 517 = .ok (.invokestatic 274, 3) := by decide +kernel
theorem dL_shelves_520 : decode cL_shelves 520 = .ok (.aload 13, 2) := by decide +kernel
theorem dL_shelves_522 : decode cL_shelves 522 = .ok (.ifnonnull 8, 3) := by decide +kernel
theorem dL_shelves_525 : decode cL_shelves 525 = .ok (.bipush (-13), 2) := by decide +kernel
theorem dL_shelves_527 : decode cL_shelves 527 = .ok (.goto 13, 3) := by decide +kernel
theorem dL_shelves_530 : decode cL_shelves 530 = .ok (.iload 14, 2) := by decide +kernel
theorem dL_shelves_532 : decode cL_shelves 532 = .ok (.ifCond .eq 7, 3) := by decide +kernel
theorem dL_shelves_535 : decode cL_shelves 535 = .ok (.iconst 1, 1) := by decide +kernel
theorem dL_shelves_536 : decode cL_shelves 536 = .ok (.goto 4, 3) := by decide +kernel
theorem dL_shelves_539 : decode cL_shelves 539 = .ok (.iconst 0, 1) := by decide +kernel
theorem dL_shelves_540 : decode cL_shelves 540 = .ok (.if_icmp .eq 5, 3) := by decide +kernel
theorem dL_shelves_543 : decode cL_shelves 543 = .ok (.iconst 0, 1) := by decide +kernel
theorem dL_shelves_544 : decode cL_shelves 544 = .ok (.ireturn, 1) := by decide +kernel
theorem dL_shelves_545 : decode cL_shelves 545 = .ok (.iinc 12 1, 3) := by decide +kernel
theorem dL_shelves_548 : decode cL_shelves 548 = .ok (.goto (-85), 3) := by decide +kernel
theorem dL_shelves_551 : decode cL_shelves 551 = .ok (.iinc 2 1, 3) := by decide +kernel
theorem dL_shelves_554 : decode cL_shelves 554 = .ok (.goto (-550), 3) := by decide +kernel
theorem dL_shelves_557 : decode cL_shelves 557 = .ok (.aload_n 0, 1) := by decide +kernel
theorem dL_shelves_558 : decode cL_shelves 558 = .ok (.iconst 5, 1) := by decide +kernel
theorem dL_shelves_559 : decode cL_shelves 559 = .ok (.invokevirtual 231, 3) := by decide +kernel
theorem dL_shelves_562 : decode cL_shelves 562 = .ok (.iload_n 1, 1) := by decide +kernel
theorem dL_shelves_563 : decode cL_shelves 563 = .ok (.if_icmp .ne 29, 3) := by decide +kernel
theorem dL_shelves_566 : decode cL_shelves 566 = .ok (.aload_n 0, 1) := by decide +kernel
theorem dL_shelves_567 : decode cL_shelves 567 = .ok (.iconst 5, 1) := by decide +kernel
theorem dL_shelves_568 : decode cL_shelves 568 = .ok (.iconst 0, 1) := by decide +kernel
theorem dL_shelves_569 : decode cL_shelves 569 = .ok (.invokestatic 265, 3) := by decide +kernel
theorem dL_shelves_572 : decode cL_shelves 572 = .ok (.bipush (-11), 2) := by decide +kernel
theorem dL_shelves_574 : decode cL_shelves 574 = .ok (.if_icmp .ne 18, 3) := by decide +kernel
theorem dL_shelves_577 : decode cL_shelves 577 = .ok (.aload_n 0, 1) := by decide +kernel
theorem dL_shelves_578 : decode cL_shelves 578 = .ok (.iconst (-1), 1) := by decide +kernel
theorem dL_shelves_579 : decode cL_shelves 579 = .ok (.iconst 0, 1) := by decide +kernel
theorem dL_shelves_580 : decode cL_shelves 580 = .ok (.invokestatic 200, 3) := by decide +kernel
theorem dL_shelves_583 : decode cL_shelves 583 = .ok (.bipush (-11), 2) := by decide +kernel
theorem dL_shelves_585 : decode cL_shelves 585 = .ok (.if_icmp .ne 7, 3) := by decide +kernel
theorem dL_shelves_588 : decode cL_shelves 588 = .ok (.iconst 1, 1) := by decide +kernel
theorem dL_shelves_589 : decode cL_shelves 589 = .ok (.goto 4, 3) := by decide +kernel
theorem dL_shelves_592 : decode cL_shelves 592 = .ok (.iconst 0, 1) := by decide +kernel
theorem dL_shelves_593 : decode cL_shelves 593 = .ok (.ireturn, 1) := by decide +kernel
theorem dL_isNothing_0 : decode cL_isNothing 0 = .ok (.iconst 1, 1) := by decide +kernel
theorem dL_isNothing_1 : decode cL_isNothing 1 = .ok (.istore_n 1, 1) := by decide +kernel
theorem dL_isNothing_2 : decode cL_isNothing 2 = .ok (.iconst 0, 1) := by decide +kernel
theorem dL_isNothing_3 : decode cL_isNothing 3 = .ok (.istore_n 2, 1) := by decide +kernel
theorem dL_isNothing_4 : decode cL_isNothing 4 = .ok (.iload_n 2, 1) := by decide +kernel
theorem dL_isNothing_5 : decode cL_isNothing 5 = .ok (.bipush 32, 2) := by decide +kernel
theorem dL_isNothing_7 : decode cL_isNothing 7 = .ok (.if_icmp .ge 26, 3) := by decide +kernel
theorem dL_isNothing_10 : decode cL_isNothing 10 = .ok (.iload_n 1, 1) := by decide +kernel
theorem dL_isNothing_11 : decode cL_isNothing 11 = .ok (.ifCond .eq 14, 3) := by decide +kernel
theorem dL_isNothing_14 : decode cL_isNothing 14 = .ok (.aload_n 0, 1) := by decide +kernel
theorem dL_isNothing_15 : decode cL_isNothing 15 = .ok (.iload_n 2, 1) := by decide +kernel
theorem dL_isNothing_16 : decode cL_isNothing 16 = .ok (.iaload, 1) := by decide +kernel
theorem dL_isNothing_17 : decode cL_isNothing 17 = .ok (.iload_n 2, 1) := by decide +kernel
theorem dL_isNothing_18 : decode cL_isNothing 18 = .ok (.if_icmp .ne 7, 3) := by decide +kernel
theorem dL_isNothing_21 : decode cL_isNothing 21 = .ok (.iconst 1, 1) := by decide +kernel
theorem dL_isNothing_22 : decode cL_isNothing 22 = .ok (.goto 4, 3) := by decide +kernel
theorem dL_isNothing_25 : decode cL_isNothing 25 = .ok (.iconst 0, 1) := by decide +kernel
theorem dL_isNothing_26 : decode cL_isNothing 26 = .ok (.istore_n 1, 1) := by decide +kernel
theorem dL_isNothing_27 : decode cL_isNothing 27 = .ok (.iinc 2 1, 3) := by decide +kernel
theorem dL_isNothing_30 : decode cL_isNothing 30 = .ok (.goto (-26), 3) := by decide +kernel
theorem dL_isNothing_33 : decode cL_isNothing 33 = .ok (.iload_n 1, 1) := by decide +kernel
theorem dL_isNothing_34 : decode cL_isNothing 34 = .ok (.ireturn, 1) := by decide +kernel
theorem dL_logs_0 : decode cL_logs 0 = .ok (.new 157, 3) := by decide +kernel
theorem dL_logs_3 : decode cL_logs 3 = .ok (.dup, 1) := by decide +kernel
theorem dL_logs_4 : decode cL_logs 4 = .ok (.invokespecial 187, 3) := by decide +kernel
theorem dL_logs_7 : decode cL_logs 7 = .ok (.astore_n 1, 1) := by decide +kernel
theorem dL_logs_8 : decode cL_logs 8 = .ok (.iconst 0, 1) := by decide +kernel
theorem dL_logs_9 : decode cL_logs 9 = .ok (.istore_n 2, 1) := by decide +kernel
theorem dL_logs_10 : decode cL_logs 10 = .ok (.iload_n 2, 1) := by decide +kernel
theorem dL_logs_11 : decode cL_logs 11 = .ok (.aload_n 0, 1) := by decide +kernel
theorem dL_logs_12 : decode cL_logs 12 = .ok (.iconst 2, 1) := by decide +kernel
theorem dL_logs_13 : decode cL_logs 13 = .ok (.invokevirtual 231, 3) := by decide +kernel
theorem dL_logs_16 : decode cL_logs 16 = .ok (.if_icmp .ge 124, 3) := by decide +kernel
theorem dL_logs_19 : decode cL_logs 19 = .ok (.aload_n 0, 1) := by decide +kernel
theorem dL_logs_20 : decode cL_logs 20 = .ok (.iload_n 2, 1) := by decide +kernel
theorem dL_logs_21 : decode cL_logs 21 = .ok (.iconst 0, 1) := by decide +kernel
theorem dL_logs_22 : decode cL_logs 22 = .ok (.invokestatic 295, 3) := by decide +kernel
theorem dL_logs_25 : decode cL_logs 25 = .ok (.istore_n 3, 1) := by decide +kernel
theorem dL_logs_26 : decode cL_logs 26 = .ok (.aload_n 0, 1) := by decide +kernel
theorem dL_logs_27 : decode cL_logs 27 = .ok (.iload_n 2, 1) := by decide +kernel
theorem dL_logs_28 : decode cL_logs 28 = .ok (.iconst 1, 1) := by decide +kernel
theorem dL_logs_29 : decode cL_logs 29 = .ok (.invokestatic 295, 3) := by decide +kernel
theorem dL_logs_32 : decode cL_logs 32 = .ok (.istore 4, 2) := by decide +kernel
theorem dL_logs_34 : decode cL_logs 34 = .ok (.aload_n 0, 1) := by decide +kernel
theorem dL_logs_35 : decode cL_logs 35 = .ok (.iload_n 2, 1) := by decide +kernel
theorem dL_logs_36 : decode cL_logs 36 = .ok (.iconst 2, 1) := by decide +kernel
theorem dL_logs_37 : decode cL_logs 37 = .ok (.invokestatic 295, 3) := by decide +kernel
theorem dL_logs_40 : decode cL_logs 40 = .ok (.istore 5, 2) := by decide +kernel
theorem dL_logs_42 : decode cL_logs 42 = .ok (.aload_n 1, 1) := by decide +kernel
theorem dL_logs_43 : decode cL_logs 43 = .ok (.iload_n 3, 1) := by decide +kernel
theorem dL_logs_44 : decode cL_logs 44 = .ok (.iconst 1, 1) := by decide +kernel
theorem dL_logs_45 : decode cL_logs 45 = .ok (.if_icmp .ne 8, 3) := by decide +kernel
theorem dL_logs_48 : decode cL_logs 48 = .ok (.bipush 99, 2) := by decide +kernel
theorem dL_logs_50 : decode cL_logs 50 = .ok (.goto 5, 3) := by decide +kernel
theorem dL_logs_53 : decode cL_logs 53 = .ok (.bipush 114, 2) := by decide +kernel
theorem dL_logs_55 : decode cL_logs 55 = .ok (.invokevirtual 159, 3) := by decide +kernel
theorem dL_logs_58 : decode cL_logs 58 = .ok (.iload 4, 2) := by decide +kernel
theorem dL_logs_60 : decode cL_logs 60 = .ok (.invokevirtual 166, 3) := by decide +kernel
theorem dL_logs_63 : decode cL_logs 63 = .ok (.iload 5, 2) := by decide +kernel
theorem dL_logs_65 : decode cL_logs 65 = .ok (.invokevirtual 166, 3) := by decide +kernel
theorem dL_logs_68 : decode cL_logs 68 = .ok (.pop, 1) := by decide +kernel
theorem dL_logs_69 : decode cL_logs 69 = .ok (.iload_n 3, 1) := by decide +kernel
theorem dL_logs_70 : decode cL_logs 70 = .ok (.ifCond .lt 62, 3) := by decide +kernel
theorem dL_logs_73 : decode cL_logs 73 = .ok (.iload_n 3, 1) := by decide +kernel
theorem dL_logs_74 : decode cL_logs 74 = .ok (.iconst 1, 1) := by decide +kernel
theorem dL_logs_75 : decode cL_logs 75 = .ok (.if_icmp .gt 57, 3) := by decide +kernel
theorem dL_logs_78 : decode cL_logs 78 = .ok (.iload 4, 2) := by decide +kernel
theorem dL_logs_80 : decode cL_logs 80 = .ok (.ifCond .lt 52, 3) := by decide +kernel
theorem dL_logs_83 : decode cL_logs 83 = .ok (.iload 4, 2) := by decide +kernel
theorem dL_logs_85 : decode cL_logs 85 = .ok (.iload_n 3, 1) := by decide +kernel
theorem dL_logs_86 : decode cL_logs 86 = .ok (.iconst 1, 1) := by decide +kernel
theorem dL_logs_87 : decode cL_logs 87 = .ok (.if_icmp .ne 8, 3) := by decide +kernel
theorem dL_logs_90 : decode cL_logs 90 = .ok (.bipush 7, 2) := by decide +kernel
theorem dL_logs_92 : decode cL_logs 92 = .ok (.goto 4, 3) := by decide +kernel
theorem dL_logs_95 : decode cL_logs 95 = .ok (.iconst 3, 1) := by decide +kernel
theorem dL_logs_96 : decode cL_logs 96 = .ok (.if_icmp .gt 36, 3) := by decide +kernel
theorem dL_logs_99 : decode cL_logs 99 = .ok (.iload 5, 2) := by decide +kernel
theorem dL_logs_101 : decode cL_logs 101 = .ok (.iconst 1, 1) := by decide +kernel
theorem dL_logs_102 : decode cL_logs 102 = .ok (.if_icmp .lt 30, 3) := by decide +kernel
theorem dL_logs_105 : decode cL_logs 105 = .ok (.iload 5, 2) := by decide +kernel
theorem dL_logs_107 : decode cL_logs 107 = .ok (.iload_n 3, 1) := by decide +kernel
theorem dL_logs_108 : decode cL_logs 108 = .ok (.iconst 1, 1) := by decide +kernel
theorem dL_logs_109 : decode cL_logs 109 = .ok (.if_icmp .ne 7, 3) := by decide +kernel
theorem dL_logs_112 : decode cL_logs 112 = .ok (.iconst 3, 1) := by decide +kernel
theorem dL_logs_113 : decode cL_logs 113 = .ok (.goto 5, 3) := by decide +kernel
theorem dL_logs_116 : decode cL_logs 116 = .ok (.bipush 7, 2) := by decide +kernel
theorem dL_logs_118 : decode cL_logs 118 = .ok (.if_icmp .gt 14, 3) := by decide +kernel
theorem dL_logs_121 : decode cL_logs 121 = .ok (.aload_n 0, 1) := by decide +kernel
theorem dL_logs_122 : decode cL_logs 122 = .ok (.iload_n 2, 1) := by decide +kernel
theorem dL_logs_123 : decode cL_logs 123 = .ok (.iconst 3, 1) := by decide +kernel
theorem dL_logs_124 : decode cL_logs 124 = .ok (.invokestatic 295, 3) := by decide +kernel
theorem dL_logs_127 : decode cL_logs 127 = .ok (.bipush (-12), 2) := by decide +kernel
theorem dL_logs_129 : decode cL_logs 129 = .ok (.if_icmp .eq 5, 3) := by decide +kernel
theorem dL_logs_132 : decode cL_logs 132 = .ok (.iconst 0, 1) := by decide +kernel
theorem dL_logs_133 : decode cL_logs 133 = .ok (.ireturn, 1) := by decide +kernel
theorem dL_logs_134 : decode cL_logs 134 = .ok (.iinc 2 1, 3) := by decide +kernel
theorem dL_logs_137 : decode cL_logs 137 = .ok (.goto (-127), 3) := by decide +kernel
theorem dL_logs_140 : decode cL_logs 140 = .ok (.aload_n 0, 1) := by decide +kernel
theorem dL_logs_141 : decode cL_logs 141 = .ok (.iconst 2, 1) := by decide +kernel
theorem dL_logs_142 : decode cL_logs 142 = .ok (.invokevirtual 231, 3) := by decide +kernel
theorem dL_logs_145 : decode cL_logs 145 = .ok (.bipush 40, 2) := by decide +kernel
theorem dL_logs_147 : decode cL_logs 147 = .ok (.if_icmp .gt 37, 3) := by decide +kernel
theorem dL_logs_150 : decode cL_logs 150 = .ok (.aload_n 0, 1) := by decide +kernel
theorem dL_logs_151 : decode cL_logs 151 = .ok (.aload_n 0, 1) := by decide +kernel
theorem dL_logs_152 : decode cL_logs 152 = .ok (.iconst 2, 1) := by decide +kernel
theorem dL_logs_153 : decode cL_logs 153 = .ok (.invokevirtual 231, 3) := by decide +kernel
theorem dL_logs_156 : decode cL_logs 156 = .ok (.iconst 0, 1) := by decide +kernel
theorem dL_logs_157 : decode cL_logs 157 = .ok (.invokestatic 295, 3) := by decide +kernel
theorem dL_logs_160 : decode cL_logs 160 = .ok (.bipush (-11), 2) := by decide +kernel
theorem dL_logs_162 : decode cL_logs 162 = .ok (.if_icmp .ne 22, 3) := by decide +kernel
theorem dL_logs_165 : decode cL_logs 165 = .ok (.aload_n 0, 1) := by decide +kernel
theorem dL_logs_166 : decode cL_logs 166 = .ok (.aload_n 0, 1) := by decide +kernel
theorem dL_logs_167 : decode cL_logs 167 = .ok (.invokevirtual 297, 3) := by decide +kernel
theorem dL_logs_170 : decode cL_logs 170 = .ok (.aload_n 1, 1) := by decide +kernel
theorem dL_logs_171 : decode cL_logs 171 = .ok (.invokevirtual 188, 3) := by decide +kernel
theorem dL_logs_174 : decode cL_logs 174 = .ok (.invokestatic 250, 3) := by decide +kernel
theorem dL_logs_177 : decode cL_logs 177 = .ok (.ifCond .eq 7, 3) := by decide +kernel
theorem dL_logs_180 : decode cL_logs 180 = .ok (.iconst 1, 1) := by decide +kernel
theorem dL_logs_181 : decode cL_logs 181 = .ok (.goto 4, 3) := by decide +kernel
theorem dL_logs_184 : decode cL_logs 184 = .ok (.iconst 0, 1) := by decide +kernel
theorem dL_logs_185 : decode cL_logs 185 = .ok (.ireturn, 1) := by decide +kernel
theorem dL_sum_0 : decode cL_sum 0 = .ok (.ldc2_w 300, 3) := by decide +kernel
theorem dL_sum_3 : decode cL_sum 3 = .ok (.lstore_n 1, 1) := by decide +kernel
theorem dL_sum_4 : decode cL_sum 4 = .ok (.iconst 0, 1) := by decide +kernel
theorem dL_sum_5 : decode cL_sum 5 = .ok (.istore_n 3, 1) := by decide +kernel
theorem dL_sum_6 : decode cL_sum 6 = .ok (.iload_n 3, 1) := by decide +kernel
theorem dL_sum_7 : decode cL_sum 7 = .ok (.bipush 6, 2) := by decide +kernel
theorem dL_sum_9 : decode cL_sum 9 = .ok (.if_icmp .ge 22, 3) := by decide +kernel
theorem dL_sum_12 : decode cL_sum 12 = .ok (.ldc2_w 302, 3) := by decide +kernel
theorem dL_sum_15 : decode cL_sum 15 = .ok (.lload_n 1, 1) := by decide +kernel
theorem dL_sum_16 : decode cL_sum 16 = .ok (.lmul, 1) := by decide +kernel
theorem dL_sum_17 : decode cL_sum 17 = .ok (.aload_n 0, 1) := by decide +kernel
theorem dL_sum_18 : decode cL_sum 18 = .ok (.iload_n 3, 1) := by decide +kernel
theorem dL_sum_19 : decode cL_sum 19 = .ok (.invokevirtual 231, 3) := by decide +kernel
theorem dL_sum_22 : decode cL_sum 22 = .ok (.i2l, 1) := by decide +kernel
theorem dL_sum_23 : decode cL_sum 23 = .ok (.ladd, 1) := by decide +kernel
theorem dL_sum_24 : decode cL_sum 24 = .ok (.lstore_n 1, 1) := by decide +kernel
theorem dL_sum_25 : decode cL_sum 25 = .ok (.iinc 3 1, 3) := by decide +kernel
theorem dL_sum_28 : decode cL_sum 28 = .ok (.goto (-22), 3) := by decide +kernel
theorem dL_sum_31 : decode cL_sum 31 = .ok (.iconst 0, 1) := by decide +kernel
theorem dL_sum_32 : decode cL_sum 32 = .ok (.istore_n 3, 1) := by decide +kernel
theorem dL_sum_33 : decode cL_sum 33 = .ok (.iload_n 3, 1) := by decide +kernel
theorem dL_sum_34 : decode cL_sum 34 = .ok (.bipush 32, 2) := by decide +kernel
theorem dL_sum_36 : decode cL_sum 36 = .ok (.if_icmp .ge 63, 3) := by decide +kernel
theorem dL_sum_39 : decode cL_sum 39 = .ok (.ldc2_w 304, 3) := by decide +kernel
theorem dL_sum_42 : decode cL_sum 42 = .ok (.lload_n 1, 1) := by decide +kernel
theorem dL_sum_43 : decode cL_sum 43 = .ok (.lmul, 1) := by decide +kernel
theorem dL_sum_44 : decode cL_sum 44 = .ok (.aload_n 0, 1) := by decide +kernel
theorem dL_sum_45 : decode cL_sum 45 = .ok (.iload_n 3, 1) := by decide +kernel
theorem dL_sum_46 : decode cL_sum 46 = .ok (.invokestatic 202, 3) := by decide +kernel
theorem dL_sum_49 : decode cL_sum 49 = .ok (.i2l, 1) := by decide +kernel
theorem dL_sum_50 : decode cL_sum 50 = .ok (.ladd, 1) := by decide +kernel
theorem dL_sum_51 : decode cL_sum 51 = .ok (.ldc2_w 300, 3) := by decide +kernel
theorem dL_sum_54 : decode cL_sum 54 = .ok (.aload_n 0, 1) := by decide +kernel
theorem dL_sum_55 : decode cL_sum 55 = .ok (.iload_n 3, 1) := by decide +kernel
theorem dL_sum_56 : decode cL_sum 56 = .ok (.invokestatic 227, 3) := by decide +kernel
theorem dL_sum_59 : decode cL_sum 59 = .ok (.i2l, 1) := by decide +kernel
theorem dL_sum_60 : decode cL_sum 60 = .ok (.lmul, 1) := by decide +kernel
theorem dL_sum_61 : decode cL_sum 61 = .ok (.ladd, 1) := by decide +kernel
theorem dL_sum_62 : decode cL_sum 62 = .ok (.lstore_n 1, 1) := by decide +kernel
theorem dL_sum_63 : decode cL_sum 63 = .ok (.iconst 0, 1) := by decide +kernel
theorem dL_sum_64 : decode cL_sum 64 = .ok (.istore 4, 2) := by decide +kernel
theorem dL_sum_66 : decode cL_sum 66 = .ok (.iload 4, 2) := by decide +kernel
theorem dL_sum_68 : decode cL_sum 68 = .ok (.iconst 5, 1) := by decide +kernel
theorem dL_sum_69 : decode cL_sum 69 = .ok (.if_icmp .ge 24, 3) := by decide +kernel
theorem dL_sum_72 : decode cL_sum 72 = .ok (.ldc2_w 306, 3) := by decide +kernel
theorem dL_sum_75 : decode cL_sum 75 = .ok (.lload_n 1, 1) := by decide +kernel
theorem dL_sum_76 : decode cL_sum 76 = .ok (.lmul, 1) := by decide +kernel
theorem dL_sum_77 : decode cL_sum 77 = .ok (.aload_n 0, 1) := by decide +kernel
theorem dL_sum_78 : decode cL_sum 78 = .ok (.iload 4, 2) := by decide +kernel
theorem dL_sum_80 : decode cL_sum 80 = .ok (.iload_n 3, 1) := by decide +kernel
theorem dL_sum_81 : decode cL_sum 81 = .ok (.invokestatic 200, 3) := by decide +kernel
theorem dL_sum_84 : decode cL_sum 84 = .ok (.i2l, 1) := by decide +kernel
theorem dL_sum_85 : decode cL_sum 85 = .ok (.ladd, 1) := by decide +kernel
theorem dL_sum_86 : decode cL_sum 86 = .ok (.lstore_n 1, 1) := by decide +kernel
theorem dL_sum_87 : decode cL_sum 87 = .ok (.iinc 4 1, 3) := by decide +kernel
theorem dL_sum_90 : decode cL_sum 90 = .ok (.goto (-24), 3) := by decide +kernel
theorem dL_sum_93 : decode cL_sum 93 = .ok (.iinc 3 1, 3) := by decide +kernel
theorem dL_sum_96 : decode cL_sum 96 = .ok (.goto (-63), 3) := by decide +kernel
theorem dL_sum_99 : decode cL_sum 99 = .ok (.iconst 0, 1) := by decide +kernel
theorem dL_sum_100 : decode cL_sum 100 = .ok (.istore_n 3, 1) := by decide +kernel
theorem dL_sum_101 : decode cL_sum 101 = .ok (.iload_n 3, 1) := by decide +kernel
theorem dL_sum_102 : decode cL_sum 102 = .ok (.aload_n 0, 1) := by decide +kernel
theorem dL_sum_103 : decode cL_sum 103 = .ok (.iconst 2, 1) := by decide +kernel
theorem dL_sum_104 : decode cL_sum 104 = .ok (.invokevirtual 231, 3) := by decide +kernel
theorem dL_sum_107 : decode cL_sum 107 = .ok (.if_icmp .ge 47, 3) := by decide +kernel
theorem dL_sum_110 : decode cL_sum 110 = .ok (.ldc2_w 308, 3) := by decide +kernel
theorem dL_sum_113 : decode cL_sum 113 = .ok (.lload_n 1, 1) := by decide +kernel
theorem dL_sum_114 : decode cL_sum 114 = .ok (.lmul, 1) := by decide +kernel
theorem dL_sum_115 : decode cL_sum 115 = .ok (.aload_n 0, 1) := by decide +kernel
theorem dL_sum_116 : decode cL_sum 116 = .ok (.iload_n 3, 1) := by decide +kernel
theorem dL_sum_117 : decode cL_sum 117 = .ok (.iconst 0, 1) := by decide +kernel
theorem dL_sum_118 : decode cL_sum 118 = .ok (.invokestatic 295, 3) := by decide +kernel
theorem dL_sum_121 : decode cL_sum 121 = .ok (.i2l, 1) := by decide +kernel
theorem dL_sum_122 : decode cL_sum 122 = .ok (.ladd, 1) := by decide +kernel
theorem dL_sum_123 : decode cL_sum 123 = .ok (.ldc2_w 310, 3) := by decide +kernel
theorem dL_sum_126 : decode cL_sum 126 = .ok (.aload_n 0, 1) := by decide +kernel
theorem dL_sum_127 : decode cL_sum 127 = .ok (.iload_n 3, 1) := by decide +kernel
theorem dL_sum_128 : decode cL_sum 128 = .ok (.iconst 1, 1) := by decide +kernel
theorem dL_sum_129 : decode cL_sum 129 = .ok (.invokestatic 295, 3) := by decide +kernel
theorem dL_sum_132 : decode cL_sum 132 = .ok (.i2l, 1) := by decide +kernel
theorem dL_sum_133 : decode cL_sum 133 = .ok (.lmul, 1) := by decide +kernel
theorem dL_sum_134 : decode cL_sum 134 = .ok (.ladd, 1) := by decide +kernel
theorem dL_sum_135 : decode cL_sum 135 = .ok (.ldc2_w 312, 3) := by decide +kernel
theorem dL_sum_138 : decode cL_sum 138 = .ok (.aload_n 0, 1) := by decide +kernel
theorem dL_sum_139 : decode cL_sum 139 = .ok (.iload_n 3, 1) := by decide +kernel
theorem dL_sum_140 : decode cL_sum 140 = .ok (.iconst 2, 1) := by decide +kernel
theorem dL_sum_141 : decode cL_sum 141 = .ok (.invokestatic 295, 3) := by decide +kernel
theorem dL_sum_144 : decode cL_sum 144 = .ok (.i2l, 1) := by decide +kernel
theorem dL_sum_145 : decode cL_sum 145 = .ok (.lmul, 1) := by decide +kernel
theorem dL_sum_146 : decode cL_sum 146 = .ok (.ladd, 1) := by decide +kernel
theorem dL_sum_147 : decode cL_sum 147 = .ok (.lstore_n 1, 1) := by decide +kernel
theorem dL_sum_148 : decode cL_sum 148 = .ok (.iinc 3 1, 3) := by decide +kernel
theorem dL_sum_151 : decode cL_sum 151 = .ok (.goto (-50), 3) := by decide +kernel
theorem dL_sum_154 : decode cL_sum 154 = .ok (.lload_n 1, 1) := by decide +kernel
theorem dL_sum_155 : decode cL_sum 155 = .ok (.lreturn, 1) := by decide +kernel
theorem dL_undone_0 : decode cL_undone 0 = .ok (.bipush 9, 2) := by decide +kernel
theorem dL_undone_2 : decode cL_undone 2 = .ok (.newarray .long, 2) := by decide +kernel
theorem dL_undone_4 : decode cL_undone 4 = .ok (.astore_n 2, 1) := by decide +kernel
theorem dL_undone_5 : decode cL_undone 5 = .ok (.iconst 0, 1) := by decide +kernel
theorem dL_undone_6 : decode cL_undone 6 = .ok (.istore_n 3, 1) := by decide +kernel
theorem dL_undone_7 : decode cL_undone 7 = .ok (.iconst 0, 1) := by decide +kernel
theorem dL_undone_8 : decode cL_undone 8 = .ok (.istore 4, 2) := by decide +kernel
theorem dL_undone_10 : decode cL_undone 10 = .ok (.iload 4, 2) := by decide +kernel
theorem dL_undone_12 : decode cL_undone 12 = .ok (.bipush 7, 2) := by decide +kernel
theorem dL_undone_14 : decode cL_undone 14 = .ok (.if_icmp .ge 510, 3) := by decide +kernel
theorem dL_undone_17 : decode cL_undone 17 = .ok (.aload_n 0, 1) := by decide +kernel
theorem dL_undone_18 : decode cL_undone 18 = .ok (.bipush 101, 2) := by decide +kernel
theorem dL_undone_20 : decode cL_undone 20 = .ok (.iload 4, 2) := by decide +kernel
theorem dL_undone_22 : decode cL_undone 22 = .ok (.iadd, 1) := by decide +kernel
theorem dL_undone_23 : decode cL_undone 23 = .ok (.invokestatic 152, 3) := by decide +kernel
theorem dL_undone_26 : decode cL_undone 26 = .ok (.iconst 1, 1) := by decide +kernel
theorem dL_undone_27 : decode cL_undone 27 = .ok (.iushr, 1) := by decide +kernel
theorem dL_undone_28 : decode cL_undone 28 = .ok (.istore 5, 2) := by decide +kernel
theorem dL_undone_30 : decode cL_undone 30 = .ok (.iload 5, 2) := by decide +kernel
theorem dL_undone_32 : decode cL_undone 32 = .ok (.iconst 4, 1) := by decide +kernel
theorem dL_undone_33 : decode cL_undone 33 = .ok (.iushr, 1) := by decide +kernel
theorem dL_undone_34 : decode cL_undone 34 = .ok (.istore 6, 2) := by decide +kernel
theorem dL_undone_36 : decode cL_undone 36 = .ok (.aload_n 2, 1) := by decide +kernel
theorem dL_undone_37 : decode cL_undone 37 = .ok (.iload_n 3, 1) := by decide +kernel
theorem dL_undone_38 : decode cL_undone 38 = .ok (.aload_n 1, 1) := by decide +kernel
theorem dL_undone_39 : decode cL_undone 39 = .ok (.invokestatic 314, 3) := by decide +kernel
theorem dL_undone_42 : decode cL_undone 42 = .ok (.lastore, 1) := by decide +kernel
theorem dL_undone_43 : decode cL_undone 43 = .ok (.iload 5, 2) := by decide +kernel
theorem dL_undone_45 : decode cL_undone 45 = .ok (.bipush 13, 2) := by decide +kernel
theorem dL_undone_47 : decode cL_undone 47 = .ok (.irem, 1) := by decide +kernel
theorem dL_undone_48 : decode cL_undone 48 = .ok (.tableswitch 327 0 10 #[60, 80, 100, 109, 132, 154, 179, 206, 226, 253, 267], 60) := by decide +kernel
theorem dL_undone_108 : decode cL_undone 108 = .ok (.aload_n 1, 1) := by decide +kernel
theorem dL_undone_109 : decode cL_undone 109 = .ok (.iload 6, 2) := by decide +kernel
theorem dL_undone_111 : decode cL_undone 111 = .ok (.iconst 5, 1) := by decide +kernel
theorem dL_undone_112 : decode cL_undone 112 = .ok (.irem, 1) := by decide +kernel
theorem dL_undone_113 : decode cL_undone 113 = .ok (.iload 6, 2) := by decide +kernel
theorem dL_undone_115 : decode cL_undone 115 = .ok (.iconst 3, 1) := by decide +kernel
theorem dL_undone_116 : decode cL_undone 116 = .ok (.iushr, 1) := by decide +kernel
theorem dL_undone_117 : decode cL_undone 117 = .ok (.bipush 9, 2) := by decide +kernel
theorem dL_undone_119 : decode cL_undone 119 = .ok (.irem, 1) := by decide +kernel
theorem dL_undone_120 : decode cL_undone 120 = .ok (.invokestatic 178, 3) := by decide +kernel
theorem dL_undone_123 : decode cL_undone 123 = .ok (.istore 7, 2) := by decide +kernel
theorem dL_undone_125 : decode cL_undone 125 = .ok (.goto 362, 3) := by decide +kernel
theorem dL_undone_128 : decode cL_undone 128 = .ok (.aload_n 1, 1) := by decide +kernel
theorem dL_undone_129 : decode cL_undone 129 = .ok (.iload 6, 2) := by decide +kernel
theorem dL_undone_131 : decode cL_undone 131 = .ok (.bipush 9, 2) := by decide +kernel
theorem dL_undone_133 : decode cL_undone 133 = .ok (.irem, 1) := by decide +kernel
theorem dL_undone_134 : decode cL_undone 134 = .ok (.iload 6, 2) := by decide +kernel
theorem dL_undone_136 : decode cL_undone 136 = .ok (.iconst 4, 1) := by decide +kernel
theorem dL_undone_137 : decode cL_undone 137 = .ok (.iushr, 1) := by decide +kernel
theorem dL_undone_138 : decode cL_undone 138 = .ok (.iconst 5, 1) := by decide +kernel
theorem dL_undone_139 : decode cL_undone 139 = .ok (.irem, 1) := by decide +kernel
theorem dL_undone_140 : decode cL_undone 140 = .ok (.invokestatic 181, 3) := by decide +kernel
theorem dL_undone_143 : decode cL_undone 143 = .ok (.istore 7, 2) := by decide +kernel
theorem dL_undone_145 : decode cL_undone 145 = .ok (.goto 342, 3) := by decide +kernel
theorem dL_undone_148 : decode cL_undone 148 = .ok (.aload_n 1, 1) := by decide +kernel
theorem dL_undone_149 : decode cL_undone 149 = .ok (.invokestatic 318, 3) := by decide +kernel
theorem dL_undone_152 : decode cL_undone 152 = .ok (.istore 7, 2) := by decide +kernel
theorem dL_undone_154 : decode cL_undone 154 = .ok (.goto 333, 3) := by decide +kernel
theorem dL_undone_157 : decode cL_undone 157 = .ok (.aload_n 1, 1) := by decide +kernel
theorem dL_undone_158 : decode cL_undone 158 = .ok (.iload 6, 2) := by decide +kernel
theorem dL_undone_160 : decode cL_undone 160 = .ok (.sipush 10003, 3) := by decide +kernel
theorem dL_undone_163 : decode cL_undone 163 = .ok (.irem, 1) := by decide +kernel
theorem dL_undone_164 : decode cL_undone 164 = .ok (.iload 6, 2) := by decide +kernel
theorem dL_undone_166 : decode cL_undone 166 = .ok (.bipush 14, 2) := by decide +kernel
theorem dL_undone_168 : decode cL_undone 168 = .ok (.iushr, 1) := by decide +kernel
theorem dL_undone_169 : decode cL_undone 169 = .ok (.bipush 63, 2) := by decide +kernel
theorem dL_undone_171 : decode cL_undone 171 = .ok (.irem, 1) := by decide +kernel
theorem dL_undone_172 : decode cL_undone 172 = .ok (.invokestatic 183, 3) := by decide +kernel
theorem dL_undone_175 : decode cL_undone 175 = .ok (.istore 7, 2) := by decide +kernel
theorem dL_undone_177 : decode cL_undone 177 = .ok (.goto 310, 3) := by decide +kernel
theorem dL_undone_180 : decode cL_undone 180 = .ok (.aload_n 1, 1) := by decide +kernel
theorem dL_undone_181 : decode cL_undone 181 = .ok (.iload 6, 2) := by decide +kernel
theorem dL_undone_183 : decode cL_undone 183 = .ok (.bipush 33, 2) := by decide +kernel
theorem dL_undone_185 : decode cL_undone 185 = .ok (.irem, 1) := by decide +kernel
theorem dL_undone_186 : decode cL_undone 186 = .ok (.iload 6, 2) := by decide +kernel
theorem dL_undone_188 : decode cL_undone 188 = .ok (.bipush 6, 2) := by decide +kernel
theorem dL_undone_190 : decode cL_undone 190 = .ok (.iushr, 1) := by decide +kernel
theorem dL_undone_191 : decode cL_undone 191 = .ok (.bipush 7, 2) := by decide +kernel
theorem dL_undone_193 : decode cL_undone 193 = .ok (.irem, 1) := by decide +kernel
theorem dL_undone_194 : decode cL_undone 194 = .ok (.invokestatic 185, 3) := by decide +kernel
theorem dL_undone_197 : decode cL_undone 197 = .ok (.istore 7, 2) := by decide +kernel
theorem dL_undone_199 : decode cL_undone 199 = .ok (.goto 288, 3) := by decide +kernel
theorem dL_undone_202 : decode cL_undone 202 = .ok (.aload_n 1, 1) := by decide +kernel
theorem dL_undone_203 : decode cL_undone 203 = .ok (.iload 6, 2) := by decide +kernel
theorem dL_undone_205 : decode cL_undone 205 = .ok (.bipush 6, 2) := by decide +kernel
theorem dL_undone_207 : decode cL_undone 207 = .ok (.irem, 1) := by decide +kernel
theorem dL_undone_208 : decode cL_undone 208 = .ok (.iload 6, 2) := by decide +kernel
theorem dL_undone_210 : decode cL_undone 210 = .ok (.iconst 3, 1) := by decide +kernel
theorem dL_undone_211 : decode cL_undone 211 = .ok (.iushr, 1) := by decide +kernel
theorem dL_undone_212 : decode cL_undone 212 = .ok (.sipush 210, 3) := by decide +kernel
theorem dL_undone_215 : decode cL_undone 215 = .ok (.irem, 1) := by decide +kernel
theorem dL_undone_216 : decode cL_undone 216 = .ok (.bipush 105, 2) := by decide +kernel
theorem dL_undone_218 : decode cL_undone 218 = .ok (.isub, 1) := by decide +kernel
theorem dL_undone_219 : decode cL_undone 219 = .ok (.invokestatic 195, 3) := by decide +kernel
theorem dL_undone_222 : decode cL_undone 222 = .ok (.istore 7, 2) := by decide +kernel
theorem dL_undone_224 : decode cL_undone 224 = .ok (.goto 263, 3) := by decide +kernel
theorem dL_undone_227 : decode cL_undone 227 = .ok (.aload_n 1, 1) := by decide +kernel
theorem dL_undone_228 : decode cL_undone 228 = .ok (.iload 6, 2) := by decide +kernel
theorem dL_undone_230 : decode cL_undone 230 = .ok (.bipush 6, 2) := by decide +kernel
theorem dL_undone_232 : decode cL_undone 232 = .ok (.irem, 1) := by decide +kernel
theorem dL_undone_233 : decode cL_undone 233 = .ok (.iload 6, 2) := by decide +kernel
theorem dL_undone_235 : decode cL_undone 235 = .ok (.iconst 3, 1) := by decide +kernel
theorem dL_undone_236 : decode cL_undone 236 = .ok (.iushr, 1) := by decide +kernel
theorem dL_undone_237 : decode cL_undone 237 = .ok (.iconst 5, 1) := by decide +kernel
theorem dL_undone_238 : decode cL_undone 238 = .ok (.irem, 1) := by decide +kernel
theorem dL_undone_239 : decode cL_undone 239 = .ok (.iload 6, 2) := by decide +kernel
theorem dL_undone_241 : decode cL_undone 241 = .ok (.bipush 6, 2) := by decide +kernel
theorem dL_undone_243 : decode cL_undone 243 = .ok (.iushr, 1) := by decide +kernel
theorem dL_undone_244 : decode cL_undone 244 = .ok (.iconst 5, 1) := by decide +kernel
theorem dL_undone_245 : decode cL_undone 245 = .ok (.irem, 1) := by decide +kernel
theorem dL_undone_246 : decode cL_undone 246 = .ok (.invokestatic 320, 3) := by decide +kernel
theorem dL_undone_249 : decode cL_undone 249 = .ok (.istore 7, 2) := by decide +kernel
theorem dL_undone_251 : decode cL_undone 251 = .ok (.goto 236, 3) := by decide +kernel
theorem dL_undone_254 : decode cL_undone 254 = .ok (.aload_n 1, 1) := by decide +kernel
theorem dL_undone_255 : decode cL_undone 255 = .ok (.iload 6, 2) := by decide +kernel
theorem dL_undone_257 : decode cL_undone 257 = .ok (.bipush 6, 2) := by decide +kernel
theorem dL_undone_259 : decode cL_undone 259 = .ok (.irem, 1) := by decide +kernel
theorem dL_undone_260 : decode cL_undone 260 = .ok (.iload 6, 2) := by decide +kernel
theorem dL_undone_262 : decode cL_undone 262 = .ok (.iconst 3, 1) := by decide +kernel
theorem dL_undone_263 : decode cL_undone 263 = .ok (.iushr, 1) := by decide +kernel
theorem dL_undone_264 : decode cL_undone 264 = .ok (.iconst 5, 1) := by decide +kernel
theorem dL_undone_265 : decode cL_undone 265 = .ok (.irem, 1) := by decide +kernel
theorem dL_undone_266 : decode cL_undone 266 = .ok (.invokestatic 322, 3) := by decide +kernel
theorem dL_undone_269 : decode cL_undone 269 = .ok (.istore 7, 2) := by decide +kernel
theorem dL_undone_271 : decode cL_undone 271 = .ok (.goto 216, 3) := by decide +kernel
theorem dL_undone_274 : decode cL_undone 274 = .ok (.aload_n 1, 1) := by decide +kernel
theorem dL_undone_275 : decode cL_undone 275 = .ok (.iload 6, 2) := by decide +kernel
theorem dL_undone_277 : decode cL_undone 277 = .ok (.bipush 6, 2) := by decide +kernel
theorem dL_undone_279 : decode cL_undone 279 = .ok (.irem, 1) := by decide +kernel
theorem dL_undone_280 : decode cL_undone 280 = .ok (.iload 6, 2) := by decide +kernel
theorem dL_undone_282 : decode cL_undone 282 = .ok (.iconst 3, 1) := by decide +kernel
theorem dL_undone_283 : decode cL_undone 283 = .ok (.iushr, 1) := by decide +kernel
theorem dL_undone_284 : decode cL_undone 284 = .ok (.iconst 5, 1) := by decide +kernel
theorem dL_undone_285 : decode cL_undone 285 = .ok (.irem, 1) := by decide +kernel
theorem dL_undone_286 : decode cL_undone 286 = .ok (.iload 6, 2) := by decide +kernel
theorem dL_undone_288 : decode cL_undone 288 = .ok (.bipush 6, 2) := by decide +kernel
theorem dL_undone_290 : decode cL_undone 290 = .ok (.iushr, 1) := by decide +kernel
theorem dL_undone_291 : decode cL_undone 291 = .ok (.iconst 5, 1) := by decide +kernel
theorem dL_undone_292 : decode cL_undone 292 = .ok (.irem, 1) := by decide +kernel
theorem dL_undone_293 : decode cL_undone 293 = .ok (.invokestatic 197, 3) := by decide +kernel
theorem dL_undone_296 : decode cL_undone 296 = .ok (.istore 7, 2) := by decide +kernel
theorem dL_undone_298 : decode cL_undone 298 = .ok (.goto 189, 3) := by decide +kernel
theorem dL_undone_301 : decode cL_undone 301 = .ok (.aload_n 1, 1) := by decide +kernel
theorem dL_undone_302 : decode cL_undone 302 = .ok (.iload 6, 2) := by decide +kernel
theorem dL_undone_304 : decode cL_undone 304 = .ok (.bipush 6, 2) := by decide +kernel
theorem dL_undone_306 : decode cL_undone 306 = .ok (.irem, 1) := by decide +kernel
theorem dL_undone_307 : decode cL_undone 307 = .ok (.invokestatic 324, 3) := by decide +kernel
theorem dL_undone_310 : decode cL_undone 310 = .ok (.istore 7, 2) := by decide +kernel
theorem dL_undone_312 : decode cL_undone 312 = .ok (.goto 175, 3) := by decide +kernel
theorem dL_undone_315 : decode cL_undone 315 = .ok (.aload_n 1, 1) := by decide +kernel
theorem dL_undone_316 : decode cL_undone 316 = .ok (.new 157, 3) := by decide +kernel
theorem dL_undone_319 : decode cL_undone 319 = .ok (.dup, 1) := by decide +kernel
theorem dL_undone_320 : decode cL_undone 320 = .ok (.invokespecial 187, 3) := by decide +kernel
theorem dL_undone_323 : decode cL_undone 323 = .ok (.ldc_w 326, 3) := by decide +kernel
theorem dL_undone_326 : decode cL_undone 326 = .ok (.invokevirtual 328, 3) := by decide +kernel
theorem dL_undone_329 : decode cL_undone 329 = .ok (.iload 6, 2) := by decide +kernel
theorem dL_undone_331 : decode cL_undone 331 = .ok (.iconst 5, 1) := by decide +kernel
theorem dL_undone_332 : decode cL_undone 332 = .ok (.irem, 1) := by decide +kernel
theorem dL_undone_333 : decode cL_undone 333 = .ok (.invokevirtual 166, 3) := by decide +kernel
theorem dL_undone_336 : decode cL_undone 336 = .ok (.ldc_w 331, 3) := by decide +kernel
theorem dL_undone_339 : decode cL_undone 339 = .ok (.invokevirtual 328, 3) := by decide +kernel
theorem dL_undone_342 : decode cL_undone 342 = .ok (.iload 6, 2) := by decide +kernel
theorem dL_undone_344 : decode cL_undone 344 = .ok (.iconst 3, 1) := by decide +kernel
theorem dL_undone_345 : decode cL_undone 345 = .ok (.iushr, 1) := by decide +kernel
theorem dL_undone_346 : decode cL_undone 346 = .ok (.iconst 4, 1) := by decide +kernel
theorem dL_undone_347 : decode cL_undone 347 = .ok (.irem, 1) := by decide +kernel
theorem dL_undone_348 : decode cL_undone 348 = .ok (.invokevirtual 166, 3) := by decide +kernel
theorem dL_undone_351 : decode cL_undone 351 = .ok (.ldc_w 333, 3) := by decide +kernel
theorem dL_undone_354 : decode cL_undone 354 = .ok (.invokevirtual 328, 3) := by decide +kernel
theorem dL_undone_357 : decode cL_undone 357 = .ok (.invokevirtual 188, 3) := by decide +kernel
theorem dL_undone_360 : decode cL_undone 360 = .ok (.iload 6, 2) := by decide +kernel
theorem dL_undone_362 : decode cL_undone 362 = .ok (.bipush 6, 2) := by decide +kernel
theorem dL_undone_364 : decode cL_undone 364 = .ok (.iushr, 1) := by decide +kernel
theorem dL_undone_365 : decode cL_undone 365 = .ok (.iconst 5, 1) := by decide +kernel
theorem dL_undone_366 : decode cL_undone 366 = .ok (.irem, 1) := by decide +kernel
theorem dL_undone_367 : decode cL_undone 367 = .ok (.invokestatic 192, 3) := by decide +kernel
theorem dL_undone_370 : decode cL_undone 370 = .ok (.istore 7, 2) := by decide +kernel
theorem dL_undone_372 : decode cL_undone 372 = .ok (.goto 115, 3) := by decide +kernel
theorem dL_undone_375 : decode cL_undone 375 = .ok (.aload_n 1, 1) := by decide +kernel
theorem dL_undone_376 : decode cL_undone 376 = .ok (.new 157, 3) := by decide +kernel
theorem dL_undone_379 : decode cL_undone 379 = .ok (.dup, 1) := by decide +kernel
theorem dL_undone_380 : decode cL_undone 380 = .ok (.invokespecial 187, 3) := by decide +kernel
theorem dL_undone_383 : decode cL_undone 383 = .ok (.ldc_w 335, 3) := by decide +kernel
theorem dL_undone_386 : decode cL_undone 386 = .ok (.invokevirtual 328, 3) := by decide +kernel
theorem dL_undone_389 : decode cL_undone 389 = .ok (.iload 6, 2) := by decide +kernel
theorem dL_undone_391 : decode cL_undone 391 = .ok (.iconst 4, 1) := by decide +kernel
theorem dL_undone_392 : decode cL_undone 392 = .ok (.irem, 1) := by decide +kernel
theorem dL_undone_393 : decode cL_undone 393 = .ok (.invokevirtual 166, 3) := by decide +kernel
theorem dL_undone_396 : decode cL_undone 396 = .ok (.ldc_w 337, 3) := by decide +kernel
theorem dL_undone_399 : decode cL_undone 399 = .ok (.invokevirtual 328, 3) := by decide +kernel
theorem dL_undone_402 : decode cL_undone 402 = .ok (.iload 6, 2) := by decide +kernel
theorem dL_undone_404 : decode cL_undone 404 = .ok (.iconst 2, 1) := by decide +kernel
theorem dL_undone_405 : decode cL_undone 405 = .ok (.iushr, 1) := by decide +kernel
theorem dL_undone_406 : decode cL_undone 406 = .ok (.bipush 8, 2) := by decide +kernel
theorem dL_undone_408 : decode cL_undone 408 = .ok (.irem, 1) := by decide +kernel
theorem dL_undone_409 : decode cL_undone 409 = .ok (.invokevirtual 166, 3) := by decide +kernel
theorem dL_undone_412 : decode cL_undone 412 = .ok (.ldc_w 339, 3) := by decide +kernel
theorem dL_undone_415 : decode cL_undone 415 = .ok (.invokevirtual 328, 3) := by decide +kernel
theorem dL_undone_418 : decode cL_undone 418 = .ok (.iload 6, 2) := by decide +kernel
theorem dL_undone_420 : decode cL_undone 420 = .ok (.iconst 5, 1) := by decide +kernel
theorem dL_undone_421 : decode cL_undone 421 = .ok (.iushr, 1) := by decide +kernel
theorem dL_undone_422 : decode cL_undone 422 = .ok (.bipush 8, 2) := by decide +kernel
theorem dL_undone_424 : decode cL_undone 424 = .ok (.irem, 1) := by decide +kernel
theorem dL_undone_425 : decode cL_undone 425 = .ok (.invokevirtual 166, 3) := by decide +kernel
theorem dL_undone_428 : decode cL_undone 428 = .ok (.ldc_w 341, 3) := by decide +kernel
theorem dL_undone_431 : decode cL_undone 431 = .ok (.invokevirtual 328, 3) := by decide +kernel
theorem dL_undone_434 : decode cL_undone 434 = .ok (.iload 5, 2) := by decide +kernel
theorem dL_undone_436 : decode cL_undone 436 = .ok (.bipush 26, 2) := by decide +kernel
theorem dL_undone_438 : decode cL_undone 438 = .ok (.irem, 1) := by decide +kernel
theorem dL_undone_439 : decode cL_undone 439 = .ok (.bipush 13, 2) := by decide +kernel
theorem dL_undone_441 : decode cL_undone 441 = .ok (.if_icmp .ge 9, 3) := by decide +kernel
theorem dL_undone_444 : decode cL_undone 444 = .ok (.ldc_w 286, 3) := by decide +kernel
theorem dL_undone_447 : decode cL_undone 447 = .ok (.goto 29, 3) := by decide +kernel
theorem dL_undone_450 : decode cL_undone 450 = .ok (.new 157, 3) := by decide +kernel
theorem dL_undone_453 : decode cL_undone 453 = .ok (.dup, 1) := by decide +kernel
theorem dL_undone_454 : decode cL_undone 454 = .ok (.invokespecial 187, 3) := by decide +kernel
theorem dL_undone_457 : decode cL_undone 457 = .ok (.ldc_w 326, 3) := by decide +kernel
theorem dL_undone_460 : decode cL_undone 460 = .ok (.invokevirtual 328, 3) := by decide +kernel
theorem dL_undone_463 : decode cL_undone 463 = .ok (.iload 6, 2) := by decide +kernel
theorem dL_undone_465 : decode cL_undone 465 = .ok (.bipush 8, 2) := by decide +kernel
theorem dL_undone_467 : decode cL_undone 467 = .ok (.iushr, 1) := by decide +kernel
theorem dL_undone_468 : decode cL_undone 468 = .ok (.iconst 5, 1) := by decide +kernel
theorem dL_undone_469 : decode cL_undone 469 = .ok (.irem, 1) := by decide +kernel
theorem dL_undone_470 : decode cL_undone 470 = .ok (.invokevirtual 166, 3) := by decide +kernel
theorem dL_undone_473 : decode cL_undone 473 = .ok (.invokevirtual 188, 3) := by decide +kernel
theorem dL_undone_476 : decode cL_undone 476 = .ok (.invokevirtual 328, 3) := by decide +kernel
theorem dL_undone_479 : decode cL_undone 479 = .ok (.invokevirtual 188, 3) := by decide +kernel
theorem dL_undone_482 : decode cL_undone 482 = .ok (.invokestatic 343, 3) := by decide +kernel
theorem dL_undone_485 : decode cL_undone 485 = .ok (.istore 7, 2) := by decide +kernel
theorem dL_undone_487 : decode cL_undone 487 = .ok (.iload 7, 2) := by decide +kernel
theorem dL_undone_489 : decode cL_undone 489 = .ok (.ifCond .ge 16, 3) := by decide +kernel
theorem dL_undone_492 : decode cL_undone 492 = .ok (.aload_n 1, 1) := by decide +kernel
theorem dL_undone_493 : decode cL_undone 493 = .ok (.invokestatic 314, 3) := by decide +kernel
theorem dL_undone_496 : decode cL_undone 496 = .ok (.aload_n 2, 1) := by decide +kernel
theorem dL_undone_497 : decode cL_undone 497 = .ok (.iload_n 3, 1) := by decide +kernel
theorem dL_undone_498 : decode cL_undone 498 = .ok (.laload, 1) := by decide +kernel
theorem dL_undone_499 : decode cL_undone 499 = .ok (.lcmp, 1) := by decide +kernel
theorem dL_undone_500 : decode cL_undone 500 = .ok (.ifCond .eq 5, 3) := by decide +kernel
theorem dL_undone_503 : decode cL_undone 503 = .ok (.iconst 0, 1) := by decide +kernel
theorem dL_undone_504 : decode cL_undone 504 = .ok (.ireturn, 1) := by decide +kernel
theorem dL_undone_505 : decode cL_undone 505 = .ok (.iload_n 3, 1) := by decide +kernel
theorem dL_undone_506 : decode cL_undone 506 = .ok (.iload 7, 2) := by decide +kernel
theorem dL_undone_508 : decode cL_undone 508 = .ok (.ifCond .ge 7, 3) := by decide +kernel
theorem dL_undone_511 : decode cL_undone 511 = .ok (.iconst 0, 1) := by decide +kernel
theorem dL_undone_512 : decode cL_undone 512 = .ok (.goto 4, 3) := by decide +kernel
theorem dL_undone_515 : decode cL_undone 515 = .ok (.iconst 1, 1) := by decide +kernel
theorem dL_undone_516 : decode cL_undone 516 = .ok (.iadd, 1) := by decide +kernel
theorem dL_undone_517 : decode cL_undone 517 = .ok (.istore_n 3, 1) := by decide +kernel
theorem dL_undone_518 : decode cL_undone 518 = .ok (.iinc 4 1, 3) := by decide +kernel
theorem dL_undone_521 : decode cL_undone 521 = .ok (.goto (-511), 3) := by decide +kernel
theorem dL_undone_524 : decode cL_undone 524 = .ok (.iload_n 3, 1) := by decide +kernel
theorem dL_undone_525 : decode cL_undone 525 = .ok (.iconst 1, 1) := by decide +kernel
theorem dL_undone_526 : decode cL_undone 526 = .ok (.isub, 1) := by decide +kernel
theorem dL_undone_527 : decode cL_undone 527 = .ok (.istore 4, 2) := by decide +kernel
theorem dL_undone_529 : decode cL_undone 529 = .ok (.iload 4, 2) := by decide +kernel
theorem dL_undone_531 : decode cL_undone 531 = .ok (.ifCond .lt 30, 3) := by decide +kernel
theorem dL_undone_534 : decode cL_undone 534 = .ok (.aload_n 1, 1) := by decide +kernel
theorem dL_undone_535 : decode cL_undone 535 = .ok (.invokestatic 346, 3) := by decide +kernel
theorem dL_undone_538 : decode cL_undone 538 = .ok (.ifCond .lt 15, 3) := by decide +kernel
theorem dL_undone_541 : decode cL_undone 541 = .ok (.aload_n 1, 1) := by decide +kernel
theorem dL_undone_542 : decode cL_undone 542 = .ok (.invokestatic 314, 3) := by decide +kernel
theorem dL_undone_545 : decode cL_undone 545 = .ok (.aload_n 2, 1) := by decide +kernel
theorem dL_undone_546 : decode cL_undone 546 = .ok (.iload 4, 2) := by decide +kernel
theorem dL_undone_548 : decode cL_undone 548 = .ok (.laload, 1) := by decide +kernel
theorem dL_undone_549 : decode cL_undone 549 = .ok (.lcmp, 1) := by decide +kernel
theorem dL_undone_550 : decode cL_undone 550 = .ok (.ifCond .eq 5, 3) := by decide +kernel
theorem dL_undone_553 : decode cL_undone 553 = .ok (.iconst 0, 1) := by decide +kernel
theorem dL_undone_554 : decode cL_undone 554 = .ok (.ireturn, 1) := by decide +kernel
theorem dL_undone_555 : decode cL_undone 555 = .ok (.iinc 4 (-1), 3) := by decide +kernel
theorem dL_undone_558 : decode cL_undone 558 = .ok (.goto (-29), 3) := by decide +kernel
theorem dL_undone_561 : decode cL_undone 561 = .ok (.iconst 1, 1) := by decide +kernel
theorem dL_undone_562 : decode cL_undone 562 = .ok (.ireturn, 1) := by decide +kernel

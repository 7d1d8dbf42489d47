theorem qL_law_0 : decode (mB mL_law) 0 = .ok (.new 8, 3) := by decide +kernel
theorem qL_law_3 : decode (mB mL_law) 3 = .ok (.dup, 1) := by decide +kernel
theorem qL_law_4 : decode (mB mL_law) 4 = .ok (.invokespecial 170, 3) := by decide +kernel
theorem qL_law_7 : decode (mB mL_law) 7 = .ok (.astore_n 1, 1) := by decide +kernel
theorem qL_law_8 : decode (mB mL_law) 8 = .ok (.new 171, 3) := by decide +kernel
theorem qL_law_11 : decode (mB mL_law) 11 = .ok (.dup, 1) := by decide +kernel
theorem qL_law_12 : decode (mB mL_law) 12 = .ok (.invokespecial 173, 3) := by decide +kernel
theorem qL_law_15 : decode (mB mL_law) 15 = .ok (.astore_n 2, 1) := by decide +kernel
theorem qL_law_16 : decode (mB mL_law) 16 = .ok (.iconst 1, 1) := by decide +kernel
theorem qL_law_17 : decode (mB mL_law) 17 = .ok (.newarray .long, 2) := by decide +kernel
theorem qL_law_19 : decode (mB mL_law) 19 = .ok (.astore_n 3, 1) := by decide +kernel
theorem qL_law_20 : decode (mB mL_law) 20 = .ok (.iconst 0, 1) := by decide +kernel
theorem qL_law_21 : decode (mB mL_law) 21 = .ok (.istore 4, 2) := by decide +kernel
theorem qL_law_23 : decode (mB mL_law) 23 = .ok (.iload 4, 2) := by decide +kernel
theorem qL_law_25 : decode (mB mL_law) 25 = .ok (.aload_n 0, 1) := by decide +kernel
theorem qL_law_26 : decode (mB mL_law) 26 = .ok (.arraylength, 1) := by decide +kernel
theorem qL_law_27 : decode (mB mL_law) 27 = .ok (.bipush 6, 2) := by decide +kernel
theorem qL_law_29 : decode (mB mL_law) 29 = .ok (.isub, 1) := by decide +kernel
theorem qL_law_30 : decode (mB mL_law) 30 = .ok (.if_icmp .gt 3533, 3) := by decide +kernel
theorem qL_law_33 : decode (mB mL_law) 33 = .ok (.aload_n 0, 1) := by decide +kernel
theorem qL_law_34 : decode (mB mL_law) 34 = .ok (.iload 4, 2) := by decide +kernel
theorem qL_law_36 : decode (mB mL_law) 36 = .ok (.iaload, 1) := by decide +kernel
theorem qL_law_37 : decode (mB mL_law) 37 = .ok (.bipush 63, 2) := by decide +kernel
theorem qL_law_39 : decode (mB mL_law) 39 = .ok (.iand, 1) := by decide +kernel
theorem qL_law_40 : decode (mB mL_law) 40 = .ok (.tableswitch 3517 0 63 #[272, 376, 432, 445, 458, 471, 484, 497, 553, 609, 665, 721, 777, 833, 889, 945, 1008, 1071, 1127, 1183, 1251, 1307, 1320, 1333, 1389, 1457, 1525, 1588, 1644, 1700, 1768, 1824, 1880, 1948, 2004, 2017, 2030, 2043, 2111, 2179, 2235, 2291, 2359, 2427, 2440, 2496, 2552, 2565, 2578, 2621, 2662, 2730, 2786, 2842, 2910, 2978, 3046, 3102, 3193, 3249, 3305, 3361, 3405, 3461], 272) := by decide +kernel
theorem qL_law_312 : decode (mB mL_law) 312 = .ok (.aload_n 1, 1) := by decide +kernel
theorem qL_law_313 : decode (mB mL_law) 313 = .ok (.aload_n 0, 1) := by decide +kernel
theorem qL_law_314 : decode (mB mL_law) 314 = .ok (.iload 4, 2) := by decide +kernel
theorem qL_law_316 : decode (mB mL_law) 316 = .ok (.iconst 1, 1) := by decide +kernel
theorem qL_law_317 : decode (mB mL_law) 317 = .ok (.iadd, 1) := by decide +kernel
theorem qL_law_318 : decode (mB mL_law) 318 = .ok (.iaload, 1) := by decide +kernel
theorem qL_law_319 : decode (mB mL_law) 319 = .ok (.aload_n 0, 1) := by decide +kernel
theorem qL_law_320 : decode (mB mL_law) 320 = .ok (.iload 4, 2) := by decide +kernel
theorem qL_law_322 : decode (mB mL_law) 322 = .ok (.iconst 2, 1) := by decide +kernel
theorem qL_law_323 : decode (mB mL_law) 323 = .ok (.iadd, 1) := by decide +kernel
theorem qL_law_324 : decode (mB mL_law) 324 = .ok (.iaload, 1) := by decide +kernel
theorem qL_law_325 : decode (mB mL_law) 325 = .ok (.aload_n 0, 1) := by decide +kernel
theorem qL_law_326 : decode (mB mL_law) 326 = .ok (.iload 4, 2) := by decide +kernel
theorem qL_law_328 : decode (mB mL_law) 328 = .ok (.iconst 3, 1) := by decide +kernel
theorem qL_law_329 : decode (mB mL_law) 329 = .ok (.iadd, 1) := by decide +kernel
theorem qL_law_330 : decode (mB mL_law) 330 = .ok (.iaload, 1) := by decide +kernel
theorem qL_law_331 : decode (mB mL_law) 331 = .ok (.aload_n 0, 1) := by decide +kernel
theorem qL_law_332 : decode (mB mL_law) 332 = .ok (.iload 4, 2) := by decide +kernel
theorem qL_law_334 : decode (mB mL_law) 334 = .ok (.iconst 4, 1) := by decide +kernel
theorem qL_law_335 : decode (mB mL_law) 335 = .ok (.iadd, 1) := by decide +kernel
theorem qL_law_336 : decode (mB mL_law) 336 = .ok (.iaload, 1) := by decide +kernel
theorem qL_law_337 : decode (mB mL_law) 337 = .ok (.aload_n 0, 1) := by decide +kernel
theorem qL_law_338 : decode (mB mL_law) 338 = .ok (.iload 4, 2) := by decide +kernel
theorem qL_law_340 : decode (mB mL_law) 340 = .ok (.iconst 5, 1) := by decide +kernel
theorem qL_law_341 : decode (mB mL_law) 341 = .ok (.iadd, 1) := by decide +kernel
theorem qL_law_342 : decode (mB mL_law) 342 = .ok (.iaload, 1) := by decide +kernel
theorem qL_law_343 : decode (mB mL_law) 343 = .ok (.aload_n 3, 1) := by decide +kernel
theorem qL_law_344 : decode (mB mL_law) 344 = .ok (.invokestatic 174, 3) := by decide +kernel
theorem qL_law_347 : decode (mB mL_law) 347 = .ok (.istore 5, 2) := by decide +kernel
theorem qL_law_349 : decode (mB mL_law) 349 = .ok (.aload_n 2, 1) := by decide +kernel
theorem qL_law_350 : decode (mB mL_law) 350 = .ok (.aload_n 0, 1) := by decide +kernel
theorem qL_law_351 : decode (mB mL_law) 351 = .ok (.iload 4, 2) := by decide +kernel
theorem qL_law_353 : decode (mB mL_law) 353 = .ok (.iconst 1, 1) := by decide +kernel
theorem qL_law_354 : decode (mB mL_law) 354 = .ok (.iadd, 1) := by decide +kernel
theorem qL_law_355 : decode (mB mL_law) 355 = .ok (.iaload, 1) := by decide +kernel
theorem qL_law_356 : decode (mB mL_law) 356 = .ok (.aload_n 0, 1) := by decide +kernel
theorem qL_law_357 : decode (mB mL_law) 357 = .ok (.iload 4, 2) := by decide +kernel
theorem qL_law_359 : decode (mB mL_law) 359 = .ok (.iconst 2, 1) := by decide +kernel
theorem qL_law_360 : decode (mB mL_law) 360 = .ok (.iadd, 1) := by decide +kernel
theorem qL_law_361 : decode (mB mL_law) 361 = .ok (.iaload, 1) := by decide +kernel
theorem qL_law_362 : decode (mB mL_law) 362 = .ok (.aload_n 0, 1) := by decide +kernel
theorem qL_law_363 : decode (mB mL_law) 363 = .ok (.iload 4, 2) := by decide +kernel
theorem qL_law_365 : decode (mB mL_law) 365 = .ok (.iconst 3, 1) := by decide +kernel
theorem qL_law_366 : decode (mB mL_law) 366 = .ok (.iadd, 1) := by decide +kernel
theorem qL_law_367 : decode (mB mL_law) 367 = .ok (.iaload, 1) := by decide +kernel
theorem qL_law_368 : decode (mB mL_law) 368 = .ok (.aload_n 0, 1) := by decide +kernel
theorem qL_law_369 : decode (mB mL_law) 369 = .ok (.iload 4, 2) := by decide +kernel
theorem qL_law_371 : decode (mB mL_law) 371 = .ok (.iconst 4, 1) := by decide +kernel
theorem qL_law_372 : decode (mB mL_law) 372 = .ok (.iadd, 1) := by decide +kernel
theorem qL_law_373 : decode (mB mL_law) 373 = .ok (.iaload, 1) := by decide +kernel
theorem qL_law_374 : decode (mB mL_law) 374 = .ok (.aload_n 0, 1) := by decide +kernel
theorem qL_law_375 : decode (mB mL_law) 375 = .ok (.iload 4, 2) := by decide +kernel
theorem qL_law_377 : decode (mB mL_law) 377 = .ok (.iconst 5, 1) := by decide +kernel
theorem qL_law_378 : decode (mB mL_law) 378 = .ok (.iadd, 1) := by decide +kernel
theorem qL_law_379 : decode (mB mL_law) 379 = .ok (.iaload, 1) := by decide +kernel
theorem qL_law_380 : decode (mB mL_law) 380 = .ok (.invokevirtual 179, 3) := by decide +kernel
theorem qL_law_383 : decode (mB mL_law) 383 = .ok (.istore 6, 2) := by decide +kernel
theorem qL_law_385 : decode (mB mL_law) 385 = .ok (.aload_n 2, 1) := by decide +kernel
theorem qL_law_386 : decode (mB mL_law) 386 = .ok (.invokevirtual 180, 3) := by decide +kernel
theorem qL_law_389 : decode (mB mL_law) 389 = .ok (.iload 5, 2) := by decide +kernel
theorem qL_law_391 : decode (mB mL_law) 391 = .ok (.if_icmp .eq 5, 3) := by decide +kernel
theorem qL_law_394 : decode (mB mL_law) 394 = .ok (.iconst 0, 1) := by decide +kernel
theorem qL_law_395 : decode (mB mL_law) 395 = .ok (.ireturn, 1) := by decide +kernel
theorem qL_law_396 : decode (mB mL_law) 396 = .ok (.iload 5, 2) := by decide +kernel
theorem qL_law_398 : decode (mB mL_law) 398 = .ok (.ifCond .ne 15, 3) := by decide +kernel
theorem qL_law_401 : decode (mB mL_law) 401 = .ok (.aload_n 3, 1) := by decide +kernel
theorem qL_law_402 : decode (mB mL_law) 402 = .ok (.iconst 0, 1) := by decide +kernel
theorem qL_law_403 : decode (mB mL_law) 403 = .ok (.laload, 1) := by decide +kernel
theorem qL_law_404 : decode (mB mL_law) 404 = .ok (.iload 6, 2) := by decide +kernel
theorem qL_law_406 : decode (mB mL_law) 406 = .ok (.i2l, 1) := by decide +kernel
theorem qL_law_407 : decode (mB mL_law) 407 = .ok (.lcmp, 1) := by decide +kernel
theorem qL_law_408 : decode (mB mL_law) 408 = .ok (.ifCond .eq 5, 3) := by decide +kernel
theorem qL_law_411 : decode (mB mL_law) 411 = .ok (.iconst 0, 1) := by decide +kernel
theorem qL_law_412 : decode (mB mL_law) 412 = .ok (.ireturn, 1) := by decide +kernel
theorem qL_law_413 : decode (mB mL_law) 413 = .ok (.goto 3144, 3) := by decide +kernel
theorem qL_law_416 : decode (mB mL_law) 416 = .ok (.aload_n 1, 1) := by decide +kernel
theorem qL_law_417 : decode (mB mL_law) 417 = .ok (.aload_n 0, 1) := by decide +kernel
theorem qL_law_418 : decode (mB mL_law) 418 = .ok (.iload 4, 2) := by decide +kernel
theorem qL_law_420 : decode (mB mL_law) 420 = .ok (.iconst 1, 1) := by decide +kernel
theorem qL_law_421 : decode (mB mL_law) 421 = .ok (.iadd, 1) := by decide +kernel
theorem qL_law_422 : decode (mB mL_law) 422 = .ok (.iaload, 1) := by decide +kernel
theorem qL_law_423 : decode (mB mL_law) 423 = .ok (.aload_n 3, 1) := by decide +kernel
theorem qL_law_424 : decode (mB mL_law) 424 = .ok (.invokestatic 183, 3) := by decide +kernel
theorem qL_law_427 : decode (mB mL_law) 427 = .ok (.istore 5, 2) := by decide +kernel
theorem qL_law_429 : decode (mB mL_law) 429 = .ok (.aload_n 2, 1) := by decide +kernel
theorem qL_law_430 : decode (mB mL_law) 430 = .ok (.aload_n 0, 1) := by decide +kernel
theorem qL_law_431 : decode (mB mL_law) 431 = .ok (.iload 4, 2) := by decide +kernel
theorem qL_law_433 : decode (mB mL_law) 433 = .ok (.iconst 1, 1) := by decide +kernel
theorem qL_law_434 : decode (mB mL_law) 434 = .ok (.iadd, 1) := by decide +kernel
theorem qL_law_435 : decode (mB mL_law) 435 = .ok (.iaload, 1) := by decide +kernel
theorem qL_law_436 : decode (mB mL_law) 436 = .ok (.invokevirtual 186, 3) := by decide +kernel
theorem qL_law_439 : decode (mB mL_law) 439 = .ok (.istore 6, 2) := by decide +kernel
theorem qL_law_441 : decode (mB mL_law) 441 = .ok (.aload_n 2, 1) := by decide +kernel
theorem qL_law_442 : decode (mB mL_law) 442 = .ok (.invokevirtual 180, 3) := by decide +kernel
theorem qL_law_445 : decode (mB mL_law) 445 = .ok (.iload 5, 2) := by decide +kernel
theorem qL_law_447 : decode (mB mL_law) 447 = .ok (.if_icmp .eq 5, 3) := by decide +kernel
theorem qL_law_450 : decode (mB mL_law) 450 = .ok (.iconst 0, 1) := by decide +kernel
theorem qL_law_451 : decode (mB mL_law) 451 = .ok (.ireturn, 1) := by decide +kernel
theorem qL_law_452 : decode (mB mL_law) 452 = .ok (.iload 5, 2) := by decide +kernel
theorem qL_law_454 : decode (mB mL_law) 454 = .ok (.ifCond .ne 15, 3) := by decide +kernel
theorem qL_law_457 : decode (mB mL_law) 457 = .ok (.aload_n 3, 1) := by decide +kernel
theorem qL_law_458 : decode (mB mL_law) 458 = .ok (.iconst 0, 1) := by decide +kernel
theorem qL_law_459 : decode (mB mL_law) 459 = .ok (.laload, 1) := by decide +kernel
theorem qL_law_460 : decode (mB mL_law) 460 = .ok (.iload 6, 2) := by decide +kernel
theorem qL_law_462 : decode (mB mL_law) 462 = .ok (.i2l, 1) := by decide +kernel
theorem qL_law_463 : decode (mB mL_law) 463 = .ok (.lcmp, 1) := by decide +kernel
theorem qL_law_464 : decode (mB mL_law) 464 = .ok (.ifCond .eq 5, 3) := by decide +kernel
theorem qL_law_467 : decode (mB mL_law) 467 = .ok (.iconst 0, 1) := by decide +kernel
theorem qL_law_468 : decode (mB mL_law) 468 = .ok (.ireturn, 1) := by decide +kernel
theorem qL_law_469 : decode (mB mL_law) 469 = .ok (.goto 3088, 3) := by decide +kernel
theorem qL_law_472 : decode (mB mL_law) 472 = .ok (.aload_n 1, 1) := by decide +kernel
theorem qL_law_473 : decode (mB mL_law) 473 = .ok (.invokevirtual 187, 3) := by decide +kernel
theorem qL_law_476 : decode (mB mL_law) 476 = .ok (.aload_n 2, 1) := by decide +kernel
theorem qL_law_477 : decode (mB mL_law) 477 = .ok (.invokevirtual 190, 3) := by decide +kernel
theorem qL_law_480 : decode (mB mL_law) 480 = .ok (.if_icmp .eq 3077, 3) := by decide +kernel
theorem qL_law_483 : decode (mB mL_law) 483 = .ok (.iconst 0, 1) := by decide +kernel
theorem qL_law_484 : decode (mB mL_law) 484 = .ok (.ireturn, 1) := by decide +kernel
theorem qL_law_485 : decode (mB mL_law) 485 = .ok (.aload_n 1, 1) := by decide +kernel
theorem qL_law_486 : decode (mB mL_law) 486 = .ok (.invokevirtual 191, 3) := by decide +kernel
theorem qL_law_489 : decode (mB mL_law) 489 = .ok (.aload_n 2, 1) := by decide +kernel
theorem qL_law_490 : decode (mB mL_law) 490 = .ok (.invokevirtual 194, 3) := by decide +kernel
theorem qL_law_493 : decode (mB mL_law) 493 = .ok (.if_icmp .eq 3064, 3) := by decide +kernel
theorem qL_law_496 : decode (mB mL_law) 496 = .ok (.iconst 0, 1) := by decide +kernel
theorem qL_law_497 : decode (mB mL_law) 497 = .ok (.ireturn, 1) := by decide +kernel
theorem qL_law_498 : decode (mB mL_law) 498 = .ok (.aload_n 1, 1) := by decide +kernel
theorem qL_law_499 : decode (mB mL_law) 499 = .ok (.invokevirtual 195, 3) := by decide +kernel
theorem qL_law_502 : decode (mB mL_law) 502 = .ok (.aload_n 2, 1) := by decide +kernel
theorem qL_law_503 : decode (mB mL_law) 503 = .ok (.invokevirtual 198, 3) := by decide +kernel
theorem qL_law_506 : decode (mB mL_law) 506 = .ok (.if_icmp .eq 3051, 3) := by decide +kernel
theorem qL_law_509 : decode (mB mL_law) 509 = .ok (.iconst 0, 1) := by decide +kernel
theorem qL_law_510 : decode (mB mL_law) 510 = .ok (.ireturn, 1) := by decide +kernel
theorem qL_law_511 : decode (mB mL_law) 511 = .ok (.aload_n 1, 1) := by decide +kernel
theorem qL_law_512 : decode (mB mL_law) 512 = .ok (.invokevirtual 199, 3) := by decide +kernel
theorem qL_law_515 : decode (mB mL_law) 515 = .ok (.aload_n 2, 1) := by decide +kernel
theorem qL_law_516 : decode (mB mL_law) 516 = .ok (.invokevirtual 202, 3) := by decide +kernel
theorem qL_law_519 : decode (mB mL_law) 519 = .ok (.if_icmp .eq 3038, 3) := by decide +kernel
theorem qL_law_522 : decode (mB mL_law) 522 = .ok (.iconst 0, 1) := by decide +kernel
theorem qL_law_523 : decode (mB mL_law) 523 = .ok (.ireturn, 1) := by decide +kernel
theorem qL_law_524 : decode (mB mL_law) 524 = .ok (.aload_n 1, 1) := by decide +kernel
theorem qL_law_525 : decode (mB mL_law) 525 = .ok (.invokevirtual 203, 3) := by decide +kernel
theorem qL_law_528 : decode (mB mL_law) 528 = .ok (.aload_n 2, 1) := by decide +kernel
theorem qL_law_529 : decode (mB mL_law) 529 = .ok (.invokevirtual 206, 3) := by decide +kernel
theorem qL_law_532 : decode (mB mL_law) 532 = .ok (.if_icmp .eq 3025, 3) := by decide +kernel
theorem qL_law_535 : decode (mB mL_law) 535 = .ok (.iconst 0, 1) := by decide +kernel
theorem qL_law_536 : decode (mB mL_law) 536 = .ok (.ireturn, 1) := by decide +kernel
theorem qL_law_537 : decode (mB mL_law) 537 = .ok (.aload_n 1, 1) := by decide +kernel
theorem qL_law_538 : decode (mB mL_law) 538 = .ok (.aload_n 0, 1) := by decide +kernel
theorem qL_law_539 : decode (mB mL_law) 539 = .ok (.iload 4, 2) := by decide +kernel
theorem qL_law_541 : decode (mB mL_law) 541 = .ok (.iconst 1, 1) := by decide +kernel
theorem qL_law_542 : decode (mB mL_law) 542 = .ok (.iadd, 1) := by decide +kernel
theorem qL_law_543 : decode (mB mL_law) 543 = .ok (.iaload, 1) := by decide +kernel
theorem qL_law_544 : decode (mB mL_law) 544 = .ok (.aload_n 3, 1) := by decide +kernel
theorem qL_law_545 : decode (mB mL_law) 545 = .ok (.invokestatic 207, 3) := by decide +kernel
theorem qL_law_548 : decode (mB mL_law) 548 = .ok (.istore 5, 2) := by decide +kernel
theorem qL_law_550 : decode (mB mL_law) 550 = .ok (.aload_n 2, 1) := by decide +kernel
theorem qL_law_551 : decode (mB mL_law) 551 = .ok (.aload_n 0, 1) := by decide +kernel
theorem qL_law_552 : decode (mB mL_law) 552 = .ok (.iload 4, 2) := by decide +kernel
theorem qL_law_554 : decode (mB mL_law) 554 = .ok (.iconst 1, 1) := by decide +kernel
theorem qL_law_555 : decode (mB mL_law) 555 = .ok (.iadd, 1) := by decide +kernel
theorem qL_law_556 : decode (mB mL_law) 556 = .ok (.iaload, 1) := by decide +kernel
theorem qL_law_557 : decode (mB mL_law) 557 = .ok (.invokevirtual 209, 3) := by decide +kernel
theorem qL_law_560 : decode (mB mL_law) 560 = .ok (.istore 6, 2) := by decide +kernel
theorem qL_law_562 : decode (mB mL_law) 562 = .ok (.aload_n 2, 1) := by decide +kernel
theorem qL_law_563 : decode (mB mL_law) 563 = .ok (.invokevirtual 180, 3) := by decide +kernel
theorem qL_law_566 : decode (mB mL_law) 566 = .ok (.iload 5, 2) := by decide +kernel
theorem qL_law_568 : decode (mB mL_law) 568 = .ok (.if_icmp .eq 5, 3) := by decide +kernel
theorem qL_law_571 : decode (mB mL_law) 571 = .ok (.iconst 0, 1) := by decide +kernel
theorem qL_law_572 : decode (mB mL_law) 572 = .ok (.ireturn, 1) := by decide +kernel
theorem qL_law_573 : decode (mB mL_law) 573 = .ok (.iload 5, 2) := by decide +kernel
theorem qL_law_575 : decode (mB mL_law) 575 = .ok (.ifCond .ne 15, 3) := by decide +kernel
theorem qL_law_578 : decode (mB mL_law) 578 = .ok (.aload_n 3, 1) := by decide +kernel
theorem qL_law_579 : decode (mB mL_law) 579 = .ok (.iconst 0, 1) := by decide +kernel
theorem qL_law_580 : decode (mB mL_law) 580 = .ok (.laload, 1) := by decide +kernel
theorem qL_law_581 : decode (mB mL_law) 581 = .ok (.iload 6, 2) := by decide +kernel
theorem qL_law_583 : decode (mB mL_law) 583 = .ok (.i2l, 1) := by decide +kernel
theorem qL_law_584 : decode (mB mL_law) 584 = .ok (.lcmp, 1) := by decide +kernel
theorem qL_law_585 : decode (mB mL_law) 585 = .ok (.ifCond .eq 5, 3) := by decide +kernel
theorem qL_law_588 : decode (mB mL_law) 588 = .ok (.iconst 0, 1) := by decide +kernel
theorem qL_law_589 : decode (mB mL_law) 589 = .ok (.ireturn, 1) := by decide +kernel
theorem qL_law_590 : decode (mB mL_law) 590 = .ok (.goto 2967, 3) := by decide +kernel
theorem qL_law_593 : decode (mB mL_law) 593 = .ok (.aload_n 1, 1) := by decide +kernel
theorem qL_law_594 : decode (mB mL_law) 594 = .ok (.aload_n 0, 1) := by decide +kernel
theorem qL_law_595 : decode (mB mL_law) 595 = .ok (.iload 4, 2) := by decide +kernel
theorem qL_law_597 : decode (mB mL_law) 597 = .ok (.iconst 1, 1) := by decide +kernel
theorem qL_law_598 : decode (mB mL_law) 598 = .ok (.iadd, 1) := by decide +kernel
theorem qL_law_599 : decode (mB mL_law) 599 = .ok (.iaload, 1) := by decide +kernel
theorem qL_law_600 : decode (mB mL_law) 600 = .ok (.aload_n 3, 1) := by decide +kernel
theorem qL_law_601 : decode (mB mL_law) 601 = .ok (.invokestatic 210, 3) := by decide +kernel
theorem qL_law_604 : decode (mB mL_law) 604 = .ok (.istore 5, 2) := by decide +kernel
theorem qL_law_606 : decode (mB mL_law) 606 = .ok (.aload_n 2, 1) := by decide +kernel
theorem qL_law_607 : decode (mB mL_law) 607 = .ok (.aload_n 0, 1) := by decide +kernel
theorem qL_law_608 : decode (mB mL_law) 608 = .ok (.iload 4, 2) := by decide +kernel
theorem qL_law_610 : decode (mB mL_law) 610 = .ok (.iconst 1, 1) := by decide +kernel
theorem qL_law_611 : decode (mB mL_law) 611 = .ok (.iadd, 1) := by decide +kernel
theorem qL_law_612 : decode (mB mL_law) 612 = .ok (.iaload, 1) := by decide +kernel
theorem qL_law_613 : decode (mB mL_law) 613 = .ok (.invokevirtual 212, 3) := by decide +kernel
theorem qL_law_616 : decode (mB mL_law) 616 = .ok (.istore 6, 2) := by decide +kernel
theorem qL_law_618 : decode (mB mL_law) 618 = .ok (.aload_n 2, 1) := by decide +kernel
theorem qL_law_619 : decode (mB mL_law) 619 = .ok (.invokevirtual 180, 3) := by decide +kernel
theorem qL_law_622 : decode (mB mL_law) 622 = .ok (.iload 5, 2) := by decide +kernel
theorem qL_law_624 : decode (mB mL_law) 624 = .ok (.if_icmp .eq 5, 3) := by decide +kernel
theorem qL_law_627 : decode (mB mL_law) 627 = .ok (.iconst 0, 1) := by decide +kernel
theorem qL_law_628 : decode (mB mL_law) 628 = .ok (.ireturn, 1) := by decide +kernel
theorem qL_law_629 : decode (mB mL_law) 629 = .ok (.iload 5, 2) := by decide +kernel
theorem qL_law_631 : decode (mB mL_law) 631 = .ok (.ifCond .ne 15, 3) := by decide +kernel
theorem qL_law_634 : decode (mB mL_law) 634 = .ok (.aload_n 3, 1) := by decide +kernel
theorem qL_law_635 : decode (mB mL_law) 635 = .ok (.iconst 0, 1) := by decide +kernel
theorem qL_law_636 : decode (mB mL_law) 636 = .ok (.laload, 1) := by decide +kernel
theorem qL_law_637 : decode (mB mL_law) 637 = .ok (.iload 6, 2) := by decide +kernel
theorem qL_law_639 : decode (mB mL_law) 639 = .ok (.i2l, 1) := by decide +kernel
theorem qL_law_640 : decode (mB mL_law) 640 = .ok (.lcmp, 1) := by decide +kernel
theorem qL_law_641 : decode (mB mL_law) 641 = .ok (.ifCond .eq 5, 3) := by decide +kernel
theorem qL_law_644 : decode (mB mL_law) 644 = .ok (.iconst 0, 1) := by decide +kernel
theorem qL_law_645 : decode (mB mL_law) 645 = .ok (.ireturn, 1) := by decide +kernel
theorem qL_law_646 : decode (mB mL_law) 646 = .ok (.goto 2911, 3) := by decide +kernel
theorem qL_law_649 : decode (mB mL_law) 649 = .ok (.aload_n 1, 1) := by decide +kernel
theorem qL_law_650 : decode (mB mL_law) 650 = .ok (.aload_n 0, 1) := by decide +kernel
theorem qL_law_651 : decode (mB mL_law) 651 = .ok (.iload 4, 2) := by decide +kernel
theorem qL_law_653 : decode (mB mL_law) 653 = .ok (.iconst 1, 1) := by decide +kernel
theorem qL_law_654 : decode (mB mL_law) 654 = .ok (.iadd, 1) := by decide +kernel
theorem qL_law_655 : decode (mB mL_law) 655 = .ok (.iaload, 1) := by decide +kernel
theorem qL_law_656 : decode (mB mL_law) 656 = .ok (.aload_n 3, 1) := by decide +kernel
theorem qL_law_657 : decode (mB mL_law) 657 = .ok (.invokestatic 213, 3) := by decide +kernel
theorem qL_law_660 : decode (mB mL_law) 660 = .ok (.istore 5, 2) := by decide +kernel
theorem qL_law_662 : decode (mB mL_law) 662 = .ok (.aload_n 2, 1) := by decide +kernel
theorem qL_law_663 : decode (mB mL_law) 663 = .ok (.aload_n 0, 1) := by decide +kernel
theorem qL_law_664 : decode (mB mL_law) 664 = .ok (.iload 4, 2) := by decide +kernel
theorem qL_law_666 : decode (mB mL_law) 666 = .ok (.iconst 1, 1) := by decide +kernel
theorem qL_law_667 : decode (mB mL_law) 667 = .ok (.iadd, 1) := by decide +kernel
theorem qL_law_668 : decode (mB mL_law) 668 = .ok (.iaload, 1) := by decide +kernel
theorem qL_law_669 : decode (mB mL_law) 669 = .ok (.invokevirtual 215, 3) := by decide +kernel
theorem qL_law_672 : decode (mB mL_law) 672 = .ok (.istore 6, 2) := by decide +kernel
theorem qL_law_674 : decode (mB mL_law) 674 = .ok (.aload_n 2, 1) := by decide +kernel
theorem qL_law_675 : decode (mB mL_law) 675 = .ok (.invokevirtual 180, 3) := by decide +kernel
theorem qL_law_678 : decode (mB mL_law) 678 = .ok (.iload 5, 2) := by decide +kernel
theorem qL_law_680 : decode (mB mL_law) 680 = .ok (.if_icmp .eq 5, 3) := by decide +kernel
theorem qL_law_683 : decode (mB mL_law) 683 = .ok (.iconst 0, 1) := by decide +kernel
theorem qL_law_684 : decode (mB mL_law) 684 = .ok (.ireturn, 1) := by decide +kernel
theorem qL_law_685 : decode (mB mL_law) 685 = .ok (.iload 5, 2) := by decide +kernel
theorem qL_law_687 : decode (mB mL_law) 687 = .ok (.ifCond .ne 15, 3) := by decide +kernel
theorem qL_law_690 : decode (mB mL_law) 690 = .ok (.aload_n 3, 1) := by decide +kernel
theorem qL_law_691 : decode (mB mL_law) 691 = .ok (.iconst 0, 1) := by decide +kernel
theorem qL_law_692 : decode (mB mL_law) 692 = .ok (.laload, 1) := by decide +kernel
theorem qL_law_693 : decode (mB mL_law) 693 = .ok (.iload 6, 2) := by decide +kernel
theorem qL_law_695 : decode (mB mL_law) 695 = .ok (.i2l, 1) := by decide +kernel
theorem qL_law_696 : decode (mB mL_law) 696 = .ok (.lcmp, 1) := by decide +kernel
theorem qL_law_697 : decode (mB mL_law) 697 = .ok (.ifCond .eq 5, 3) := by decide +kernel
theorem qL_law_700 : decode (mB mL_law) 700 = .ok (.iconst 0, 1) := by decide +kernel
theorem qL_law_701 : decode (mB mL_law) 701 = .ok (.ireturn, 1) := by decide +kernel
theorem qL_law_702 : decode (mB mL_law) 702 = .ok (.goto 2855, 3) := by decide +kernel
theorem qL_law_705 : decode (mB mL_law) 705 = .ok (.aload_n 1, 1) := by decide +kernel
theorem qL_law_706 : decode (mB mL_law) 706 = .ok (.aload_n 0, 1) := by decide +kernel
theorem qL_law_707 : decode (mB mL_law) 707 = .ok (.iload 4, 2) := by decide +kernel
theorem qL_law_709 : decode (mB mL_law) 709 = .ok (.iconst 1, 1) := by decide +kernel
theorem qL_law_710 : decode (mB mL_law) 710 = .ok (.iadd, 1) := by decide +kernel
theorem qL_law_711 : decode (mB mL_law) 711 = .ok (.iaload, 1) := by decide +kernel
theorem qL_law_712 : decode (mB mL_law) 712 = .ok (.aload_n 3, 1) := by decide +kernel
theorem qL_law_713 : decode (mB mL_law) 713 = .ok (.invokestatic 216, 3) := by decide +kernel
theorem qL_law_716 : decode (mB mL_law) 716 = .ok (.istore 5, 2) := by decide +kernel
theorem qL_law_718 : decode (mB mL_law) 718 = .ok (.aload_n 2, 1) := by decide +kernel
theorem qL_law_719 : decode (mB mL_law) 719 = .ok (.aload_n 0, 1) := by decide +kernel
theorem qL_law_720 : decode (mB mL_law) 720 = .ok (.iload 4, 2) := by decide +kernel
theorem qL_law_722 : decode (mB mL_law) 722 = .ok (.iconst 1, 1) := by decide +kernel
theorem qL_law_723 : decode (mB mL_law) 723 = .ok (.iadd, 1) := by decide +kernel
theorem qL_law_724 : decode (mB mL_law) 724 = .ok (.iaload, 1) := by decide +kernel
theorem qL_law_725 : decode (mB mL_law) 725 = .ok (.invokevirtual 218, 3) := by decide +kernel
theorem qL_law_728 : decode (mB mL_law) 728 = .ok (.istore 6, 2) := by decide +kernel
theorem qL_law_730 : decode (mB mL_law) 730 = .ok (.aload_n 2, 1) := by decide +kernel
theorem qL_law_731 : decode (mB mL_law) 731 = .ok (.invokevirtual 180, 3) := by decide +kernel
theorem qL_law_734 : decode (mB mL_law) 734 = .ok (.iload 5, 2) := by decide +kernel
theorem qL_law_736 : decode (mB mL_law) 736 = .ok (.if_icmp .eq 5, 3) := by decide +kernel
theorem qL_law_739 : decode (mB mL_law) 739 = .ok (.iconst 0, 1) := by decide +kernel
theorem qL_law_740 : decode (mB mL_law) 740 = .ok (.ireturn, 1) := by decide +kernel
theorem qL_law_741 : decode (mB mL_law) 741 = .ok (.iload 5, 2) := by decide +kernel
theorem qL_law_743 : decode (mB mL_law) 743 = .ok (.ifCond .ne 15, 3) := by decide +kernel
theorem qL_law_746 : decode (mB mL_law) 746 = .ok (.aload_n 3, 1) := by decide +kernel
theorem qL_law_747 : decode (mB mL_law) 747 = .ok (.iconst 0, 1) := by decide +kernel
theorem qL_law_748 : decode (mB mL_law) 748 = .ok (.laload, 1) := by decide +kernel
theorem qL_law_749 : decode (mB mL_law) 749 = .ok (.iload 6, 2) := by decide +kernel
theorem qL_law_751 : decode (mB mL_law) 751 = .ok (.i2l, 1) := by decide +kernel
theorem qL_law_752 : decode (mB mL_law) 752 = .ok (.lcmp, 1) := by decide +kernel
theorem qL_law_753 : decode (mB mL_law) 753 = .ok (.ifCond .eq 5, 3) := by decide +kernel
theorem qL_law_756 : decode (mB mL_law) 756 = .ok (.iconst 0, 1) := by decide +kernel
theorem qL_law_757 : decode (mB mL_law) 757 = .ok (.ireturn, 1) := by decide +kernel
theorem qL_law_758 : decode (mB mL_law) 758 = .ok (.goto 2799, 3) := by decide +kernel
theorem qL_law_761 : decode (mB mL_law) 761 = .ok (.aload_n 1, 1) := by decide +kernel
theorem qL_law_762 : decode (mB mL_law) 762 = .ok (.aload_n 0, 1) := by decide +kernel
theorem qL_law_763 : decode (mB mL_law) 763 = .ok (.iload 4, 2) := by decide +kernel
theorem qL_law_765 : decode (mB mL_law) 765 = .ok (.iconst 1, 1) := by decide +kernel
theorem qL_law_766 : decode (mB mL_law) 766 = .ok (.iadd, 1) := by decide +kernel
theorem qL_law_767 : decode (mB mL_law) 767 = .ok (.iaload, 1) := by decide +kernel
theorem qL_law_768 : decode (mB mL_law) 768 = .ok (.aload_n 3, 1) := by decide +kernel
theorem qL_law_769 : decode (mB mL_law) 769 = .ok (.invokestatic 219, 3) := by decide +kernel
theorem qL_law_772 : decode (mB mL_law) 772 = .ok (.istore 5, 2) := by decide +kernel
theorem qL_law_774 : decode (mB mL_law) 774 = .ok (.aload_n 2, 1) := by decide +kernel
theorem qL_law_775 : decode (mB mL_law) 775 = .ok (.aload_n 0, 1) := by decide +kernel
theorem qL_law_776 : decode (mB mL_law) 776 = .ok (.iload 4, 2) := by decide +kernel
theorem qL_law_778 : decode (mB mL_law) 778 = .ok (.iconst 1, 1) := by decide +kernel
theorem qL_law_779 : decode (mB mL_law) 779 = .ok (.iadd, 1) := by decide +kernel
theorem qL_law_780 : decode (mB mL_law) 780 = .ok (.iaload, 1) := by decide +kernel
theorem qL_law_781 : decode (mB mL_law) 781 = .ok (.invokevirtual 221, 3) := by decide +kernel
theorem qL_law_784 : decode (mB mL_law) 784 = .ok (.istore 6, 2) := by decide +kernel
theorem qL_law_786 : decode (mB mL_law) 786 = .ok (.aload_n 2, 1) := by decide +kernel
theorem qL_law_787 : decode (mB mL_law) 787 = .ok (.invokevirtual 180, 3) := by decide +kernel
theorem qL_law_790 : decode (mB mL_law) 790 = .ok (.iload 5, 2) := by decide +kernel
theorem qL_law_792 : decode (mB mL_law) 792 = .ok (.if_icmp .eq 5, 3) := by decide +kernel
theorem qL_law_795 : decode (mB mL_law) 795 = .ok (.iconst 0, 1) := by decide +kernel
theorem qL_law_796 : decode (mB mL_law) 796 = .ok (.ireturn, 1) := by decide +kernel
theorem qL_law_797 : decode (mB mL_law) 797 = .ok (.iload 5, 2) := by decide +kernel
theorem qL_law_799 : decode (mB mL_law) 799 = .ok (.ifCond .ne 15, 3) := by decide +kernel
theorem qL_law_802 : decode (mB mL_law) 802 = .ok (.aload_n 3, 1) := by decide +kernel
theorem qL_law_803 : decode (mB mL_law) 803 = .ok (.iconst 0, 1) := by decide +kernel
theorem qL_law_804 : decode (mB mL_law) 804 = .ok (.laload, 1) := by decide +kernel
theorem qL_law_805 : decode (mB mL_law) 805 = .ok (.iload 6, 2) := by decide +kernel
theorem qL_law_807 : decode (mB mL_law) 807 = .ok (.i2l, 1) := by decide +kernel
theorem qL_law_808 : decode (mB mL_law) 808 = .ok (.lcmp, 1) := by decide +kernel
theorem qL_law_809 : decode (mB mL_law) 809 = .ok (.ifCond .eq 5, 3) := by decide +kernel
theorem qL_law_812 : decode (mB mL_law) 812 = .ok (.iconst 0, 1) := by decide +kernel
theorem qL_law_813 : decode (mB mL_law) 813 = .ok (.ireturn, 1) := by decide +kernel
theorem qL_law_814 : decode (mB mL_law) 814 = .ok (.goto 2743, 3) := by decide +kernel
theorem qL_law_817 : decode (mB mL_law) 817 = .ok (.aload_n 1, 1) := by decide +kernel
theorem qL_law_818 : decode (mB mL_law) 818 = .ok (.aload_n 0, 1) := by decide +kernel
theorem qL_law_819 : decode (mB mL_law) 819 = .ok (.iload 4, 2) := by decide +kernel
theorem qL_law_821 : decode (mB mL_law) 821 = .ok (.iconst 1, 1) := by decide +kernel
theorem qL_law_822 : decode (mB mL_law) 822 = .ok (.iadd, 1) := by decide +kernel


theorem dL_isDone_321 : decode cL_isDone 321 = .ok (.bipush 9, 2) := by decide +kernel
theorem dL_isDone_323 : decode cL_isDone 323 = .ok (.irem, 1) := by decide +kernel
theorem dL_isDone_324 : decode cL_isDone 324 = .ok (.iload 6, 2) := by decide +kernel
theorem dL_isDone_326 : decode cL_isDone 326 = .ok (.iconst 3, 1) := by decide +kernel
theorem dL_isDone_327 : decode cL_isDone 327 = .ok (.irem, 1) := by decide +kernel
theorem dL_isDone_328 : decode cL_isDone 328 = .ok (.invokestatic 213, 3) := by decide +kernel
theorem dL_isDone_331 : decode cL_isDone 331 = .ok (.iload 6, 2) := by decide +kernel
theorem dL_isDone_333 : decode cL_isDone 333 = .ok (.iconst 3, 1) := by decide +kernel
theorem dL_isDone_334 : decode cL_isDone 334 = .ok (.irem, 1) := by decide +kernel
theorem dL_isDone_335 : decode cL_isDone 335 = .ok (.if_icmp .ne 32, 3) := by decide +kernel
theorem dL_isDone_338 : decode cL_isDone 338 = .ok (.iload 6, 2) := by decide +kernel
theorem dL_isDone_340 : decode cL_isDone 340 = .ok (.iconst 3, 1) := by decide +kernel
theorem dL_isDone_341 : decode cL_isDone 341 = .ok (.irem, 1) := by decide +kernel
theorem dL_isDone_342 : decode cL_isDone 342 = .ok (.iconst 1, 1) := by decide +kernel
theorem dL_isDone_343 : decode cL_isDone 343 = .ok (.if_icmp .ne 20, 3) := by decide +kernel
theorem dL_isDone_346 : decode cL_isDone 346 = .ok (.aload_n 0, 1) := by decide +kernel
theorem dL_isDone_347 : decode cL_isDone 347 = .ok (.iload 4, 2) := by decide +kernel
theorem dL_isDone_349 : decode cL_isDone 349 = .ok (.invokevirtual 103, 3) := by decide +kernel
theorem dL_isDone_352 : decode cL_isDone 352 = .ok (.iload 5, 2) := by decide +kernel
theorem dL_isDone_354 : decode cL_isDone 354 = .ok (.bipush 9, 2) := by decide +kernel
theorem dL_isDone_356 : decode cL_isDone 356 = .ok (.irem, 1) := by decide +kernel
theorem dL_isDone_357 : decode cL_isDone 357 = .ok (.ishr, 1) := by decide +kernel
theorem dL_isDone_358 : decode cL_isDone 358 = .ok (.iconst 1, 1) := by decide +kernel
theorem dL_isDone_359 : decode cL_isDone 359 = .ok (.iand, 1) := by decide +kernel
theorem dL_isDone_360 : decode cL_isDone 360 = .ok (.ifCond .ne 7, 3) := by decide +kernel
theorem dL_isDone_363 : decode cL_isDone 363 = .ok (.iconst 1, 1) := by decide +kernel
theorem dL_isDone_364 : decode cL_isDone 364 = .ok (.goto 4, 3) := by decide +kernel
theorem dL_isDone_367 : decode cL_isDone 367 = .ok (.iconst 0, 1) := by decide +kernel
theorem dL_isDone_368 : decode cL_isDone 368 = .ok (.ireturn, 1) := by decide +kernel
theorem dL_isDone_369 : decode cL_isDone 369 = .ok (.iload_n 3, 1) := by decide +kernel
theorem dL_isDone_370 : decode cL_isDone 370 = .ok (.bipush 26, 2) := by decide +kernel
theorem dL_isDone_372 : decode cL_isDone 372 = .ok (.if_icmp .ne 119, 3) := by decide +kernel
theorem dL_isDone_375 : decode cL_isDone 375 = .ok (.aload_n 0, 1) := by decide +kernel
theorem dL_isDone_376 : decode cL_isDone 376 = .ok (.iload 4, 2) := by decide +kernel
theorem dL_isDone_378 : decode cL_isDone 378 = .ok (.iload 5, 2) := by decide +kernel
theorem dL_isDone_380 : decode cL_isDone 380 = .ok (.sipush 513, 3) := by decide +kernel
theorem dL_isDone_383 : decode cL_isDone 383 = .ok (.irem, 1) := by decide +kernel
theorem dL_isDone_384 : decode cL_isDone 384 = .ok (.invokestatic 216, 3) := by decide +kernel
theorem dL_isDone_387 : decode cL_isDone 387 = .ok (.istore 8, 2) := by decide +kernel
theorem dL_isDone_389 : decode cL_isDone 389 = .ok (.iload 5, 2) := by decide +kernel
theorem dL_isDone_391 : decode cL_isDone 391 = .ok (.sipush 513, 3) := by decide +kernel
theorem dL_isDone_394 : decode cL_isDone 394 = .ok (.irem, 1) := by decide +kernel
theorem dL_isDone_395 : decode cL_isDone 395 = .ok (.sipush 512, 3) := by decide +kernel
theorem dL_isDone_398 : decode cL_isDone 398 = .ok (.if_icmp .ne 18, 3) := by decide +kernel
theorem dL_isDone_401 : decode cL_isDone 401 = .ok (.iload 8, 2) := by decide +kernel
theorem dL_isDone_403 : decode cL_isDone 403 = .ok (.bipush (-20), 2) := by decide +kernel
theorem dL_isDone_405 : decode cL_isDone 405 = .ok (.if_icmp .ne 7, 3) := by decide +kernel
theorem dL_isDone_408 : decode cL_isDone 408 = .ok (.iconst 1, 1) := by decide +kernel
theorem dL_isDone_409 : decode cL_isDone 409 = .ok (.goto 81, 3) := by decide +kernel
theorem dL_isDone_412 : decode cL_isDone 412 = .ok (.iconst 0, 1) := by decide +kernel
theorem dL_isDone_413 : decode cL_isDone 413 = .ok (.goto 77, 3) := by decide +kernel
theorem dL_isDone_416 : decode cL_isDone 416 = .ok (.iload 7, 2) := by decide +kernel
theorem dL_isDone_418 : decode cL_isDone 418 = .ok (.ifCond .ne 18, 3) := by decide +kernel
theorem dL_isDone_421 : decode cL_isDone 421 = .ok (.iload 8, 2) := by decide +kernel
theorem dL_isDone_423 : decode cL_isDone 423 = .ok (.bipush (-10), 2) := by decide +kernel
theorem dL_isDone_425 : decode cL_isDone 425 = .ok (.if_icmp .ne 7, 3) := by decide +kernel
theorem dL_isDone_428 : decode cL_isDone 428 = .ok (.iconst 1, 1) := by decide +kernel
theorem dL_isDone_429 : decode cL_isDone 429 = .ok (.goto 61, 3) := by decide +kernel
theorem dL_isDone_432 : decode cL_isDone 432 = .ok (.iconst 0, 1) := by decide +kernel
theorem dL_isDone_433 : decode cL_isDone 433 = .ok (.goto 57, 3) := by decide +kernel
theorem dL_isDone_436 : decode cL_isDone 436 = .ok (.iload 8, 2) := by decide +kernel
theorem dL_isDone_438 : decode cL_isDone 438 = .ok (.ifCond .lt 51, 3) := by decide +kernel
theorem dL_isDone_441 : decode cL_isDone 441 = .ok (.iload 8, 2) := by decide +kernel
theorem dL_isDone_443 : decode cL_isDone 443 = .ok (.bipush 36, 2) := by decide +kernel
theorem dL_isDone_445 : decode cL_isDone 445 = .ok (.iand, 1) := by decide +kernel
theorem dL_isDone_446 : decode cL_isDone 446 = .ok (.ifCond .ne 43, 3) := by decide +kernel
theorem dL_isDone_449 : decode cL_isDone 449 = .ok (.aload_n 0, 1) := by decide +kernel
theorem dL_isDone_450 : decode cL_isDone 450 = .ok (.iload 4, 2) := by decide +kernel
theorem dL_isDone_452 : decode cL_isDone 452 = .ok (.invokevirtual 86, 3) := by decide +kernel
theorem dL_isDone_455 : decode cL_isDone 455 = .ok (.ifCond .eq 30, 3) := by decide +kernel
theorem dL_isDone_458 : decode cL_isDone 458 = .ok (.aload_n 0, 1) := by decide +kernel
theorem dL_isDone_459 : decode cL_isDone 459 = .ok (.iload 4, 2) := by decide +kernel
theorem dL_isDone_461 : decode cL_isDone 461 = .ok (.invokevirtual 90, 3) := by decide +kernel
theorem dL_isDone_464 : decode cL_isDone 464 = .ok (.ifCond .ne 21, 3) := by decide +kernel
theorem dL_isDone_467 : decode cL_isDone 467 = .ok (.aload_n 0, 1) := by decide +kernel
theorem dL_isDone_468 : decode cL_isDone 468 = .ok (.iload 4, 2) := by decide +kernel
theorem dL_isDone_470 : decode cL_isDone 470 = .ok (.invokevirtual 103, 3) := by decide +kernel
theorem dL_isDone_473 : decode cL_isDone 473 = .ok (.iload 5, 2) := by decide +kernel
theorem dL_isDone_475 : decode cL_isDone 475 = .ok (.sipush 513, 3) := by decide +kernel
theorem dL_isDone_478 : decode cL_isDone 478 = .ok (.irem, 1) := by decide +kernel
theorem dL_isDone_479 : decode cL_isDone 479 = .ok (.iconst (-1), 1) := by decide +kernel
theorem dL_isDone_480 : decode cL_isDone 480 = .ok (.ixor, 1) := by decide +kernel
theorem dL_isDone_481 : decode cL_isDone 481 = .ok (.iand, 1) := by decide +kernel
theorem dL_isDone_482 : decode cL_isDone 482 = .ok (.ifCond .ne 7, 3) := by decide +kernel
theorem dL_isDone_485 : decode cL_isDone 485 = .ok (.iconst 1, 1) := by decide +kernel
theorem dL_isDone_486 : decode cL_isDone 486 = .ok (.goto 4, 3) := by decide +kernel
theorem dL_isDone_489 : decode cL_isDone 489 = .ok (.iconst 0, 1) := by decide +kernel
theorem dL_isDone_490 : decode cL_isDone 490 = .ok (.ireturn, 1) := by decide +kernel
theorem dL_isDone_491 : decode cL_isDone 491 = .ok (.iload_n 3, 1) := by decide +kernel
theorem dL_isDone_492 : decode cL_isDone 492 = .ok (.bipush 27, 2) := by decide +kernel
theorem dL_isDone_494 : decode cL_isDone 494 = .ok (.if_icmp .ne 58, 3) := by decide +kernel
theorem dL_isDone_497 : decode cL_isDone 497 = .ok (.aload_n 0, 1) := by decide +kernel
theorem dL_isDone_498 : decode cL_isDone 498 = .ok (.iload 4, 2) := by decide +kernel
theorem dL_isDone_500 : decode cL_isDone 500 = .ok (.invokestatic 219, 3) := by decide +kernel
theorem dL_isDone_503 : decode cL_isDone 503 = .ok (.istore 8, 2) := by decide +kernel
theorem dL_isDone_505 : decode cL_isDone 505 = .ok (.iload 7, 2) := by decide +kernel
theorem dL_isDone_507 : decode cL_isDone 507 = .ok (.ifCond .eq 32, 3) := by decide +kernel
theorem dL_isDone_510 : decode cL_isDone 510 = .ok (.iload 8, 2) := by decide +kernel
theorem dL_isDone_512 : decode cL_isDone 512 = .ok (.ifCond .lt 23, 3) := by decide +kernel
theorem dL_isDone_515 : decode cL_isDone 515 = .ok (.iload 8, 2) := by decide +kernel
theorem dL_isDone_517 : decode cL_isDone 517 = .ok (.bipush 8, 2) := by decide +kernel
theorem dL_isDone_519 : decode cL_isDone 519 = .ok (.if_icmp .ge 16, 3) := by decide +kernel
theorem dL_isDone_522 : decode cL_isDone 522 = .ok (.aload_n 0, 1) := by decide +kernel
theorem dL_isDone_523 : decode cL_isDone 523 = .ok (.iload 4, 2) := by decide +kernel
theorem dL_isDone_525 : decode cL_isDone 525 = .ok (.invokestatic 219, 3) := by decide +kernel
theorem dL_isDone_528 : decode cL_isDone 528 = .ok (.ifCond .ne 7, 3) := by decide +kernel
theorem dL_isDone_531 : decode cL_isDone 531 = .ok (.iconst 1, 1) := by decide +kernel
theorem dL_isDone_532 : decode cL_isDone 532 = .ok (.goto 19, 3) := by decide +kernel
theorem dL_isDone_535 : decode cL_isDone 535 = .ok (.iconst 0, 1) := by decide +kernel
theorem dL_isDone_536 : decode cL_isDone 536 = .ok (.goto 15, 3) := by decide +kernel
theorem dL_isDone_539 : decode cL_isDone 539 = .ok (.iload 8, 2) := by decide +kernel
theorem dL_isDone_541 : decode cL_isDone 541 = .ok (.bipush (-10), 2) := by decide +kernel
theorem dL_isDone_543 : decode cL_isDone 543 = .ok (.if_icmp .ne 7, 3) := by decide +kernel
theorem dL_isDone_546 : decode cL_isDone 546 = .ok (.iconst 1, 1) := by decide +kernel
theorem dL_isDone_547 : decode cL_isDone 547 = .ok (.goto 4, 3) := by decide +kernel
theorem dL_isDone_550 : decode cL_isDone 550 = .ok (.iconst 0, 1) := by decide +kernel
theorem dL_isDone_551 : decode cL_isDone 551 = .ok (.ireturn, 1) := by decide +kernel
theorem dL_isDone_552 : decode cL_isDone 552 = .ok (.iload_n 3, 1) := by decide +kernel
theorem dL_isDone_553 : decode cL_isDone 553 = .ok (.bipush 28, 2) := by decide +kernel
theorem dL_isDone_555 : decode cL_isDone 555 = .ok (.if_icmp .ne 87, 3) := by decide +kernel
theorem dL_isDone_558 : decode cL_isDone 558 = .ok (.aload_n 0, 1) := by decide +kernel
theorem dL_isDone_559 : decode cL_isDone 559 = .ok (.iload 4, 2) := by decide +kernel
theorem dL_isDone_561 : decode cL_isDone 561 = .ok (.iload 5, 2) := by decide +kernel
theorem dL_isDone_563 : decode cL_isDone 563 = .ok (.iconst 2, 1) := by decide +kernel
theorem dL_isDone_564 : decode cL_isDone 564 = .ok (.irem, 1) := by decide +kernel
theorem dL_isDone_565 : decode cL_isDone 565 = .ok (.ifCond .ne 7, 3) := by decide +kernel
theorem dL_isDone_568 : decode cL_isDone 568 = .ok (.iconst 1, 1) := by decide +kernel
theorem dL_isDone_569 : decode cL_isDone 569 = .ok (.goto 4, 3) := by decide +kernel
theorem dL_isDone_572 : decode cL_isDone 572 = .ok (.iconst 0, 1) := by decide +kernel
theorem dL_isDone_573 : decode cL_isDone 573 = .ok (.invokestatic 222, 3) := by decide +kernel
theorem dL_isDone_576 : decode cL_isDone 576 = .ok (.istore 8, 2) := by decide +kernel
theorem dL_isDone_578 : decode cL_isDone 578 = .ok (.iload 7, 2) := by decide +kernel
theorem dL_isDone_580 : decode cL_isDone 580 = .ok (.ifCond .eq 49, 3) := by decide +kernel
theorem dL_isDone_583 : decode cL_isDone 583 = .ok (.aload_n 0, 1) := by decide +kernel
theorem dL_isDone_584 : decode cL_isDone 584 = .ok (.iload 4, 2) := by decide +kernel
theorem dL_isDone_586 : decode cL_isDone 586 = .ok (.iload 5, 2) := by decide +kernel
theorem dL_isDone_588 : decode cL_isDone 588 = .ok (.iconst 2, 1) := by decide +kernel
theorem dL_isDone_589 : decode cL_isDone 589 = .ok (.irem, 1) := by decide +kernel
theorem dL_isDone_590 : decode cL_isDone 590 = .ok (.ifCond .ne 7, 3) := by decide +kernel
theorem dL_isDone_593 : decode cL_isDone 593 = .ok (.iconst 1, 1) := by decide +kernel
theorem dL_isDone_594 : decode cL_isDone 594 = .ok (.goto 4, 3) := by decide +kernel
theorem dL_isDone_597 : decode cL_isDone 597 = .ok (.iconst 0, 1) := by decide +kernel
theorem dL_isDone_598 : decode cL_isDone 598 = .ok (.invokestatic 222, 3) := by decide +kernel
theorem dL_isDone_601 : decode cL_isDone 601 = .ok (.iload 5, 2) := by decide +kernel
theorem dL_isDone_603 : decode cL_isDone 603 = .ok (.iconst 2, 1) := by decide +kernel
theorem dL_isDone_604 : decode cL_isDone 604 = .ok (.irem, 1) := by decide +kernel
theorem dL_isDone_605 : decode cL_isDone 605 = .ok (.ifCond .ne 7, 3) := by decide +kernel
theorem dL_isDone_608 : decode cL_isDone 608 = .ok (.iconst 1, 1) := by decide +kernel
theorem dL_isDone_609 : decode cL_isDone 609 = .ok (.goto 4, 3) := by decide +kernel
theorem dL_isDone_612 : decode cL_isDone 612 = .ok (.iconst 0, 1) := by decide +kernel
theorem dL_isDone_613 : decode cL_isDone 613 = .ok (.if_icmp .ne 12, 3) := by decide +kernel
theorem dL_isDone_616 : decode cL_isDone 616 = .ok (.iload 8, 2) := by decide +kernel
theorem dL_isDone_618 : decode cL_isDone 618 = .ok (.ifCond .lt 7, 3) := by decide +kernel
theorem dL_isDone_621 : decode cL_isDone 621 = .ok (.iconst 1, 1) := by decide +kernel
theorem dL_isDone_622 : decode cL_isDone 622 = .ok (.goto 19, 3) := by decide +kernel
theorem dL_isDone_625 : decode cL_isDone 625 = .ok (.iconst 0, 1) := by decide +kernel
theorem dL_isDone_626 : decode cL_isDone 626 = .ok (.goto 15, 3) := by decide +kernel
theorem dL_isDone_629 : decode cL_isDone 629 = .ok (.iload 8, 2) := by decide +kernel
theorem dL_isDone_631 : decode cL_isDone 631 = .ok (.bipush (-10), 2) := by decide +kernel
theorem dL_isDone_633 : decode cL_isDone 633 = .ok (.if_icmp .ne 7, 3) := by decide +kernel
theorem dL_isDone_636 : decode cL_isDone 636 = .ok (.iconst 1, 1) := by decide +kernel
theorem dL_isDone_637 : decode cL_isDone 637 = .ok (.goto 4, 3) := by decide +kernel
theorem dL_isDone_640 : decode cL_isDone 640 = .ok (.iconst 0, 1) := by decide +kernel
theorem dL_isDone_641 : decode cL_isDone 641 = .ok (.ireturn, 1) := by decide +kernel
theorem dL_isDone_642 : decode cL_isDone 642 = .ok (.aload_n 0, 1) := by decide +kernel
theorem dL_isDone_643 : decode cL_isDone 643 = .ok (.iconst 1, 1) := by decide +kernel
theorem dL_isDone_644 : decode cL_isDone 644 = .ok (.iload 5, 2) := by decide +kernel
theorem dL_isDone_646 : decode cL_isDone 646 = .ok (.bipush 40, 2) := by decide +kernel
theorem dL_isDone_648 : decode cL_isDone 648 = .ok (.irem, 1) := by decide +kernel
theorem dL_isDone_649 : decode cL_isDone 649 = .ok (.iadd, 1) := by decide +kernel
theorem dL_isDone_650 : decode cL_isDone 650 = .ok (.invokestatic 176, 3) := by decide +kernel
theorem dL_isDone_653 : decode cL_isDone 653 = .ok (.istore 8, 2) := by decide +kernel
theorem dL_isDone_655 : decode cL_isDone 655 = .ok (.aload_n 0, 1) := by decide +kernel
theorem dL_isDone_656 : decode cL_isDone 656 = .ok (.iconst 1, 1) := by decide +kernel
theorem dL_isDone_657 : decode cL_isDone 657 = .ok (.iload 5, 2) := by decide +kernel
theorem dL_isDone_659 : decode cL_isDone 659 = .ok (.bipush 40, 2) := by decide +kernel
theorem dL_isDone_661 : decode cL_isDone 661 = .ok (.irem, 1) := by decide +kernel
theorem dL_isDone_662 : decode cL_isDone 662 = .ok (.iadd, 1) := by decide +kernel
theorem dL_isDone_663 : decode cL_isDone 663 = .ok (.iload 6, 2) := by decide +kernel
theorem dL_isDone_665 : decode cL_isDone 665 = .ok (.bipush 9, 2) := by decide +kernel
theorem dL_isDone_667 : decode cL_isDone 667 = .ok (.irem, 1) := by decide +kernel
theorem dL_isDone_668 : decode cL_isDone 668 = .ok (.invokevirtual 225, 3) := by decide +kernel
theorem dL_isDone_671 : decode cL_isDone 671 = .ok (.iload 8, 2) := by decide +kernel
theorem dL_isDone_673 : decode cL_isDone 673 = .ok (.if_icmp .ne 7, 3) := by decide +kernel
theorem dL_isDone_676 : decode cL_isDone 676 = .ok (.iconst 1, 1) := by decide +kernel
theorem dL_isDone_677 : decode cL_isDone 677 = .ok (.goto 4, 3) := by decide +kernel
theorem dL_isDone_680 : decode cL_isDone 680 = .ok (.iconst 0, 1) := by decide +kernel
theorem dL_isDone_681 : decode cL_isDone 681 = .ok (.ireturn, 1) := by decide +kernel
theorem dL_law_0 : decode cL_law 0 = .ok (.new 9, 3) := by decide +kernel
theorem dL_law_3 : decode cL_law 3 = .ok (.dup, 1) := by decide +kernel
theorem dL_law_4 : decode cL_law 4 = .ok (.invokespecial 228, 3) := by decide +kernel
theorem dL_law_7 : decode cL_law 7 = .ok (.astore_n 1, 1) := by decide +kernel
theorem dL_law_8 : decode cL_law 8 = .ok (.aload_n 1, 1) := by decide +kernel
theorem dL_law_9 : decode cL_law 9 = .ok (.invokestatic 229, 3) := by decide +kernel
theorem dL_law_12 : decode cL_law 12 = .ok (.ifCond .eq 23, 3) := by decide +kernel
theorem dL_law_15 : decode cL_law 15 = .ok (.aload_n 1, 1) := by decide +kernel
theorem dL_law_16 : decode cL_law 16 = .ok (.invokevirtual 133, 3) := by decide +kernel
theorem dL_law_19 : decode cL_law 19 = .ok (.iconst 1, 1) := by decide +kernel
theorem dL_law_20 : decode cL_law 20 = .ok (.if_icmp .ne 15, 3) := by decide +kernel
theorem dL_law_23 : decode cL_law 23 = .ok (.aload_n 1, 1) := by decide +kernel
theorem dL_law_24 : decode cL_law 24 = .ok (.invokevirtual 127, 3) := by decide +kernel
theorem dL_law_27 : decode cL_law 27 = .ok (.iconst (-1), 1) := by decide +kernel
theorem dL_law_28 : decode cL_law 28 = .ok (.if_icmp .ne 7, 3) := by decide +kernel
theorem dL_law_31 : decode cL_law 31 = .ok (.iconst 1, 1) := by decide +kernel
theorem dL_law_32 : decode cL_law 32 = .ok (.goto 4, 3) := by decide +kernel
theorem dL_law_35 : decode cL_law 35 = .ok (.iconst 0, 1) := by decide +kernel
theorem dL_law_36 : decode cL_law 36 = .ok (.istore_n 2, 1) := by decide +kernel
theorem dL_law_37 : decode cL_law 37 = .ok (.iconst 0, 1) := by decide +kernel
theorem dL_law_38 : decode cL_law 38 = .ok (.istore_n 3, 1) := by decide +kernel
theorem dL_law_39 : decode cL_law 39 = .ok (.iload_n 3, 1) := by decide +kernel
theorem dL_law_40 : decode cL_law 40 = .ok (.bipush 64, 2) := by decide +kernel
theorem dL_law_42 : decode cL_law 42 = .ok (.if_icmp .ge 44, 3) := by decide +kernel
theorem dL_law_45 : decode cL_law 45 = .ok (.iload_n 2, 1) := by decide +kernel
theorem dL_law_46 : decode cL_law 46 = .ok (.ifCond .eq 40, 3) := by decide +kernel
theorem dL_law_49 : decode cL_law 49 = .ok (.aload_n 1, 1) := by decide +kernel
theorem dL_law_50 : decode cL_law 50 = .ok (.aload_n 0, 1) := by decide +kernel
theorem dL_law_51 : decode cL_law 51 = .ok (.iconst 4, 1) := by decide +kernel
theorem dL_law_52 : decode cL_law 52 = .ok (.iload_n 3, 1) := by decide +kernel
theorem dL_law_53 : decode cL_law 53 = .ok (.imul, 1) := by decide +kernel
theorem dL_law_54 : decode cL_law 54 = .ok (.invokestatic 233, 3) := by decide +kernel
theorem dL_law_57 : decode cL_law 57 = .ok (.ifCond .eq 21, 3) := by decide +kernel
theorem dL_law_60 : decode cL_law 60 = .ok (.iload_n 3, 1) := by decide +kernel
theorem dL_law_61 : decode cL_law 61 = .ok (.iconst 4, 1) := by decide +kernel
theorem dL_law_62 : decode cL_law 62 = .ok (.irem, 1) := by decide +kernel
theorem dL_law_63 : decode cL_law 63 = .ok (.iconst 3, 1) := by decide +kernel
theorem dL_law_64 : decode cL_law 64 = .ok (.if_icmp .lt 10, 3) := by decide +kernel
theorem dL_law_67 : decode cL_law 67 = .ok (.aload_n 1, 1) := by decide +kernel
theorem dL_law_68 : decode cL_law 68 = .ok (.invokestatic 229, 3) := by decide +kernel
theorem dL_law_71 : decode cL_law 71 = .ok (.ifCond .eq 7, 3) := by decide +kernel
theorem dL_law_74 : decode cL_law 74 = .ok (.iconst 1, 1) := by decide +kernel
theorem dL_law_75 : decode cL_law 75 = .ok (.goto 4, 3) := by decide +kernel
theorem dL_law_78 : decode cL_law 78 = .ok (.iconst 0, 1) := by decide +kernel
theorem dL_law_79 : decode cL_law 79 = .ok (.istore_n 2, 1) := by decide +kernel
theorem dL_law_80 : decode cL_law 80 = .ok (.iinc 3 1, 3) := by decide +kernel
theorem dL_law_83 : decode cL_law 83 = .ok (.goto (-44), 3) := by decide +kernel
theorem dL_law_86 : decode cL_law 86 = .ok (.iload_n 2, 1) := by decide +kernel
theorem dL_law_87 : decode cL_law 87 = .ok (.ifCond .eq 110, 3) := by decide +kernel
theorem dL_law_90 : decode cL_law 90 = .ok (.aload_n 1, 1) := by decide +kernel
theorem dL_law_91 : decode cL_law 91 = .ok (.iconst 0, 1) := by decide +kernel
theorem dL_law_92 : decode cL_law 92 = .ok (.invokestatic 143, 3) := by decide +kernel
theorem dL_law_95 : decode cL_law 95 = .ok (.bipush (-30), 2) := by decide +kernel
theorem dL_law_97 : decode cL_law 97 = .ok (.if_icmp .ne 100, 3) := by decide +kernel
theorem dL_law_100 : decode cL_law 100 = .ok (.aload_n 1, 1) := by decide +kernel
theorem dL_law_101 : decode cL_law 101 = .ok (.bipush 41, 2) := by decide +kernel
theorem dL_law_103 : decode cL_law 103 = .ok (.invokestatic 219, 3) := by decide +kernel
theorem dL_law_106 : decode cL_law 106 = .ok (.bipush (-30), 2) := by decide +kernel
theorem dL_law_108 : decode cL_law 108 = .ok (.if_icmp .ne 89, 3) := by decide +kernel
theorem dL_law_111 : decode cL_law 111 = .ok (.aload_n 1, 1) := by decide +kernel
theorem dL_law_112 : decode cL_law 112 = .ok (.iconst 1, 1) := by decide +kernel
theorem dL_law_113 : decode cL_law 113 = .ok (.invokestatic 219, 3) := by decide +kernel
theorem dL_law_116 : decode cL_law 116 = .ok (.bipush (-10), 2) := by decide +kernel
theorem dL_law_118 : decode cL_law 118 = .ok (.if_icmp .ne 79, 3) := by decide +kernel
theorem dL_law_121 : decode cL_law 121 = .ok (.aload_n 1, 1) := by decide +kernel
theorem dL_law_122 : decode cL_law 122 = .ok (.bipush 41, 2) := by decide +kernel
theorem dL_law_124 : decode cL_law 124 = .ok (.sipush 256, 3) := by decide +kernel
theorem dL_law_127 : decode cL_law 127 = .ok (.invokestatic 146, 3) := by decide +kernel
theorem dL_law_130 : decode cL_law 130 = .ok (.bipush (-30), 2) := by decide +kernel
theorem dL_law_132 : decode cL_law 132 = .ok (.if_icmp .ne 65, 3) := by decide +kernel
theorem dL_law_135 : decode cL_law 135 = .ok (.aload_n 1, 1) := by decide +kernel
theorem dL_law_136 : decode cL_law 136 = .ok (.iconst 1, 1) := by decide +kernel
theorem dL_law_137 : decode cL_law 137 = .ok (.iconst (-1), 1) := by decide +kernel
theorem dL_law_138 : decode cL_law 138 = .ok (.invokestatic 146, 3) := by decide +kernel
theorem dL_law_141 : decode cL_law 141 = .ok (.bipush (-20), 2) := by decide +kernel
theorem dL_law_143 : decode cL_law 143 = .ok (.if_icmp .ne 54, 3) := by decide +kernel
theorem dL_law_146 : decode cL_law 146 = .ok (.aload_n 1, 1) := by decide +kernel
theorem dL_law_147 : decode cL_law 147 = .ok (.iconst 1, 1) := by decide +kernel
theorem dL_law_148 : decode cL_law 148 = .ok (.iconst 0, 1) := by decide +kernel
theorem dL_law_149 : decode cL_law 149 = .ok (.invokestatic 146, 3) := by decide +kernel
theorem dL_law_152 : decode cL_law 152 = .ok (.bipush (-10), 2) := by decide +kernel
theorem dL_law_154 : decode cL_law 154 = .ok (.if_icmp .ne 43, 3) := by decide +kernel
theorem dL_law_157 : decode cL_law 157 = .ok (.aload_n 1, 1) := by decide +kernel
theorem dL_law_158 : decode cL_law 158 = .ok (.iconst 1, 1) := by decide +kernel
theorem dL_law_159 : decode cL_law 159 = .ok (.iconst 1, 1) := by decide +kernel
theorem dL_law_160 : decode cL_law 160 = .ok (.invokestatic 149, 3) := by decide +kernel
theorem dL_law_163 : decode cL_law 163 = .ok (.bipush (-10), 2) := by decide +kernel
theorem dL_law_165 : decode cL_law 165 = .ok (.if_icmp .ne 32, 3) := by decide +kernel
theorem dL_law_168 : decode cL_law 168 = .ok (.aload_n 1, 1) := by decide +kernel
theorem dL_law_169 : decode cL_law 169 = .ok (.iconst 1, 1) := by decide +kernel
theorem dL_law_170 : decode cL_law 170 = .ok (.iconst 0, 1) := by decide +kernel
theorem dL_law_171 : decode cL_law 171 = .ok (.iconst 1, 1) := by decide +kernel
theorem dL_law_172 : decode cL_law 172 = .ok (.invokestatic 153, 3) := by decide +kernel
theorem dL_law_175 : decode cL_law 175 = .ok (.bipush (-20), 2) := by decide +kernel
theorem dL_law_177 : decode cL_law 177 = .ok (.if_icmp .ne 20, 3) := by decide +kernel
theorem dL_law_180 : decode cL_law 180 = .ok (.aload_n 1, 1) := by decide +kernel
theorem dL_law_181 : decode cL_law 181 = .ok (.bipush 41, 2) := by decide +kernel
theorem dL_law_183 : decode cL_law 183 = .ok (.iconst 0, 1) := by decide +kernel
theorem dL_law_184 : decode cL_law 184 = .ok (.iconst 1, 1) := by decide +kernel
theorem dL_law_185 : decode cL_law 185 = .ok (.invokestatic 153, 3) := by decide +kernel
theorem dL_law_188 : decode cL_law 188 = .ok (.bipush (-30), 2) := by decide +kernel
theorem dL_law_190 : decode cL_law 190 = .ok (.if_icmp .ne 7, 3) := by decide +kernel
theorem dL_law_193 : decode cL_law 193 = .ok (.iconst 1, 1) := by decide +kernel
theorem dL_law_194 : decode cL_law 194 = .ok (.goto 4, 3) := by decide +kernel
theorem dL_law_197 : decode cL_law 197 = .ok (.iconst 0, 1) := by decide +kernel
theorem dL_law_198 : decode cL_law 198 = .ok (.istore_n 2, 1) := by decide +kernel
theorem dL_law_199 : decode cL_law 199 = .ok (.iload_n 2, 1) := by decide +kernel
theorem dL_law_200 : decode cL_law 200 = .ok (.ifCond .eq 140, 3) := by decide +kernel
theorem dL_law_203 : decode cL_law 203 = .ok (.aload_n 1, 1) := by decide +kernel
theorem dL_law_204 : decode cL_law 204 = .ok (.bipush 41, 2) := by decide +kernel
theorem dL_law_206 : decode cL_law 206 = .ok (.bipush 9, 2) := by decide +kernel
theorem dL_law_208 : decode cL_law 208 = .ok (.iconst 3, 1) := by decide +kernel
theorem dL_law_209 : decode cL_law 209 = .ok (.invokestatic 213, 3) := by decide +kernel
theorem dL_law_212 : decode cL_law 212 = .ok (.bipush (-30), 2) := by decide +kernel
theorem dL_law_214 : decode cL_law 214 = .ok (.if_icmp .ne 126, 3) := by decide +kernel
theorem dL_law_217 : decode cL_law 217 = .ok (.aload_n 1, 1) := by decide +kernel
theorem dL_law_218 : decode cL_law 218 = .ok (.iconst 1, 1) := by decide +kernel
theorem dL_law_219 : decode cL_law 219 = .ok (.bipush 9, 2) := by decide +kernel
theorem dL_law_221 : decode cL_law 221 = .ok (.iconst 0, 1) := by decide +kernel
theorem dL_law_222 : decode cL_law 222 = .ok (.invokestatic 213, 3) := by decide +kernel
theorem dL_law_225 : decode cL_law 225 = .ok (.bipush (-20), 2) := by decide +kernel
theorem dL_law_227 : decode cL_law 227 = .ok (.if_icmp .ne 113, 3) := by decide +kernel
theorem dL_law_230 : decode cL_law 230 = .ok (.aload_n 1, 1) := by decide +kernel
theorem dL_law_231 : decode cL_law 231 = .ok (.iconst 1, 1) := by decide +kernel
theorem dL_law_232 : decode cL_law 232 = .ok (.sipush 512, 3) := by decide +kernel
theorem dL_law_235 : decode cL_law 235 = .ok (.invokestatic 216, 3) := by decide +kernel
theorem dL_law_238 : decode cL_law 238 = .ok (.bipush (-20), 2) := by decide +kernel
theorem dL_law_240 : decode cL_law 240 = .ok (.if_icmp .ne 100, 3) := by decide +kernel
theorem dL_law_243 : decode cL_law 243 = .ok (.aload_n 1, 1) := by decide +kernel
theorem dL_law_244 : decode cL_law 244 = .ok (.iconst 1, 1) := by decide +kernel
theorem dL_law_245 : decode cL_law 245 = .ok (.iconst 0, 1) := by decide +kernel
theorem dL_law_246 : decode cL_law 246 = .ok (.invokestatic 216, 3) := by decide +kernel
theorem dL_law_249 : decode cL_law 249 = .ok (.bipush (-10), 2) := by decide +kernel
theorem dL_law_251 : decode cL_law 251 = .ok (.if_icmp .ne 89, 3) := by decide +kernel
theorem dL_law_254 : decode cL_law 254 = .ok (.aload_n 1, 1) := by decide +kernel
theorem dL_law_255 : decode cL_law 255 = .ok (.iconst 1, 1) := by decide +kernel
theorem dL_law_256 : decode cL_law 256 = .ok (.invokestatic 164, 3) := by decide +kernel
theorem dL_law_259 : decode cL_law 259 = .ok (.bipush (-10), 2) := by decide +kernel
theorem dL_law_261 : decode cL_law 261 = .ok (.if_icmp .ne 79, 3) := by decide +kernel
theorem dL_law_264 : decode cL_law 264 = .ok (.aload_n 1, 1) := by decide +kernel
theorem dL_law_265 : decode cL_law 265 = .ok (.iconst 1, 1) := by decide +kernel
theorem dL_law_266 : decode cL_law 266 = .ok (.bipush 41, 2) := by decide +kernel
theorem dL_law_268 : decode cL_law 268 = .ok (.iconst 0, 1) := by decide +kernel
theorem dL_law_269 : decode cL_law 269 = .ok (.invokestatic 160, 3) := by decide +kernel
theorem dL_law_272 : decode cL_law 272 = .ok (.bipush (-30), 2) := by decide +kernel
theorem dL_law_274 : decode cL_law 274 = .ok (.if_icmp .ne 66, 3) := by decide +kernel
theorem dL_law_277 : decode cL_law 277 = .ok (.aload_n 1, 1) := by decide +kernel
theorem dL_law_278 : decode cL_law 278 = .ok (.iconst 1, 1) := by decide +kernel
theorem dL_law_279 : decode cL_law 279 = .ok (.iconst 1, 1) := by decide +kernel
theorem dL_law_280 : decode cL_law 280 = .ok (.iconst 0, 1) := by decide +kernel
theorem dL_law_281 : decode cL_law 281 = .ok (.invokestatic 160, 3) := by decide +kernel
theorem dL_law_284 : decode cL_law 284 = .ok (.bipush (-20), 2) := by decide +kernel
theorem dL_law_286 : decode cL_law 286 = .ok (.if_icmp .ne 54, 3) := by decide +kernel
theorem dL_law_289 : decode cL_law 289 = .ok (.aload_n 1, 1) := by decide +kernel
theorem dL_law_290 : decode cL_law 290 = .ok (.iconst 1, 1) := by decide +kernel
theorem dL_law_291 : decode cL_law 291 = .ok (.invokestatic 167, 3) := by decide +kernel
theorem dL_law_294 : decode cL_law 294 = .ok (.bipush (-10), 2) := by decide +kernel
theorem dL_law_296 : decode cL_law 296 = .ok (.if_icmp .ne 44, 3) := by decide +kernel
theorem dL_law_299 : decode cL_law 299 = .ok (.aload_n 1, 1) := by decide +kernel
theorem dL_law_300 : decode cL_law 300 = .ok (.iconst 1, 1) := by decide +kernel
theorem dL_law_301 : decode cL_law 301 = .ok (.bipush 41, 2) := by decide +kernel
theorem dL_law_303 : decode cL_law 303 = .ok (.invokestatic 170, 3) := by decide +kernel
theorem dL_law_306 : decode cL_law 306 = .ok (.bipush (-20), 2) := by decide +kernel
theorem dL_law_308 : decode cL_law 308 = .ok (.if_icmp .ne 32, 3) := by decide +kernel
theorem dL_law_311 : decode cL_law 311 = .ok (.aload_n 1, 1) := by decide +kernel
theorem dL_law_312 : decode cL_law 312 = .ok (.iconst 1, 1) := by decide +kernel
theorem dL_law_313 : decode cL_law 313 = .ok (.bipush 9, 2) := by decide +kernel
theorem dL_law_315 : decode cL_law 315 = .ok (.invokestatic 157, 3) := by decide +kernel
theorem dL_law_318 : decode cL_law 318 = .ok (.bipush (-20), 2) := by decide +kernel
theorem dL_law_320 : decode cL_law 320 = .ok (.if_icmp .ne 20, 3) := by decide +kernel
theorem dL_law_323 : decode cL_law 323 = .ok (.aload_n 1, 1) := by decide +kernel
theorem dL_law_324 : decode cL_law 324 = .ok (.bipush 41, 2) := by decide +kernel
theorem dL_law_326 : decode cL_law 326 = .ok (.bipush 9, 2) := by decide +kernel
theorem dL_law_328 : decode cL_law 328 = .ok (.invokestatic 157, 3) := by decide +kernel
theorem dL_law_331 : decode cL_law 331 = .ok (.bipush (-30), 2) := by decide +kernel
theorem dL_law_333 : decode cL_law 333 = .ok (.if_icmp .ne 7, 3) := by decide +kernel
theorem dL_law_336 : decode cL_law 336 = .ok (.iconst 1, 1) := by decide +kernel
theorem dL_law_337 : decode cL_law 337 = .ok (.goto 4, 3) := by decide +kernel
theorem dL_law_340 : decode cL_law 340 = .ok (.iconst 0, 1) := by decide +kernel
theorem dL_law_341 : decode cL_law 341 = .ok (.istore_n 2, 1) := by decide +kernel
theorem dL_law_342 : decode cL_law 342 = .ok (.iload_n 2, 1) := by decide +kernel
theorem dL_law_343 : decode cL_law 343 = .ok (.ifCond .eq 14, 3) := by decide +kernel
theorem dL_law_346 : decode cL_law 346 = .ok (.aload_n 1, 1) := by decide +kernel
theorem dL_law_347 : decode cL_law 347 = .ok (.invokestatic 229, 3) := by decide +kernel
theorem dL_law_350 : decode cL_law 350 = .ok (.ifCond .eq 7, 3) := by decide +kernel
theorem dL_law_353 : decode cL_law 353 = .ok (.iconst 1, 1) := by decide +kernel
theorem dL_law_354 : decode cL_law 354 = .ok (.goto 4, 3) := by decide +kernel
theorem dL_law_357 : decode cL_law 357 = .ok (.iconst 0, 1) := by decide +kernel
theorem dL_law_358 : decode cL_law 358 = .ok (.ireturn, 1) := by decide +kernel

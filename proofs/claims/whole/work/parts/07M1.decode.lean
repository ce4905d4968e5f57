theorem de_M_part0_299 : decode am_M_part0.2.1 299 = .ok (.getfield 125, 3) := by decide +kernel
theorem de_M_part0_302 : decode am_M_part0.2.1 302 = .ok (.iconst 1, 1) := by decide +kernel
theorem de_M_part0_303 : decode am_M_part0.2.1 303 = .ok (.iadd, 1) := by decide +kernel
theorem de_M_part0_304 : decode am_M_part0.2.1 304 = .ok (.putfield 125, 3) := by decide +kernel
theorem de_M_part0_307 : decode am_M_part0.2.1 307 = .ok (.aload_n 0, 1) := by decide +kernel
theorem de_M_part0_308 : decode am_M_part0.2.1 308 = .ok (.bipush (97), 2) := by decide +kernel
theorem de_M_part0_310 : decode am_M_part0.2.1 310 = .ok (.invokevirtual 151, 3) := by decide +kernel
theorem de_M_part0_313 : decode am_M_part0.2.1 313 = .ok (.ifCond .eq (38), 3) := by decide +kernel
theorem de_M_part0_316 : decode am_M_part0.2.1 316 = .ok (.aload_n 0, 1) := by decide +kernel
theorem de_M_part0_317 : decode am_M_part0.2.1 317 = .ok (.bipush (107), 2) := by decide +kernel
theorem de_M_part0_319 : decode am_M_part0.2.1 319 = .ok (.invokevirtual 151, 3) := by decide +kernel
theorem de_M_part0_322 : decode am_M_part0.2.1 322 = .ok (.ifCond .eq (29), 3) := by decide +kernel
theorem de_M_part0_325 : decode am_M_part0.2.1 325 = .ok (.aload_n 0, 1) := by decide +kernel
theorem de_M_part0_326 : decode am_M_part0.2.1 326 = .ok (.bipush (101), 2) := by decide +kernel
theorem de_M_part0_328 : decode am_M_part0.2.1 328 = .ok (.invokevirtual 151, 3) := by decide +kernel
theorem de_M_part0_331 : decode am_M_part0.2.1 331 = .ok (.ifCond .eq (20), 3) := by decide +kernel
theorem de_M_part0_334 : decode am_M_part0.2.1 334 = .ok (.aload_n 0, 1) := by decide +kernel
theorem de_M_part0_335 : decode am_M_part0.2.1 335 = .ok (.sipush (128), 3) := by decide +kernel
theorem de_M_part0_338 : decode am_M_part0.2.1 338 = .ok (.sipush (128), 3) := by decide +kernel
theorem de_M_part0_341 : decode am_M_part0.2.1 341 = .ok (.invokevirtual 154, 3) := by decide +kernel
theorem de_M_part0_344 : decode am_M_part0.2.1 344 = .ok (.ifCond .eq (7), 3) := by decide +kernel
theorem de_M_part0_347 : decode am_M_part0.2.1 347 = .ok (.iconst 1, 1) := by decide +kernel
theorem de_M_part0_348 : decode am_M_part0.2.1 348 = .ok (.goto (4), 3) := by decide +kernel
theorem de_M_part0_351 : decode am_M_part0.2.1 351 = .ok (.iconst 0, 1) := by decide +kernel
theorem de_M_part0_352 : decode am_M_part0.2.1 352 = .ok (.ireturn, 1) := by decide +kernel
theorem de_M_part0_353 : decode am_M_part0.2.1 353 = .ok (.aload_n 0, 1) := by decide +kernel
theorem de_M_part0_354 : decode am_M_part0.2.1 354 = .ok (.getfield 125, 3) := by decide +kernel
theorem de_M_part0_357 : decode am_M_part0.2.1 357 = .ok (.aload_n 0, 1) := by decide +kernel
theorem de_M_part0_358 : decode am_M_part0.2.1 358 = .ok (.getfield 128, 3) := by decide +kernel
theorem de_M_part0_361 : decode am_M_part0.2.1 361 = .ok (.if_icmp .ge (65), 3) := by decide +kernel
theorem de_M_part0_364 : decode am_M_part0.2.1 364 = .ok (.iload_n 1, 1) := by decide +kernel
theorem de_M_part0_365 : decode am_M_part0.2.1 365 = .ok (.bipush (109), 2) := by decide +kernel
theorem de_M_part0_367 : decode am_M_part0.2.1 367 = .ok (.if_icmp .ne (59), 3) := by decide +kernel
theorem de_M_part0_370 : decode am_M_part0.2.1 370 = .ok (.aload_n 0, 1) := by decide +kernel
theorem de_M_part0_371 : decode am_M_part0.2.1 371 = .ok (.dup, 1) := by decide +kernel
theorem de_M_part0_372 : decode am_M_part0.2.1 372 = .ok (.getfield 125, 3) := by decide +kernel
theorem de_M_part0_375 : decode am_M_part0.2.1 375 = .ok (.iconst 1, 1) := by decide +kernel
theorem de_M_part0_376 : decode am_M_part0.2.1 376 = .ok (.iadd, 1) := by decide +kernel
theorem de_M_part0_377 : decode am_M_part0.2.1 377 = .ok (.putfield 125, 3) := by decide +kernel
theorem de_M_part0_380 : decode am_M_part0.2.1 380 = .ok (.aload_n 0, 1) := by decide +kernel
theorem de_M_part0_381 : decode am_M_part0.2.1 381 = .ok (.bipush (117), 2) := by decide +kernel
theorem de_M_part0_383 : decode am_M_part0.2.1 383 = .ok (.invokevirtual 151, 3) := by decide +kernel
theorem de_M_part0_386 : decode am_M_part0.2.1 386 = .ok (.ifCond .eq (38), 3) := by decide +kernel
theorem de_M_part0_389 : decode am_M_part0.2.1 389 = .ok (.aload_n 0, 1) := by decide +kernel
theorem de_M_part0_390 : decode am_M_part0.2.1 390 = .ok (.bipush (115), 2) := by decide +kernel
theorem de_M_part0_392 : decode am_M_part0.2.1 392 = .ok (.invokevirtual 151, 3) := by decide +kernel
theorem de_M_part0_395 : decode am_M_part0.2.1 395 = .ok (.ifCond .eq (29), 3) := by decide +kernel
theorem de_M_part0_398 : decode am_M_part0.2.1 398 = .ok (.aload_n 0, 1) := by decide +kernel
theorem de_M_part0_399 : decode am_M_part0.2.1 399 = .ok (.bipush (116), 2) := by decide +kernel
theorem de_M_part0_401 : decode am_M_part0.2.1 401 = .ok (.invokevirtual 151, 3) := by decide +kernel
theorem de_M_part0_404 : decode am_M_part0.2.1 404 = .ok (.ifCond .eq (20), 3) := by decide +kernel
theorem de_M_part0_407 : decode am_M_part0.2.1 407 = .ok (.aload_n 0, 1) := by decide +kernel
theorem de_M_part0_408 : decode am_M_part0.2.1 408 = .ok (.sipush (256), 3) := by decide +kernel
theorem de_M_part0_411 : decode am_M_part0.2.1 411 = .ok (.sipush (256), 3) := by decide +kernel
theorem de_M_part0_414 : decode am_M_part0.2.1 414 = .ok (.invokevirtual 154, 3) := by decide +kernel
theorem de_M_part0_417 : decode am_M_part0.2.1 417 = .ok (.ifCond .eq (7), 3) := by decide +kernel
theorem de_M_part0_420 : decode am_M_part0.2.1 420 = .ok (.iconst 1, 1) := by decide +kernel
theorem de_M_part0_421 : decode am_M_part0.2.1 421 = .ok (.goto (4), 3) := by decide +kernel
theorem de_M_part0_424 : decode am_M_part0.2.1 424 = .ok (.iconst 0, 1) := by decide +kernel
theorem de_M_part0_425 : decode am_M_part0.2.1 425 = .ok (.ireturn, 1) := by decide +kernel
theorem de_M_part0_426 : decode am_M_part0.2.1 426 = .ok (.aload_n 0, 1) := by decide +kernel
theorem de_M_part0_427 : decode am_M_part0.2.1 427 = .ok (.getfield 125, 3) := by decide +kernel
theorem de_M_part0_430 : decode am_M_part0.2.1 430 = .ok (.aload_n 0, 1) := by decide +kernel
theorem de_M_part0_431 : decode am_M_part0.2.1 431 = .ok (.getfield 128, 3) := by decide +kernel
theorem de_M_part0_434 : decode am_M_part0.2.1 434 = .ok (.if_icmp .ge (192), 3) := by decide +kernel
theorem de_M_part0_437 : decode am_M_part0.2.1 437 = .ok (.iload_n 1, 1) := by decide +kernel
theorem de_M_part0_438 : decode am_M_part0.2.1 438 = .ok (.bipush (101), 2) := by decide +kernel
theorem de_M_part0_440 : decode am_M_part0.2.1 440 = .ok (.if_icmp .ne (186), 3) := by decide +kernel
theorem de_M_part0_443 : decode am_M_part0.2.1 443 = .ok (.aload_n 0, 1) := by decide +kernel
theorem de_M_part0_444 : decode am_M_part0.2.1 444 = .ok (.dup, 1) := by decide +kernel
theorem de_M_part0_445 : decode am_M_part0.2.1 445 = .ok (.getfield 125, 3) := by decide +kernel
theorem de_M_part0_448 : decode am_M_part0.2.1 448 = .ok (.iconst 1, 1) := by decide +kernel
theorem de_M_part0_449 : decode am_M_part0.2.1 449 = .ok (.iadd, 1) := by decide +kernel
theorem de_M_part0_450 : decode am_M_part0.2.1 450 = .ok (.putfield 125, 3) := by decide +kernel
theorem de_M_part0_453 : decode am_M_part0.2.1 453 = .ok (.aload_n 0, 1) := by decide +kernel
theorem de_M_part0_454 : decode am_M_part0.2.1 454 = .ok (.bipush (110), 2) := by decide +kernel
theorem de_M_part0_456 : decode am_M_part0.2.1 456 = .ok (.invokevirtual 151, 3) := by decide +kernel
theorem de_M_part0_459 : decode am_M_part0.2.1 459 = .ok (.ifCond .eq (21), 3) := by decide +kernel
theorem de_M_part0_462 : decode am_M_part0.2.1 462 = .ok (.aload_n 0, 1) := by decide +kernel
theorem de_M_part0_463 : decode am_M_part0.2.1 463 = .ok (.bipush (100), 2) := by decide +kernel
theorem de_M_part0_465 : decode am_M_part0.2.1 465 = .ok (.invokevirtual 151, 3) := by decide +kernel
theorem de_M_part0_468 : decode am_M_part0.2.1 468 = .ok (.ifCond .eq (12), 3) := by decide +kernel
theorem de_M_part0_471 : decode am_M_part0.2.1 471 = .ok (.aload_n 0, 1) := by decide +kernel
theorem de_M_part0_472 : decode am_M_part0.2.1 472 = .ok (.bipush (32), 2) := by decide +kernel
theorem de_M_part0_474 : decode am_M_part0.2.1 474 = .ok (.invokevirtual 151, 3) := by decide +kernel
theorem de_M_part0_477 : decode am_M_part0.2.1 477 = .ok (.ifCond .ne (5), 3) := by decide +kernel
theorem de_M_part0_480 : decode am_M_part0.2.1 480 = .ok (.iconst 0, 1) := by decide +kernel
theorem de_M_part0_481 : decode am_M_part0.2.1 481 = .ok (.ireturn, 1) := by decide +kernel
theorem de_M_part0_482 : decode am_M_part0.2.1 482 = .ok (.aload_n 0, 1) := by decide +kernel
theorem de_M_part0_483 : decode am_M_part0.2.1 483 = .ok (.getfield 125, 3) := by decide +kernel
theorem de_M_part0_486 : decode am_M_part0.2.1 486 = .ok (.aload_n 0, 1) := by decide +kernel
theorem de_M_part0_487 : decode am_M_part0.2.1 487 = .ok (.getfield 128, 3) := by decide +kernel
theorem de_M_part0_490 : decode am_M_part0.2.1 490 = .ok (.if_icmp .ge (68), 3) := by decide +kernel
theorem de_M_part0_493 : decode am_M_part0.2.1 493 = .ok (.aload_n 0, 1) := by decide +kernel
theorem de_M_part0_494 : decode am_M_part0.2.1 494 = .ok (.invokevirtual 141, 3) := by decide +kernel
theorem de_M_part0_497 : decode am_M_part0.2.1 497 = .ok (.bipush (110), 2) := by decide +kernel
theorem de_M_part0_499 : decode am_M_part0.2.1 499 = .ok (.if_icmp .ne (59), 3) := by decide +kernel
theorem de_M_part0_502 : decode am_M_part0.2.1 502 = .ok (.aload_n 0, 1) := by decide +kernel
theorem de_M_part0_503 : decode am_M_part0.2.1 503 = .ok (.dup, 1) := by decide +kernel
theorem de_M_part0_504 : decode am_M_part0.2.1 504 = .ok (.getfield 125, 3) := by decide +kernel
theorem de_M_part0_507 : decode am_M_part0.2.1 507 = .ok (.iconst 1, 1) := by decide +kernel
theorem de_M_part0_508 : decode am_M_part0.2.1 508 = .ok (.iadd, 1) := by decide +kernel
theorem de_M_part0_509 : decode am_M_part0.2.1 509 = .ok (.putfield 125, 3) := by decide +kernel
theorem de_M_part0_512 : decode am_M_part0.2.1 512 = .ok (.aload_n 0, 1) := by decide +kernel
theorem de_M_part0_513 : decode am_M_part0.2.1 513 = .ok (.bipush (111), 2) := by decide +kernel
theorem de_M_part0_515 : decode am_M_part0.2.1 515 = .ok (.invokevirtual 151, 3) := by decide +kernel
theorem de_M_part0_518 : decode am_M_part0.2.1 518 = .ok (.ifCond .eq (38), 3) := by decide +kernel
theorem de_M_part0_521 : decode am_M_part0.2.1 521 = .ok (.aload_n 0, 1) := by decide +kernel
theorem de_M_part0_522 : decode am_M_part0.2.1 522 = .ok (.bipush (110), 2) := by decide +kernel
theorem de_M_part0_524 : decode am_M_part0.2.1 524 = .ok (.invokevirtual 151, 3) := by decide +kernel
theorem de_M_part0_527 : decode am_M_part0.2.1 527 = .ok (.ifCond .eq (29), 3) := by decide +kernel
theorem de_M_part0_530 : decode am_M_part0.2.1 530 = .ok (.aload_n 0, 1) := by decide +kernel
theorem de_M_part0_531 : decode am_M_part0.2.1 531 = .ok (.bipush (101), 2) := by decide +kernel
theorem de_M_part0_533 : decode am_M_part0.2.1 533 = .ok (.invokevirtual 151, 3) := by decide +kernel
theorem de_M_part0_536 : decode am_M_part0.2.1 536 = .ok (.ifCond .eq (20), 3) := by decide +kernel
theorem de_M_part0_539 : decode am_M_part0.2.1 539 = .ok (.aload_n 0, 1) := by decide +kernel
theorem de_M_part0_540 : decode am_M_part0.2.1 540 = .ok (.sipush (512), 3) := by decide +kernel
theorem de_M_part0_543 : decode am_M_part0.2.1 543 = .ok (.sipush (512), 3) := by decide +kernel
theorem de_M_part0_546 : decode am_M_part0.2.1 546 = .ok (.invokevirtual 154, 3) := by decide +kernel
theorem de_M_part0_549 : decode am_M_part0.2.1 549 = .ok (.ifCond .eq (7), 3) := by decide +kernel
theorem de_M_part0_552 : decode am_M_part0.2.1 552 = .ok (.iconst 1, 1) := by decide +kernel
theorem de_M_part0_553 : decode am_M_part0.2.1 553 = .ok (.goto (4), 3) := by decide +kernel
theorem de_M_part0_556 : decode am_M_part0.2.1 556 = .ok (.iconst 0, 1) := by decide +kernel
theorem de_M_part0_557 : decode am_M_part0.2.1 557 = .ok (.ireturn, 1) := by decide +kernel
theorem de_M_part0_558 : decode am_M_part0.2.1 558 = .ok (.aload_n 0, 1) := by decide +kernel
theorem de_M_part0_559 : decode am_M_part0.2.1 559 = .ok (.getfield 125, 3) := by decide +kernel
theorem de_M_part0_562 : decode am_M_part0.2.1 562 = .ok (.aload_n 0, 1) := by decide +kernel
theorem de_M_part0_563 : decode am_M_part0.2.1 563 = .ok (.getfield 128, 3) := by decide +kernel
theorem de_M_part0_566 : decode am_M_part0.2.1 566 = .ok (.if_icmp .ge (21), 3) := by decide +kernel
theorem de_M_part0_569 : decode am_M_part0.2.1 569 = .ok (.aload_n 0, 1) := by decide +kernel
theorem de_M_part0_570 : decode am_M_part0.2.1 570 = .ok (.invokevirtual 141, 3) := by decide +kernel
theorem de_M_part0_573 : decode am_M_part0.2.1 573 = .ok (.bipush (49), 2) := by decide +kernel
theorem de_M_part0_575 : decode am_M_part0.2.1 575 = .ok (.if_icmp .lt (12), 3) := by decide +kernel
theorem de_M_part0_578 : decode am_M_part0.2.1 578 = .ok (.aload_n 0, 1) := by decide +kernel
theorem de_M_part0_579 : decode am_M_part0.2.1 579 = .ok (.invokevirtual 141, 3) := by decide +kernel
theorem de_M_part0_582 : decode am_M_part0.2.1 582 = .ok (.bipush (51), 2) := by decide +kernel
theorem de_M_part0_584 : decode am_M_part0.2.1 584 = .ok (.if_icmp .le (12), 3) := by decide +kernel
theorem de_M_part0_587 : decode am_M_part0.2.1 587 = .ok (.aload_n 0, 1) := by decide +kernel
theorem de_M_part0_588 : decode am_M_part0.2.1 588 = .ok (.aload_n 0, 1) := by decide +kernel
theorem de_M_part0_589 : decode am_M_part0.2.1 589 = .ok (.getfield 125, 3) := by decide +kernel
theorem de_M_part0_592 : decode am_M_part0.2.1 592 = .ok (.invokevirtual 145, 3) := by decide +kernel
theorem de_M_part0_595 : decode am_M_part0.2.1 595 = .ok (.ireturn, 1) := by decide +kernel
theorem de_M_part0_596 : decode am_M_part0.2.1 596 = .ok (.aload_n 0, 1) := by decide +kernel
theorem de_M_part0_597 : decode am_M_part0.2.1 597 = .ok (.invokevirtual 141, 3) := by decide +kernel
theorem de_M_part0_600 : decode am_M_part0.2.1 600 = .ok (.bipush (48), 2) := by decide +kernel
theorem de_M_part0_602 : decode am_M_part0.2.1 602 = .ok (.isub, 1) := by decide +kernel
theorem de_M_part0_603 : decode am_M_part0.2.1 603 = .ok (.istore_n 2, 1) := by decide +kernel
theorem de_M_part0_604 : decode am_M_part0.2.1 604 = .ok (.aload_n 0, 1) := by decide +kernel
theorem de_M_part0_605 : decode am_M_part0.2.1 605 = .ok (.dup, 1) := by decide +kernel
theorem de_M_part0_606 : decode am_M_part0.2.1 606 = .ok (.getfield 125, 3) := by decide +kernel
theorem de_M_part0_609 : decode am_M_part0.2.1 609 = .ok (.iconst 1, 1) := by decide +kernel
theorem de_M_part0_610 : decode am_M_part0.2.1 610 = .ok (.iadd, 1) := by decide +kernel
theorem de_M_part0_611 : decode am_M_part0.2.1 611 = .ok (.putfield 125, 3) := by decide +kernel
theorem de_M_part0_614 : decode am_M_part0.2.1 614 = .ok (.aload_n 0, 1) := by decide +kernel
theorem de_M_part0_615 : decode am_M_part0.2.1 615 = .ok (.iload_n 2, 1) := by decide +kernel
theorem de_M_part0_616 : decode am_M_part0.2.1 616 = .ok (.bipush (10), 2) := by decide +kernel
theorem de_M_part0_618 : decode am_M_part0.2.1 618 = .ok (.ishl, 1) := by decide +kernel
theorem de_M_part0_619 : decode am_M_part0.2.1 619 = .ok (.sipush (3072), 3) := by decide +kernel
theorem de_M_part0_622 : decode am_M_part0.2.1 622 = .ok (.invokevirtual 154, 3) := by decide +kernel
theorem de_M_part0_625 : decode am_M_part0.2.1 625 = .ok (.ireturn, 1) := by decide +kernel
theorem de_M_part0_626 : decode am_M_part0.2.1 626 = .ok (.aload_n 0, 1) := by decide +kernel
theorem de_M_part0_627 : decode am_M_part0.2.1 627 = .ok (.aload_n 0, 1) := by decide +kernel
theorem de_M_part0_628 : decode am_M_part0.2.1 628 = .ok (.getfield 125, 3) := by decide +kernel
theorem de_M_part0_631 : decode am_M_part0.2.1 631 = .ok (.invokevirtual 145, 3) := by decide +kernel
theorem de_M_part0_634 : decode am_M_part0.2.1 634 = .ok (.ireturn, 1) := by decide +kernel
theorem de_M_reads_0 : decode am_M_reads.2.1 0 = .ok (.aload_n 0, 1) := by decide +kernel
theorem de_M_reads_1 : decode am_M_reads.2.1 1 = .ok (.iconst 0, 1) := by decide +kernel
theorem de_M_reads_2 : decode am_M_reads.2.1 2 = .ok (.putfield 148, 3) := by decide +kernel
theorem de_M_reads_5 : decode am_M_reads.2.1 5 = .ok (.aload_n 0, 1) := by decide +kernel
theorem de_M_reads_6 : decode am_M_reads.2.1 6 = .ok (.invokevirtual 158, 3) := by decide +kernel
theorem de_M_reads_9 : decode am_M_reads.2.1 9 = .ok (.ifCond .ne (5), 3) := by decide +kernel
theorem de_M_reads_12 : decode am_M_reads.2.1 12 = .ok (.iconst 0, 1) := by decide +kernel
theorem de_M_reads_13 : decode am_M_reads.2.1 13 = .ok (.ireturn, 1) := by decide +kernel
theorem de_M_reads_14 : decode am_M_reads.2.1 14 = .ok (.aload_n 0, 1) := by decide +kernel
theorem de_M_reads_15 : decode am_M_reads.2.1 15 = .ok (.getfield 125, 3) := by decide +kernel
theorem de_M_reads_18 : decode am_M_reads.2.1 18 = .ok (.aload_n 0, 1) := by decide +kernel
theorem de_M_reads_19 : decode am_M_reads.2.1 19 = .ok (.getfield 128, 3) := by decide +kernel
theorem de_M_reads_22 : decode am_M_reads.2.1 22 = .ok (.if_icmp .ge (21), 3) := by decide +kernel
theorem de_M_reads_25 : decode am_M_reads.2.1 25 = .ok (.aload_n 0, 1) := by decide +kernel
theorem de_M_reads_26 : decode am_M_reads.2.1 26 = .ok (.bipush (59), 2) := by decide +kernel
theorem de_M_reads_28 : decode am_M_reads.2.1 28 = .ok (.invokevirtual 151, 3) := by decide +kernel
theorem de_M_reads_31 : decode am_M_reads.2.1 31 = .ok (.ifCond .eq (10), 3) := by decide +kernel
theorem de_M_reads_34 : decode am_M_reads.2.1 34 = .ok (.aload_n 0, 1) := by decide +kernel
theorem de_M_reads_35 : decode am_M_reads.2.1 35 = .ok (.invokevirtual 158, 3) := by decide +kernel
theorem de_M_reads_38 : decode am_M_reads.2.1 38 = .ok (.ifCond .ne (-24), 3) := by decide +kernel
theorem de_M_reads_41 : decode am_M_reads.2.1 41 = .ok (.iconst 0, 1) := by decide +kernel
theorem de_M_reads_42 : decode am_M_reads.2.1 42 = .ok (.ireturn, 1) := by decide +kernel
theorem de_M_reads_43 : decode am_M_reads.2.1 43 = .ok (.iconst 1, 1) := by decide +kernel
theorem de_M_reads_44 : decode am_M_reads.2.1 44 = .ok (.ireturn, 1) := by decide +kernel
theorem de_M_rule_0 : decode am_M_rule.2.1 0 = .ok (.aload_n 0, 1) := by decide +kernel
theorem de_M_rule_1 : decode am_M_rule.2.1 1 = .ok (.iload_n 1, 1) := by decide +kernel
theorem de_M_rule_2 : decode am_M_rule.2.1 2 = .ok (.invokevirtual 162, 3) := by decide +kernel
theorem de_M_rule_5 : decode am_M_rule.2.1 5 = .ok (.istore_n 2, 1) := by decide +kernel
theorem de_M_rule_6 : decode am_M_rule.2.1 6 = .ok (.iload_n 2, 1) := by decide +kernel
theorem de_M_rule_7 : decode am_M_rule.2.1 7 = .ok (.ifCond .eq (9), 3) := by decide +kernel
theorem de_M_rule_10 : decode am_M_rule.2.1 10 = .ok (.aload_n 0, 1) := by decide +kernel
theorem de_M_rule_11 : decode am_M_rule.2.1 11 = .ok (.iload_n 2, 1) := by decide +kernel
theorem de_M_rule_12 : decode am_M_rule.2.1 12 = .ok (.invokevirtual 94, 3) := by decide +kernel
theorem de_M_rule_15 : decode am_M_rule.2.1 15 = .ok (.ireturn, 1) := by decide +kernel
theorem de_M_rule_16 : decode am_M_rule.2.1 16 = .ok (.aload_n 0, 1) := by decide +kernel
theorem de_M_rule_17 : decode am_M_rule.2.1 17 = .ok (.bipush (60), 2) := by decide +kernel
theorem de_M_rule_19 : decode am_M_rule.2.1 19 = .ok (.iload_n 1, 1) := by decide +kernel
theorem de_M_rule_20 : decode am_M_rule.2.1 20 = .ok (.imul, 1) := by decide +kernel
theorem de_M_rule_21 : decode am_M_rule.2.1 21 = .ok (.putfield 131, 3) := by decide +kernel
theorem de_M_rule_24 : decode am_M_rule.2.1 24 = .ok (.aload_n 0, 1) := by decide +kernel
theorem de_M_rule_25 : decode am_M_rule.2.1 25 = .ok (.iconst 0, 1) := by decide +kernel
theorem de_M_rule_26 : decode am_M_rule.2.1 26 = .ok (.putfield 125, 3) := by decide +kernel
theorem de_M_rule_29 : decode am_M_rule.2.1 29 = .ok (.aload_n 0, 1) := by decide +kernel
theorem de_M_rule_30 : decode am_M_rule.2.1 30 = .ok (.aload_n 0, 1) := by decide +kernel
theorem de_M_rule_31 : decode am_M_rule.2.1 31 = .ok (.getfield 41, 3) := by decide +kernel
theorem de_M_rule_34 : decode am_M_rule.2.1 34 = .ok (.iload_n 1, 1) := by decide +kernel
theorem de_M_rule_35 : decode am_M_rule.2.1 35 = .ok (.iaload, 1) := by decide +kernel
theorem de_M_rule_36 : decode am_M_rule.2.1 36 = .ok (.putfield 128, 3) := by decide +kernel
theorem de_M_rule_39 : decode am_M_rule.2.1 39 = .ok (.aload_n 0, 1) := by decide +kernel
theorem de_M_rule_40 : decode am_M_rule.2.1 40 = .ok (.iconst (-1), 1) := by decide +kernel
theorem de_M_rule_41 : decode am_M_rule.2.1 41 = .ok (.putfield 9, 3) := by decide +kernel
theorem de_M_rule_44 : decode am_M_rule.2.1 44 = .ok (.aload_n 0, 1) := by decide +kernel
theorem de_M_rule_45 : decode am_M_rule.2.1 45 = .ok (.invokevirtual 165, 3) := by decide +kernel
theorem de_M_rule_48 : decode am_M_rule.2.1 48 = .ok (.ifCond .ne (18), 3) := by decide +kernel
theorem de_M_rule_51 : decode am_M_rule.2.1 51 = .ok (.aload_n 0, 1) := by decide +kernel
theorem de_M_rule_52 : decode am_M_rule.2.1 52 = .ok (.aload_n 0, 1) := by decide +kernel
theorem de_M_rule_53 : decode am_M_rule.2.1 53 = .ok (.getfield 138, 3) := by decide +kernel
theorem de_M_rule_56 : decode am_M_rule.2.1 56 = .ok (.putfield 9, 3) := by decide +kernel
theorem de_M_rule_59 : decode am_M_rule.2.1 59 = .ok (.aload_n 0, 1) := by decide +kernel
theorem de_M_rule_60 : decode am_M_rule.2.1 60 = .ok (.bipush (-6), 2) := by decide +kernel
theorem de_M_rule_62 : decode am_M_rule.2.1 62 = .ok (.invokevirtual 94, 3) := by decide +kernel
theorem de_M_rule_65 : decode am_M_rule.2.1 65 = .ok (.ireturn, 1) := by decide +kernel
theorem de_M_rule_66 : decode am_M_rule.2.1 66 = .ok (.aload_n 0, 1) := by decide +kernel
theorem de_M_rule_67 : decode am_M_rule.2.1 67 = .ok (.getfield 87, 3) := by decide +kernel
theorem de_M_rule_70 : decode am_M_rule.2.1 70 = .ok (.bipush (8), 2) := by decide +kernel
theorem de_M_rule_72 : decode am_M_rule.2.1 72 = .ok (.if_icmp .ne (10), 3) := by decide +kernel
theorem de_M_rule_75 : decode am_M_rule.2.1 75 = .ok (.aload_n 0, 1) := by decide +kernel
theorem de_M_rule_76 : decode am_M_rule.2.1 76 = .ok (.bipush (-7), 2) := by decide +kernel
theorem de_M_rule_78 : decode am_M_rule.2.1 78 = .ok (.invokevirtual 94, 3) := by decide +kernel
theorem de_M_rule_81 : decode am_M_rule.2.1 81 = .ok (.ireturn, 1) := by decide +kernel
theorem de_M_rule_82 : decode am_M_rule.2.1 82 = .ok (.aload_n 0, 1) := by decide +kernel
theorem de_M_rule_83 : decode am_M_rule.2.1 83 = .ok (.getfield 20, 3) := by decide +kernel
theorem de_M_rule_86 : decode am_M_rule.2.1 86 = .ok (.aload_n 0, 1) := by decide +kernel
theorem de_M_rule_87 : decode am_M_rule.2.1 87 = .ok (.getfield 87, 3) := by decide +kernel
theorem de_M_rule_90 : decode am_M_rule.2.1 90 = .ok (.aload_n 0, 1) := by decide +kernel
theorem de_M_rule_91 : decode am_M_rule.2.1 91 = .ok (.getfield 148, 3) := by decide +kernel
theorem de_M_rule_94 : decode am_M_rule.2.1 94 = .ok (.iastore, 1) := by decide +kernel
theorem de_M_rule_95 : decode am_M_rule.2.1 95 = .ok (.aload_n 0, 1) := by decide +kernel
theorem de_M_rule_96 : decode am_M_rule.2.1 96 = .ok (.dup, 1) := by decide +kernel
theorem de_M_rule_97 : decode am_M_rule.2.1 97 = .ok (.getfield 87, 3) := by decide +kernel
theorem de_M_rule_100 : decode am_M_rule.2.1 100 = .ok (.dup_x1, 1) := by decide +kernel
theorem de_M_rule_101 : decode am_M_rule.2.1 101 = .ok (.iconst 1, 1) := by decide +kernel
theorem de_M_rule_102 : decode am_M_rule.2.1 102 = .ok (.iadd, 1) := by decide +kernel
theorem de_M_rule_103 : decode am_M_rule.2.1 103 = .ok (.putfield 87, 3) := by decide +kernel
theorem de_M_rule_106 : decode am_M_rule.2.1 106 = .ok (.ireturn, 1) := by decide +kernel
theorem de_M_fault_0 : decode am_M_fault.2.1 0 = .ok (.aload_n 0, 1) := by decide +kernel
theorem de_M_fault_1 : decode am_M_fault.2.1 1 = .ok (.getfield 9, 3) := by decide +kernel
theorem de_M_fault_4 : decode am_M_fault.2.1 4 = .ok (.ireturn, 1) := by decide +kernel
theorem de_M_ruleOf_0 : decode am_M_ruleOf.2.1 0 = .ok (.aload_n 0, 1) := by decide +kernel
theorem de_M_ruleOf_1 : decode am_M_ruleOf.2.1 1 = .ok (.iload_n 1, 1) := by decide +kernel
theorem de_M_ruleOf_2 : decode am_M_ruleOf.2.1 2 = .ok (.invokevirtual 98, 3) := by decide +kernel
theorem de_M_ruleOf_5 : decode am_M_ruleOf.2.1 5 = .ok (.ifCond .eq (12), 3) := by decide +kernel
theorem de_M_ruleOf_8 : decode am_M_ruleOf.2.1 8 = .ok (.iload_n 2, 1) := by decide +kernel
theorem de_M_ruleOf_9 : decode am_M_ruleOf.2.1 9 = .ok (.ifCond .lt (8), 3) := by decide +kernel
theorem de_M_ruleOf_12 : decode am_M_ruleOf.2.1 12 = .ok (.iload_n 2, 1) := by decide +kernel
theorem de_M_ruleOf_13 : decode am_M_ruleOf.2.1 13 = .ok (.iconst 2, 1) := by decide +kernel
theorem de_M_ruleOf_14 : decode am_M_ruleOf.2.1 14 = .ok (.if_icmp .le (10), 3) := by decide +kernel
theorem de_M_ruleOf_17 : decode am_M_ruleOf.2.1 17 = .ok (.aload_n 0, 1) := by decide +kernel
theorem de_M_ruleOf_18 : decode am_M_ruleOf.2.1 18 = .ok (.bipush (-5), 2) := by decide +kernel
theorem de_M_ruleOf_20 : decode am_M_ruleOf.2.1 20 = .ok (.invokevirtual 94, 3) := by decide +kernel
theorem de_M_ruleOf_23 : decode am_M_ruleOf.2.1 23 = .ok (.ireturn, 1) := by decide +kernel
theorem de_M_ruleOf_24 : decode am_M_ruleOf.2.1 24 = .ok (.iload_n 2, 1) := by decide +kernel
theorem de_M_ruleOf_25 : decode am_M_ruleOf.2.1 25 = .ok (.ifCond .ne (12), 3) := by decide +kernel
theorem de_M_ruleOf_28 : decode am_M_ruleOf.2.1 28 = .ok (.aload_n 0, 1) := by decide +kernel
theorem de_M_ruleOf_29 : decode am_M_ruleOf.2.1 29 = .ok (.getfield 20, 3) := by decide +kernel
theorem de_M_ruleOf_32 : decode am_M_ruleOf.2.1 32 = .ok (.iload_n 1, 1) := by decide +kernel
theorem de_M_ruleOf_33 : decode am_M_ruleOf.2.1 33 = .ok (.iaload, 1) := by decide +kernel
theorem de_M_ruleOf_34 : decode am_M_ruleOf.2.1 34 = .ok (.goto (31), 3) := by decide +kernel
theorem de_M_ruleOf_37 : decode am_M_ruleOf.2.1 37 = .ok (.iload_n 2, 1) := by decide +kernel
theorem de_M_ruleOf_38 : decode am_M_ruleOf.2.1 38 = .ok (.iconst 1, 1) := by decide +kernel
theorem de_M_ruleOf_39 : decode am_M_ruleOf.2.1 39 = .ok (.if_icmp .ne (16), 3) := by decide +kernel
theorem de_M_ruleOf_42 : decode am_M_ruleOf.2.1 42 = .ok (.aload_n 0, 1) := by decide +kernel
theorem de_M_ruleOf_43 : decode am_M_ruleOf.2.1 43 = .ok (.aload_n 0, 1) := by decide +kernel
theorem de_M_ruleOf_44 : decode am_M_ruleOf.2.1 44 = .ok (.getfield 20, 3) := by decide +kernel
theorem de_M_ruleOf_47 : decode am_M_ruleOf.2.1 47 = .ok (.iload_n 1, 1) := by decide +kernel
theorem de_M_ruleOf_48 : decode am_M_ruleOf.2.1 48 = .ok (.iaload, 1) := by decide +kernel
theorem de_M_ruleOf_49 : decode am_M_ruleOf.2.1 49 = .ok (.invokevirtual 110, 3) := by decide +kernel
theorem de_M_ruleOf_52 : decode am_M_ruleOf.2.1 52 = .ok (.goto (13), 3) := by decide +kernel
theorem de_M_ruleOf_55 : decode am_M_ruleOf.2.1 55 = .ok (.aload_n 0, 1) := by decide +kernel
theorem de_M_ruleOf_56 : decode am_M_ruleOf.2.1 56 = .ok (.aload_n 0, 1) := by decide +kernel
theorem de_M_ruleOf_57 : decode am_M_ruleOf.2.1 57 = .ok (.getfield 20, 3) := by decide +kernel
theorem de_M_ruleOf_60 : decode am_M_ruleOf.2.1 60 = .ok (.iload_n 1, 1) := by decide +kernel
theorem de_M_ruleOf_61 : decode am_M_ruleOf.2.1 61 = .ok (.iaload, 1) := by decide +kernel
theorem de_M_ruleOf_62 : decode am_M_ruleOf.2.1 62 = .ok (.invokevirtual 116, 3) := by decide +kernel
theorem de_M_ruleOf_65 : decode am_M_ruleOf.2.1 65 = .ok (.ireturn, 1) := by decide +kernel
theorem de_M_price_0 : decode am_M_price.2.1 0 = .ok (.aload_n 0, 1) := by decide +kernel
theorem de_M_price_1 : decode am_M_price.2.1 1 = .ok (.iload_n 1, 1) := by decide +kernel
theorem de_M_price_2 : decode am_M_price.2.1 2 = .ok (.invokevirtual 168, 3) := by decide +kernel
theorem de_M_price_5 : decode am_M_price.2.1 5 = .ok (.ifCond .eq (11), 3) := by decide +kernel
theorem de_M_price_8 : decode am_M_price.2.1 8 = .ok (.aload_n 0, 1) := by decide +kernel
theorem de_M_price_9 : decode am_M_price.2.1 9 = .ok (.iload_n 1, 1) := by decide +kernel
theorem de_M_price_10 : decode am_M_price.2.1 10 = .ok (.invokevirtual 116, 3) := by decide +kernel
theorem de_M_price_13 : decode am_M_price.2.1 13 = .ok (.goto (8), 3) := by decide +kernel
theorem de_M_price_16 : decode am_M_price.2.1 16 = .ok (.aload_n 0, 1) := by decide +kernel
theorem de_M_price_17 : decode am_M_price.2.1 17 = .ok (.iconst (-1), 1) := by decide +kernel
theorem de_M_price_18 : decode am_M_price.2.1 18 = .ok (.invokevirtual 94, 3) := by decide +kernel
theorem de_M_price_21 : decode am_M_price.2.1 21 = .ok (.ireturn, 1) := by decide +kernel
theorem de_M_point_0 : decode am_M_point.2.1 0 = .ok (.aload_n 0, 1) := by decide +kernel
theorem de_M_point_1 : decode am_M_point.2.1 1 = .ok (.iload_n 1, 1) := by decide +kernel
theorem de_M_point_2 : decode am_M_point.2.1 2 = .ok (.invokevirtual 119, 3) := by decide +kernel
theorem de_M_point_5 : decode am_M_point.2.1 5 = .ok (.ifCond .ne (9), 3) := by decide +kernel
theorem de_M_point_8 : decode am_M_point.2.1 8 = .ok (.aload_n 0, 1) := by decide +kernel
theorem de_M_point_9 : decode am_M_point.2.1 9 = .ok (.iconst (-1), 1) := by decide +kernel
theorem de_M_point_10 : decode am_M_point.2.1 10 = .ok (.invokevirtual 94, 3) := by decide +kernel
theorem de_M_point_13 : decode am_M_point.2.1 13 = .ok (.ireturn, 1) := by decide +kernel
theorem de_M_point_14 : decode am_M_point.2.1 14 = .ok (.iload_n 2, 1) := by decide +kernel
theorem de_M_point_15 : decode am_M_point.2.1 15 = .ok (.ifCond .lt (8), 3) := by decide +kernel
theorem de_M_point_18 : decode am_M_point.2.1 18 = .ok (.iload_n 2, 1) := by decide +kernel
theorem de_M_point_19 : decode am_M_point.2.1 19 = .ok (.iconst 2, 1) := by decide +kernel
theorem de_M_point_20 : decode am_M_point.2.1 20 = .ok (.if_icmp .le (10), 3) := by decide +kernel
theorem de_M_point_23 : decode am_M_point.2.1 23 = .ok (.aload_n 0, 1) := by decide +kernel
theorem de_M_point_24 : decode am_M_point.2.1 24 = .ok (.bipush (-6), 2) := by decide +kernel
theorem de_M_point_26 : decode am_M_point.2.1 26 = .ok (.invokevirtual 94, 3) := by decide +kernel
theorem de_M_point_29 : decode am_M_point.2.1 29 = .ok (.ireturn, 1) := by decide +kernel
theorem de_M_point_30 : decode am_M_point.2.1 30 = .ok (.aload_n 0, 1) := by decide +kernel
theorem de_M_point_31 : decode am_M_point.2.1 31 = .ok (.getfield 171, 3) := by decide +kernel
theorem de_M_point_34 : decode am_M_point.2.1 34 = .ok (.iload_n 1, 1) := by decide +kernel
theorem de_M_point_35 : decode am_M_point.2.1 35 = .ok (.ishr, 1) := by decide +kernel
theorem de_M_point_36 : decode am_M_point.2.1 36 = .ok (.iconst 1, 1) := by decide +kernel
theorem de_M_point_37 : decode am_M_point.2.1 37 = .ok (.iand, 1) := by decide +kernel
theorem de_M_point_38 : decode am_M_point.2.1 38 = .ok (.iconst 2, 1) := by decide +kernel
theorem de_M_point_39 : decode am_M_point.2.1 39 = .ok (.aload_n 0, 1) := by decide +kernel
theorem de_M_point_40 : decode am_M_point.2.1 40 = .ok (.getfield 174, 3) := by decide +kernel
theorem de_M_point_43 : decode am_M_point.2.1 43 = .ok (.iload_n 1, 1) := by decide +kernel
theorem de_M_point_44 : decode am_M_point.2.1 44 = .ok (.ishr, 1) := by decide +kernel
theorem de_M_point_45 : decode am_M_point.2.1 45 = .ok (.iconst 1, 1) := by decide +kernel
theorem de_M_point_46 : decode am_M_point.2.1 46 = .ok (.iand, 1) := by decide +kernel
theorem de_M_point_47 : decode am_M_point.2.1 47 = .ok (.imul, 1) := by decide +kernel
theorem de_M_point_48 : decode am_M_point.2.1 48 = .ok (.iadd, 1) := by decide +kernel
theorem de_M_point_49 : decode am_M_point.2.1 49 = .ok (.istore_n 3, 1) := by decide +kernel
theorem de_M_point_50 : decode am_M_point.2.1 50 = .ok (.aload_n 0, 1) := by decide +kernel
theorem de_M_point_51 : decode am_M_point.2.1 51 = .ok (.aload_n 0, 1) := by decide +kernel
theorem de_M_point_52 : decode am_M_point.2.1 52 = .ok (.getfield 171, 3) := by decide +kernel
theorem de_M_point_55 : decode am_M_point.2.1 55 = .ok (.iconst 1, 1) := by decide +kernel
theorem de_M_point_56 : decode am_M_point.2.1 56 = .ok (.iload_n 1, 1) := by decide +kernel
theorem de_M_point_57 : decode am_M_point.2.1 57 = .ok (.ishl, 1) := by decide +kernel
theorem de_M_point_58 : decode am_M_point.2.1 58 = .ok (.iconst (-1), 1) := by decide +kernel
theorem de_M_point_59 : decode am_M_point.2.1 59 = .ok (.ixor, 1) := by decide +kernel
theorem de_M_point_60 : decode am_M_point.2.1 60 = .ok (.iand, 1) := by decide +kernel
theorem de_M_point_61 : decode am_M_point.2.1 61 = .ok (.iload_n 2, 1) := by decide +kernel
theorem de_M_point_62 : decode am_M_point.2.1 62 = .ok (.iconst 1, 1) := by decide +kernel
theorem de_M_point_63 : decode am_M_point.2.1 63 = .ok (.if_icmp .ne (9), 3) := by decide +kernel
theorem de_M_point_66 : decode am_M_point.2.1 66 = .ok (.iconst 1, 1) := by decide +kernel
theorem de_M_point_67 : decode am_M_point.2.1 67 = .ok (.iload_n 1, 1) := by decide +kernel
theorem de_M_point_68 : decode am_M_point.2.1 68 = .ok (.ishl, 1) := by decide +kernel
theorem de_M_point_69 : decode am_M_point.2.1 69 = .ok (.goto (4), 3) := by decide +kernel
theorem de_M_point_72 : decode am_M_point.2.1 72 = .ok (.iconst 0, 1) := by decide +kernel
theorem de_M_point_73 : decode am_M_point.2.1 73 = .ok (.ior, 1) := by decide +kernel
theorem de_M_point_74 : decode am_M_point.2.1 74 = .ok (.putfield 171, 3) := by decide +kernel
theorem de_M_point_77 : decode am_M_point.2.1 77 = .ok (.aload_n 0, 1) := by decide +kernel
theorem de_M_point_78 : decode am_M_point.2.1 78 = .ok (.aload_n 0, 1) := by decide +kernel
theorem de_M_point_79 : decode am_M_point.2.1 79 = .ok (.getfield 174, 3) := by decide +kernel
theorem de_M_point_82 : decode am_M_point.2.1 82 = .ok (.iconst 1, 1) := by decide +kernel
theorem de_M_point_83 : decode am_M_point.2.1 83 = .ok (.iload_n 1, 1) := by decide +kernel
theorem de_M_point_84 : decode am_M_point.2.1 84 = .ok (.ishl, 1) := by decide +kernel
theorem de_M_point_85 : decode am_M_point.2.1 85 = .ok (.iconst (-1), 1) := by decide +kernel
theorem de_M_point_86 : decode am_M_point.2.1 86 = .ok (.ixor, 1) := by decide +kernel
theorem de_M_point_87 : decode am_M_point.2.1 87 = .ok (.iand, 1) := by decide +kernel
theorem de_M_point_88 : decode am_M_point.2.1 88 = .ok (.iload_n 2, 1) := by decide +kernel
theorem de_M_point_89 : decode am_M_point.2.1 89 = .ok (.iconst 2, 1) := by decide +kernel
theorem de_M_point_90 : decode am_M_point.2.1 90 = .ok (.if_icmp .ne (9), 3) := by decide +kernel
theorem de_M_point_93 : decode am_M_point.2.1 93 = .ok (.iconst 1, 1) := by decide +kernel
theorem de_M_point_94 : decode am_M_point.2.1 94 = .ok (.iload_n 1, 1) := by decide +kernel
theorem de_M_point_95 : decode am_M_point.2.1 95 = .ok (.ishl, 1) := by decide +kernel
theorem de_M_point_96 : decode am_M_point.2.1 96 = .ok (.goto (4), 3) := by decide +kernel
theorem de_M_point_99 : decode am_M_point.2.1 99 = .ok (.iconst 0, 1) := by decide +kernel
theorem de_M_point_100 : decode am_M_point.2.1 100 = .ok (.ior, 1) := by decide +kernel
theorem de_M_point_101 : decode am_M_point.2.1 101 = .ok (.putfield 174, 3) := by decide +kernel
theorem de_M_point_104 : decode am_M_point.2.1 104 = .ok (.iload_n 3, 1) := by decide +kernel
theorem de_M_point_105 : decode am_M_point.2.1 105 = .ok (.ireturn, 1) := by decide +kernel
theorem de_M_turn_0 : decode am_M_turn.2.1 0 = .ok (.iload_n 1, 1) := by decide +kernel
theorem de_M_turn_1 : decode am_M_turn.2.1 1 = .ok (.ifCond .lt (8), 3) := by decide +kernel
theorem de_M_turn_4 : decode am_M_turn.2.1 4 = .ok (.iload_n 1, 1) := by decide +kernel
theorem de_M_turn_5 : decode am_M_turn.2.1 5 = .ok (.iconst 1, 1) := by decide +kernel
theorem de_M_turn_6 : decode am_M_turn.2.1 6 = .ok (.if_icmp .le (10), 3) := by decide +kernel
theorem de_M_turn_9 : decode am_M_turn.2.1 9 = .ok (.aload_n 0, 1) := by decide +kernel
theorem de_M_turn_10 : decode am_M_turn.2.1 10 = .ok (.bipush (-6), 2) := by decide +kernel
theorem de_M_turn_12 : decode am_M_turn.2.1 12 = .ok (.invokevirtual 94, 3) := by decide +kernel
theorem de_M_turn_15 : decode am_M_turn.2.1 15 = .ok (.ireturn, 1) := by decide +kernel
theorem de_M_turn_16 : decode am_M_turn.2.1 16 = .ok (.aload_n 0, 1) := by decide +kernel
theorem de_M_turn_17 : decode am_M_turn.2.1 17 = .ok (.getfield 177, 3) := by decide +kernel
theorem de_M_turn_20 : decode am_M_turn.2.1 20 = .ok (.istore_n 2, 1) := by decide +kernel
theorem de_M_turn_21 : decode am_M_turn.2.1 21 = .ok (.aload_n 0, 1) := by decide +kernel
theorem de_M_turn_22 : decode am_M_turn.2.1 22 = .ok (.iload_n 1, 1) := by decide +kernel
theorem de_M_turn_23 : decode am_M_turn.2.1 23 = .ok (.putfield 177, 3) := by decide +kernel
theorem de_M_turn_26 : decode am_M_turn.2.1 26 = .ok (.iload_n 2, 1) := by decide +kernel
theorem de_M_turn_27 : decode am_M_turn.2.1 27 = .ok (.ireturn, 1) := by decide +kernel
theorem de_M_stepsFrom_0 : decode am_M_stepsFrom.2.1 0 = .ok (.iconst 0, 1) := by decide +kernel
theorem de_M_stepsFrom_1 : decode am_M_stepsFrom.2.1 1 = .ok (.istore 4, 2) := by decide +kernel
theorem de_M_stepsFrom_3 : decode am_M_stepsFrom.2.1 3 = .ok (.iload_n 1, 1) := by decide +kernel
theorem de_M_stepsFrom_4 : decode am_M_stepsFrom.2.1 4 = .ok (.iconst 1, 1) := by decide +kernel
theorem de_M_stepsFrom_5 : decode am_M_stepsFrom.2.1 5 = .ok (.iand, 1) := by decide +kernel
theorem de_M_stepsFrom_6 : decode am_M_stepsFrom.2.1 6 = .ok (.ifCond .eq (14), 3) := by decide +kernel
theorem de_M_stepsFrom_9 : decode am_M_stepsFrom.2.1 9 = .ok (.iload 4, 2) := by decide +kernel
theorem de_M_stepsFrom_11 : decode am_M_stepsFrom.2.1 11 = .ok (.aload_n 0, 1) := by decide +kernel
theorem de_M_stepsFrom_12 : decode am_M_stepsFrom.2.1 12 = .ok (.getfield 17, 3) := by decide +kernel
theorem de_M_stepsFrom_15 : decode am_M_stepsFrom.2.1 15 = .ok (.iload_n 2, 1) := by decide +kernel
theorem de_M_stepsFrom_16 : decode am_M_stepsFrom.2.1 16 = .ok (.iaload, 1) := by decide +kernel
theorem de_M_stepsFrom_17 : decode am_M_stepsFrom.2.1 17 = .ok (.ior, 1) := by decide +kernel
theorem de_M_stepsFrom_18 : decode am_M_stepsFrom.2.1 18 = .ok (.istore 4, 2) := by decide +kernel
theorem de_M_stepsFrom_20 : decode am_M_stepsFrom.2.1 20 = .ok (.iload_n 1, 1) := by decide +kernel
theorem de_M_stepsFrom_21 : decode am_M_stepsFrom.2.1 21 = .ok (.iconst 2, 1) := by decide +kernel
theorem de_M_stepsFrom_22 : decode am_M_stepsFrom.2.1 22 = .ok (.iand, 1) := by decide +kernel
theorem de_M_stepsFrom_23 : decode am_M_stepsFrom.2.1 23 = .ok (.ifCond .eq (17), 3) := by decide +kernel
theorem de_M_stepsFrom_26 : decode am_M_stepsFrom.2.1 26 = .ok (.iload 4, 2) := by decide +kernel
theorem de_M_stepsFrom_28 : decode am_M_stepsFrom.2.1 28 = .ok (.aload_n 0, 1) := by decide +kernel
theorem de_M_stepsFrom_29 : decode am_M_stepsFrom.2.1 29 = .ok (.getfield 17, 3) := by decide +kernel
theorem de_M_stepsFrom_32 : decode am_M_stepsFrom.2.1 32 = .ok (.bipush (12), 2) := by decide +kernel
theorem de_M_stepsFrom_34 : decode am_M_stepsFrom.2.1 34 = .ok (.iload_n 2, 1) := by decide +kernel
theorem de_M_stepsFrom_35 : decode am_M_stepsFrom.2.1 35 = .ok (.iadd, 1) := by decide +kernel
theorem de_M_stepsFrom_36 : decode am_M_stepsFrom.2.1 36 = .ok (.iaload, 1) := by decide +kernel
theorem de_M_stepsFrom_37 : decode am_M_stepsFrom.2.1 37 = .ok (.ior, 1) := by decide +kernel
theorem de_M_stepsFrom_38 : decode am_M_stepsFrom.2.1 38 = .ok (.istore 4, 2) := by decide +kernel
theorem de_M_stepsFrom_40 : decode am_M_stepsFrom.2.1 40 = .ok (.iload_n 1, 1) := by decide +kernel
theorem de_M_stepsFrom_41 : decode am_M_stepsFrom.2.1 41 = .ok (.iconst 4, 1) := by decide +kernel
theorem de_M_stepsFrom_42 : decode am_M_stepsFrom.2.1 42 = .ok (.iand, 1) := by decide +kernel
theorem de_M_stepsFrom_43 : decode am_M_stepsFrom.2.1 43 = .ok (.ifCond .eq (17), 3) := by decide +kernel
theorem de_M_stepsFrom_46 : decode am_M_stepsFrom.2.1 46 = .ok (.iload 4, 2) := by decide +kernel
theorem de_M_stepsFrom_48 : decode am_M_stepsFrom.2.1 48 = .ok (.aload_n 0, 1) := by decide +kernel
theorem de_M_stepsFrom_49 : decode am_M_stepsFrom.2.1 49 = .ok (.getfield 17, 3) := by decide +kernel
theorem de_M_stepsFrom_52 : decode am_M_stepsFrom.2.1 52 = .ok (.bipush (24), 2) := by decide +kernel
theorem de_M_stepsFrom_54 : decode am_M_stepsFrom.2.1 54 = .ok (.iload_n 2, 1) := by decide +kernel
theorem de_M_stepsFrom_55 : decode am_M_stepsFrom.2.1 55 = .ok (.iadd, 1) := by decide +kernel
theorem de_M_stepsFrom_56 : decode am_M_stepsFrom.2.1 56 = .ok (.iaload, 1) := by decide +kernel
theorem de_M_stepsFrom_57 : decode am_M_stepsFrom.2.1 57 = .ok (.ior, 1) := by decide +kernel
theorem de_M_stepsFrom_58 : decode am_M_stepsFrom.2.1 58 = .ok (.istore 4, 2) := by decide +kernel
theorem de_M_stepsFrom_60 : decode am_M_stepsFrom.2.1 60 = .ok (.iload 4, 2) := by decide +kernel
theorem de_M_stepsFrom_62 : decode am_M_stepsFrom.2.1 62 = .ok (.iload_n 3, 1) := by decide +kernel
theorem de_M_stepsFrom_63 : decode am_M_stepsFrom.2.1 63 = .ok (.iand, 1) := by decide +kernel
theorem de_M_stepsFrom_64 : decode am_M_stepsFrom.2.1 64 = .ok (.ireturn, 1) := by decide +kernel
theorem de_M_jumpsFrom_0 : decode am_M_jumpsFrom.2.1 0 = .ok (.iconst 0, 1) := by decide +kernel
theorem de_M_jumpsFrom_1 : decode am_M_jumpsFrom.2.1 1 = .ok (.istore 5, 2) := by decide +kernel
theorem de_M_jumpsFrom_3 : decode am_M_jumpsFrom.2.1 3 = .ok (.iconst 0, 1) := by decide +kernel
theorem de_M_jumpsFrom_4 : decode am_M_jumpsFrom.2.1 4 = .ok (.istore 6, 2) := by decide +kernel
theorem de_M_jumpsFrom_6 : decode am_M_jumpsFrom.2.1 6 = .ok (.iload 6, 2) := by decide +kernel
theorem de_M_jumpsFrom_8 : decode am_M_jumpsFrom.2.1 8 = .ok (.iconst 3, 1) := by decide +kernel
theorem de_M_jumpsFrom_9 : decode am_M_jumpsFrom.2.1 9 = .ok (.if_icmp .ge (85), 3) := by decide +kernel
theorem de_M_jumpsFrom_12 : decode am_M_jumpsFrom.2.1 12 = .ok (.iload_n 1, 1) := by decide +kernel
theorem de_M_jumpsFrom_13 : decode am_M_jumpsFrom.2.1 13 = .ok (.iconst 3, 1) := by decide +kernel
theorem de_M_jumpsFrom_14 : decode am_M_jumpsFrom.2.1 14 = .ok (.iload 6, 2) := by decide +kernel
theorem de_M_jumpsFrom_16 : decode am_M_jumpsFrom.2.1 16 = .ok (.iadd, 1) := by decide +kernel
theorem de_M_jumpsFrom_17 : decode am_M_jumpsFrom.2.1 17 = .ok (.ishr, 1) := by decide +kernel
theorem de_M_jumpsFrom_18 : decode am_M_jumpsFrom.2.1 18 = .ok (.iconst 1, 1) := by decide +kernel
theorem de_M_jumpsFrom_19 : decode am_M_jumpsFrom.2.1 19 = .ok (.iand, 1) := by decide +kernel
theorem de_M_jumpsFrom_20 : decode am_M_jumpsFrom.2.1 20 = .ok (.ifCond .ne (6), 3) := by decide +kernel
theorem de_M_jumpsFrom_23 : decode am_M_jumpsFrom.2.1 23 = .ok (.goto (65), 3) := by decide +kernel
theorem de_M_jumpsFrom_26 : decode am_M_jumpsFrom.2.1 26 = .ok (.aload_n 0, 1) := by decide +kernel
theorem de_M_jumpsFrom_27 : decode am_M_jumpsFrom.2.1 27 = .ok (.getfield 17, 3) := by decide +kernel
theorem de_M_jumpsFrom_30 : decode am_M_jumpsFrom.2.1 30 = .ok (.bipush (12), 2) := by decide +kernel
theorem de_M_jumpsFrom_32 : decode am_M_jumpsFrom.2.1 32 = .ok (.iload 6, 2) := by decide +kernel
theorem de_M_jumpsFrom_34 : decode am_M_jumpsFrom.2.1 34 = .ok (.imul, 1) := by decide +kernel
theorem de_M_jumpsFrom_35 : decode am_M_jumpsFrom.2.1 35 = .ok (.iload_n 2, 1) := by decide +kernel
theorem de_M_jumpsFrom_36 : decode am_M_jumpsFrom.2.1 36 = .ok (.iadd, 1) := by decide +kernel
theorem de_M_jumpsFrom_37 : decode am_M_jumpsFrom.2.1 37 = .ok (.iaload, 1) := by decide +kernel
theorem de_M_jumpsFrom_38 : decode am_M_jumpsFrom.2.1 38 = .ok (.iload_n 3, 1) := by decide +kernel
theorem de_M_jumpsFrom_39 : decode am_M_jumpsFrom.2.1 39 = .ok (.iand, 1) := by decide +kernel
theorem de_M_jumpsFrom_40 : decode am_M_jumpsFrom.2.1 40 = .ok (.istore 7, 2) := by decide +kernel
theorem de_M_jumpsFrom_42 : decode am_M_jumpsFrom.2.1 42 = .ok (.iconst 0, 1) := by decide +kernel
theorem de_M_jumpsFrom_43 : decode am_M_jumpsFrom.2.1 43 = .ok (.istore 8, 2) := by decide +kernel
theorem de_M_jumpsFrom_45 : decode am_M_jumpsFrom.2.1 45 = .ok (.iload 7, 2) := by decide +kernel
theorem de_M_jumpsFrom_47 : decode am_M_jumpsFrom.2.1 47 = .ok (.iload 8, 2) := by decide +kernel
theorem de_M_jumpsFrom_49 : decode am_M_jumpsFrom.2.1 49 = .ok (.ishr, 1) := by decide +kernel
theorem de_M_jumpsFrom_50 : decode am_M_jumpsFrom.2.1 50 = .ok (.ifCond .eq (38), 3) := by decide +kernel
theorem de_M_jumpsFrom_53 : decode am_M_jumpsFrom.2.1 53 = .ok (.iload 7, 2) := by decide +kernel
theorem de_M_jumpsFrom_55 : decode am_M_jumpsFrom.2.1 55 = .ok (.iload 8, 2) := by decide +kernel
theorem de_M_jumpsFrom_57 : decode am_M_jumpsFrom.2.1 57 = .ok (.ishr, 1) := by decide +kernel
theorem de_M_jumpsFrom_58 : decode am_M_jumpsFrom.2.1 58 = .ok (.iconst 1, 1) := by decide +kernel
theorem de_M_jumpsFrom_59 : decode am_M_jumpsFrom.2.1 59 = .ok (.iand, 1) := by decide +kernel
theorem de_M_jumpsFrom_60 : decode am_M_jumpsFrom.2.1 60 = .ok (.iconst 1, 1) := by decide +kernel
theorem de_M_jumpsFrom_61 : decode am_M_jumpsFrom.2.1 61 = .ok (.if_icmp .ne (21), 3) := by decide +kernel
theorem de_M_jumpsFrom_64 : decode am_M_jumpsFrom.2.1 64 = .ok (.iload 5, 2) := by decide +kernel
theorem de_M_jumpsFrom_66 : decode am_M_jumpsFrom.2.1 66 = .ok (.aload_n 0, 1) := by decide +kernel
theorem de_M_jumpsFrom_67 : decode am_M_jumpsFrom.2.1 67 = .ok (.getfield 17, 3) := by decide +kernel
theorem de_M_jumpsFrom_70 : decode am_M_jumpsFrom.2.1 70 = .ok (.bipush (12), 2) := by decide +kernel
theorem de_M_jumpsFrom_72 : decode am_M_jumpsFrom.2.1 72 = .ok (.iload 6, 2) := by decide +kernel
theorem de_M_jumpsFrom_74 : decode am_M_jumpsFrom.2.1 74 = .ok (.imul, 1) := by decide +kernel
theorem de_M_jumpsFrom_75 : decode am_M_jumpsFrom.2.1 75 = .ok (.iload 8, 2) := by decide +kernel
theorem de_M_jumpsFrom_77 : decode am_M_jumpsFrom.2.1 77 = .ok (.iadd, 1) := by decide +kernel
theorem de_M_jumpsFrom_78 : decode am_M_jumpsFrom.2.1 78 = .ok (.iaload, 1) := by decide +kernel
theorem de_M_jumpsFrom_79 : decode am_M_jumpsFrom.2.1 79 = .ok (.ior, 1) := by decide +kernel
theorem de_M_jumpsFrom_80 : decode am_M_jumpsFrom.2.1 80 = .ok (.istore 5, 2) := by decide +kernel
theorem de_M_jumpsFrom_82 : decode am_M_jumpsFrom.2.1 82 = .ok (.iinc 8 (1), 3) := by decide +kernel
theorem de_M_jumpsFrom_85 : decode am_M_jumpsFrom.2.1 85 = .ok (.goto (-40), 3) := by decide +kernel
theorem de_M_jumpsFrom_88 : decode am_M_jumpsFrom.2.1 88 = .ok (.iinc 6 (1), 3) := by decide +kernel
theorem de_M_jumpsFrom_91 : decode am_M_jumpsFrom.2.1 91 = .ok (.goto (-85), 3) := by decide +kernel
theorem de_M_jumpsFrom_94 : decode am_M_jumpsFrom.2.1 94 = .ok (.iload 5, 2) := by decide +kernel
theorem de_M_jumpsFrom_96 : decode am_M_jumpsFrom.2.1 96 = .ok (.iload 4, 2) := by decide +kernel
theorem de_M_jumpsFrom_98 : decode am_M_jumpsFrom.2.1 98 = .ok (.iand, 1) := by decide +kernel
theorem de_M_jumpsFrom_99 : decode am_M_jumpsFrom.2.1 99 = .ok (.ireturn, 1) := by decide +kernel
theorem de_M_hasJump_0 : decode am_M_hasJump.2.1 0 = .ok (.sipush (4095), 3) := by decide +kernel
theorem de_M_hasJump_3 : decode am_M_hasJump.2.1 3 = .ok (.iload_n 2, 1) := by decide +kernel
theorem de_M_hasJump_4 : decode am_M_hasJump.2.1 4 = .ok (.iload_n 3, 1) := by decide +kernel
theorem de_M_hasJump_5 : decode am_M_hasJump.2.1 5 = .ok (.ior, 1) := by decide +kernel
theorem de_M_hasJump_6 : decode am_M_hasJump.2.1 6 = .ok (.iconst (-1), 1) := by decide +kernel
theorem de_M_hasJump_7 : decode am_M_hasJump.2.1 7 = .ok (.ixor, 1) := by decide +kernel
theorem de_M_hasJump_8 : decode am_M_hasJump.2.1 8 = .ok (.iand, 1) := by decide +kernel
theorem de_M_hasJump_9 : decode am_M_hasJump.2.1 9 = .ok (.istore 4, 2) := by decide +kernel
theorem de_M_hasJump_11 : decode am_M_hasJump.2.1 11 = .ok (.iload_n 1, 1) := by decide +kernel
theorem de_M_hasJump_12 : decode am_M_hasJump.2.1 12 = .ok (.bipush (56), 2) := by decide +kernel
theorem de_M_hasJump_14 : decode am_M_hasJump.2.1 14 = .ok (.iand, 1) := by decide +kernel
theorem de_M_hasJump_15 : decode am_M_hasJump.2.1 15 = .ok (.ifCond .ne (5), 3) := by decide +kernel
theorem de_M_hasJump_18 : decode am_M_hasJump.2.1 18 = .ok (.iconst 0, 1) := by decide +kernel
theorem de_M_hasJump_19 : decode am_M_hasJump.2.1 19 = .ok (.ireturn, 1) := by decide +kernel
theorem de_M_hasJump_20 : decode am_M_hasJump.2.1 20 = .ok (.iconst 0, 1) := by decide +kernel
theorem de_M_hasJump_21 : decode am_M_hasJump.2.1 21 = .ok (.istore 5, 2) := by decide +kernel
theorem de_M_hasJump_23 : decode am_M_hasJump.2.1 23 = .ok (.iload 5, 2) := by decide +kernel
theorem de_M_hasJump_25 : decode am_M_hasJump.2.1 25 = .ok (.bipush (12), 2) := by decide +kernel
theorem de_M_hasJump_27 : decode am_M_hasJump.2.1 27 = .ok (.if_icmp .ge (34), 3) := by decide +kernel
theorem de_M_hasJump_30 : decode am_M_hasJump.2.1 30 = .ok (.iload_n 2, 1) := by decide +kernel
theorem de_M_hasJump_31 : decode am_M_hasJump.2.1 31 = .ok (.iload 5, 2) := by decide +kernel
theorem de_M_hasJump_33 : decode am_M_hasJump.2.1 33 = .ok (.ishr, 1) := by decide +kernel
theorem de_M_hasJump_34 : decode am_M_hasJump.2.1 34 = .ok (.iconst 1, 1) := by decide +kernel
theorem de_M_hasJump_35 : decode am_M_hasJump.2.1 35 = .ok (.iand, 1) := by decide +kernel
theorem de_M_hasJump_36 : decode am_M_hasJump.2.1 36 = .ok (.iconst 1, 1) := by decide +kernel
theorem de_M_hasJump_37 : decode am_M_hasJump.2.1 37 = .ok (.if_icmp .ne (18), 3) := by decide +kernel
theorem de_M_hasJump_40 : decode am_M_hasJump.2.1 40 = .ok (.aload_n 0, 1) := by decide +kernel
theorem de_M_hasJump_41 : decode am_M_hasJump.2.1 41 = .ok (.iload_n 1, 1) := by decide +kernel
theorem de_M_hasJump_42 : decode am_M_hasJump.2.1 42 = .ok (.iload 5, 2) := by decide +kernel
theorem de_M_hasJump_44 : decode am_M_hasJump.2.1 44 = .ok (.iload_n 3, 1) := by decide +kernel
theorem de_M_hasJump_45 : decode am_M_hasJump.2.1 45 = .ok (.iload 4, 2) := by decide +kernel
theorem de_M_hasJump_47 : decode am_M_hasJump.2.1 47 = .ok (.invokevirtual 180, 3) := by decide +kernel
theorem de_M_hasJump_50 : decode am_M_hasJump.2.1 50 = .ok (.ifCond .eq (5), 3) := by decide +kernel
theorem de_M_hasJump_53 : decode am_M_hasJump.2.1 53 = .ok (.iconst 1, 1) := by decide +kernel
theorem de_M_hasJump_54 : decode am_M_hasJump.2.1 54 = .ok (.ireturn, 1) := by decide +kernel
theorem de_M_hasJump_55 : decode am_M_hasJump.2.1 55 = .ok (.iinc 5 (1), 3) := by decide +kernel
theorem de_M_hasJump_58 : decode am_M_hasJump.2.1 58 = .ok (.goto (-35), 3) := by decide +kernel
theorem de_M_hasJump_61 : decode am_M_hasJump.2.1 61 = .ok (.iconst 0, 1) := by decide +kernel
theorem de_M_hasJump_62 : decode am_M_hasJump.2.1 62 = .ok (.ireturn, 1) := by decide +kernel
theorem de_M_hasStep_0 : decode am_M_hasStep.2.1 0 = .ok (.sipush (4095), 3) := by decide +kernel
theorem de_M_hasStep_3 : decode am_M_hasStep.2.1 3 = .ok (.iload_n 2, 1) := by decide +kernel
theorem de_M_hasStep_4 : decode am_M_hasStep.2.1 4 = .ok (.iload_n 3, 1) := by decide +kernel
theorem de_M_hasStep_5 : decode am_M_hasStep.2.1 5 = .ok (.ior, 1) := by decide +kernel
theorem de_M_hasStep_6 : decode am_M_hasStep.2.1 6 = .ok (.iconst (-1), 1) := by decide +kernel
theorem de_M_hasStep_7 : decode am_M_hasStep.2.1 7 = .ok (.ixor, 1) := by decide +kernel
theorem de_M_hasStep_8 : decode am_M_hasStep.2.1 8 = .ok (.iand, 1) := by decide +kernel
theorem de_M_hasStep_9 : decode am_M_hasStep.2.1 9 = .ok (.istore 4, 2) := by decide +kernel
theorem de_M_hasStep_11 : decode am_M_hasStep.2.1 11 = .ok (.iconst 0, 1) := by decide +kernel
theorem de_M_hasStep_12 : decode am_M_hasStep.2.1 12 = .ok (.istore 5, 2) := by decide +kernel
theorem de_M_hasStep_14 : decode am_M_hasStep.2.1 14 = .ok (.iload 5, 2) := by decide +kernel
theorem de_M_hasStep_16 : decode am_M_hasStep.2.1 16 = .ok (.bipush (12), 2) := by decide +kernel
theorem de_M_hasStep_18 : decode am_M_hasStep.2.1 18 = .ok (.if_icmp .ge (33), 3) := by decide +kernel
theorem de_M_hasStep_21 : decode am_M_hasStep.2.1 21 = .ok (.iload_n 2, 1) := by decide +kernel
theorem de_M_hasStep_22 : decode am_M_hasStep.2.1 22 = .ok (.iload 5, 2) := by decide +kernel
theorem de_M_hasStep_24 : decode am_M_hasStep.2.1 24 = .ok (.ishr, 1) := by decide +kernel
theorem de_M_hasStep_25 : decode am_M_hasStep.2.1 25 = .ok (.iconst 1, 1) := by decide +kernel
theorem de_M_hasStep_26 : decode am_M_hasStep.2.1 26 = .ok (.iand, 1) := by decide +kernel
theorem de_M_hasStep_27 : decode am_M_hasStep.2.1 27 = .ok (.iconst 1, 1) := by decide +kernel
theorem de_M_hasStep_28 : decode am_M_hasStep.2.1 28 = .ok (.if_icmp .ne (17), 3) := by decide +kernel
theorem de_M_hasStep_31 : decode am_M_hasStep.2.1 31 = .ok (.aload_n 0, 1) := by decide +kernel
theorem de_M_hasStep_32 : decode am_M_hasStep.2.1 32 = .ok (.iload_n 1, 1) := by decide +kernel
theorem de_M_hasStep_33 : decode am_M_hasStep.2.1 33 = .ok (.iload 5, 2) := by decide +kernel
theorem de_M_hasStep_35 : decode am_M_hasStep.2.1 35 = .ok (.iload 4, 2) := by decide +kernel
theorem de_M_hasStep_37 : decode am_M_hasStep.2.1 37 = .ok (.invokevirtual 184, 3) := by decide +kernel
theorem de_M_hasStep_40 : decode am_M_hasStep.2.1 40 = .ok (.ifCond .eq (5), 3) := by decide +kernel
theorem de_M_hasStep_43 : decode am_M_hasStep.2.1 43 = .ok (.iconst 1, 1) := by decide +kernel
theorem de_M_hasStep_44 : decode am_M_hasStep.2.1 44 = .ok (.ireturn, 1) := by decide +kernel
theorem de_M_hasStep_45 : decode am_M_hasStep.2.1 45 = .ok (.iinc 5 (1), 3) := by decide +kernel
theorem de_M_hasStep_48 : decode am_M_hasStep.2.1 48 = .ok (.goto (-34), 3) := by decide +kernel
theorem de_M_hasStep_51 : decode am_M_hasStep.2.1 51 = .ok (.iconst 0, 1) := by decide +kernel
theorem de_M_hasStep_52 : decode am_M_hasStep.2.1 52 = .ok (.ireturn, 1) := by decide +kernel
theorem de_M_isStill_0 : decode am_M_isStill.2.1 0 = .ok (.iload_n 1, 1) := by decide +kernel
theorem de_M_isStill_1 : decode am_M_isStill.2.1 1 = .ok (.bipush (64), 2) := by decide +kernel
theorem de_M_isStill_3 : decode am_M_isStill.2.1 3 = .ok (.iand, 1) := by decide +kernel
theorem de_M_isStill_4 : decode am_M_isStill.2.1 4 = .ok (.ifCond .eq (12), 3) := by decide +kernel
theorem de_M_isStill_7 : decode am_M_isStill.2.1 7 = .ok (.iload_n 2, 1) := by decide +kernel
theorem de_M_isStill_8 : decode am_M_isStill.2.1 8 = .ok (.iload_n 3, 1) := by decide +kernel
theorem de_M_isStill_9 : decode am_M_isStill.2.1 9 = .ok (.ior, 1) := by decide +kernel
theorem de_M_isStill_10 : decode am_M_isStill.2.1 10 = .ok (.sipush (4095), 3) := by decide +kernel
theorem de_M_isStill_13 : decode am_M_isStill.2.1 13 = .ok (.if_icmp .ne (27), 3) := by decide +kernel
theorem de_M_isStill_16 : decode am_M_isStill.2.1 16 = .ok (.aload_n 0, 1) := by decide +kernel
theorem de_M_isStill_17 : decode am_M_isStill.2.1 17 = .ok (.iload_n 1, 1) := by decide +kernel
theorem de_M_isStill_18 : decode am_M_isStill.2.1 18 = .ok (.iload_n 2, 1) := by decide +kernel
theorem de_M_isStill_19 : decode am_M_isStill.2.1 19 = .ok (.iload_n 3, 1) := by decide +kernel
theorem de_M_isStill_20 : decode am_M_isStill.2.1 20 = .ok (.invokevirtual 188, 3) := by decide +kernel
theorem de_M_isStill_23 : decode am_M_isStill.2.1 23 = .ok (.ifCond .ne (17), 3) := by decide +kernel
theorem de_M_isStill_26 : decode am_M_isStill.2.1 26 = .ok (.aload_n 0, 1) := by decide +kernel
theorem de_M_isStill_27 : decode am_M_isStill.2.1 27 = .ok (.iload_n 1, 1) := by decide +kernel
theorem de_M_isStill_28 : decode am_M_isStill.2.1 28 = .ok (.iload_n 2, 1) := by decide +kernel
theorem de_M_isStill_29 : decode am_M_isStill.2.1 29 = .ok (.iload_n 3, 1) := by decide +kernel
theorem de_M_isStill_30 : decode am_M_isStill.2.1 30 = .ok (.invokevirtual 192, 3) := by decide +kernel
theorem de_M_isStill_33 : decode am_M_isStill.2.1 33 = .ok (.ifCond .ne (7), 3) := by decide +kernel
theorem de_M_isStill_36 : decode am_M_isStill.2.1 36 = .ok (.iconst 1, 1) := by decide +kernel
theorem de_M_isStill_37 : decode am_M_isStill.2.1 37 = .ok (.goto (4), 3) := by decide +kernel
theorem de_M_isStill_40 : decode am_M_isStill.2.1 40 = .ok (.iconst 0, 1) := by decide +kernel
theorem de_M_isStill_41 : decode am_M_isStill.2.1 41 = .ok (.ireturn, 1) := by decide +kernel
theorem de_M_isFew_0 : decode am_M_isFew.2.1 0 = .ok (.aload_n 0, 1) := by decide +kernel
theorem de_M_isFew_1 : decode am_M_isFew.2.1 1 = .ok (.iload_n 1, 1) := by decide +kernel
theorem de_M_isFew_2 : decode am_M_isFew.2.1 2 = .ok (.invokevirtual 104, 3) := by decide +kernel
theorem de_M_isFew_5 : decode am_M_isFew.2.1 5 = .ok (.ifCond .le (20), 3) := by decide +kernel
theorem de_M_isFew_8 : decode am_M_isFew.2.1 8 = .ok (.aload_n 0, 1) := by decide +kernel
theorem de_M_isFew_9 : decode am_M_isFew.2.1 9 = .ok (.iload_n 2, 1) := by decide +kernel
theorem de_M_isFew_10 : decode am_M_isFew.2.1 10 = .ok (.invokevirtual 101, 3) := by decide +kernel
theorem de_M_isFew_13 : decode am_M_isFew.2.1 13 = .ok (.aload_n 0, 1) := by decide +kernel
theorem de_M_isFew_14 : decode am_M_isFew.2.1 14 = .ok (.iload_n 1, 1) := by decide +kernel
theorem de_M_isFew_15 : decode am_M_isFew.2.1 15 = .ok (.invokevirtual 104, 3) := by decide +kernel
theorem de_M_isFew_18 : decode am_M_isFew.2.1 18 = .ok (.if_icmp .ge (7), 3) := by decide +kernel
theorem de_M_isFew_21 : decode am_M_isFew.2.1 21 = .ok (.iconst 1, 1) := by decide +kernel
theorem de_M_isFew_22 : decode am_M_isFew.2.1 22 = .ok (.goto (4), 3) := by decide +kernel
theorem de_M_isFew_25 : decode am_M_isFew.2.1 25 = .ok (.iconst 0, 1) := by decide +kernel
theorem de_M_isFew_26 : decode am_M_isFew.2.1 26 = .ok (.ireturn, 1) := by decide +kernel
theorem de_M_isOver_0 : decode am_M_isOver.2.1 0 = .ok (.aload_n 0, 1) := by decide +kernel
theorem de_M_isOver_1 : decode am_M_isOver.2.1 1 = .ok (.iload_n 1, 1) := by decide +kernel
theorem de_M_isOver_2 : decode am_M_isOver.2.1 2 = .ok (.iload_n 2, 1) := by decide +kernel
theorem de_M_isOver_3 : decode am_M_isOver.2.1 3 = .ok (.invokevirtual 195, 3) := by decide +kernel
theorem de_M_isOver_6 : decode am_M_isOver.2.1 6 = .ok (.ifCond .ne (21), 3) := by decide +kernel
theorem de_M_isOver_9 : decode am_M_isOver.2.1 9 = .ok (.iload_n 1, 1) := by decide +kernel
theorem de_M_isOver_10 : decode am_M_isOver.2.1 10 = .ok (.sipush (512), 3) := by decide +kernel
theorem de_M_isOver_13 : decode am_M_isOver.2.1 13 = .ok (.iand, 1) := by decide +kernel
theorem de_M_isOver_14 : decode am_M_isOver.2.1 14 = .ok (.ifCond .eq (17), 3) := by decide +kernel
theorem de_M_isOver_17 : decode am_M_isOver.2.1 17 = .ok (.aload_n 0, 1) := by decide +kernel
theorem de_M_isOver_18 : decode am_M_isOver.2.1 18 = .ok (.iload_n 1, 1) := by decide +kernel
theorem de_M_isOver_19 : decode am_M_isOver.2.1 19 = .ok (.iload_n 2, 1) := by decide +kernel
theorem de_M_isOver_20 : decode am_M_isOver.2.1 20 = .ok (.iload_n 3, 1) := by decide +kernel
theorem de_M_isOver_21 : decode am_M_isOver.2.1 21 = .ok (.invokevirtual 198, 3) := by decide +kernel
theorem de_M_isOver_24 : decode am_M_isOver.2.1 24 = .ok (.ifCond .eq (7), 3) := by decide +kernel
theorem de_M_isOver_27 : decode am_M_isOver.2.1 27 = .ok (.iconst 1, 1) := by decide +kernel
theorem de_M_isOver_28 : decode am_M_isOver.2.1 28 = .ok (.goto (4), 3) := by decide +kernel
theorem de_M_isOver_31 : decode am_M_isOver.2.1 31 = .ok (.iconst 0, 1) := by decide +kernel
theorem de_M_isOver_32 : decode am_M_isOver.2.1 32 = .ok (.ireturn, 1) := by decide +kernel
theorem de_M_isMove_0 : decode am_M_isMove.2.1 0 = .ok (.iload_n 1, 1) := by decide +kernel
theorem de_M_isMove_1 : decode am_M_isMove.2.1 1 = .ok (.sipush (240), 3) := by decide +kernel
theorem de_M_isMove_4 : decode am_M_isMove.2.1 4 = .ok (.if_icmp .lt (16), 3) := by decide +kernel
theorem de_M_isMove_7 : decode am_M_isMove.2.1 7 = .ok (.iload_n 1, 1) := by decide +kernel
theorem de_M_isMove_8 : decode am_M_isMove.2.1 8 = .ok (.sipush (252), 3) := by decide +kernel
theorem de_M_isMove_11 : decode am_M_isMove.2.1 11 = .ok (.if_icmp .ge (7), 3) := by decide +kernel
theorem de_M_isMove_14 : decode am_M_isMove.2.1 14 = .ok (.iconst 1, 1) := by decide +kernel
theorem de_M_isMove_15 : decode am_M_isMove.2.1 15 = .ok (.goto (4), 3) := by decide +kernel
theorem de_M_isMove_18 : decode am_M_isMove.2.1 18 = .ok (.iconst 0, 1) := by decide +kernel
theorem de_M_isMove_19 : decode am_M_isMove.2.1 19 = .ok (.ireturn, 1) := by decide +kernel
theorem de_M_isMove_20 : decode am_M_isMove.2.1 20 = .ok (.iload_n 1, 1) := by decide +kernel
theorem de_M_isMove_21 : decode am_M_isMove.2.1 21 = .ok (.ifCond .lt (38), 3) := by decide +kernel
theorem de_M_isMove_24 : decode am_M_isMove.2.1 24 = .ok (.aload_n 0, 1) := by decide +kernel
theorem de_M_isMove_25 : decode am_M_isMove.2.1 25 = .ok (.iload_n 1, 1) := by decide +kernel
theorem de_M_isMove_26 : decode am_M_isMove.2.1 26 = .ok (.iconst 4, 1) := by decide +kernel
theorem de_M_isMove_27 : decode am_M_isMove.2.1 27 = .ok (.ishr, 1) := by decide +kernel
theorem de_M_isMove_28 : decode am_M_isMove.2.1 28 = .ok (.invokevirtual 119, 3) := by decide +kernel
theorem de_M_isMove_31 : decode am_M_isMove.2.1 31 = .ok (.ifCond .eq (28), 3) := by decide +kernel
theorem de_M_isMove_34 : decode am_M_isMove.2.1 34 = .ok (.aload_n 0, 1) := by decide +kernel
theorem de_M_isMove_35 : decode am_M_isMove.2.1 35 = .ok (.iload_n 1, 1) := by decide +kernel
theorem de_M_isMove_36 : decode am_M_isMove.2.1 36 = .ok (.bipush (15), 2) := by decide +kernel
theorem de_M_isMove_38 : decode am_M_isMove.2.1 38 = .ok (.iand, 1) := by decide +kernel
theorem de_M_isMove_39 : decode am_M_isMove.2.1 39 = .ok (.invokevirtual 119, 3) := by decide +kernel
theorem de_M_isMove_42 : decode am_M_isMove.2.1 42 = .ok (.ifCond .eq (17), 3) := by decide +kernel
theorem de_M_isMove_45 : decode am_M_isMove.2.1 45 = .ok (.iload_n 1, 1) := by decide +kernel
theorem de_M_isMove_46 : decode am_M_isMove.2.1 46 = .ok (.iconst 4, 1) := by decide +kernel
theorem de_M_isMove_47 : decode am_M_isMove.2.1 47 = .ok (.ishr, 1) := by decide +kernel
theorem de_M_isMove_48 : decode am_M_isMove.2.1 48 = .ok (.iload_n 1, 1) := by decide +kernel
theorem de_M_isMove_49 : decode am_M_isMove.2.1 49 = .ok (.bipush (15), 2) := by decide +kernel
theorem de_M_isMove_51 : decode am_M_isMove.2.1 51 = .ok (.iand, 1) := by decide +kernel
theorem de_M_isMove_52 : decode am_M_isMove.2.1 52 = .ok (.if_icmp .eq (7), 3) := by decide +kernel
theorem de_M_isMove_55 : decode am_M_isMove.2.1 55 = .ok (.iconst 1, 1) := by decide +kernel
theorem de_M_isMove_56 : decode am_M_isMove.2.1 56 = .ok (.goto (4), 3) := by decide +kernel
theorem de_M_isMove_59 : decode am_M_isMove.2.1 59 = .ok (.iconst 0, 1) := by decide +kernel
theorem de_M_isMove_60 : decode am_M_isMove.2.1 60 = .ok (.ireturn, 1) := by decide +kernel
theorem de_M_lawful_0 : decode am_M_lawful.2.1 0 = .ok (.aload_n 0, 1) := by decide +kernel
theorem de_M_lawful_1 : decode am_M_lawful.2.1 1 = .ok (.iload_n 2, 1) := by decide +kernel
theorem de_M_lawful_2 : decode am_M_lawful.2.1 2 = .ok (.invokevirtual 201, 3) := by decide +kernel
theorem de_M_lawful_5 : decode am_M_lawful.2.1 5 = .ok (.ifCond .eq (12), 3) := by decide +kernel
theorem de_M_lawful_8 : decode am_M_lawful.2.1 8 = .ok (.aload_n 0, 1) := by decide +kernel
theorem de_M_lawful_9 : decode am_M_lawful.2.1 9 = .ok (.iload_n 1, 1) := by decide +kernel
theorem de_M_lawful_10 : decode am_M_lawful.2.1 10 = .ok (.iload_n 3, 1) := by decide +kernel
theorem de_M_lawful_11 : decode am_M_lawful.2.1 11 = .ok (.invokevirtual 195, 3) := by decide +kernel
theorem de_M_lawful_14 : decode am_M_lawful.2.1 14 = .ok (.ifCond .eq (5), 3) := by decide +kernel
theorem de_M_lawful_17 : decode am_M_lawful.2.1 17 = .ok (.iconst 0, 1) := by decide +kernel
theorem de_M_lawful_18 : decode am_M_lawful.2.1 18 = .ok (.ireturn, 1) := by decide +kernel
theorem de_M_lawful_19 : decode am_M_lawful.2.1 19 = .ok (.sipush (4095), 3) := by decide +kernel
theorem de_M_lawful_22 : decode am_M_lawful.2.1 22 = .ok (.iload_n 3, 1) := by decide +kernel
theorem de_M_lawful_23 : decode am_M_lawful.2.1 23 = .ok (.iload 4, 2) := by decide +kernel
theorem de_M_lawful_25 : decode am_M_lawful.2.1 25 = .ok (.ior, 1) := by decide +kernel
theorem de_M_lawful_26 : decode am_M_lawful.2.1 26 = .ok (.iconst (-1), 1) := by decide +kernel
theorem de_M_lawful_27 : decode am_M_lawful.2.1 27 = .ok (.ixor, 1) := by decide +kernel
theorem de_M_lawful_28 : decode am_M_lawful.2.1 28 = .ok (.iand, 1) := by decide +kernel
theorem de_M_lawful_29 : decode am_M_lawful.2.1 29 = .ok (.istore 5, 2) := by decide +kernel
theorem de_M_lawful_31 : decode am_M_lawful.2.1 31 = .ok (.iload_n 2, 1) := by decide +kernel
theorem de_M_lawful_32 : decode am_M_lawful.2.1 32 = .ok (.bipush (15), 2) := by decide +kernel
theorem de_M_lawful_34 : decode am_M_lawful.2.1 34 = .ok (.iand, 1) := by decide +kernel
theorem de_M_lawful_35 : decode am_M_lawful.2.1 35 = .ok (.istore 6, 2) := by decide +kernel
theorem de_M_lawful_37 : decode am_M_lawful.2.1 37 = .ok (.iload 5, 2) := by decide +kernel
theorem de_M_lawful_39 : decode am_M_lawful.2.1 39 = .ok (.iload 6, 2) := by decide +kernel
theorem de_M_lawful_41 : decode am_M_lawful.2.1 41 = .ok (.ishr, 1) := by decide +kernel
theorem de_M_lawful_42 : decode am_M_lawful.2.1 42 = .ok (.iconst 1, 1) := by decide +kernel
theorem de_M_lawful_43 : decode am_M_lawful.2.1 43 = .ok (.iand, 1) := by decide +kernel
theorem de_M_lawful_44 : decode am_M_lawful.2.1 44 = .ok (.ifCond .ne (5), 3) := by decide +kernel
theorem de_M_lawful_47 : decode am_M_lawful.2.1 47 = .ok (.iconst 0, 1) := by decide +kernel
theorem de_M_lawful_48 : decode am_M_lawful.2.1 48 = .ok (.ireturn, 1) := by decide +kernel
theorem de_M_lawful_49 : decode am_M_lawful.2.1 49 = .ok (.iload_n 1, 1) := by decide +kernel
theorem de_M_lawful_50 : decode am_M_lawful.2.1 50 = .ok (.sipush (256), 3) := by decide +kernel
theorem de_M_lawful_53 : decode am_M_lawful.2.1 53 = .ok (.iand, 1) := by decide +kernel
theorem de_M_lawful_54 : decode am_M_lawful.2.1 54 = .ok (.ifCond .eq (7), 3) := by decide +kernel
theorem de_M_lawful_57 : decode am_M_lawful.2.1 57 = .ok (.iconst 1, 1) := by decide +kernel
theorem de_M_lawful_58 : decode am_M_lawful.2.1 58 = .ok (.goto (4), 3) := by decide +kernel
theorem de_M_lawful_61 : decode am_M_lawful.2.1 61 = .ok (.iconst 0, 1) := by decide +kernel
theorem de_M_lawful_62 : decode am_M_lawful.2.1 62 = .ok (.istore 7, 2) := by decide +kernel
theorem de_M_lawful_64 : decode am_M_lawful.2.1 64 = .ok (.iload_n 2, 1) := by decide +kernel
theorem de_M_lawful_65 : decode am_M_lawful.2.1 65 = .ok (.sipush (240), 3) := by decide +kernel
theorem de_M_lawful_68 : decode am_M_lawful.2.1 68 = .ok (.if_icmp .lt (32), 3) := by decide +kernel
theorem de_M_lawful_71 : decode am_M_lawful.2.1 71 = .ok (.iload_n 1, 1) := by decide +kernel
theorem de_M_lawful_72 : decode am_M_lawful.2.1 72 = .ok (.bipush (64), 2) := by decide +kernel
theorem de_M_lawful_74 : decode am_M_lawful.2.1 74 = .ok (.iand, 1) := by decide +kernel
theorem de_M_lawful_75 : decode am_M_lawful.2.1 75 = .ok (.ifCond .eq (23), 3) := by decide +kernel
theorem de_M_lawful_78 : decode am_M_lawful.2.1 78 = .ok (.iload 7, 2) := by decide +kernel
theorem de_M_lawful_80 : decode am_M_lawful.2.1 80 = .ok (.ifCond .eq (14), 3) := by decide +kernel
theorem de_M_lawful_83 : decode am_M_lawful.2.1 83 = .ok (.aload_n 0, 1) := by decide +kernel
theorem de_M_lawful_84 : decode am_M_lawful.2.1 84 = .ok (.iload_n 1, 1) := by decide +kernel
theorem de_M_lawful_85 : decode am_M_lawful.2.1 85 = .ok (.iload_n 3, 1) := by decide +kernel
theorem de_M_lawful_86 : decode am_M_lawful.2.1 86 = .ok (.iload 4, 2) := by decide +kernel
theorem de_M_lawful_88 : decode am_M_lawful.2.1 88 = .ok (.invokevirtual 192, 3) := by decide +kernel
theorem de_M_lawful_91 : decode am_M_lawful.2.1 91 = .ok (.ifCond .ne (7), 3) := by decide +kernel
theorem de_M_lawful_94 : decode am_M_lawful.2.1 94 = .ok (.iconst 1, 1) := by decide +kernel
theorem de_M_lawful_95 : decode am_M_lawful.2.1 95 = .ok (.goto (4), 3) := by decide +kernel
theorem de_M_lawful_98 : decode am_M_lawful.2.1 98 = .ok (.iconst 0, 1) := by decide +kernel
theorem de_M_lawful_99 : decode am_M_lawful.2.1 99 = .ok (.ireturn, 1) := by decide +kernel
theorem de_M_lawful_100 : decode am_M_lawful.2.1 100 = .ok (.iload_n 2, 1) := by decide +kernel
theorem de_M_lawful_101 : decode am_M_lawful.2.1 101 = .ok (.iconst 4, 1) := by decide +kernel
theorem de_M_lawful_102 : decode am_M_lawful.2.1 102 = .ok (.ishr, 1) := by decide +kernel
theorem de_M_lawful_103 : decode am_M_lawful.2.1 103 = .ok (.istore 8, 2) := by decide +kernel
theorem de_M_lawful_105 : decode am_M_lawful.2.1 105 = .ok (.iload_n 3, 1) := by decide +kernel
theorem de_M_lawful_106 : decode am_M_lawful.2.1 106 = .ok (.iload 8, 2) := by decide +kernel
theorem de_M_lawful_108 : decode am_M_lawful.2.1 108 = .ok (.ishr, 1) := by decide +kernel
theorem de_M_lawful_109 : decode am_M_lawful.2.1 109 = .ok (.iconst 1, 1) := by decide +kernel
theorem de_M_lawful_110 : decode am_M_lawful.2.1 110 = .ok (.iand, 1) := by decide +kernel
theorem de_M_lawful_111 : decode am_M_lawful.2.1 111 = .ok (.ifCond .ne (5), 3) := by decide +kernel
theorem de_M_lawful_114 : decode am_M_lawful.2.1 114 = .ok (.iconst 0, 1) := by decide +kernel
theorem de_M_lawful_115 : decode am_M_lawful.2.1 115 = .ok (.ireturn, 1) := by decide +kernel
theorem de_M_lawful_116 : decode am_M_lawful.2.1 116 = .ok (.aload_n 0, 1) := by decide +kernel
theorem de_M_lawful_117 : decode am_M_lawful.2.1 117 = .ok (.iload_n 1, 1) := by decide +kernel
theorem de_M_lawful_118 : decode am_M_lawful.2.1 118 = .ok (.iload 8, 2) := by decide +kernel
theorem de_M_lawful_120 : decode am_M_lawful.2.1 120 = .ok (.iload 5, 2) := by decide +kernel
theorem de_M_lawful_122 : decode am_M_lawful.2.1 122 = .ok (.invokevirtual 184, 3) := by decide +kernel
theorem de_M_lawful_125 : decode am_M_lawful.2.1 125 = .ok (.iload 6, 2) := by decide +kernel
theorem de_M_lawful_127 : decode am_M_lawful.2.1 127 = .ok (.ishr, 1) := by decide +kernel
theorem de_M_lawful_128 : decode am_M_lawful.2.1 128 = .ok (.iconst 1, 1) := by decide +kernel
theorem de_M_lawful_129 : decode am_M_lawful.2.1 129 = .ok (.iand, 1) := by decide +kernel
theorem de_M_lawful_130 : decode am_M_lawful.2.1 130 = .ok (.iconst 1, 1) := by decide +kernel
theorem de_M_lawful_131 : decode am_M_lawful.2.1 131 = .ok (.if_icmp .ne (21), 3) := by decide +kernel
theorem de_M_lawful_134 : decode am_M_lawful.2.1 134 = .ok (.iload 7, 2) := by decide +kernel
theorem de_M_lawful_136 : decode am_M_lawful.2.1 136 = .ok (.ifCond .eq (14), 3) := by decide +kernel
theorem de_M_lawful_139 : decode am_M_lawful.2.1 139 = .ok (.aload_n 0, 1) := by decide +kernel
theorem de_M_lawful_140 : decode am_M_lawful.2.1 140 = .ok (.iload_n 1, 1) := by decide +kernel
theorem de_M_lawful_141 : decode am_M_lawful.2.1 141 = .ok (.iload_n 3, 1) := by decide +kernel
theorem de_M_lawful_142 : decode am_M_lawful.2.1 142 = .ok (.iload 4, 2) := by decide +kernel
theorem de_M_lawful_144 : decode am_M_lawful.2.1 144 = .ok (.invokevirtual 192, 3) := by decide +kernel
theorem de_M_lawful_147 : decode am_M_lawful.2.1 147 = .ok (.ifCond .ne (5), 3) := by decide +kernel
theorem de_M_lawful_150 : decode am_M_lawful.2.1 150 = .ok (.iconst 1, 1) := by decide +kernel
theorem de_M_lawful_151 : decode am_M_lawful.2.1 151 = .ok (.ireturn, 1) := by decide +kernel
theorem de_M_lawful_152 : decode am_M_lawful.2.1 152 = .ok (.aload_n 0, 1) := by decide +kernel
theorem de_M_lawful_153 : decode am_M_lawful.2.1 153 = .ok (.iload_n 1, 1) := by decide +kernel
theorem de_M_lawful_154 : decode am_M_lawful.2.1 154 = .ok (.iload 8, 2) := by decide +kernel
theorem de_M_lawful_156 : decode am_M_lawful.2.1 156 = .ok (.iload 4, 2) := by decide +kernel
theorem de_M_lawful_158 : decode am_M_lawful.2.1 158 = .ok (.iload 5, 2) := by decide +kernel
theorem de_M_lawful_160 : decode am_M_lawful.2.1 160 = .ok (.invokevirtual 180, 3) := by decide +kernel
theorem de_M_lawful_163 : decode am_M_lawful.2.1 163 = .ok (.iload 6, 2) := by decide +kernel
theorem de_M_lawful_165 : decode am_M_lawful.2.1 165 = .ok (.ishr, 1) := by decide +kernel
theorem de_M_lawful_166 : decode am_M_lawful.2.1 166 = .ok (.iconst 1, 1) := by decide +kernel
theorem de_M_lawful_167 : decode am_M_lawful.2.1 167 = .ok (.iand, 1) := by decide +kernel
theorem de_M_lawful_168 : decode am_M_lawful.2.1 168 = .ok (.iconst 1, 1) := by decide +kernel
theorem de_M_lawful_169 : decode am_M_lawful.2.1 169 = .ok (.if_icmp .ne (7), 3) := by decide +kernel
theorem de_M_lawful_172 : decode am_M_lawful.2.1 172 = .ok (.iconst 2, 1) := by decide +kernel
theorem de_M_lawful_173 : decode am_M_lawful.2.1 173 = .ok (.goto (4), 3) := by decide +kernel
theorem de_M_lawful_176 : decode am_M_lawful.2.1 176 = .ok (.iconst 0, 1) := by decide +kernel
theorem de_M_lawful_177 : decode am_M_lawful.2.1 177 = .ok (.ireturn, 1) := by decide +kernel
theorem de_M_does_0 : decode am_M_does.2.1 0 = .ok (.aload_n 0, 1) := by decide +kernel
theorem de_M_does_1 : decode am_M_does.2.1 1 = .ok (.iload_n 1, 1) := by decide +kernel
theorem de_M_does_2 : decode am_M_does.2.1 2 = .ok (.iload_n 2, 1) := by decide +kernel
theorem de_M_does_3 : decode am_M_does.2.1 3 = .ok (.iload_n 3, 1) := by decide +kernel
theorem de_M_does_4 : decode am_M_does.2.1 4 = .ok (.iload 4, 2) := by decide +kernel
theorem de_M_does_6 : decode am_M_does.2.1 6 = .ok (.invokevirtual 204, 3) := by decide +kernel
theorem de_M_does_9 : decode am_M_does.2.1 9 = .ok (.istore 5, 2) := by decide +kernel
theorem de_M_does_11 : decode am_M_does.2.1 11 = .ok (.iload_n 2, 1) := by decide +kernel
theorem de_M_does_12 : decode am_M_does.2.1 12 = .ok (.bipush (15), 2) := by decide +kernel
theorem de_M_does_14 : decode am_M_does.2.1 14 = .ok (.iand, 1) := by decide +kernel
theorem de_M_does_15 : decode am_M_does.2.1 15 = .ok (.istore 6, 2) := by decide +kernel
theorem de_M_does_17 : decode am_M_does.2.1 17 = .ok (.iload_n 3, 1) := by decide +kernel
theorem de_M_does_18 : decode am_M_does.2.1 18 = .ok (.istore 7, 2) := by decide +kernel
theorem de_M_does_20 : decode am_M_does.2.1 20 = .ok (.iload 4, 2) := by decide +kernel
theorem de_M_does_22 : decode am_M_does.2.1 22 = .ok (.istore 8, 2) := by decide +kernel
theorem de_M_does_24 : decode am_M_does.2.1 24 = .ok (.iload_n 2, 1) := by decide +kernel
theorem de_M_does_25 : decode am_M_does.2.1 25 = .ok (.sipush (240), 3) := by decide +kernel
theorem de_M_does_28 : decode am_M_does.2.1 28 = .ok (.if_icmp .lt (26), 3) := by decide +kernel
theorem de_M_does_31 : decode am_M_does.2.1 31 = .ok (.iload 7, 2) := by decide +kernel
theorem de_M_does_33 : decode am_M_does.2.1 33 = .ok (.iconst 1, 1) := by decide +kernel
theorem de_M_does_34 : decode am_M_does.2.1 34 = .ok (.iload 6, 2) := by decide +kernel
theorem de_M_does_36 : decode am_M_does.2.1 36 = .ok (.ishl, 1) := by decide +kernel
theorem de_M_does_37 : decode am_M_does.2.1 37 = .ok (.ior, 1) := by decide +kernel
theorem de_M_does_38 : decode am_M_does.2.1 38 = .ok (.istore 7, 2) := by decide +kernel
theorem de_M_does_40 : decode am_M_does.2.1 40 = .ok (.iload 8, 2) := by decide +kernel
theorem de_M_does_42 : decode am_M_does.2.1 42 = .ok (.iconst 1, 1) := by decide +kernel
theorem de_M_does_43 : decode am_M_does.2.1 43 = .ok (.iload 6, 2) := by decide +kernel
theorem de_M_does_45 : decode am_M_does.2.1 45 = .ok (.ishl, 1) := by decide +kernel
theorem de_M_does_46 : decode am_M_does.2.1 46 = .ok (.iconst (-1), 1) := by decide +kernel
theorem de_M_does_47 : decode am_M_does.2.1 47 = .ok (.ixor, 1) := by decide +kernel
theorem de_M_does_48 : decode am_M_does.2.1 48 = .ok (.iand, 1) := by decide +kernel
theorem de_M_does_49 : decode am_M_does.2.1 49 = .ok (.istore 8, 2) := by decide +kernel
theorem de_M_does_51 : decode am_M_does.2.1 51 = .ok (.goto (254), 3) := by decide +kernel
theorem de_M_does_54 : decode am_M_does.2.1 54 = .ok (.iload_n 2, 1) := by decide +kernel
theorem de_M_does_55 : decode am_M_does.2.1 55 = .ok (.iconst 4, 1) := by decide +kernel
theorem de_M_does_56 : decode am_M_does.2.1 56 = .ok (.ishr, 1) := by decide +kernel
theorem de_M_does_57 : decode am_M_does.2.1 57 = .ok (.istore 9, 2) := by decide +kernel
theorem de_M_does_59 : decode am_M_does.2.1 59 = .ok (.iload 7, 2) := by decide +kernel
theorem de_M_does_61 : decode am_M_does.2.1 61 = .ok (.iload 9, 2) := by decide +kernel
theorem de_M_does_63 : decode am_M_does.2.1 63 = .ok (.ishr, 1) := by decide +kernel
theorem de_M_does_64 : decode am_M_does.2.1 64 = .ok (.iconst 1, 1) := by decide +kernel
theorem de_M_does_65 : decode am_M_does.2.1 65 = .ok (.iand, 1) := by decide +kernel
theorem de_M_does_66 : decode am_M_does.2.1 66 = .ok (.iconst 1, 1) := by decide +kernel
theorem de_M_does_67 : decode am_M_does.2.1 67 = .ok (.if_icmp .ne (7), 3) := by decide +kernel
theorem de_M_does_70 : decode am_M_does.2.1 70 = .ok (.iconst 1, 1) := by decide +kernel
theorem de_M_does_71 : decode am_M_does.2.1 71 = .ok (.goto (4), 3) := by decide +kernel
theorem de_M_does_74 : decode am_M_does.2.1 74 = .ok (.iconst 0, 1) := by decide +kernel
theorem de_M_does_75 : decode am_M_does.2.1 75 = .ok (.istore 10, 2) := by decide +kernel
theorem de_M_does_77 : decode am_M_does.2.1 77 = .ok (.iload 8, 2) := by decide +kernel
theorem de_M_does_79 : decode am_M_does.2.1 79 = .ok (.iload 9, 2) := by decide +kernel
theorem de_M_does_81 : decode am_M_does.2.1 81 = .ok (.ishr, 1) := by decide +kernel
theorem de_M_does_82 : decode am_M_does.2.1 82 = .ok (.iconst 1, 1) := by decide +kernel
theorem de_M_does_83 : decode am_M_does.2.1 83 = .ok (.iand, 1) := by decide +kernel
theorem de_M_does_84 : decode am_M_does.2.1 84 = .ok (.iconst 1, 1) := by decide +kernel
theorem de_M_does_85 : decode am_M_does.2.1 85 = .ok (.if_icmp .ne (7), 3) := by decide +kernel
theorem de_M_does_88 : decode am_M_does.2.1 88 = .ok (.iconst 1, 1) := by decide +kernel
theorem de_M_does_89 : decode am_M_does.2.1 89 = .ok (.goto (4), 3) := by decide +kernel
theorem de_M_does_92 : decode am_M_does.2.1 92 = .ok (.iconst 0, 1) := by decide +kernel
theorem de_M_does_93 : decode am_M_does.2.1 93 = .ok (.istore 11, 2) := by decide +kernel
theorem de_M_does_95 : decode am_M_does.2.1 95 = .ok (.iload 7, 2) := by decide +kernel
theorem de_M_does_97 : decode am_M_does.2.1 97 = .ok (.iconst 1, 1) := by decide +kernel
theorem de_M_does_98 : decode am_M_does.2.1 98 = .ok (.iload 9, 2) := by decide +kernel
theorem de_M_does_100 : decode am_M_does.2.1 100 = .ok (.ishl, 1) := by decide +kernel
theorem de_M_does_101 : decode am_M_does.2.1 101 = .ok (.iconst (-1), 1) := by decide +kernel
theorem de_M_does_102 : decode am_M_does.2.1 102 = .ok (.ixor, 1) := by decide +kernel
theorem de_M_does_103 : decode am_M_does.2.1 103 = .ok (.iand, 1) := by decide +kernel
theorem de_M_does_104 : decode am_M_does.2.1 104 = .ok (.iconst 1, 1) := by decide +kernel
theorem de_M_does_105 : decode am_M_does.2.1 105 = .ok (.iload 6, 2) := by decide +kernel
theorem de_M_does_107 : decode am_M_does.2.1 107 = .ok (.ishl, 1) := by decide +kernel
theorem de_M_does_108 : decode am_M_does.2.1 108 = .ok (.iconst (-1), 1) := by decide +kernel
theorem de_M_does_109 : decode am_M_does.2.1 109 = .ok (.ixor, 1) := by decide +kernel
theorem de_M_does_110 : decode am_M_does.2.1 110 = .ok (.iand, 1) := by decide +kernel
theorem de_M_does_111 : decode am_M_does.2.1 111 = .ok (.iload 10, 2) := by decide +kernel
theorem de_M_does_113 : decode am_M_does.2.1 113 = .ok (.ifCond .eq (10), 3) := by decide +kernel
theorem de_M_does_116 : decode am_M_does.2.1 116 = .ok (.iconst 1, 1) := by decide +kernel
theorem de_M_does_117 : decode am_M_does.2.1 117 = .ok (.iload 6, 2) := by decide +kernel
theorem de_M_does_119 : decode am_M_does.2.1 119 = .ok (.ishl, 1) := by decide +kernel
theorem de_M_does_120 : decode am_M_does.2.1 120 = .ok (.goto (4), 3) := by decide +kernel
theorem de_M_does_123 : decode am_M_does.2.1 123 = .ok (.iconst 0, 1) := by decide +kernel
theorem de_M_does_124 : decode am_M_does.2.1 124 = .ok (.ior, 1) := by decide +kernel
theorem de_M_does_125 : decode am_M_does.2.1 125 = .ok (.istore 7, 2) := by decide +kernel
theorem de_M_does_127 : decode am_M_does.2.1 127 = .ok (.iload 8, 2) := by decide +kernel
theorem de_M_does_129 : decode am_M_does.2.1 129 = .ok (.iconst 1, 1) := by decide +kernel
theorem de_M_does_130 : decode am_M_does.2.1 130 = .ok (.iload 9, 2) := by decide +kernel
theorem de_M_does_132 : decode am_M_does.2.1 132 = .ok (.ishl, 1) := by decide +kernel
theorem de_M_does_133 : decode am_M_does.2.1 133 = .ok (.iconst (-1), 1) := by decide +kernel
theorem de_M_does_134 : decode am_M_does.2.1 134 = .ok (.ixor, 1) := by decide +kernel
theorem de_M_does_135 : decode am_M_does.2.1 135 = .ok (.iand, 1) := by decide +kernel
theorem de_M_does_136 : decode am_M_does.2.1 136 = .ok (.iconst 1, 1) := by decide +kernel
theorem de_M_does_137 : decode am_M_does.2.1 137 = .ok (.iload 6, 2) := by decide +kernel
theorem de_M_does_139 : decode am_M_does.2.1 139 = .ok (.ishl, 1) := by decide +kernel
theorem de_M_does_140 : decode am_M_does.2.1 140 = .ok (.iconst (-1), 1) := by decide +kernel
theorem de_M_does_141 : decode am_M_does.2.1 141 = .ok (.ixor, 1) := by decide +kernel
theorem de_M_does_142 : decode am_M_does.2.1 142 = .ok (.iand, 1) := by decide +kernel
theorem de_M_does_143 : decode am_M_does.2.1 143 = .ok (.iload 11, 2) := by decide +kernel
theorem de_M_does_145 : decode am_M_does.2.1 145 = .ok (.ifCond .eq (10), 3) := by decide +kernel
theorem de_M_does_148 : decode am_M_does.2.1 148 = .ok (.iconst 1, 1) := by decide +kernel
theorem de_M_does_149 : decode am_M_does.2.1 149 = .ok (.iload 6, 2) := by decide +kernel
theorem de_M_does_151 : decode am_M_does.2.1 151 = .ok (.ishl, 1) := by decide +kernel
theorem de_M_does_152 : decode am_M_does.2.1 152 = .ok (.goto (4), 3) := by decide +kernel
theorem de_M_does_155 : decode am_M_does.2.1 155 = .ok (.iconst 0, 1) := by decide +kernel
theorem de_M_does_156 : decode am_M_does.2.1 156 = .ok (.ior, 1) := by decide +kernel
theorem de_M_does_157 : decode am_M_does.2.1 157 = .ok (.istore 8, 2) := by decide +kernel
theorem de_M_does_159 : decode am_M_does.2.1 159 = .ok (.iload 5, 2) := by decide +kernel
theorem de_M_does_161 : decode am_M_does.2.1 161 = .ok (.iconst 2, 1) := by decide +kernel
theorem de_M_does_162 : decode am_M_does.2.1 162 = .ok (.if_icmp .ne (143), 3) := by decide +kernel
theorem de_M_does_165 : decode am_M_does.2.1 165 = .ok (.iload_n 1, 1) := by decide +kernel
theorem de_M_does_166 : decode am_M_does.2.1 166 = .ok (.sipush (128), 3) := by decide +kernel
theorem de_M_does_169 : decode am_M_does.2.1 169 = .ok (.iand, 1) := by decide +kernel
theorem de_M_does_170 : decode am_M_does.2.1 170 = .ok (.ifCond .eq (135), 3) := by decide +kernel
theorem de_M_does_173 : decode am_M_does.2.1 173 = .ok (.iconst 0, 1) := by decide +kernel
theorem de_M_does_174 : decode am_M_does.2.1 174 = .ok (.istore 12, 2) := by decide +kernel
theorem de_M_does_176 : decode am_M_does.2.1 176 = .ok (.iload 12, 2) := by decide +kernel
theorem de_M_does_178 : decode am_M_does.2.1 178 = .ok (.bipush (12), 2) := by decide +kernel
theorem de_M_does_180 : decode am_M_does.2.1 180 = .ok (.if_icmp .ge (125), 3) := by decide +kernel
theorem de_M_does_183 : decode am_M_does.2.1 183 = .ok (.iconst 0, 1) := by decide +kernel
theorem de_M_does_184 : decode am_M_does.2.1 184 = .ok (.istore 13, 2) := by decide +kernel
theorem de_M_does_186 : decode am_M_does.2.1 186 = .ok (.iconst 0, 1) := by decide +kernel
theorem de_M_does_187 : decode am_M_does.2.1 187 = .ok (.istore 14, 2) := by decide +kernel
theorem de_M_does_189 : decode am_M_does.2.1 189 = .ok (.iload 14, 2) := by decide +kernel
theorem de_M_does_191 : decode am_M_does.2.1 191 = .ok (.iconst 3, 1) := by decide +kernel
theorem de_M_does_192 : decode am_M_does.2.1 192 = .ok (.if_icmp .ge (88), 3) := by decide +kernel
theorem de_M_does_195 : decode am_M_does.2.1 195 = .ok (.iload 13, 2) := by decide +kernel
theorem de_M_does_197 : decode am_M_does.2.1 197 = .ok (.ifCond .ne (70), 3) := by decide +kernel
theorem de_M_does_200 : decode am_M_does.2.1 200 = .ok (.iload_n 1, 1) := by decide +kernel
theorem de_M_does_201 : decode am_M_does.2.1 201 = .ok (.iconst 3, 1) := by decide +kernel
theorem de_M_does_202 : decode am_M_does.2.1 202 = .ok (.iload 14, 2) := by decide +kernel
theorem de_M_does_204 : decode am_M_does.2.1 204 = .ok (.iadd, 1) := by decide +kernel
theorem de_M_does_205 : decode am_M_does.2.1 205 = .ok (.ishr, 1) := by decide +kernel
theorem de_M_does_206 : decode am_M_does.2.1 206 = .ok (.iconst 1, 1) := by decide +kernel
theorem de_M_does_207 : decode am_M_does.2.1 207 = .ok (.iand, 1) := by decide +kernel
theorem de_M_does_208 : decode am_M_does.2.1 208 = .ok (.iconst 1, 1) := by decide +kernel
theorem de_M_does_209 : decode am_M_does.2.1 209 = .ok (.if_icmp .ne (62), 3) := by decide +kernel
theorem de_M_does_212 : decode am_M_does.2.1 212 = .ok (.iload 4, 2) := by decide +kernel
theorem de_M_does_214 : decode am_M_does.2.1 214 = .ok (.iload 12, 2) := by decide +kernel
theorem de_M_does_216 : decode am_M_does.2.1 216 = .ok (.ishr, 1) := by decide +kernel
theorem de_M_does_217 : decode am_M_does.2.1 217 = .ok (.iconst 1, 1) := by decide +kernel
theorem de_M_does_218 : decode am_M_does.2.1 218 = .ok (.iand, 1) := by decide +kernel
theorem de_M_does_219 : decode am_M_does.2.1 219 = .ok (.iconst 1, 1) := by decide +kernel
theorem de_M_does_220 : decode am_M_does.2.1 220 = .ok (.if_icmp .ne (51), 3) := by decide +kernel
theorem de_M_does_223 : decode am_M_does.2.1 223 = .ok (.aload_n 0, 1) := by decide +kernel
theorem de_M_does_224 : decode am_M_does.2.1 224 = .ok (.getfield 17, 3) := by decide +kernel
theorem de_M_does_227 : decode am_M_does.2.1 227 = .ok (.bipush (12), 2) := by decide +kernel
theorem de_M_does_229 : decode am_M_does.2.1 229 = .ok (.iload 14, 2) := by decide +kernel
theorem de_M_does_231 : decode am_M_does.2.1 231 = .ok (.imul, 1) := by decide +kernel
theorem de_M_does_232 : decode am_M_does.2.1 232 = .ok (.iload 9, 2) := by decide +kernel
theorem de_M_does_234 : decode am_M_does.2.1 234 = .ok (.iadd, 1) := by decide +kernel
theorem de_M_does_235 : decode am_M_does.2.1 235 = .ok (.iaload, 1) := by decide +kernel
theorem de_M_does_236 : decode am_M_does.2.1 236 = .ok (.iload 12, 2) := by decide +kernel
theorem de_M_does_238 : decode am_M_does.2.1 238 = .ok (.ishr, 1) := by decide +kernel
theorem de_M_does_239 : decode am_M_does.2.1 239 = .ok (.iconst 1, 1) := by decide +kernel
theorem de_M_does_240 : decode am_M_does.2.1 240 = .ok (.iand, 1) := by decide +kernel
theorem de_M_does_241 : decode am_M_does.2.1 241 = .ok (.iconst 1, 1) := by decide +kernel
theorem de_M_does_242 : decode am_M_does.2.1 242 = .ok (.if_icmp .ne (29), 3) := by decide +kernel
theorem de_M_does_245 : decode am_M_does.2.1 245 = .ok (.aload_n 0, 1) := by decide +kernel
theorem de_M_does_246 : decode am_M_does.2.1 246 = .ok (.getfield 17, 3) := by decide +kernel
theorem de_M_does_249 : decode am_M_does.2.1 249 = .ok (.bipush (12), 2) := by decide +kernel
theorem de_M_does_251 : decode am_M_does.2.1 251 = .ok (.iload 14, 2) := by decide +kernel
theorem de_M_does_253 : decode am_M_does.2.1 253 = .ok (.imul, 1) := by decide +kernel
theorem de_M_does_254 : decode am_M_does.2.1 254 = .ok (.iload 12, 2) := by decide +kernel
theorem de_M_does_256 : decode am_M_does.2.1 256 = .ok (.iadd, 1) := by decide +kernel
theorem de_M_does_257 : decode am_M_does.2.1 257 = .ok (.iaload, 1) := by decide +kernel
theorem de_M_does_258 : decode am_M_does.2.1 258 = .ok (.iload 6, 2) := by decide +kernel
theorem de_M_does_260 : decode am_M_does.2.1 260 = .ok (.ishr, 1) := by decide +kernel
theorem de_M_does_261 : decode am_M_does.2.1 261 = .ok (.iconst 1, 1) := by decide +kernel
theorem de_M_does_262 : decode am_M_does.2.1 262 = .ok (.iand, 1) := by decide +kernel
theorem de_M_does_263 : decode am_M_does.2.1 263 = .ok (.iconst 1, 1) := by decide +kernel
theorem de_M_does_264 : decode am_M_does.2.1 264 = .ok (.if_icmp .ne (7), 3) := by decide +kernel
theorem de_M_does_267 : decode am_M_does.2.1 267 = .ok (.iconst 1, 1) := by decide +kernel
theorem de_M_does_268 : decode am_M_does.2.1 268 = .ok (.goto (4), 3) := by decide +kernel
theorem de_M_does_271 : decode am_M_does.2.1 271 = .ok (.iconst 0, 1) := by decide +kernel
theorem de_M_does_272 : decode am_M_does.2.1 272 = .ok (.istore 13, 2) := by decide +kernel
theorem de_M_does_274 : decode am_M_does.2.1 274 = .ok (.iinc 14 (1), 3) := by decide +kernel
theorem de_M_does_277 : decode am_M_does.2.1 277 = .ok (.goto (-88), 3) := by decide +kernel
theorem de_M_does_280 : decode am_M_does.2.1 280 = .ok (.iload 13, 2) := by decide +kernel
theorem de_M_does_282 : decode am_M_does.2.1 282 = .ok (.ifCond .eq (17), 3) := by decide +kernel
theorem de_M_does_285 : decode am_M_does.2.1 285 = .ok (.iload 8, 2) := by decide +kernel
theorem de_M_does_287 : decode am_M_does.2.1 287 = .ok (.iconst 1, 1) := by decide +kernel
theorem de_M_does_288 : decode am_M_does.2.1 288 = .ok (.iload 12, 2) := by decide +kernel
theorem de_M_does_290 : decode am_M_does.2.1 290 = .ok (.ishl, 1) := by decide +kernel
theorem de_M_does_291 : decode am_M_does.2.1 291 = .ok (.iconst (-1), 1) := by decide +kernel
theorem de_M_does_292 : decode am_M_does.2.1 292 = .ok (.ixor, 1) := by decide +kernel
theorem de_M_does_293 : decode am_M_does.2.1 293 = .ok (.iand, 1) := by decide +kernel
theorem de_M_does_294 : decode am_M_does.2.1 294 = .ok (.istore 8, 2) := by decide +kernel
theorem de_M_does_296 : decode am_M_does.2.1 296 = .ok (.goto (9), 3) := by decide +kernel
theorem de_M_does_299 : decode am_M_does.2.1 299 = .ok (.iinc 12 (1), 3) := by decide +kernel
theorem de_M_does_302 : decode am_M_does.2.1 302 = .ok (.goto (-126), 3) := by decide +kernel
theorem de_M_does_305 : decode am_M_does.2.1 305 = .ok (.aload_n 0, 1) := by decide +kernel
theorem de_M_does_306 : decode am_M_does.2.1 306 = .ok (.iload 8, 2) := by decide +kernel
theorem de_M_does_308 : decode am_M_does.2.1 308 = .ok (.putfield 207, 3) := by decide +kernel
theorem de_M_does_311 : decode am_M_does.2.1 311 = .ok (.aload_n 0, 1) := by decide +kernel
theorem de_M_does_312 : decode am_M_does.2.1 312 = .ok (.iload 7, 2) := by decide +kernel
theorem de_M_does_314 : decode am_M_does.2.1 314 = .ok (.putfield 210, 3) := by decide +kernel
theorem de_M_does_317 : decode am_M_does.2.1 317 = .ok (.return_, 1) := by decide +kernel
theorem de_M_lists_0 : decode am_M_lists.2.1 0 = .ok (.iconst 0, 1) := by decide +kernel
theorem de_M_lists_1 : decode am_M_lists.2.1 1 = .ok (.istore 5, 2) := by decide +kernel
theorem de_M_lists_3 : decode am_M_lists.2.1 3 = .ok (.sipush (4095), 3) := by decide +kernel
theorem de_M_lists_6 : decode am_M_lists.2.1 6 = .ok (.iload_n 2, 1) := by decide +kernel
theorem de_M_lists_7 : decode am_M_lists.2.1 7 = .ok (.iload_n 3, 1) := by decide +kernel
theorem de_M_lists_8 : decode am_M_lists.2.1 8 = .ok (.ior, 1) := by decide +kernel
theorem de_M_lists_9 : decode am_M_lists.2.1 9 = .ok (.iconst (-1), 1) := by decide +kernel
theorem de_M_lists_10 : decode am_M_lists.2.1 10 = .ok (.ixor, 1) := by decide +kernel
theorem de_M_lists_11 : decode am_M_lists.2.1 11 = .ok (.iand, 1) := by decide +kernel
theorem de_M_lists_12 : decode am_M_lists.2.1 12 = .ok (.istore 6, 2) := by decide +kernel
theorem de_M_lists_14 : decode am_M_lists.2.1 14 = .ok (.aload_n 0, 1) := by decide +kernel
theorem de_M_lists_15 : decode am_M_lists.2.1 15 = .ok (.iload_n 1, 1) := by decide +kernel
theorem de_M_lists_16 : decode am_M_lists.2.1 16 = .ok (.iload_n 2, 1) := by decide +kernel
theorem de_M_lists_17 : decode am_M_lists.2.1 17 = .ok (.invokevirtual 195, 3) := by decide +kernel
theorem de_M_lists_20 : decode am_M_lists.2.1 20 = .ok (.ifCond .eq (5), 3) := by decide +kernel
theorem de_M_lists_23 : decode am_M_lists.2.1 23 = .ok (.iconst 0, 1) := by decide +kernel
theorem de_M_lists_24 : decode am_M_lists.2.1 24 = .ok (.ireturn, 1) := by decide +kernel
theorem de_M_lists_25 : decode am_M_lists.2.1 25 = .ok (.iload_n 1, 1) := by decide +kernel
theorem de_M_lists_26 : decode am_M_lists.2.1 26 = .ok (.sipush (256), 3) := by decide +kernel
theorem de_M_lists_29 : decode am_M_lists.2.1 29 = .ok (.iand, 1) := by decide +kernel
theorem de_M_lists_30 : decode am_M_lists.2.1 30 = .ok (.ifCond .eq (17), 3) := by decide +kernel
theorem de_M_lists_33 : decode am_M_lists.2.1 33 = .ok (.aload_n 0, 1) := by decide +kernel
theorem de_M_lists_34 : decode am_M_lists.2.1 34 = .ok (.iload_n 1, 1) := by decide +kernel
theorem de_M_lists_35 : decode am_M_lists.2.1 35 = .ok (.iload_n 2, 1) := by decide +kernel
theorem de_M_lists_36 : decode am_M_lists.2.1 36 = .ok (.iload_n 3, 1) := by decide +kernel
theorem de_M_lists_37 : decode am_M_lists.2.1 37 = .ok (.invokevirtual 192, 3) := by decide +kernel
theorem de_M_lists_40 : decode am_M_lists.2.1 40 = .ok (.ifCond .eq (7), 3) := by decide +kernel
theorem de_M_lists_43 : decode am_M_lists.2.1 43 = .ok (.iconst 1, 1) := by decide +kernel
theorem de_M_lists_44 : decode am_M_lists.2.1 44 = .ok (.goto (4), 3) := by decide +kernel
theorem de_M_lists_47 : decode am_M_lists.2.1 47 = .ok (.iconst 0, 1) := by decide +kernel
theorem de_M_lists_48 : decode am_M_lists.2.1 48 = .ok (.istore 7, 2) := by decide +kernel
theorem de_M_lists_50 : decode am_M_lists.2.1 50 = .ok (.iconst 0, 1) := by decide +kernel
theorem de_M_lists_51 : decode am_M_lists.2.1 51 = .ok (.istore 8, 2) := by decide +kernel
theorem de_M_lists_53 : decode am_M_lists.2.1 53 = .ok (.iload 8, 2) := by decide +kernel
theorem de_M_lists_55 : decode am_M_lists.2.1 55 = .ok (.bipush (12), 2) := by decide +kernel
theorem de_M_lists_57 : decode am_M_lists.2.1 57 = .ok (.if_icmp .ge (100), 3) := by decide +kernel
theorem de_M_lists_60 : decode am_M_lists.2.1 60 = .ok (.iload_n 2, 1) := by decide +kernel
theorem de_M_lists_61 : decode am_M_lists.2.1 61 = .ok (.iload 8, 2) := by decide +kernel
theorem de_M_lists_63 : decode am_M_lists.2.1 63 = .ok (.ishr, 1) := by decide +kernel
theorem de_M_lists_64 : decode am_M_lists.2.1 64 = .ok (.iconst 1, 1) := by decide +kernel
theorem de_M_lists_65 : decode am_M_lists.2.1 65 = .ok (.iand, 1) := by decide +kernel
theorem de_M_lists_66 : decode am_M_lists.2.1 66 = .ok (.ifCond .ne (6), 3) := by decide +kernel
theorem de_M_lists_69 : decode am_M_lists.2.1 69 = .ok (.goto (82), 3) := by decide +kernel
theorem de_M_lists_72 : decode am_M_lists.2.1 72 = .ok (.aload_n 0, 1) := by decide +kernel
theorem de_M_lists_73 : decode am_M_lists.2.1 73 = .ok (.iload_n 1, 1) := by decide +kernel
theorem de_M_lists_74 : decode am_M_lists.2.1 74 = .ok (.iload 8, 2) := by decide +kernel
theorem de_M_lists_76 : decode am_M_lists.2.1 76 = .ok (.iload_n 3, 1) := by decide +kernel
theorem de_M_lists_77 : decode am_M_lists.2.1 77 = .ok (.iload 6, 2) := by decide +kernel
theorem de_M_lists_79 : decode am_M_lists.2.1 79 = .ok (.invokevirtual 180, 3) := by decide +kernel
theorem de_M_lists_82 : decode am_M_lists.2.1 82 = .ok (.iload 7, 2) := by decide +kernel
theorem de_M_lists_84 : decode am_M_lists.2.1 84 = .ok (.ifCond .eq (7), 3) := by decide +kernel
theorem de_M_lists_87 : decode am_M_lists.2.1 87 = .ok (.iconst 0, 1) := by decide +kernel
theorem de_M_lists_88 : decode am_M_lists.2.1 88 = .ok (.goto (12), 3) := by decide +kernel
theorem de_M_lists_91 : decode am_M_lists.2.1 91 = .ok (.aload_n 0, 1) := by decide +kernel
theorem de_M_lists_92 : decode am_M_lists.2.1 92 = .ok (.iload_n 1, 1) := by decide +kernel
theorem de_M_lists_93 : decode am_M_lists.2.1 93 = .ok (.iload 8, 2) := by decide +kernel
theorem de_M_lists_95 : decode am_M_lists.2.1 95 = .ok (.iload 6, 2) := by decide +kernel
theorem de_M_lists_97 : decode am_M_lists.2.1 97 = .ok (.invokevirtual 184, 3) := by decide +kernel
theorem de_M_lists_100 : decode am_M_lists.2.1 100 = .ok (.ior, 1) := by decide +kernel
theorem de_M_lists_101 : decode am_M_lists.2.1 101 = .ok (.istore 9, 2) := by decide +kernel
theorem de_M_lists_103 : decode am_M_lists.2.1 103 = .ok (.iconst 0, 1) := by decide +kernel
theorem de_M_lists_104 : decode am_M_lists.2.1 104 = .ok (.istore 10, 2) := by decide +kernel
theorem de_M_lists_106 : decode am_M_lists.2.1 106 = .ok (.iload 10, 2) := by decide +kernel
theorem de_M_lists_108 : decode am_M_lists.2.1 108 = .ok (.bipush (12), 2) := by decide +kernel
theorem de_M_lists_110 : decode am_M_lists.2.1 110 = .ok (.if_icmp .ge (41), 3) := by decide +kernel
theorem de_M_lists_113 : decode am_M_lists.2.1 113 = .ok (.iload 9, 2) := by decide +kernel
theorem de_M_lists_115 : decode am_M_lists.2.1 115 = .ok (.iload 10, 2) := by decide +kernel
theorem de_M_lists_117 : decode am_M_lists.2.1 117 = .ok (.ishr, 1) := by decide +kernel
theorem de_M_lists_118 : decode am_M_lists.2.1 118 = .ok (.iconst 1, 1) := by decide +kernel
theorem de_M_lists_119 : decode am_M_lists.2.1 119 = .ok (.iand, 1) := by decide +kernel
theorem de_M_lists_120 : decode am_M_lists.2.1 120 = .ok (.iconst 1, 1) := by decide +kernel
theorem de_M_lists_121 : decode am_M_lists.2.1 121 = .ok (.if_icmp .ne (24), 3) := by decide +kernel
theorem de_M_lists_124 : decode am_M_lists.2.1 124 = .ok (.aload_n 0, 1) := by decide +kernel
theorem de_M_lists_125 : decode am_M_lists.2.1 125 = .ok (.getfield 54, 3) := by decide +kernel
theorem de_M_lists_128 : decode am_M_lists.2.1 128 = .ok (.iload 4, 2) := by decide +kernel
theorem de_M_lists_130 : decode am_M_lists.2.1 130 = .ok (.iload 5, 2) := by decide +kernel
theorem de_M_lists_132 : decode am_M_lists.2.1 132 = .ok (.iinc 5 (1), 3) := by decide +kernel
theorem de_M_lists_135 : decode am_M_lists.2.1 135 = .ok (.iadd, 1) := by decide +kernel
theorem de_M_lists_136 : decode am_M_lists.2.1 136 = .ok (.bipush (16), 2) := by decide +kernel
theorem de_M_lists_138 : decode am_M_lists.2.1 138 = .ok (.iload 8, 2) := by decide +kernel
theorem de_M_lists_140 : decode am_M_lists.2.1 140 = .ok (.imul, 1) := by decide +kernel
theorem de_M_lists_141 : decode am_M_lists.2.1 141 = .ok (.iload 10, 2) := by decide +kernel
theorem de_M_lists_143 : decode am_M_lists.2.1 143 = .ok (.iadd, 1) := by decide +kernel
theorem de_M_lists_144 : decode am_M_lists.2.1 144 = .ok (.iastore, 1) := by decide +kernel
theorem de_M_lists_145 : decode am_M_lists.2.1 145 = .ok (.iinc 10 (1), 3) := by decide +kernel
theorem de_M_lists_148 : decode am_M_lists.2.1 148 = .ok (.goto (-42), 3) := by decide +kernel
theorem de_M_lists_151 : decode am_M_lists.2.1 151 = .ok (.iinc 8 (1), 3) := by decide +kernel
theorem de_M_lists_154 : decode am_M_lists.2.1 154 = .ok (.goto (-101), 3) := by decide +kernel
theorem de_M_lists_157 : decode am_M_lists.2.1 157 = .ok (.iload_n 1, 1) := by decide +kernel
theorem de_M_lists_158 : decode am_M_lists.2.1 158 = .ok (.bipush (64), 2) := by decide +kernel
theorem de_M_lists_160 : decode am_M_lists.2.1 160 = .ok (.iand, 1) := by decide +kernel
theorem de_M_lists_161 : decode am_M_lists.2.1 161 = .ok (.ifCond .eq (54), 3) := by decide +kernel
theorem de_M_lists_164 : decode am_M_lists.2.1 164 = .ok (.iload 7, 2) := by decide +kernel
theorem de_M_lists_166 : decode am_M_lists.2.1 166 = .ok (.ifCond .ne (49), 3) := by decide +kernel
theorem de_M_lists_169 : decode am_M_lists.2.1 169 = .ok (.iconst 0, 1) := by decide +kernel
theorem de_M_lists_170 : decode am_M_lists.2.1 170 = .ok (.istore 8, 2) := by decide +kernel
theorem de_M_lists_172 : decode am_M_lists.2.1 172 = .ok (.iload 8, 2) := by decide +kernel
theorem de_M_lists_174 : decode am_M_lists.2.1 174 = .ok (.bipush (12), 2) := by decide +kernel
theorem de_M_lists_176 : decode am_M_lists.2.1 176 = .ok (.if_icmp .ge (39), 3) := by decide +kernel
theorem de_M_lists_179 : decode am_M_lists.2.1 179 = .ok (.iload 6, 2) := by decide +kernel
theorem de_M_lists_181 : decode am_M_lists.2.1 181 = .ok (.iload 8, 2) := by decide +kernel
theorem de_M_lists_183 : decode am_M_lists.2.1 183 = .ok (.ishr, 1) := by decide +kernel
theorem de_M_lists_184 : decode am_M_lists.2.1 184 = .ok (.iconst 1, 1) := by decide +kernel
theorem de_M_lists_185 : decode am_M_lists.2.1 185 = .ok (.iand, 1) := by decide +kernel
theorem de_M_lists_186 : decode am_M_lists.2.1 186 = .ok (.iconst 1, 1) := by decide +kernel
theorem de_M_lists_187 : decode am_M_lists.2.1 187 = .ok (.if_icmp .ne (22), 3) := by decide +kernel
theorem de_M_lists_190 : decode am_M_lists.2.1 190 = .ok (.aload_n 0, 1) := by decide +kernel
theorem de_M_lists_191 : decode am_M_lists.2.1 191 = .ok (.getfield 54, 3) := by decide +kernel
theorem de_M_lists_194 : decode am_M_lists.2.1 194 = .ok (.iload 4, 2) := by decide +kernel
theorem de_M_lists_196 : decode am_M_lists.2.1 196 = .ok (.iload 5, 2) := by decide +kernel
theorem de_M_lists_198 : decode am_M_lists.2.1 198 = .ok (.iinc 5 (1), 3) := by decide +kernel
theorem de_M_lists_201 : decode am_M_lists.2.1 201 = .ok (.iadd, 1) := by decide +kernel
theorem de_M_lists_202 : decode am_M_lists.2.1 202 = .ok (.sipush (240), 3) := by decide +kernel
theorem de_M_lists_205 : decode am_M_lists.2.1 205 = .ok (.iload 8, 2) := by decide +kernel
theorem de_M_lists_207 : decode am_M_lists.2.1 207 = .ok (.iadd, 1) := by decide +kernel
theorem de_M_lists_208 : decode am_M_lists.2.1 208 = .ok (.iastore, 1) := by decide +kernel
theorem de_M_lists_209 : decode am_M_lists.2.1 209 = .ok (.iinc 8 (1), 3) := by decide +kernel
theorem de_M_lists_212 : decode am_M_lists.2.1 212 = .ok (.goto (-40), 3) := by decide +kernel
theorem de_M_lists_215 : decode am_M_lists.2.1 215 = .ok (.iload 5, 2) := by decide +kernel
theorem de_M_lists_217 : decode am_M_lists.2.1 217 = .ok (.ireturn, 1) := by decide +kernel
theorem de_M_mineNow_0 : decode am_M_mineNow.2.1 0 = .ok (.aload_n 0, 1) := by decide +kernel
theorem de_M_mineNow_1 : decode am_M_mineNow.2.1 1 = .ok (.getfield 177, 3) := by decide +kernel
theorem de_M_mineNow_4 : decode am_M_mineNow.2.1 4 = .ok (.ifCond .ne (10), 3) := by decide +kernel
theorem de_M_mineNow_7 : decode am_M_mineNow.2.1 7 = .ok (.aload_n 0, 1) := by decide +kernel
theorem de_M_mineNow_8 : decode am_M_mineNow.2.1 8 = .ok (.getfield 171, 3) := by decide +kernel
theorem de_M_mineNow_11 : decode am_M_mineNow.2.1 11 = .ok (.goto (7), 3) := by decide +kernel
theorem de_M_mineNow_14 : decode am_M_mineNow.2.1 14 = .ok (.aload_n 0, 1) := by decide +kernel
theorem de_M_mineNow_15 : decode am_M_mineNow.2.1 15 = .ok (.getfield 174, 3) := by decide +kernel
theorem de_M_mineNow_18 : decode am_M_mineNow.2.1 18 = .ok (.ireturn, 1) := by decide +kernel
theorem de_M_itsNow_0 : decode am_M_itsNow.2.1 0 = .ok (.aload_n 0, 1) := by decide +kernel
theorem de_M_itsNow_1 : decode am_M_itsNow.2.1 1 = .ok (.getfield 177, 3) := by decide +kernel
theorem de_M_itsNow_4 : decode am_M_itsNow.2.1 4 = .ok (.ifCond .ne (10), 3) := by decide +kernel
theorem de_M_itsNow_7 : decode am_M_itsNow.2.1 7 = .ok (.aload_n 0, 1) := by decide +kernel
theorem de_M_itsNow_8 : decode am_M_itsNow.2.1 8 = .ok (.getfield 174, 3) := by decide +kernel
theorem de_M_itsNow_11 : decode am_M_itsNow.2.1 11 = .ok (.goto (7), 3) := by decide +kernel
theorem de_M_itsNow_14 : decode am_M_itsNow.2.1 14 = .ok (.aload_n 0, 1) := by decide +kernel
theorem de_M_itsNow_15 : decode am_M_itsNow.2.1 15 = .ok (.getfield 171, 3) := by decide +kernel
theorem de_M_itsNow_18 : decode am_M_itsNow.2.1 18 = .ok (.ireturn, 1) := by decide +kernel
theorem de_M_moves_0 : decode am_M_moves.2.1 0 = .ok (.aload_n 0, 1) := by decide +kernel
theorem de_M_moves_1 : decode am_M_moves.2.1 1 = .ok (.iload_n 1, 1) := by decide +kernel
theorem de_M_moves_2 : decode am_M_moves.2.1 2 = .ok (.invokevirtual 168, 3) := by decide +kernel
theorem de_M_moves_5 : decode am_M_moves.2.1 5 = .ok (.ifCond .eq (20), 3) := by decide +kernel
theorem de_M_moves_8 : decode am_M_moves.2.1 8 = .ok (.aload_n 0, 1) := by decide +kernel
theorem de_M_moves_9 : decode am_M_moves.2.1 9 = .ok (.iload_n 1, 1) := by decide +kernel
theorem de_M_moves_10 : decode am_M_moves.2.1 10 = .ok (.aload_n 0, 1) := by decide +kernel
theorem de_M_moves_11 : decode am_M_moves.2.1 11 = .ok (.invokevirtual 213, 3) := by decide +kernel
theorem de_M_moves_14 : decode am_M_moves.2.1 14 = .ok (.aload_n 0, 1) := by decide +kernel
theorem de_M_moves_15 : decode am_M_moves.2.1 15 = .ok (.invokevirtual 216, 3) := by decide +kernel
theorem de_M_moves_18 : decode am_M_moves.2.1 18 = .ok (.iconst 0, 1) := by decide +kernel
theorem de_M_moves_19 : decode am_M_moves.2.1 19 = .ok (.invokevirtual 219, 3) := by decide +kernel
theorem de_M_moves_22 : decode am_M_moves.2.1 22 = .ok (.goto (8), 3) := by decide +kernel
theorem de_M_moves_25 : decode am_M_moves.2.1 25 = .ok (.aload_n 0, 1) := by decide +kernel
theorem de_M_moves_26 : decode am_M_moves.2.1 26 = .ok (.iconst (-1), 1) := by decide +kernel
theorem de_M_moves_27 : decode am_M_moves.2.1 27 = .ok (.invokevirtual 94, 3) := by decide +kernel
theorem de_M_moves_30 : decode am_M_moves.2.1 30 = .ok (.ireturn, 1) := by decide +kernel
theorem de_M_move_0 : decode am_M_move.2.1 0 = .ok (.aload_n 0, 1) := by decide +kernel
theorem de_M_move_1 : decode am_M_move.2.1 1 = .ok (.iload_n 1, 1) := by decide +kernel
theorem de_M_move_2 : decode am_M_move.2.1 2 = .ok (.invokevirtual 168, 3) := by decide +kernel
theorem de_M_move_5 : decode am_M_move.2.1 5 = .ok (.ifCond .eq (25), 3) := by decide +kernel
theorem de_M_move_8 : decode am_M_move.2.1 8 = .ok (.iload_n 2, 1) := by decide +kernel
theorem de_M_move_9 : decode am_M_move.2.1 9 = .ok (.ifCond .lt (21), 3) := by decide +kernel
theorem de_M_move_12 : decode am_M_move.2.1 12 = .ok (.iload_n 2, 1) := by decide +kernel
theorem de_M_move_13 : decode am_M_move.2.1 13 = .ok (.aload_n 0, 1) := by decide +kernel
theorem de_M_move_14 : decode am_M_move.2.1 14 = .ok (.iload_n 1, 1) := by decide +kernel
theorem de_M_move_15 : decode am_M_move.2.1 15 = .ok (.aload_n 0, 1) := by decide +kernel
theorem de_M_move_16 : decode am_M_move.2.1 16 = .ok (.invokevirtual 213, 3) := by decide +kernel
theorem de_M_move_19 : decode am_M_move.2.1 19 = .ok (.aload_n 0, 1) := by decide +kernel
theorem de_M_move_20 : decode am_M_move.2.1 20 = .ok (.invokevirtual 216, 3) := by decide +kernel
theorem de_M_move_23 : decode am_M_move.2.1 23 = .ok (.iconst 0, 1) := by decide +kernel
theorem de_M_move_24 : decode am_M_move.2.1 24 = .ok (.invokevirtual 219, 3) := by decide +kernel
theorem de_M_move_27 : decode am_M_move.2.1 27 = .ok (.if_icmp .lt (10), 3) := by decide +kernel
theorem de_M_move_30 : decode am_M_move.2.1 30 = .ok (.aload_n 0, 1) := by decide +kernel
theorem de_M_move_31 : decode am_M_move.2.1 31 = .ok (.bipush (-5), 2) := by decide +kernel
theorem de_M_move_33 : decode am_M_move.2.1 33 = .ok (.invokevirtual 94, 3) := by decide +kernel
theorem de_M_move_36 : decode am_M_move.2.1 36 = .ok (.ireturn, 1) := by decide +kernel
theorem de_M_move_37 : decode am_M_move.2.1 37 = .ok (.aload_n 0, 1) := by decide +kernel
theorem de_M_move_38 : decode am_M_move.2.1 38 = .ok (.getfield 54, 3) := by decide +kernel
theorem de_M_move_41 : decode am_M_move.2.1 41 = .ok (.iload_n 2, 1) := by decide +kernel
theorem de_M_move_42 : decode am_M_move.2.1 42 = .ok (.iaload, 1) := by decide +kernel
theorem de_M_move_43 : decode am_M_move.2.1 43 = .ok (.ireturn, 1) := by decide +kernel
theorem de_M_over_0 : decode am_M_over.2.1 0 = .ok (.aload_n 0, 1) := by decide +kernel
theorem de_M_over_1 : decode am_M_over.2.1 1 = .ok (.iload_n 1, 1) := by decide +kernel
theorem de_M_over_2 : decode am_M_over.2.1 2 = .ok (.invokevirtual 168, 3) := by decide +kernel
theorem de_M_over_5 : decode am_M_over.2.1 5 = .ok (.ifCond .ne (9), 3) := by decide +kernel
theorem de_M_over_8 : decode am_M_over.2.1 8 = .ok (.aload_n 0, 1) := by decide +kernel
theorem de_M_over_9 : decode am_M_over.2.1 9 = .ok (.iconst (-1), 1) := by decide +kernel
theorem de_M_over_10 : decode am_M_over.2.1 10 = .ok (.invokevirtual 222, 3) := by decide +kernel
theorem de_M_over_13 : decode am_M_over.2.1 13 = .ok (.ireturn, 1) := by decide +kernel
theorem de_M_over_14 : decode am_M_over.2.1 14 = .ok (.aload_n 0, 1) := by decide +kernel
theorem de_M_over_15 : decode am_M_over.2.1 15 = .ok (.iload_n 1, 1) := by decide +kernel
theorem de_M_over_16 : decode am_M_over.2.1 16 = .ok (.aload_n 0, 1) := by decide +kernel
theorem de_M_over_17 : decode am_M_over.2.1 17 = .ok (.invokevirtual 213, 3) := by decide +kernel
theorem de_M_over_20 : decode am_M_over.2.1 20 = .ok (.aload_n 0, 1) := by decide +kernel
theorem de_M_over_21 : decode am_M_over.2.1 21 = .ok (.invokevirtual 216, 3) := by decide +kernel
theorem de_M_over_24 : decode am_M_over.2.1 24 = .ok (.invokevirtual 225, 3) := by decide +kernel
theorem de_M_over_27 : decode am_M_over.2.1 27 = .ok (.ifCond .eq (12), 3) := by decide +kernel
theorem de_M_over_30 : decode am_M_over.2.1 30 = .ok (.iconst 1, 1) := by decide +kernel
theorem de_M_over_31 : decode am_M_over.2.1 31 = .ok (.aload_n 0, 1) := by decide +kernel
theorem de_M_over_32 : decode am_M_over.2.1 32 = .ok (.getfield 177, 3) := by decide +kernel
theorem de_M_over_35 : decode am_M_over.2.1 35 = .ok (.isub, 1) := by decide +kernel
theorem de_M_over_36 : decode am_M_over.2.1 36 = .ok (.goto (4), 3) := by decide +kernel
theorem de_M_over_39 : decode am_M_over.2.1 39 = .ok (.iconst (-1), 1) := by decide +kernel
theorem de_M_over_40 : decode am_M_over.2.1 40 = .ok (.ireturn, 1) := by decide +kernel
theorem de_M_goes_0 : decode am_M_goes.2.1 0 = .ok (.aload_n 0, 1) := by decide +kernel
theorem de_M_goes_1 : decode am_M_goes.2.1 1 = .ok (.iload_n 1, 1) := by decide +kernel
theorem de_M_goes_2 : decode am_M_goes.2.1 2 = .ok (.iload_n 2, 1) := by decide +kernel
theorem de_M_goes_3 : decode am_M_goes.2.1 3 = .ok (.aload_n 0, 1) := by decide +kernel
theorem de_M_goes_4 : decode am_M_goes.2.1 4 = .ok (.invokevirtual 213, 3) := by decide +kernel
theorem de_M_goes_7 : decode am_M_goes.2.1 7 = .ok (.aload_n 0, 1) := by decide +kernel
theorem de_M_goes_8 : decode am_M_goes.2.1 8 = .ok (.invokevirtual 216, 3) := by decide +kernel
theorem de_M_goes_11 : decode am_M_goes.2.1 11 = .ok (.invokevirtual 228, 3) := by decide +kernel
theorem de_M_goes_14 : decode am_M_goes.2.1 14 = .ok (.aload_n 0, 1) := by decide +kernel
theorem de_M_goes_15 : decode am_M_goes.2.1 15 = .ok (.iconst 1, 1) := by decide +kernel
theorem de_M_goes_16 : decode am_M_goes.2.1 16 = .ok (.aload_n 0, 1) := by decide +kernel
theorem de_M_goes_17 : decode am_M_goes.2.1 17 = .ok (.getfield 177, 3) := by decide +kernel
theorem de_M_goes_20 : decode am_M_goes.2.1 20 = .ok (.isub, 1) := by decide +kernel
theorem de_M_goes_21 : decode am_M_goes.2.1 21 = .ok (.putfield 177, 3) := by decide +kernel
theorem de_M_goes_24 : decode am_M_goes.2.1 24 = .ok (.aload_n 0, 1) := by decide +kernel
theorem de_M_goes_25 : decode am_M_goes.2.1 25 = .ok (.aload_n 0, 1) := by decide +kernel
theorem de_M_goes_26 : decode am_M_goes.2.1 26 = .ok (.getfield 177, 3) := by decide +kernel
theorem de_M_goes_29 : decode am_M_goes.2.1 29 = .ok (.ifCond .ne (10), 3) := by decide +kernel
theorem de_M_goes_32 : decode am_M_goes.2.1 32 = .ok (.aload_n 0, 1) := by decide +kernel
theorem de_M_goes_33 : decode am_M_goes.2.1 33 = .ok (.getfield 207, 3) := by decide +kernel
theorem de_M_goes_36 : decode am_M_goes.2.1 36 = .ok (.goto (7), 3) := by decide +kernel
theorem de_M_goes_39 : decode am_M_goes.2.1 39 = .ok (.aload_n 0, 1) := by decide +kernel
theorem de_M_goes_40 : decode am_M_goes.2.1 40 = .ok (.getfield 210, 3) := by decide +kernel
theorem de_M_goes_43 : decode am_M_goes.2.1 43 = .ok (.putfield 171, 3) := by decide +kernel
theorem de_M_goes_46 : decode am_M_goes.2.1 46 = .ok (.aload_n 0, 1) := by decide +kernel
theorem de_M_goes_47 : decode am_M_goes.2.1 47 = .ok (.aload_n 0, 1) := by decide +kernel
theorem de_M_goes_48 : decode am_M_goes.2.1 48 = .ok (.getfield 177, 3) := by decide +kernel
theorem de_M_goes_51 : decode am_M_goes.2.1 51 = .ok (.ifCond .ne (10), 3) := by decide +kernel
theorem de_M_goes_54 : decode am_M_goes.2.1 54 = .ok (.aload_n 0, 1) := by decide +kernel
theorem de_M_goes_55 : decode am_M_goes.2.1 55 = .ok (.getfield 210, 3) := by decide +kernel
theorem de_M_goes_58 : decode am_M_goes.2.1 58 = .ok (.goto (7), 3) := by decide +kernel
theorem de_M_goes_61 : decode am_M_goes.2.1 61 = .ok (.aload_n 0, 1) := by decide +kernel
theorem de_M_goes_62 : decode am_M_goes.2.1 62 = .ok (.getfield 207, 3) := by decide +kernel
theorem de_M_goes_65 : decode am_M_goes.2.1 65 = .ok (.putfield 174, 3) := by decide +kernel
theorem de_M_goes_68 : decode am_M_goes.2.1 68 = .ok (.return_, 1) := by decide +kernel
theorem de_M_play_0 : decode am_M_play.2.1 0 = .ok (.aload_n 0, 1) := by decide +kernel
theorem de_M_play_1 : decode am_M_play.2.1 1 = .ok (.iload_n 1, 1) := by decide +kernel

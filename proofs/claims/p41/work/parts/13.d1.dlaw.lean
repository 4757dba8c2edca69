theorem dL_law_323 : decode cL_law 323 = .ok (.aload_n 1, 1) := by decide +kernel
theorem dL_law_324 : decode cL_law 324 = .ok (.iload 19, 2) := by decide +kernel
theorem dL_law_326 : decode cL_law 326 = .ok (.invokevirtual 116, 3) := by decide +kernel
theorem dL_law_329 : decode cL_law 329 = .ok (.ifCond .eq 21, 3) := by decide +kernel
theorem dL_law_332 : decode cL_law 332 = .ok (.aload_n 1, 1) := by decide +kernel
theorem dL_law_333 : decode cL_law 333 = .ok (.iload 19, 2) := by decide +kernel
theorem dL_law_335 : decode cL_law 335 = .ok (.invokevirtual 113, 3) := by decide +kernel
theorem dL_law_338 : decode cL_law 338 = .ok (.ifCond .ne 14, 3) := by decide +kernel
theorem dL_law_341 : decode cL_law 341 = .ok (.aload_n 1, 1) := by decide +kernel
theorem dL_law_342 : decode cL_law 342 = .ok (.iload 19, 2) := by decide +kernel
theorem dL_law_344 : decode cL_law 344 = .ok (.invokevirtual 122, 3) := by decide +kernel
theorem dL_law_347 : decode cL_law 347 = .ok (.ifCond .eq 5, 3) := by decide +kernel
theorem dL_law_350 : decode cL_law 350 = .ok (.iconst 0, 1) := by decide +kernel
theorem dL_law_351 : decode cL_law 351 = .ok (.ireturn, 1) := by decide +kernel
theorem dL_law_352 : decode cL_law 352 = .ok (.iinc 19 1, 3) := by decide +kernel
theorem dL_law_355 : decode cL_law 355 = .ok (.goto (-83), 3) := by decide +kernel
theorem dL_law_358 : decode cL_law 358 = .ok (.iload 16, 2) := by decide +kernel
theorem dL_law_360 : decode cL_law 360 = .ok (.iload 17, 2) := by decide +kernel
theorem dL_law_362 : decode cL_law 362 = .ok (.iadd, 1) := by decide +kernel
theorem dL_law_363 : decode cL_law 363 = .ok (.aload_n 1, 1) := by decide +kernel
theorem dL_law_364 : decode cL_law 364 = .ok (.invokevirtual 125, 3) := by decide +kernel
theorem dL_law_367 : decode cL_law 367 = .ok (.iadd, 1) := by decide +kernel
theorem dL_law_368 : decode cL_law 368 = .ok (.aload_n 1, 1) := by decide +kernel
theorem dL_law_369 : decode cL_law 369 = .ok (.invokevirtual 128, 3) := by decide +kernel
theorem dL_law_372 : decode cL_law 372 = .ok (.iadd, 1) := by decide +kernel
theorem dL_law_373 : decode cL_law 373 = .ok (.iload 12, 2) := by decide +kernel
theorem dL_law_375 : decode cL_law 375 = .ok (.if_icmp .ne 42, 3) := by decide +kernel
theorem dL_law_378 : decode cL_law 378 = .ok (.aload_n 1, 1) := by decide +kernel
theorem dL_law_379 : decode cL_law 379 = .ok (.invokevirtual 131, 3) := by decide +kernel
theorem dL_law_382 : decode cL_law 382 = .ok (.iload 18, 2) := by decide +kernel
theorem dL_law_384 : decode cL_law 384 = .ok (.iload 16, 2) := by decide +kernel
theorem dL_law_386 : decode cL_law 386 = .ok (.isub, 1) := by decide +kernel
theorem dL_law_387 : decode cL_law 387 = .ok (.if_icmp .ne 30, 3) := by decide +kernel
theorem dL_law_390 : decode cL_law 390 = .ok (.aload_n 1, 1) := by decide +kernel
theorem dL_law_391 : decode cL_law 391 = .ok (.invokevirtual 134, 3) := by decide +kernel
theorem dL_law_394 : decode cL_law 394 = .ok (.iload 16, 2) := by decide +kernel
theorem dL_law_396 : decode cL_law 396 = .ok (.if_icmp .ne 21, 3) := by decide +kernel
theorem dL_law_399 : decode cL_law 399 = .ok (.aload_n 1, 1) := by decide +kernel
theorem dL_law_400 : decode cL_law 400 = .ok (.invokevirtual 137, 3) := by decide +kernel
theorem dL_law_403 : decode cL_law 403 = .ok (.iconst 0, 1) := by decide +kernel
theorem dL_law_404 : decode cL_law 404 = .ok (.iload 16, 2) := by decide +kernel
theorem dL_law_406 : decode cL_law 406 = .ok (.aload_n 1, 1) := by decide +kernel
theorem dL_law_407 : decode cL_law 407 = .ok (.invokevirtual 140, 3) := by decide +kernel
theorem dL_law_410 : decode cL_law 410 = .ok (.isub, 1) := by decide +kernel
theorem dL_law_411 : decode cL_law 411 = .ok (.invokestatic 142, 3) := by decide +kernel
theorem dL_law_414 : decode cL_law 414 = .ok (.if_icmp .eq 5, 3) := by decide +kernel
theorem dL_law_417 : decode cL_law 417 = .ok (.iconst 0, 1) := by decide +kernel
theorem dL_law_418 : decode cL_law 418 = .ok (.ireturn, 1) := by decide +kernel
theorem dL_law_419 : decode cL_law 419 = .ok (.iload 12, 2) := by decide +kernel
theorem dL_law_421 : decode cL_law 421 = .ok (.newarray .int, 2) := by decide +kernel
theorem dL_law_423 : decode cL_law 423 = .ok (.astore 19, 2) := by decide +kernel
theorem dL_law_425 : decode cL_law 425 = .ok (.iconst 0, 1) := by decide +kernel
theorem dL_law_426 : decode cL_law 426 = .ok (.istore 20, 2) := by decide +kernel
theorem dL_law_428 : decode cL_law 428 = .ok (.iconst 0, 1) := by decide +kernel
theorem dL_law_429 : decode cL_law 429 = .ok (.istore 21, 2) := by decide +kernel
theorem dL_law_431 : decode cL_law 431 = .ok (.iload 21, 2) := by decide +kernel
theorem dL_law_433 : decode cL_law 433 = .ok (.iload 12, 2) := by decide +kernel
theorem dL_law_435 : decode cL_law 435 = .ok (.if_icmp .ge 153, 3) := by decide +kernel
theorem dL_law_438 : decode cL_law 438 = .ok (.aload 19, 2) := by decide +kernel
theorem dL_law_440 : decode cL_law 440 = .ok (.iload 21, 2) := by decide +kernel
theorem dL_law_442 : decode cL_law 442 = .ok (.aload_n 1, 1) := by decide +kernel
theorem dL_law_443 : decode cL_law 443 = .ok (.iload 21, 2) := by decide +kernel
theorem dL_law_445 : decode cL_law 445 = .ok (.invokevirtual 147, 3) := by decide +kernel
theorem dL_law_448 : decode cL_law 448 = .ok (.iastore, 1) := by decide +kernel
theorem dL_law_449 : decode cL_law 449 = .ok (.iload 20, 2) := by decide +kernel
theorem dL_law_451 : decode cL_law 451 = .ok (.aload_n 1, 1) := by decide +kernel
theorem dL_law_452 : decode cL_law 452 = .ok (.iload 21, 2) := by decide +kernel
theorem dL_law_454 : decode cL_law 454 = .ok (.invokevirtual 150, 3) := by decide +kernel
theorem dL_law_457 : decode cL_law 457 = .ok (.iadd, 1) := by decide +kernel
theorem dL_law_458 : decode cL_law 458 = .ok (.istore 20, 2) := by decide +kernel
theorem dL_law_460 : decode cL_law 460 = .ok (.aload_n 1, 1) := by decide +kernel
theorem dL_law_461 : decode cL_law 461 = .ok (.iload 21, 2) := by decide +kernel
theorem dL_law_463 : decode cL_law 463 = .ok (.invokevirtual 153, 3) := by decide +kernel
theorem dL_law_466 : decode cL_law 466 = .ok (.ifCond .lt 7, 3) := by decide +kernel
theorem dL_law_469 : decode cL_law 469 = .ok (.iconst 1, 1) := by decide +kernel
theorem dL_law_470 : decode cL_law 470 = .ok (.goto 4, 3) := by decide +kernel
theorem dL_law_473 : decode cL_law 473 = .ok (.iconst 0, 1) := by decide +kernel
theorem dL_law_474 : decode cL_law 474 = .ok (.aload_n 1, 1) := by decide +kernel
theorem dL_law_475 : decode cL_law 475 = .ok (.iload 21, 2) := by decide +kernel
theorem dL_law_477 : decode cL_law 477 = .ok (.invokevirtual 156, 3) := by decide +kernel
theorem dL_law_480 : decode cL_law 480 = .ok (.ifCond .lt 7, 3) := by decide +kernel
theorem dL_law_483 : decode cL_law 483 = .ok (.iconst 1, 1) := by decide +kernel
theorem dL_law_484 : decode cL_law 484 = .ok (.goto 4, 3) := by decide +kernel
theorem dL_law_487 : decode cL_law 487 = .ok (.iconst 0, 1) := by decide +kernel
theorem dL_law_488 : decode cL_law 488 = .ok (.iadd, 1) := by decide +kernel
theorem dL_law_489 : decode cL_law 489 = .ok (.aload_n 1, 1) := by decide +kernel
theorem dL_law_490 : decode cL_law 490 = .ok (.iload 21, 2) := by decide +kernel
theorem dL_law_492 : decode cL_law 492 = .ok (.invokevirtual 159, 3) := by decide +kernel
theorem dL_law_495 : decode cL_law 495 = .ok (.ifCond .eq 7, 3) := by decide +kernel
theorem dL_law_498 : decode cL_law 498 = .ok (.iconst 1, 1) := by decide +kernel
theorem dL_law_499 : decode cL_law 499 = .ok (.goto 4, 3) := by decide +kernel
theorem dL_law_502 : decode cL_law 502 = .ok (.iconst 0, 1) := by decide +kernel
theorem dL_law_503 : decode cL_law 503 = .ok (.iadd, 1) := by decide +kernel
theorem dL_law_504 : decode cL_law 504 = .ok (.aload_n 1, 1) := by decide +kernel
theorem dL_law_505 : decode cL_law 505 = .ok (.iload 21, 2) := by decide +kernel
theorem dL_law_507 : decode cL_law 507 = .ok (.invokevirtual 163, 3) := by decide +kernel
theorem dL_law_510 : decode cL_law 510 = .ok (.ifCond .eq 7, 3) := by decide +kernel
theorem dL_law_513 : decode cL_law 513 = .ok (.iconst 1, 1) := by decide +kernel
theorem dL_law_514 : decode cL_law 514 = .ok (.goto 4, 3) := by decide +kernel
theorem dL_law_517 : decode cL_law 517 = .ok (.iconst 0, 1) := by decide +kernel
theorem dL_law_518 : decode cL_law 518 = .ok (.iadd, 1) := by decide +kernel
theorem dL_law_519 : decode cL_law 519 = .ok (.istore 22, 2) := by decide +kernel
theorem dL_law_521 : decode cL_law 521 = .ok (.iload 22, 2) := by decide +kernel
theorem dL_law_523 : decode cL_law 523 = .ok (.iconst 1, 1) := by decide +kernel
theorem dL_law_524 : decode cL_law 524 = .ok (.if_icmp .ne 56, 3) := by decide +kernel
theorem dL_law_527 : decode cL_law 527 = .ok (.aload_n 1, 1) := by decide +kernel
theorem dL_law_528 : decode cL_law 528 = .ok (.iload 21, 2) := by decide +kernel
theorem dL_law_530 : decode cL_law 530 = .ok (.invokevirtual 159, 3) := by decide +kernel
theorem dL_law_533 : decode cL_law 533 = .ok (.ifCond .eq 11, 3) := by decide +kernel
theorem dL_law_536 : decode cL_law 536 = .ok (.aload 19, 2) := by decide +kernel
theorem dL_law_538 : decode cL_law 538 = .ok (.iload 21, 2) := by decide +kernel
theorem dL_law_540 : decode cL_law 540 = .ok (.iaload, 1) := by decide +kernel
theorem dL_law_541 : decode cL_law 541 = .ok (.ifCond .ne 39, 3) := by decide +kernel
theorem dL_law_544 : decode cL_law 544 = .ok (.aload_n 1, 1) := by decide +kernel
theorem dL_law_545 : decode cL_law 545 = .ok (.iload 21, 2) := by decide +kernel
theorem dL_law_547 : decode cL_law 547 = .ok (.invokevirtual 163, 3) := by decide +kernel
theorem dL_law_550 : decode cL_law 550 = .ok (.ifCond .eq 13, 3) := by decide +kernel
theorem dL_law_553 : decode cL_law 553 = .ok (.aload 19, 2) := by decide +kernel
theorem dL_law_555 : decode cL_law 555 = .ok (.iload 21, 2) := by decide +kernel
theorem dL_law_557 : decode cL_law 557 = .ok (.iaload, 1) := by decide +kernel
theorem dL_law_558 : decode cL_law 558 = .ok (.bipush 10, 2) := by decide +kernel
theorem dL_law_560 : decode cL_law 560 = .ok (.if_icmp .ne 20, 3) := by decide +kernel
theorem dL_law_563 : decode cL_law 563 = .ok (.aload_n 1, 1) := by decide +kernel
theorem dL_law_564 : decode cL_law 564 = .ok (.iload 21, 2) := by decide +kernel
theorem dL_law_566 : decode cL_law 566 = .ok (.invokevirtual 153, 3) := by decide +kernel
theorem dL_law_569 : decode cL_law 569 = .ok (.ifCond .lt 13, 3) := by decide +kernel
theorem dL_law_572 : decode cL_law 572 = .ok (.aload 19, 2) := by decide +kernel
theorem dL_law_574 : decode cL_law 574 = .ok (.iload 21, 2) := by decide +kernel
theorem dL_law_576 : decode cL_law 576 = .ok (.iaload, 1) := by decide +kernel
theorem dL_law_577 : decode cL_law 577 = .ok (.ifCond .ne 5, 3) := by decide +kernel
theorem dL_law_580 : decode cL_law 580 = .ok (.iconst 0, 1) := by decide +kernel
theorem dL_law_581 : decode cL_law 581 = .ok (.ireturn, 1) := by decide +kernel
theorem dL_law_582 : decode cL_law 582 = .ok (.iinc 21 1, 3) := by decide +kernel
theorem dL_law_585 : decode cL_law 585 = .ok (.goto (-154), 3) := by decide +kernel
theorem dL_law_588 : decode cL_law 588 = .ok (.iload 14, 2) := by decide +kernel
theorem dL_law_590 : decode cL_law 590 = .ok (.ifCond .lt 26, 3) := by decide +kernel
theorem dL_law_593 : decode cL_law 593 = .ok (.aload_n 1, 1) := by decide +kernel
theorem dL_law_594 : decode cL_law 594 = .ok (.iload 13, 2) := by decide +kernel
theorem dL_law_596 : decode cL_law 596 = .ok (.invokevirtual 159, 3) := by decide +kernel
theorem dL_law_599 : decode cL_law 599 = .ok (.iload 15, 2) := by decide +kernel
theorem dL_law_601 : decode cL_law 601 = .ok (.iload 14, 2) := by decide +kernel
theorem dL_law_603 : decode cL_law 603 = .ok (.if_icmp .lt 7, 3) := by decide +kernel
theorem dL_law_606 : decode cL_law 606 = .ok (.iconst 1, 1) := by decide +kernel
theorem dL_law_607 : decode cL_law 607 = .ok (.goto 4, 3) := by decide +kernel
theorem dL_law_610 : decode cL_law 610 = .ok (.iconst 0, 1) := by decide +kernel
theorem dL_law_611 : decode cL_law 611 = .ok (.if_icmp .eq 5, 3) := by decide +kernel
theorem dL_law_614 : decode cL_law 614 = .ok (.iconst 0, 1) := by decide +kernel
theorem dL_law_615 : decode cL_law 615 = .ok (.ireturn, 1) := by decide +kernel
theorem dL_law_616 : decode cL_law 616 = .ok (.iload 15, 2) := by decide +kernel
theorem dL_law_618 : decode cL_law 618 = .ok (.iload 9, 2) := by decide +kernel
theorem dL_law_620 : decode cL_law 620 = .ok (.if_icmp .ne 6, 3) := by decide +kernel
theorem dL_law_623 : decode cL_law 623 = .ok (.goto 137, 3) := by decide +kernel
theorem dL_law_626 : decode cL_law 626 = .ok (.aload_n 1, 1) := by decide +kernel
theorem dL_law_627 : decode cL_law 627 = .ok (.invokevirtual 166, 3) := by decide +kernel
theorem dL_law_630 : decode cL_law 630 = .ok (.istore 21, 2) := by decide +kernel
theorem dL_law_632 : decode cL_law 632 = .ok (.aload_n 1, 1) := by decide +kernel
theorem dL_law_633 : decode cL_law 633 = .ok (.invokevirtual 125, 3) := by decide +kernel
theorem dL_law_636 : decode cL_law 636 = .ok (.istore 22, 2) := by decide +kernel
theorem dL_law_638 : decode cL_law 638 = .ok (.aload_n 1, 1) := by decide +kernel
theorem dL_law_639 : decode cL_law 639 = .ok (.iconst 1, 1) := by decide +kernel
theorem dL_law_640 : decode cL_law 640 = .ok (.invokevirtual 62, 3) := by decide +kernel
theorem dL_law_643 : decode cL_law 643 = .ok (.istore 23, 2) := by decide +kernel
theorem dL_law_645 : decode cL_law 645 = .ok (.aload_n 2, 1) := by decide +kernel
theorem dL_law_646 : decode cL_law 646 = .ok (.invokevirtual 169, 3) := by decide +kernel
theorem dL_law_649 : decode cL_law 649 = .ok (.aload_n 1, 1) := by decide +kernel
theorem dL_law_650 : decode cL_law 650 = .ok (.invokevirtual 125, 3) := by decide +kernel
theorem dL_law_653 : decode cL_law 653 = .ok (.iload 22, 2) := by decide +kernel
theorem dL_law_655 : decode cL_law 655 = .ok (.iload 23, 2) := by decide +kernel
theorem dL_law_657 : decode cL_law 657 = .ok (.iadd, 1) := by decide +kernel
theorem dL_law_658 : decode cL_law 658 = .ok (.if_icmp .ne 22, 3) := by decide +kernel

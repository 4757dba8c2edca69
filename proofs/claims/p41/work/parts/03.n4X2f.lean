theorem dX2_isSame_352 : decode cX2_isSame 352 = .ok (.iconst 0, 1) := by decide +kernel
theorem dX2_isSame_353 : decode cX2_isSame 353 = .ok (.iaload, 1) := by decide +kernel
theorem dX2_isSame_354 : decode cX2_isSame 354 = .ok (.if_icmp .ne 86, 3) := by decide +kernel
theorem dX2_isSame_357 : decode cX2_isSame 357 = .ok (.aload_n 1, 1) := by decide +kernel
theorem dX2_isSame_358 : decode cX2_isSame 358 = .ok (.iload 5, 2) := by decide +kernel
theorem dX2_isSame_360 : decode cX2_isSame 360 = .ok (.invokevirtual 84, 3) := by decide +kernel
theorem dX2_isSame_363 : decode cX2_isSame 363 = .ok (.aload 6, 2) := by decide +kernel
theorem dX2_isSame_365 : decode cX2_isSame 365 = .ok (.iconst 1, 1) := by decide +kernel
theorem dX2_isSame_366 : decode cX2_isSame 366 = .ok (.iaload, 1) := by decide +kernel
theorem dX2_isSame_367 : decode cX2_isSame 367 = .ok (.if_icmp .ne 73, 3) := by decide +kernel
theorem dX2_isSame_370 : decode cX2_isSame 370 = .ok (.aload_n 1, 1) := by decide +kernel
theorem dX2_isSame_371 : decode cX2_isSame 371 = .ok (.iload 5, 2) := by decide +kernel
theorem dX2_isSame_373 : decode cX2_isSame 373 = .ok (.invokevirtual 87, 3) := by decide +kernel
theorem dX2_isSame_376 : decode cX2_isSame 376 = .ok (.aload 6, 2) := by decide +kernel
theorem dX2_isSame_378 : decode cX2_isSame 378 = .ok (.iconst 2, 1) := by decide +kernel
theorem dX2_isSame_379 : decode cX2_isSame 379 = .ok (.iaload, 1) := by decide +kernel
theorem dX2_isSame_380 : decode cX2_isSame 380 = .ok (.if_icmp .ne 60, 3) := by decide +kernel
theorem dX2_isSame_383 : decode cX2_isSame 383 = .ok (.aload_n 1, 1) := by decide +kernel
theorem dX2_isSame_384 : decode cX2_isSame 384 = .ok (.iload 5, 2) := by decide +kernel
theorem dX2_isSame_386 : decode cX2_isSame 386 = .ok (.invokevirtual 90, 3) := by decide +kernel
theorem dX2_isSame_389 : decode cX2_isSame 389 = .ok (.aload 6, 2) := by decide +kernel
theorem dX2_isSame_391 : decode cX2_isSame 391 = .ok (.iconst 3, 1) := by decide +kernel
theorem dX2_isSame_392 : decode cX2_isSame 392 = .ok (.iaload, 1) := by decide +kernel
theorem dX2_isSame_393 : decode cX2_isSame 393 = .ok (.iconst 1, 1) := by decide +kernel
theorem dX2_isSame_394 : decode cX2_isSame 394 = .ok (.if_icmp .ne 7, 3) := by decide +kernel
theorem dX2_isSame_397 : decode cX2_isSame 397 = .ok (.iconst 1, 1) := by decide +kernel
theorem dX2_isSame_398 : decode cX2_isSame 398 = .ok (.goto 4, 3) := by decide +kernel
theorem dX2_isSame_401 : decode cX2_isSame 401 = .ok (.iconst 0, 1) := by decide +kernel
theorem dX2_isSame_402 : decode cX2_isSame 402 = .ok (.if_icmp .ne 38, 3) := by decide +kernel
theorem dX2_isSame_405 : decode cX2_isSame 405 = .ok (.aload_n 1, 1) := by decide +kernel
theorem dX2_isSame_406 : decode cX2_isSame 406 = .ok (.iload 5, 2) := by decide +kernel
theorem dX2_isSame_408 : decode cX2_isSame 408 = .ok (.invokevirtual 94, 3) := by decide +kernel
theorem dX2_isSame_411 : decode cX2_isSame 411 = .ok (.aload 6, 2) := by decide +kernel
theorem dX2_isSame_413 : decode cX2_isSame 413 = .ok (.iconst 4, 1) := by decide +kernel
theorem dX2_isSame_414 : decode cX2_isSame 414 = .ok (.iaload, 1) := by decide +kernel
theorem dX2_isSame_415 : decode cX2_isSame 415 = .ok (.iconst 1, 1) := by decide +kernel
theorem dX2_isSame_416 : decode cX2_isSame 416 = .ok (.if_icmp .ne 7, 3) := by decide +kernel
theorem dX2_isSame_419 : decode cX2_isSame 419 = .ok (.iconst 1, 1) := by decide +kernel
theorem dX2_isSame_420 : decode cX2_isSame 420 = .ok (.goto 4, 3) := by decide +kernel
theorem dX2_isSame_423 : decode cX2_isSame 423 = .ok (.iconst 0, 1) := by decide +kernel
theorem dX2_isSame_424 : decode cX2_isSame 424 = .ok (.if_icmp .ne 16, 3) := by decide +kernel
theorem dX2_isSame_427 : decode cX2_isSame 427 = .ok (.aload_n 1, 1) := by decide +kernel
theorem dX2_isSame_428 : decode cX2_isSame 428 = .ok (.iload 5, 2) := by decide +kernel
theorem dX2_isSame_430 : decode cX2_isSame 430 = .ok (.invokevirtual 97, 3) := by decide +kernel
theorem dX2_isSame_433 : decode cX2_isSame 433 = .ok (.aload 6, 2) := by decide +kernel
theorem dX2_isSame_435 : decode cX2_isSame 435 = .ok (.iconst 5, 1) := by decide +kernel
theorem dX2_isSame_436 : decode cX2_isSame 436 = .ok (.iaload, 1) := by decide +kernel
theorem dX2_isSame_437 : decode cX2_isSame 437 = .ok (.if_icmp .eq 5, 3) := by decide +kernel
theorem dX2_isSame_440 : decode cX2_isSame 440 = .ok (.iconst 0, 1) := by decide +kernel
theorem dX2_isSame_441 : decode cX2_isSame 441 = .ok (.ireturn, 1) := by decide +kernel
theorem dX2_isSame_442 : decode cX2_isSame 442 = .ok (.iinc 5 1, 3) := by decide +kernel
theorem dX2_isSame_445 : decode cX2_isSame 445 = .ok (.goto (-120), 3) := by decide +kernel
theorem dX2_isSame_448 : decode cX2_isSame 448 = .ok (.aload_n 1, 1) := by decide +kernel
theorem dX2_isSame_449 : decode cX2_isSame 449 = .ok (.invokevirtual 100, 3) := by decide +kernel
theorem dX2_isSame_452 : decode cX2_isSame 452 = .ok (.aload_n 0, 1) := by decide +kernel
theorem dX2_isSame_453 : decode cX2_isSame 453 = .ok (.getfield 32, 3) := by decide +kernel
theorem dX2_isSame_456 : decode cX2_isSame 456 = .ok (.if_icmp .ne 61, 3) := by decide +kernel
theorem dX2_isSame_459 : decode cX2_isSame 459 = .ok (.aload_n 1, 1) := by decide +kernel
theorem dX2_isSame_460 : decode cX2_isSame 460 = .ok (.invokevirtual 103, 3) := by decide +kernel
theorem dX2_isSame_463 : decode cX2_isSame 463 = .ok (.aload_n 0, 1) := by decide +kernel
theorem dX2_isSame_464 : decode cX2_isSame 464 = .ok (.getfield 15, 3) := by decide +kernel
theorem dX2_isSame_467 : decode cX2_isSame 467 = .ok (.arraylength, 1) := by decide +kernel
theorem dX2_isSame_468 : decode cX2_isSame 468 = .ok (.if_icmp .ne 49, 3) := by decide +kernel
theorem dX2_isSame_471 : decode cX2_isSame 471 = .ok (.aload_n 1, 1) := by decide +kernel
theorem dX2_isSame_472 : decode cX2_isSame 472 = .ok (.invokevirtual 105, 3) := by decide +kernel
theorem dX2_isSame_475 : decode cX2_isSame 475 = .ok (.aload_n 0, 1) := by decide +kernel
theorem dX2_isSame_476 : decode cX2_isSame 476 = .ok (.getfield 19, 3) := by decide +kernel
theorem dX2_isSame_479 : decode cX2_isSame 479 = .ok (.arraylength, 1) := by decide +kernel
theorem dX2_isSame_480 : decode cX2_isSame 480 = .ok (.if_icmp .ne 37, 3) := by decide +kernel
theorem dX2_isSame_483 : decode cX2_isSame 483 = .ok (.aload_n 1, 1) := by decide +kernel
theorem dX2_isSame_484 : decode cX2_isSame 484 = .ok (.invokevirtual 107, 3) := by decide +kernel
theorem dX2_isSame_487 : decode cX2_isSame 487 = .ok (.aload_n 0, 1) := by decide +kernel
theorem dX2_isSame_488 : decode cX2_isSame 488 = .ok (.getfield 22, 3) := by decide +kernel
theorem dX2_isSame_491 : decode cX2_isSame 491 = .ok (.arraylength, 1) := by decide +kernel
theorem dX2_isSame_492 : decode cX2_isSame 492 = .ok (.if_icmp .ne 25, 3) := by decide +kernel
theorem dX2_isSame_495 : decode cX2_isSame 495 = .ok (.aload_n 1, 1) := by decide +kernel
theorem dX2_isSame_496 : decode cX2_isSame 496 = .ok (.invokevirtual 109, 3) := by decide +kernel
theorem dX2_isSame_499 : decode cX2_isSame 499 = .ok (.aload_n 0, 1) := by decide +kernel
theorem dX2_isSame_500 : decode cX2_isSame 500 = .ok (.getfield 7, 3) := by decide +kernel
theorem dX2_isSame_503 : decode cX2_isSame 503 = .ok (.if_icmp .ne 14, 3) := by decide +kernel
theorem dX2_isSame_506 : decode cX2_isSame 506 = .ok (.aload_n 1, 1) := by decide +kernel
theorem dX2_isSame_507 : decode cX2_isSame 507 = .ok (.invokevirtual 111, 3) := by decide +kernel
theorem dX2_isSame_510 : decode cX2_isSame 510 = .ok (.aload_n 0, 1) := by decide +kernel
theorem dX2_isSame_511 : decode cX2_isSame 511 = .ok (.getfield 35, 3) := by decide +kernel
theorem dX2_isSame_514 : decode cX2_isSame 514 = .ok (.if_icmp .eq 5, 3) := by decide +kernel
theorem dX2_isSame_517 : decode cX2_isSame 517 = .ok (.iconst 0, 1) := by decide +kernel
theorem dX2_isSame_518 : decode cX2_isSame 518 = .ok (.ireturn, 1) := by decide +kernel
theorem dX2_isSame_519 : decode cX2_isSame 519 = .ok (.aload_n 1, 1) := by decide +kernel
theorem dX2_isSame_520 : decode cX2_isSame 520 = .ok (.invokevirtual 114, 3) := by decide +kernel
theorem dX2_isSame_523 : decode cX2_isSame 523 = .ok (.iload_n 2, 1) := by decide +kernel
theorem dX2_isSame_524 : decode cX2_isSame 524 = .ok (.iload_n 3, 1) := by decide +kernel
theorem dX2_isSame_525 : decode cX2_isSame 525 = .ok (.isub, 1) := by decide +kernel
theorem dX2_isSame_526 : decode cX2_isSame 526 = .ok (.if_icmp .ne 78, 3) := by decide +kernel
theorem dX2_isSame_529 : decode cX2_isSame 529 = .ok (.aload_n 1, 1) := by decide +kernel
theorem dX2_isSame_530 : decode cX2_isSame 530 = .ok (.invokevirtual 117, 3) := by decide +kernel
theorem dX2_isSame_533 : decode cX2_isSame 533 = .ok (.iconst 0, 1) := by decide +kernel
theorem dX2_isSame_534 : decode cX2_isSame 534 = .ok (.iload_n 3, 1) := by decide +kernel
theorem dX2_isSame_535 : decode cX2_isSame 535 = .ok (.aload_n 0, 1) := by decide +kernel
theorem dX2_isSame_536 : decode cX2_isSame 536 = .ok (.getfield 7, 3) := by decide +kernel
theorem dX2_isSame_539 : decode cX2_isSame 539 = .ok (.isub, 1) := by decide +kernel
theorem dX2_isSame_540 : decode cX2_isSame 540 = .ok (.invokestatic 63, 3) := by decide +kernel
theorem dX2_isSame_543 : decode cX2_isSame 543 = .ok (.if_icmp .ne 61, 3) := by decide +kernel
theorem dX2_isSame_546 : decode cX2_isSame 546 = .ok (.aload_n 1, 1) := by decide +kernel
theorem dX2_isSame_547 : decode cX2_isSame 547 = .ok (.invokevirtual 120, 3) := by decide +kernel
theorem dX2_isSame_550 : decode cX2_isSame 550 = .ok (.iload_n 3, 1) := by decide +kernel
theorem dX2_isSame_551 : decode cX2_isSame 551 = .ok (.if_icmp .ne 53, 3) := by decide +kernel
theorem dX2_isSame_554 : decode cX2_isSame 554 = .ok (.aload_n 1, 1) := by decide +kernel
theorem dX2_isSame_555 : decode cX2_isSame 555 = .ok (.invokevirtual 123, 3) := by decide +kernel
theorem dX2_isSame_558 : decode cX2_isSame 558 = .ok (.aload_n 0, 1) := by decide +kernel
theorem dX2_isSame_559 : decode cX2_isSame 559 = .ok (.iconst 3, 1) := by decide +kernel
theorem dX2_isSame_560 : decode cX2_isSame 560 = .ok (.invokevirtual 126, 3) := by decide +kernel
theorem dX2_isSame_563 : decode cX2_isSame 563 = .ok (.if_icmp .ne 41, 3) := by decide +kernel
theorem dX2_isSame_566 : decode cX2_isSame 566 = .ok (.aload_n 1, 1) := by decide +kernel
theorem dX2_isSame_567 : decode cX2_isSame 567 = .ok (.invokevirtual 129, 3) := by decide +kernel
theorem dX2_isSame_570 : decode cX2_isSame 570 = .ok (.aload_n 0, 1) := by decide +kernel
theorem dX2_isSame_571 : decode cX2_isSame 571 = .ok (.iconst 4, 1) := by decide +kernel
theorem dX2_isSame_572 : decode cX2_isSame 572 = .ok (.invokevirtual 126, 3) := by decide +kernel
theorem dX2_isSame_575 : decode cX2_isSame 575 = .ok (.if_icmp .ne 29, 3) := by decide +kernel
theorem dX2_isSame_578 : decode cX2_isSame 578 = .ok (.aload_n 1, 1) := by decide +kernel
theorem dX2_isSame_579 : decode cX2_isSame 579 = .ok (.invokevirtual 132, 3) := by decide +kernel
theorem dX2_isSame_582 : decode cX2_isSame 582 = .ok (.iload_n 3, 1) := by decide +kernel
theorem dX2_isSame_583 : decode cX2_isSame 583 = .ok (.ifCond .ne 7, 3) := by decide +kernel
theorem dX2_isSame_586 : decode cX2_isSame 586 = .ok (.dconst 0, 1) := by decide +kernel
theorem dX2_isSame_587 : decode cX2_isSame 587 = .ok (.goto 9, 3) := by decide +kernel
theorem dX2_isSame_590 : decode cX2_isSame 590 = .ok (.iload 4, 2) := by decide +kernel
theorem dX2_isSame_592 : decode cX2_isSame 592 = .ok (.i2d, 1) := by decide +kernel
theorem dX2_isSame_593 : decode cX2_isSame 593 = .ok (.iload_n 3, 1) := by decide +kernel
theorem dX2_isSame_594 : decode cX2_isSame 594 = .ok (.i2d, 1) := by decide +kernel
theorem dX2_isSame_595 : decode cX2_isSame 595 = .ok (.ddiv, 1) := by decide +kernel
theorem dX2_isSame_596 : decode cX2_isSame 596 = .ok (.dcmp .l, 1) := by decide +kernel
theorem dX2_isSame_597 : decode cX2_isSame 597 = .ok (.ifCond .ne 7, 3) := by decide +kernel
theorem dX2_isSame_600 : decode cX2_isSame 600 = .ok (.iconst 1, 1) := by decide +kernel
theorem dX2_isSame_601 : decode cX2_isSame 601 = .ok (.goto 4, 3) := by decide +kernel
theorem dX2_isSame_604 : decode cX2_isSame 604 = .ok (.iconst 0, 1) := by decide +kernel
theorem dX2_isSame_605 : decode cX2_isSame 605 = .ok (.ireturn, 1) := by decide +kernel

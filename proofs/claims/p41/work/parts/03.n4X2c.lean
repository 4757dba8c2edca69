theorem dX2_pass_444 : decode cX2_pass 444 = .ok (.aload 6, 2) := by decide +kernel
theorem dX2_pass_446 : decode cX2_pass 446 = .ok (.iconst 1, 1) := by decide +kernel
theorem dX2_pass_447 : decode cX2_pass 447 = .ok (.dup2, 1) := by decide +kernel
theorem dX2_pass_448 : decode cX2_pass 448 = .ok (.iaload, 1) := by decide +kernel
theorem dX2_pass_449 : decode cX2_pass 449 = .ok (.iconst 1, 1) := by decide +kernel
theorem dX2_pass_450 : decode cX2_pass 450 = .ok (.iadd, 1) := by decide +kernel
theorem dX2_pass_451 : decode cX2_pass 451 = .ok (.iastore, 1) := by decide +kernel
theorem dX2_pass_452 : decode cX2_pass 452 = .ok (.iinc 5 1, 3) := by decide +kernel
theorem dX2_pass_455 : decode cX2_pass 455 = .ok (.goto (-24), 3) := by decide +kernel
theorem dX2_pass_458 : decode cX2_pass 458 = .ok (.aload_n 0, 1) := by decide +kernel
theorem dX2_pass_459 : decode cX2_pass 459 = .ok (.getfield 22, 3) := by decide +kernel
theorem dX2_pass_462 : decode cX2_pass 462 = .ok (.astore_n 3, 1) := by decide +kernel
theorem dX2_pass_463 : decode cX2_pass 463 = .ok (.aload_n 3, 1) := by decide +kernel
theorem dX2_pass_464 : decode cX2_pass 464 = .ok (.arraylength, 1) := by decide +kernel
theorem dX2_pass_465 : decode cX2_pass 465 = .ok (.istore 4, 2) := by decide +kernel
theorem dX2_pass_467 : decode cX2_pass 467 = .ok (.iconst 0, 1) := by decide +kernel
theorem dX2_pass_468 : decode cX2_pass 468 = .ok (.istore 5, 2) := by decide +kernel
theorem dX2_pass_470 : decode cX2_pass 470 = .ok (.iload 5, 2) := by decide +kernel
theorem dX2_pass_472 : decode cX2_pass 472 = .ok (.iload 4, 2) := by decide +kernel
theorem dX2_pass_474 : decode cX2_pass 474 = .ok (.if_icmp .ge 62, 3) := by decide +kernel
theorem dX2_pass_477 : decode cX2_pass 477 = .ok (.aload_n 3, 1) := by decide +kernel
theorem dX2_pass_478 : decode cX2_pass 478 = .ok (.iload 5, 2) := by decide +kernel
theorem dX2_pass_480 : decode cX2_pass 480 = .ok (.aaload, 1) := by decide +kernel
theorem dX2_pass_481 : decode cX2_pass 481 = .ok (.astore 6, 2) := by decide +kernel
theorem dX2_pass_483 : decode cX2_pass 483 = .ok (.aload 6, 2) := by decide +kernel
theorem dX2_pass_485 : decode cX2_pass 485 = .ok (.iconst 1, 1) := by decide +kernel
theorem dX2_pass_486 : decode cX2_pass 486 = .ok (.iaload, 1) := by decide +kernel
theorem dX2_pass_487 : decode cX2_pass 487 = .ok (.ifCond .lt 43, 3) := by decide +kernel
theorem dX2_pass_490 : decode cX2_pass 490 = .ok (.aload 6, 2) := by decide +kernel
theorem dX2_pass_492 : decode cX2_pass 492 = .ok (.iconst 0, 1) := by decide +kernel
theorem dX2_pass_493 : decode cX2_pass 493 = .ok (.iaload, 1) := by decide +kernel
theorem dX2_pass_494 : decode cX2_pass 494 = .ok (.ifCond .le 15, 3) := by decide +kernel
theorem dX2_pass_497 : decode cX2_pass 497 = .ok (.aload 6, 2) := by decide +kernel
theorem dX2_pass_499 : decode cX2_pass 499 = .ok (.iconst 0, 1) := by decide +kernel
theorem dX2_pass_500 : decode cX2_pass 500 = .ok (.iaload, 1) := by decide +kernel
theorem dX2_pass_501 : decode cX2_pass 501 = .ok (.bipush 10, 2) := by decide +kernel
theorem dX2_pass_503 : decode cX2_pass 503 = .ok (.if_icmp .ge 6, 3) := by decide +kernel
theorem dX2_pass_506 : decode cX2_pass 506 = .ok (.goto 24, 3) := by decide +kernel
theorem dX2_pass_509 : decode cX2_pass 509 = .ok (.aload 6, 2) := by decide +kernel
theorem dX2_pass_511 : decode cX2_pass 511 = .ok (.iconst 1, 1) := by decide +kernel
theorem dX2_pass_512 : decode cX2_pass 512 = .ok (.iconst (-1), 1) := by decide +kernel
theorem dX2_pass_513 : decode cX2_pass 513 = .ok (.iastore, 1) := by decide +kernel
theorem dX2_pass_514 : decode cX2_pass 514 = .ok (.aload 6, 2) := by decide +kernel
theorem dX2_pass_516 : decode cX2_pass 516 = .ok (.aload 6, 2) := by decide +kernel
theorem dX2_pass_518 : decode cX2_pass 518 = .ok (.iconst 0, 1) := by decide +kernel
theorem dX2_pass_519 : decode cX2_pass 519 = .ok (.iaload, 1) := by decide +kernel
theorem dX2_pass_520 : decode cX2_pass 520 = .ok (.ifCond .ne 7, 3) := by decide +kernel
theorem dX2_pass_523 : decode cX2_pass 523 = .ok (.iconst 3, 1) := by decide +kernel
theorem dX2_pass_524 : decode cX2_pass 524 = .ok (.goto 4, 3) := by decide +kernel
theorem dX2_pass_527 : decode cX2_pass 527 = .ok (.iconst 4, 1) := by decide +kernel
theorem dX2_pass_528 : decode cX2_pass 528 = .ok (.iconst 1, 1) := by decide +kernel
theorem dX2_pass_529 : decode cX2_pass 529 = .ok (.iastore, 1) := by decide +kernel
theorem dX2_pass_530 : decode cX2_pass 530 = .ok (.iinc 5 1, 3) := by decide +kernel
theorem dX2_pass_533 : decode cX2_pass 533 = .ok (.goto (-63), 3) := by decide +kernel
theorem dX2_pass_536 : decode cX2_pass 536 = .ok (.iconst 0, 1) := by decide +kernel
theorem dX2_pass_537 : decode cX2_pass 537 = .ok (.istore_n 3, 1) := by decide +kernel
theorem dX2_pass_538 : decode cX2_pass 538 = .ok (.iload_n 3, 1) := by decide +kernel
theorem dX2_pass_539 : decode cX2_pass 539 = .ok (.aload_n 0, 1) := by decide +kernel
theorem dX2_pass_540 : decode cX2_pass 540 = .ok (.getfield 19, 3) := by decide +kernel
theorem dX2_pass_543 : decode cX2_pass 543 = .ok (.arraylength, 1) := by decide +kernel
theorem dX2_pass_544 : decode cX2_pass 544 = .ok (.if_icmp .ge 181, 3) := by decide +kernel
theorem dX2_pass_547 : decode cX2_pass 547 = .ok (.aload_n 0, 1) := by decide +kernel
theorem dX2_pass_548 : decode cX2_pass 548 = .ok (.getfield 19, 3) := by decide +kernel
theorem dX2_pass_551 : decode cX2_pass 551 = .ok (.iload_n 3, 1) := by decide +kernel
theorem dX2_pass_552 : decode cX2_pass 552 = .ok (.aaload, 1) := by decide +kernel
theorem dX2_pass_553 : decode cX2_pass 553 = .ok (.iconst 1, 1) := by decide +kernel
theorem dX2_pass_554 : decode cX2_pass 554 = .ok (.iaload, 1) := by decide +kernel
theorem dX2_pass_555 : decode cX2_pass 555 = .ok (.ifCond .le 6, 3) := by decide +kernel
theorem dX2_pass_558 : decode cX2_pass 558 = .ok (.goto 161, 3) := by decide +kernel
theorem dX2_pass_561 : decode cX2_pass 561 = .ok (.iconst 0, 1) := by decide +kernel
theorem dX2_pass_562 : decode cX2_pass 562 = .ok (.istore 4, 2) := by decide +kernel
theorem dX2_pass_564 : decode cX2_pass 564 = .ok (.aload_n 0, 1) := by decide +kernel
theorem dX2_pass_565 : decode cX2_pass 565 = .ok (.getfield 22, 3) := by decide +kernel
theorem dX2_pass_568 : decode cX2_pass 568 = .ok (.astore 5, 2) := by decide +kernel
theorem dX2_pass_570 : decode cX2_pass 570 = .ok (.aload 5, 2) := by decide +kernel
theorem dX2_pass_572 : decode cX2_pass 572 = .ok (.arraylength, 1) := by decide +kernel
theorem dX2_pass_573 : decode cX2_pass 573 = .ok (.istore 6, 2) := by decide +kernel
theorem dX2_pass_575 : decode cX2_pass 575 = .ok (.iconst 0, 1) := by decide +kernel
theorem dX2_pass_576 : decode cX2_pass 576 = .ok (.istore 7, 2) := by decide +kernel
theorem dX2_pass_578 : decode cX2_pass 578 = .ok (.iload 7, 2) := by decide +kernel
theorem dX2_pass_580 : decode cX2_pass 580 = .ok (.iload 6, 2) := by decide +kernel
theorem dX2_pass_582 : decode cX2_pass 582 = .ok (.if_icmp .ge 116, 3) := by decide +kernel
theorem dX2_pass_585 : decode cX2_pass 585 = .ok (.aload 5, 2) := by decide +kernel
theorem dX2_pass_587 : decode cX2_pass 587 = .ok (.iload 7, 2) := by decide +kernel
theorem dX2_pass_589 : decode cX2_pass 589 = .ok (.aaload, 1) := by decide +kernel
theorem dX2_pass_590 : decode cX2_pass 590 = .ok (.astore 8, 2) := by decide +kernel
theorem dX2_pass_592 : decode cX2_pass 592 = .ok (.aload 8, 2) := by decide +kernel
theorem dX2_pass_594 : decode cX2_pass 594 = .ok (.iconst 2, 1) := by decide +kernel
theorem dX2_pass_595 : decode cX2_pass 595 = .ok (.iaload, 1) := by decide +kernel
theorem dX2_pass_596 : decode cX2_pass 596 = .ok (.iload_n 3, 1) := by decide +kernel
theorem dX2_pass_597 : decode cX2_pass 597 = .ok (.if_icmp .eq 6, 3) := by decide +kernel
theorem dX2_pass_600 : decode cX2_pass 600 = .ok (.goto 92, 3) := by decide +kernel
theorem dX2_pass_603 : decode cX2_pass 603 = .ok (.iconst (-1), 1) := by decide +kernel
theorem dX2_pass_604 : decode cX2_pass 604 = .ok (.istore 9, 2) := by decide +kernel
theorem dX2_pass_606 : decode cX2_pass 606 = .ok (.aload_n 0, 1) := by decide +kernel
theorem dX2_pass_607 : decode cX2_pass 607 = .ok (.getfield 15, 3) := by decide +kernel
theorem dX2_pass_610 : decode cX2_pass 610 = .ok (.arraylength, 1) := by decide +kernel
theorem dX2_pass_611 : decode cX2_pass 611 = .ok (.iconst 1, 1) := by decide +kernel
theorem dX2_pass_612 : decode cX2_pass 612 = .ok (.isub, 1) := by decide +kernel
theorem dX2_pass_613 : decode cX2_pass 613 = .ok (.istore 10, 2) := by decide +kernel
theorem dX2_pass_615 : decode cX2_pass 615 = .ok (.iload 10, 2) := by decide +kernel
theorem dX2_pass_617 : decode cX2_pass 617 = .ok (.ifCond .lt 31, 3) := by decide +kernel
theorem dX2_pass_620 : decode cX2_pass 620 = .ok (.aload_n 0, 1) := by decide +kernel
theorem dX2_pass_621 : decode cX2_pass 621 = .ok (.iload 10, 2) := by decide +kernel
theorem dX2_pass_623 : decode cX2_pass 623 = .ok (.invokevirtual 42, 3) := by decide +kernel
theorem dX2_pass_626 : decode cX2_pass 626 = .ok (.aload_n 0, 1) := by decide +kernel
theorem dX2_pass_627 : decode cX2_pass 627 = .ok (.getfield 15, 3) := by decide +kernel
theorem dX2_pass_630 : decode cX2_pass 630 = .ok (.iload 10, 2) := by decide +kernel
theorem dX2_pass_632 : decode cX2_pass 632 = .ok (.aaload, 1) := by decide +kernel
theorem dX2_pass_633 : decode cX2_pass 633 = .ok (.iconst 0, 1) := by decide +kernel
theorem dX2_pass_634 : decode cX2_pass 634 = .ok (.iaload, 1) := by decide +kernel
theorem dX2_pass_635 : decode cX2_pass 635 = .ok (.if_icmp .ge 7, 3) := by decide +kernel
theorem dX2_pass_638 : decode cX2_pass 638 = .ok (.iload 10, 2) := by decide +kernel
theorem dX2_pass_640 : decode cX2_pass 640 = .ok (.istore 9, 2) := by decide +kernel
theorem dX2_pass_642 : decode cX2_pass 642 = .ok (.iinc 10 (-1), 3) := by decide +kernel
theorem dX2_pass_645 : decode cX2_pass 645 = .ok (.goto (-30), 3) := by decide +kernel
theorem dX2_pass_648 : decode cX2_pass 648 = .ok (.aload 8, 2) := by decide +kernel
theorem dX2_pass_650 : decode cX2_pass 650 = .ok (.iconst 0, 1) := by decide +kernel
theorem dX2_pass_651 : decode cX2_pass 651 = .ok (.iaload, 1) := by decide +kernel
theorem dX2_pass_652 : decode cX2_pass 652 = .ok (.ifCond .le 14, 3) := by decide +kernel
theorem dX2_pass_655 : decode cX2_pass 655 = .ok (.iload 9, 2) := by decide +kernel
theorem dX2_pass_657 : decode cX2_pass 657 = .ok (.ifCond .ge 9, 3) := by decide +kernel
theorem dX2_pass_660 : decode cX2_pass 660 = .ok (.iconst 1, 1) := by decide +kernel
theorem dX2_pass_661 : decode cX2_pass 661 = .ok (.istore 4, 2) := by decide +kernel
theorem dX2_pass_663 : decode cX2_pass 663 = .ok (.goto 29, 3) := by decide +kernel
theorem dX2_pass_666 : decode cX2_pass 666 = .ok (.aload 8, 2) := by decide +kernel
theorem dX2_pass_668 : decode cX2_pass 668 = .ok (.iconst 2, 1) := by decide +kernel
theorem dX2_pass_669 : decode cX2_pass 669 = .ok (.iconst (-1), 1) := by decide +kernel
theorem dX2_pass_670 : decode cX2_pass 670 = .ok (.iastore, 1) := by decide +kernel
theorem dX2_pass_671 : decode cX2_pass 671 = .ok (.aload 8, 2) := by decide +kernel
theorem dX2_pass_673 : decode cX2_pass 673 = .ok (.iconst 0, 1) := by decide +kernel
theorem dX2_pass_674 : decode cX2_pass 674 = .ok (.iaload, 1) := by decide +kernel
theorem dX2_pass_675 : decode cX2_pass 675 = .ok (.ifCond .ne 11, 3) := by decide +kernel
theorem dX2_pass_678 : decode cX2_pass 678 = .ok (.aload 8, 2) := by decide +kernel
theorem dX2_pass_680 : decode cX2_pass 680 = .ok (.iconst 3, 1) := by decide +kernel
theorem dX2_pass_681 : decode cX2_pass 681 = .ok (.iconst 1, 1) := by decide +kernel
theorem dX2_pass_682 : decode cX2_pass 682 = .ok (.iastore, 1) := by decide +kernel
theorem dX2_pass_683 : decode cX2_pass 683 = .ok (.goto 9, 3) := by decide +kernel
theorem dX2_pass_686 : decode cX2_pass 686 = .ok (.aload 8, 2) := by decide +kernel
theorem dX2_pass_688 : decode cX2_pass 688 = .ok (.iconst 1, 1) := by decide +kernel
theorem dX2_pass_689 : decode cX2_pass 689 = .ok (.iload 9, 2) := by decide +kernel
theorem dX2_pass_691 : decode cX2_pass 691 = .ok (.iastore, 1) := by decide +kernel
theorem dX2_pass_692 : decode cX2_pass 692 = .ok (.iinc 7 1, 3) := by decide +kernel
theorem dX2_pass_695 : decode cX2_pass 695 = .ok (.goto (-117), 3) := by decide +kernel
theorem dX2_pass_698 : decode cX2_pass 698 = .ok (.iload 4, 2) := by decide +kernel
theorem dX2_pass_700 : decode cX2_pass 700 = .ok (.ifCond .eq 19, 3) := by decide +kernel
theorem dX2_pass_703 : decode cX2_pass 703 = .ok (.aload_n 0, 1) := by decide +kernel
theorem dX2_pass_704 : decode cX2_pass 704 = .ok (.getfield 19, 3) := by decide +kernel
theorem dX2_pass_707 : decode cX2_pass 707 = .ok (.iload_n 3, 1) := by decide +kernel
theorem dX2_pass_708 : decode cX2_pass 708 = .ok (.aaload, 1) := by decide +kernel
theorem dX2_pass_709 : decode cX2_pass 709 = .ok (.iconst 1, 1) := by decide +kernel
theorem dX2_pass_710 : decode cX2_pass 710 = .ok (.aload_n 0, 1) := by decide +kernel
theorem dX2_pass_711 : decode cX2_pass 711 = .ok (.getfield 19, 3) := by decide +kernel
theorem dX2_pass_714 : decode cX2_pass 714 = .ok (.iload_n 3, 1) := by decide +kernel
theorem dX2_pass_715 : decode cX2_pass 715 = .ok (.aaload, 1) := by decide +kernel
theorem dX2_pass_716 : decode cX2_pass 716 = .ok (.iconst 0, 1) := by decide +kernel
theorem dX2_pass_717 : decode cX2_pass 717 = .ok (.iaload, 1) := by decide +kernel
theorem dX2_pass_718 : decode cX2_pass 718 = .ok (.iastore, 1) := by decide +kernel
theorem dX2_pass_719 : decode cX2_pass 719 = .ok (.iinc 3 1, 3) := by decide +kernel
theorem dX2_pass_722 : decode cX2_pass 722 = .ok (.goto (-184), 3) := by decide +kernel
theorem dX2_pass_725 : decode cX2_pass 725 = .ok (.aload_n 0, 1) := by decide +kernel
theorem dX2_pass_726 : decode cX2_pass 726 = .ok (.dup, 1) := by decide +kernel
theorem dX2_pass_727 : decode cX2_pass 727 = .ok (.getfield 32, 3) := by decide +kernel
theorem dX2_pass_730 : decode cX2_pass 730 = .ok (.iconst 1, 1) := by decide +kernel
theorem dX2_pass_731 : decode cX2_pass 731 = .ok (.iadd, 1) := by decide +kernel
theorem dX2_pass_732 : decode cX2_pass 732 = .ok (.putfield 32, 3) := by decide +kernel
theorem dX2_pass_735 : decode cX2_pass 735 = .ok (.return_, 1) := by decide +kernel
set_option maxRecDepth 20000 in
theorem ggX2_pass__X2_pass : GoodIn wsX2_pass_ wsX2_pass := goodIn_r _ [5, 6, 7, 8, 9, 10, 11, 12, 13, 14, 15, 16, 4, 17, 18, 19, 20, 21, 22, 23] (by rfl) (by decide +kernel)
set_option maxRecDepth 20000 in
theorem gX2_pass__X2_pass : GoodIn wsX2_pass_ (wsV RX2 46 RX2 yX2_pass wsX2_pass) := goodIn_app (goodIn_of _ (by decide +kernel)) ggX2_pass__X2_pass

theorem dL_refusesAny_482 : decode cL_refusesAny 482 = .ok (.sipush (-1002), 3) := by decide +kernel
theorem dL_refusesAny_485 : decode cL_refusesAny 485 = .ok (.if_icmp .ne 150, 3) := by decide +kernel
theorem dL_refusesAny_488 : decode cL_refusesAny 488 = .ok (.aload_n 0, 1) := by decide +kernel
theorem dL_refusesAny_489 : decode cL_refusesAny 489 = .ok (.iconst 0, 1) := by decide +kernel
theorem dL_refusesAny_490 : decode cL_refusesAny 490 = .ok (.iconst 1, 1) := by decide +kernel
theorem dL_refusesAny_491 : decode cL_refusesAny 491 = .ok (.iload_n 1, 1) := by decide +kernel
theorem dL_refusesAny_492 : decode cL_refusesAny 492 = .ok (.iconst 2, 1) := by decide +kernel
theorem dL_refusesAny_493 : decode cL_refusesAny 493 = .ok (.irem, 1) := by decide +kernel
theorem dL_refusesAny_494 : decode cL_refusesAny 494 = .ok (.ifCond .ne 8, 3) := by decide +kernel
theorem dL_refusesAny_497 : decode cL_refusesAny 497 = .ok (.bipush (-51), 2) := by decide +kernel
theorem dL_refusesAny_499 : decode cL_refusesAny 499 = .ok (.goto 5, 3) := by decide +kernel
theorem dL_refusesAny_502 : decode cL_refusesAny 502 = .ok (.bipush 51, 2) := by decide +kernel
theorem dL_refusesAny_504 : decode cL_refusesAny 504 = .ok (.invokevirtual 60, 3) := by decide +kernel
theorem dL_refusesAny_507 : decode cL_refusesAny 507 = .ok (.sipush (-1002), 3) := by decide +kernel
theorem dL_refusesAny_510 : decode cL_refusesAny 510 = .ok (.if_icmp .ne 125, 3) := by decide +kernel
theorem dL_refusesAny_513 : decode cL_refusesAny 513 = .ok (.aload_n 0, 1) := by decide +kernel
theorem dL_refusesAny_514 : decode cL_refusesAny 514 = .ok (.iload_n 1, 1) := by decide +kernel
theorem dL_refusesAny_515 : decode cL_refusesAny 515 = .ok (.iconst 2, 1) := by decide +kernel
theorem dL_refusesAny_516 : decode cL_refusesAny 516 = .ok (.irem, 1) := by decide +kernel
theorem dL_refusesAny_517 : decode cL_refusesAny 517 = .ok (.ifCond .ne 7, 3) := by decide +kernel
theorem dL_refusesAny_520 : decode cL_refusesAny 520 = .ok (.iconst (-1), 1) := by decide +kernel
theorem dL_refusesAny_521 : decode cL_refusesAny 521 = .ok (.goto 4, 3) := by decide +kernel
theorem dL_refusesAny_524 : decode cL_refusesAny 524 = .ok (.iconst 2, 1) := by decide +kernel
theorem dL_refusesAny_525 : decode cL_refusesAny 525 = .ok (.sipush 999, 3) := by decide +kernel
theorem dL_refusesAny_528 : decode cL_refusesAny 528 = .ok (.invokevirtual 63, 3) := by decide +kernel
theorem dL_refusesAny_531 : decode cL_refusesAny 531 = .ok (.sipush (-1001), 3) := by decide +kernel
theorem dL_refusesAny_534 : decode cL_refusesAny 534 = .ok (.if_icmp .ne 101, 3) := by decide +kernel
theorem dL_refusesAny_537 : decode cL_refusesAny 537 = .ok (.aload_n 0, 1) := by decide +kernel
theorem dL_refusesAny_538 : decode cL_refusesAny 538 = .ok (.iconst 0, 1) := by decide +kernel
theorem dL_refusesAny_539 : decode cL_refusesAny 539 = .ok (.iload_n 1, 1) := by decide +kernel
theorem dL_refusesAny_540 : decode cL_refusesAny 540 = .ok (.iconst 2, 1) := by decide +kernel
theorem dL_refusesAny_541 : decode cL_refusesAny 541 = .ok (.irem, 1) := by decide +kernel
theorem dL_refusesAny_542 : decode cL_refusesAny 542 = .ok (.ifCond .ne 8, 3) := by decide +kernel
theorem dL_refusesAny_545 : decode cL_refusesAny 545 = .ok (.bipush 99, 2) := by decide +kernel
theorem dL_refusesAny_547 : decode cL_refusesAny 547 = .ok (.goto 6, 3) := by decide +kernel
theorem dL_refusesAny_550 : decode cL_refusesAny 550 = .ok (.sipush 301, 3) := by decide +kernel
theorem dL_refusesAny_553 : decode cL_refusesAny 553 = .ok (.invokevirtual 63, 3) := by decide +kernel
theorem dL_refusesAny_556 : decode cL_refusesAny 556 = .ok (.sipush (-1002), 3) := by decide +kernel
theorem dL_refusesAny_559 : decode cL_refusesAny 559 = .ok (.if_icmp .ne 76, 3) := by decide +kernel
theorem dL_refusesAny_562 : decode cL_refusesAny 562 = .ok (.aload_n 0, 1) := by decide +kernel
theorem dL_refusesAny_563 : decode cL_refusesAny 563 = .ok (.iconst 1, 1) := by decide +kernel
theorem dL_refusesAny_564 : decode cL_refusesAny 564 = .ok (.iload_n 1, 1) := by decide +kernel
theorem dL_refusesAny_565 : decode cL_refusesAny 565 = .ok (.iconst 2, 1) := by decide +kernel
theorem dL_refusesAny_566 : decode cL_refusesAny 566 = .ok (.irem, 1) := by decide +kernel
theorem dL_refusesAny_567 : decode cL_refusesAny 567 = .ok (.ifCond .ne 7, 3) := by decide +kernel
theorem dL_refusesAny_570 : decode cL_refusesAny 570 = .ok (.iconst 0, 1) := by decide +kernel
theorem dL_refusesAny_571 : decode cL_refusesAny 571 = .ok (.goto 5, 3) := by decide +kernel
theorem dL_refusesAny_574 : decode cL_refusesAny 574 = .ok (.bipush 101, 2) := by decide +kernel
theorem dL_refusesAny_576 : decode cL_refusesAny 576 = .ok (.invokevirtual 63, 3) := by decide +kernel
theorem dL_refusesAny_579 : decode cL_refusesAny 579 = .ok (.sipush (-1002), 3) := by decide +kernel
theorem dL_refusesAny_582 : decode cL_refusesAny 582 = .ok (.if_icmp .ne 53, 3) := by decide +kernel
theorem dL_refusesAny_585 : decode cL_refusesAny 585 = .ok (.aload_n 0, 1) := by decide +kernel
theorem dL_refusesAny_586 : decode cL_refusesAny 586 = .ok (.iload_n 1, 1) := by decide +kernel
theorem dL_refusesAny_587 : decode cL_refusesAny 587 = .ok (.iconst 2, 1) := by decide +kernel
theorem dL_refusesAny_588 : decode cL_refusesAny 588 = .ok (.irem, 1) := by decide +kernel
theorem dL_refusesAny_589 : decode cL_refusesAny 589 = .ok (.aload_n 0, 1) := by decide +kernel
theorem dL_refusesAny_590 : decode cL_refusesAny 590 = .ok (.bipush 8, 2) := by decide +kernel
theorem dL_refusesAny_592 : decode cL_refusesAny 592 = .ok (.iload_n 1, 1) := by decide +kernel
theorem dL_refusesAny_593 : decode cL_refusesAny 593 = .ok (.iconst 2, 1) := by decide +kernel
theorem dL_refusesAny_594 : decode cL_refusesAny 594 = .ok (.irem, 1) := by decide +kernel
theorem dL_refusesAny_595 : decode cL_refusesAny 595 = .ok (.iadd, 1) := by decide +kernel
theorem dL_refusesAny_596 : decode cL_refusesAny 596 = .ok (.invokevirtual 13, 3) := by decide +kernel
theorem dL_refusesAny_599 : decode cL_refusesAny 599 = .ok (.invokevirtual 63, 3) := by decide +kernel
theorem dL_refusesAny_602 : decode cL_refusesAny 602 = .ok (.sipush (-1005), 3) := by decide +kernel
theorem dL_refusesAny_605 : decode cL_refusesAny 605 = .ok (.if_icmp .ne 30, 3) := by decide +kernel
theorem dL_refusesAny_608 : decode cL_refusesAny 608 = .ok (.aload_n 0, 1) := by decide +kernel
theorem dL_refusesAny_609 : decode cL_refusesAny 609 = .ok (.iload_n 1, 1) := by decide +kernel
theorem dL_refusesAny_610 : decode cL_refusesAny 610 = .ok (.iconst 2, 1) := by decide +kernel
theorem dL_refusesAny_611 : decode cL_refusesAny 611 = .ok (.irem, 1) := by decide +kernel
theorem dL_refusesAny_612 : decode cL_refusesAny 612 = .ok (.ifCond .ne 7, 3) := by decide +kernel
theorem dL_refusesAny_615 : decode cL_refusesAny 615 = .ok (.iconst 0, 1) := by decide +kernel
theorem dL_refusesAny_616 : decode cL_refusesAny 616 = .ok (.goto 6, 3) := by decide +kernel
theorem dL_refusesAny_619 : decode cL_refusesAny 619 = .ok (.sipush 1000, 3) := by decide +kernel
theorem dL_refusesAny_622 : decode cL_refusesAny 622 = .ok (.invokevirtual 66, 3) := by decide +kernel
theorem dL_refusesAny_625 : decode cL_refusesAny 625 = .ok (.sipush (-1002), 3) := by decide +kernel
theorem dL_refusesAny_628 : decode cL_refusesAny 628 = .ok (.if_icmp .ne 7, 3) := by decide +kernel
theorem dL_refusesAny_631 : decode cL_refusesAny 631 = .ok (.iconst 1, 1) := by decide +kernel
theorem dL_refusesAny_632 : decode cL_refusesAny 632 = .ok (.goto 4, 3) := by decide +kernel
theorem dL_refusesAny_635 : decode cL_refusesAny 635 = .ok (.iconst 0, 1) := by decide +kernel
theorem dL_refusesAny_636 : decode cL_refusesAny 636 = .ok (.istore 5, 2) := by decide +kernel
theorem dL_refusesAny_638 : decode cL_refusesAny 638 = .ok (.iload 5, 2) := by decide +kernel
theorem dL_refusesAny_640 : decode cL_refusesAny 640 = .ok (.ifCond .eq 330, 3) := by decide +kernel
theorem dL_refusesAny_643 : decode cL_refusesAny 643 = .ok (.aload_n 0, 1) := by decide +kernel
theorem dL_refusesAny_644 : decode cL_refusesAny 644 = .ok (.iload_n 2, 1) := by decide +kernel
theorem dL_refusesAny_645 : decode cL_refusesAny 645 = .ok (.bipush 99, 2) := by decide +kernel
theorem dL_refusesAny_647 : decode cL_refusesAny 647 = .ok (.invokevirtual 29, 3) := by decide +kernel
theorem dL_refusesAny_650 : decode cL_refusesAny 650 = .ok (.sipush (-1001), 3) := by decide +kernel
theorem dL_refusesAny_653 : decode cL_refusesAny 653 = .ok (.if_icmp .ne 317, 3) := by decide +kernel
theorem dL_refusesAny_656 : decode cL_refusesAny 656 = .ok (.aload_n 0, 1) := by decide +kernel
theorem dL_refusesAny_657 : decode cL_refusesAny 657 = .ok (.iconst 1, 1) := by decide +kernel
theorem dL_refusesAny_658 : decode cL_refusesAny 658 = .ok (.invokevirtual 13, 3) := by decide +kernel
theorem dL_refusesAny_661 : decode cL_refusesAny 661 = .ok (.ifCond .eq 26, 3) := by decide +kernel
theorem dL_refusesAny_664 : decode cL_refusesAny 664 = .ok (.aload_n 0, 1) := by decide +kernel
theorem dL_refusesAny_665 : decode cL_refusesAny 665 = .ok (.iconst 0, 1) := by decide +kernel
theorem dL_refusesAny_666 : decode cL_refusesAny 666 = .ok (.iload_n 1, 1) := by decide +kernel
theorem dL_refusesAny_667 : decode cL_refusesAny 667 = .ok (.iconst 2, 1) := by decide +kernel
theorem dL_refusesAny_668 : decode cL_refusesAny 668 = .ok (.irem, 1) := by decide +kernel
theorem dL_refusesAny_669 : decode cL_refusesAny 669 = .ok (.ifCond .ne 7, 3) := by decide +kernel
theorem dL_refusesAny_672 : decode cL_refusesAny 672 = .ok (.iconst (-1), 1) := by decide +kernel
theorem dL_refusesAny_673 : decode cL_refusesAny 673 = .ok (.goto 5, 3) := by decide +kernel
theorem dL_refusesAny_676 : decode cL_refusesAny 676 = .ok (.bipush 10, 2) := by decide +kernel
theorem dL_refusesAny_678 : decode cL_refusesAny 678 = .ok (.invokevirtual 29, 3) := by decide +kernel
theorem dL_refusesAny_681 : decode cL_refusesAny 681 = .ok (.sipush (-1002), 3) := by decide +kernel
theorem dL_refusesAny_684 : decode cL_refusesAny 684 = .ok (.if_icmp .ne 286, 3) := by decide +kernel
theorem dL_refusesAny_687 : decode cL_refusesAny 687 = .ok (.aload_n 0, 1) := by decide +kernel
theorem dL_refusesAny_688 : decode cL_refusesAny 688 = .ok (.iload_n 3, 1) := by decide +kernel
theorem dL_refusesAny_689 : decode cL_refusesAny 689 = .ok (.bipush 99, 2) := by decide +kernel
theorem dL_refusesAny_691 : decode cL_refusesAny 691 = .ok (.invokevirtual 19, 3) := by decide +kernel
theorem dL_refusesAny_694 : decode cL_refusesAny 694 = .ok (.sipush (-1001), 3) := by decide +kernel
theorem dL_refusesAny_697 : decode cL_refusesAny 697 = .ok (.if_icmp .ne 273, 3) := by decide +kernel
theorem dL_refusesAny_700 : decode cL_refusesAny 700 = .ok (.aload_n 0, 1) := by decide +kernel
theorem dL_refusesAny_701 : decode cL_refusesAny 701 = .ok (.iconst 0, 1) := by decide +kernel
theorem dL_refusesAny_702 : decode cL_refusesAny 702 = .ok (.iload_n 1, 1) := by decide +kernel
theorem dL_refusesAny_703 : decode cL_refusesAny 703 = .ok (.iconst 2, 1) := by decide +kernel
theorem dL_refusesAny_704 : decode cL_refusesAny 704 = .ok (.irem, 1) := by decide +kernel
theorem dL_refusesAny_705 : decode cL_refusesAny 705 = .ok (.ifCond .ne 7, 3) := by decide +kernel
theorem dL_refusesAny_708 : decode cL_refusesAny 708 = .ok (.iconst (-1), 1) := by decide +kernel
theorem dL_refusesAny_709 : decode cL_refusesAny 709 = .ok (.goto 5, 3) := by decide +kernel
theorem dL_refusesAny_712 : decode cL_refusesAny 712 = .ok (.bipush 8, 2) := by decide +kernel
theorem dL_refusesAny_714 : decode cL_refusesAny 714 = .ok (.invokevirtual 19, 3) := by decide +kernel

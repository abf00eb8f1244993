theorem dL_isWhole_427 : decode cL_isWhole 427 = .ok (.istore 11, 2) := by decide +kernel
theorem dL_isWhole_429 : decode cL_isWhole 429 = .ok (.aload_n 0, 1) := by decide +kernel
theorem dL_isWhole_430 : decode cL_isWhole 430 = .ok (.iload 10, 2) := by decide +kernel
theorem dL_isWhole_432 : decode cL_isWhole 432 = .ok (.iconst 3, 1) := by decide +kernel
theorem dL_isWhole_433 : decode cL_isWhole 433 = .ok (.invokevirtual 26, 3) := by decide +kernel
theorem dL_isWhole_436 : decode cL_isWhole 436 = .ok (.istore 12, 2) := by decide +kernel
theorem dL_isWhole_438 : decode cL_isWhole 438 = .ok (.aload_n 0, 1) := by decide +kernel
theorem dL_isWhole_439 : decode cL_isWhole 439 = .ok (.iload 10, 2) := by decide +kernel
theorem dL_isWhole_441 : decode cL_isWhole 441 = .ok (.iconst 5, 1) := by decide +kernel
theorem dL_isWhole_442 : decode cL_isWhole 442 = .ok (.invokevirtual 26, 3) := by decide +kernel
theorem dL_isWhole_445 : decode cL_isWhole 445 = .ok (.istore 13, 2) := by decide +kernel
theorem dL_isWhole_447 : decode cL_isWhole 447 = .ok (.iload 8, 2) := by decide +kernel
theorem dL_isWhole_449 : decode cL_isWhole 449 = .ok (.iload 11, 2) := by decide +kernel
theorem dL_isWhole_451 : decode cL_isWhole 451 = .ok (.iadd, 1) := by decide +kernel
theorem dL_isWhole_452 : decode cL_isWhole 452 = .ok (.istore 8, 2) := by decide +kernel
theorem dL_isWhole_454 : decode cL_isWhole 454 = .ok (.iload 9, 2) := by decide +kernel
theorem dL_isWhole_456 : decode cL_isWhole 456 = .ok (.iload 12, 2) := by decide +kernel
theorem dL_isWhole_458 : decode cL_isWhole 458 = .ok (.iadd, 1) := by decide +kernel
theorem dL_isWhole_459 : decode cL_isWhole 459 = .ok (.istore 9, 2) := by decide +kernel
theorem dL_isWhole_461 : decode cL_isWhole 461 = .ok (.iload 12, 2) := by decide +kernel
theorem dL_isWhole_463 : decode cL_isWhole 463 = .ok (.iload 11, 2) := by decide +kernel
theorem dL_isWhole_465 : decode cL_isWhole 465 = .ok (.if_icmp .gt 132, 3) := by decide +kernel
theorem dL_isWhole_468 : decode cL_isWhole 468 = .ok (.aload_n 0, 1) := by decide +kernel
theorem dL_isWhole_469 : decode cL_isWhole 469 = .ok (.iload 10, 2) := by decide +kernel
theorem dL_isWhole_471 : decode cL_isWhole 471 = .ok (.iconst 4, 1) := by decide +kernel
theorem dL_isWhole_472 : decode cL_isWhole 472 = .ok (.invokevirtual 26, 3) := by decide +kernel
theorem dL_isWhole_475 : decode cL_isWhole 475 = .ok (.iload 12, 2) := by decide +kernel
theorem dL_isWhole_477 : decode cL_isWhole 477 = .ok (.if_icmp .gt 120, 3) := by decide +kernel
theorem dL_isWhole_480 : decode cL_isWhole 480 = .ok (.aload_n 0, 1) := by decide +kernel
theorem dL_isWhole_481 : decode cL_isWhole 481 = .ok (.iload 10, 2) := by decide +kernel
theorem dL_isWhole_483 : decode cL_isWhole 483 = .ok (.bipush 6, 2) := by decide +kernel
theorem dL_isWhole_485 : decode cL_isWhole 485 = .ok (.invokevirtual 26, 3) := by decide +kernel
theorem dL_isWhole_488 : decode cL_isWhole 488 = .ok (.iconst 1, 1) := by decide +kernel
theorem dL_isWhole_489 : decode cL_isWhole 489 = .ok (.if_icmp .ne 7, 3) := by decide +kernel
theorem dL_isWhole_492 : decode cL_isWhole 492 = .ok (.iconst 1, 1) := by decide +kernel
theorem dL_isWhole_493 : decode cL_isWhole 493 = .ok (.goto 4, 3) := by decide +kernel
theorem dL_isWhole_496 : decode cL_isWhole 496 = .ok (.iconst 0, 1) := by decide +kernel
theorem dL_isWhole_497 : decode cL_isWhole 497 = .ok (.iconst 2, 1) := by decide +kernel
theorem dL_isWhole_498 : decode cL_isWhole 498 = .ok (.aload_n 0, 1) := by decide +kernel
theorem dL_isWhole_499 : decode cL_isWhole 499 = .ok (.iload 10, 2) := by decide +kernel
theorem dL_isWhole_501 : decode cL_isWhole 501 = .ok (.iconst 4, 1) := by decide +kernel
theorem dL_isWhole_502 : decode cL_isWhole 502 = .ok (.invokevirtual 26, 3) := by decide +kernel
theorem dL_isWhole_505 : decode cL_isWhole 505 = .ok (.imul, 1) := by decide +kernel
theorem dL_isWhole_506 : decode cL_isWhole 506 = .ok (.iload 12, 2) := by decide +kernel
theorem dL_isWhole_508 : decode cL_isWhole 508 = .ok (.if_icmp .le 7, 3) := by decide +kernel
theorem dL_isWhole_511 : decode cL_isWhole 511 = .ok (.iconst 1, 1) := by decide +kernel
theorem dL_isWhole_512 : decode cL_isWhole 512 = .ok (.goto 4, 3) := by decide +kernel
theorem dL_isWhole_515 : decode cL_isWhole 515 = .ok (.iconst 0, 1) := by decide +kernel
theorem dL_isWhole_516 : decode cL_isWhole 516 = .ok (.if_icmp .ne 81, 3) := by decide +kernel
theorem dL_isWhole_519 : decode cL_isWhole 519 = .ok (.iload 13, 2) := by decide +kernel
theorem dL_isWhole_521 : decode cL_isWhole 521 = .ok (.sipush (-1005), 3) := by decide +kernel
theorem dL_isWhole_524 : decode cL_isWhole 524 = .ok (.if_icmp .ne 7, 3) := by decide +kernel
theorem dL_isWhole_527 : decode cL_isWhole 527 = .ok (.iconst 1, 1) := by decide +kernel
theorem dL_isWhole_528 : decode cL_isWhole 528 = .ok (.goto 4, 3) := by decide +kernel
theorem dL_isWhole_531 : decode cL_isWhole 531 = .ok (.iconst 0, 1) := by decide +kernel
theorem dL_isWhole_532 : decode cL_isWhole 532 = .ok (.iload 11, 2) := by decide +kernel
theorem dL_isWhole_534 : decode cL_isWhole 534 = .ok (.ifCond .eq 12, 3) := by decide +kernel
theorem dL_isWhole_537 : decode cL_isWhole 537 = .ok (.iconst 2, 1) := by decide +kernel
theorem dL_isWhole_538 : decode cL_isWhole 538 = .ok (.iload 12, 2) := by decide +kernel
theorem dL_isWhole_540 : decode cL_isWhole 540 = .ok (.imul, 1) := by decide +kernel
theorem dL_isWhole_541 : decode cL_isWhole 541 = .ok (.iload 11, 2) := by decide +kernel
theorem dL_isWhole_543 : decode cL_isWhole 543 = .ok (.if_icmp .ge 7, 3) := by decide +kernel
theorem dL_isWhole_546 : decode cL_isWhole 546 = .ok (.iconst 1, 1) := by decide +kernel
theorem dL_isWhole_547 : decode cL_isWhole 547 = .ok (.goto 4, 3) := by decide +kernel
theorem dL_isWhole_550 : decode cL_isWhole 550 = .ok (.iconst 0, 1) := by decide +kernel
theorem dL_isWhole_551 : decode cL_isWhole 551 = .ok (.if_icmp .ne 46, 3) := by decide +kernel
theorem dL_isWhole_554 : decode cL_isWhole 554 = .ok (.aload_n 0, 1) := by decide +kernel
theorem dL_isWhole_555 : decode cL_isWhole 555 = .ok (.iload 10, 2) := by decide +kernel
theorem dL_isWhole_557 : decode cL_isWhole 557 = .ok (.iconst 0, 1) := by decide +kernel
theorem dL_isWhole_558 : decode cL_isWhole 558 = .ok (.invokevirtual 37, 3) := by decide +kernel
theorem dL_isWhole_561 : decode cL_isWhole 561 = .ok (.iload 11, 2) := by decide +kernel
theorem dL_isWhole_563 : decode cL_isWhole 563 = .ok (.if_icmp .ne 34, 3) := by decide +kernel
theorem dL_isWhole_566 : decode cL_isWhole 566 = .ok (.iload 13, 2) := by decide +kernel
theorem dL_isWhole_568 : decode cL_isWhole 568 = .ok (.ifCond .lt 25, 3) := by decide +kernel
theorem dL_isWhole_571 : decode cL_isWhole 571 = .ok (.aload_n 0, 1) := by decide +kernel
theorem dL_isWhole_572 : decode cL_isWhole 572 = .ok (.iload 10, 2) := by decide +kernel
theorem dL_isWhole_574 : decode cL_isWhole 574 = .ok (.iload 13, 2) := by decide +kernel
theorem dL_isWhole_576 : decode cL_isWhole 576 = .ok (.invokevirtual 37, 3) := by decide +kernel
theorem dL_isWhole_579 : decode cL_isWhole 579 = .ok (.iload 12, 2) := by decide +kernel
theorem dL_isWhole_581 : decode cL_isWhole 581 = .ok (.iload 11, 2) := by decide +kernel
theorem dL_isWhole_583 : decode cL_isWhole 583 = .ok (.iconst 1, 1) := by decide +kernel
theorem dL_isWhole_584 : decode cL_isWhole 584 = .ok (.iadd, 1) := by decide +kernel
theorem dL_isWhole_585 : decode cL_isWhole 585 = .ok (.iconst 2, 1) := by decide +kernel
theorem dL_isWhole_586 : decode cL_isWhole 586 = .ok (.idiv, 1) := by decide +kernel
theorem dL_isWhole_587 : decode cL_isWhole 587 = .ok (.isub, 1) := by decide +kernel
theorem dL_isWhole_588 : decode cL_isWhole 588 = .ok (.iconst 1, 1) := by decide +kernel
theorem dL_isWhole_589 : decode cL_isWhole 589 = .ok (.iadd, 1) := by decide +kernel
theorem dL_isWhole_590 : decode cL_isWhole 590 = .ok (.if_icmp .lt 7, 3) := by decide +kernel
theorem dL_isWhole_593 : decode cL_isWhole 593 = .ok (.iconst 1, 1) := by decide +kernel
theorem dL_isWhole_594 : decode cL_isWhole 594 = .ok (.goto 4, 3) := by decide +kernel
theorem dL_isWhole_597 : decode cL_isWhole 597 = .ok (.iconst 0, 1) := by decide +kernel
theorem dL_isWhole_598 : decode cL_isWhole 598 = .ok (.istore 7, 2) := by decide +kernel
theorem dL_isWhole_600 : decode cL_isWhole 600 = .ok (.iinc 10 1, 3) := by decide +kernel
theorem dL_isWhole_603 : decode cL_isWhole 603 = .ok (.goto (-195), 3) := by decide +kernel
theorem dL_isWhole_606 : decode cL_isWhole 606 = .ok (.iload 7, 2) := by decide +kernel
theorem dL_isWhole_608 : decode cL_isWhole 608 = .ok (.ifCond .eq 93, 3) := by decide +kernel
theorem dL_isWhole_611 : decode cL_isWhole 611 = .ok (.iload 8, 2) := by decide +kernel
theorem dL_isWhole_613 : decode cL_isWhole 613 = .ok (.aload_n 0, 1) := by decide +kernel
theorem dL_isWhole_614 : decode cL_isWhole 614 = .ok (.iconst 1, 1) := by decide +kernel
theorem dL_isWhole_615 : decode cL_isWhole 615 = .ok (.invokevirtual 13, 3) := by decide +kernel
theorem dL_isWhole_618 : decode cL_isWhole 618 = .ok (.if_icmp .ne 83, 3) := by decide +kernel
theorem dL_isWhole_621 : decode cL_isWhole 621 = .ok (.iload 9, 2) := by decide +kernel
theorem dL_isWhole_623 : decode cL_isWhole 623 = .ok (.iload_n 3, 1) := by decide +kernel
theorem dL_isWhole_624 : decode cL_isWhole 624 = .ok (.if_icmp .ne 77, 3) := by decide +kernel
theorem dL_isWhole_627 : decode cL_isWhole 627 = .ok (.iload_n 1, 1) := by decide +kernel
theorem dL_isWhole_628 : decode cL_isWhole 628 = .ok (.aload_n 0, 1) := by decide +kernel
theorem dL_isWhole_629 : decode cL_isWhole 629 = .ok (.bipush 6, 2) := by decide +kernel
theorem dL_isWhole_631 : decode cL_isWhole 631 = .ok (.invokevirtual 13, 3) := by decide +kernel
theorem dL_isWhole_634 : decode cL_isWhole 634 = .ok (.if_icmp .ne 67, 3) := by decide +kernel
theorem dL_isWhole_637 : decode cL_isWhole 637 = .ok (.iload_n 2, 1) := by decide +kernel
theorem dL_isWhole_638 : decode cL_isWhole 638 = .ok (.aload_n 0, 1) := by decide +kernel
theorem dL_isWhole_639 : decode cL_isWhole 639 = .ok (.bipush 7, 2) := by decide +kernel
theorem dL_isWhole_641 : decode cL_isWhole 641 = .ok (.invokevirtual 13, 3) := by decide +kernel
theorem dL_isWhole_644 : decode cL_isWhole 644 = .ok (.if_icmp .ne 57, 3) := by decide +kernel
theorem dL_isWhole_647 : decode cL_isWhole 647 = .ok (.iload_n 3, 1) := by decide +kernel
theorem dL_isWhole_648 : decode cL_isWhole 648 = .ok (.aload_n 0, 1) := by decide +kernel
theorem dL_isWhole_649 : decode cL_isWhole 649 = .ok (.iconst 4, 1) := by decide +kernel
theorem dL_isWhole_650 : decode cL_isWhole 650 = .ok (.invokevirtual 13, 3) := by decide +kernel
theorem dL_isWhole_653 : decode cL_isWhole 653 = .ok (.if_icmp .ne 48, 3) := by decide +kernel
theorem dL_isWhole_656 : decode cL_isWhole 656 = .ok (.iload 5, 2) := by decide +kernel

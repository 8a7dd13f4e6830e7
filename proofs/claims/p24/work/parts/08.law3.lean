theorem dL_law_497 : decode cL_law 497 = .ok (.iconst 1, 1) := by decide +kernel
theorem dL_law_498 : decode cL_law 498 = .ok (.isub, 1) := by decide +kernel
theorem dL_law_499 : decode cL_law 499 = .ok (.iaload, 1) := by decide +kernel
theorem dL_law_500 : decode cL_law 500 = .ok (.goto 5, 3) := by decide +kernel
theorem dL_law_503 : decode cL_law 503 = .ok (.bipush (-13), 2) := by decide +kernel
theorem dL_law_505 : decode cL_law 505 = .ok (.if_icmp .ne 7, 3) := by decide +kernel
theorem dL_law_508 : decode cL_law 508 = .ok (.iconst 1, 1) := by decide +kernel
theorem dL_law_509 : decode cL_law 509 = .ok (.goto 4, 3) := by decide +kernel
theorem dL_law_512 : decode cL_law 512 = .ok (.iconst 0, 1) := by decide +kernel
theorem dL_law_513 : decode cL_law 513 = .ok (.istore 14, 2) := by decide +kernel
theorem dL_law_515 : decode cL_law 515 = .ok (.goto 193, 3) := by decide +kernel
theorem dL_law_518 : decode cL_law 518 = .ok (.iload 17, 2) := by decide +kernel
theorem dL_law_520 : decode cL_law 520 = .ok (.bipush 8, 2) := by decide +kernel
theorem dL_law_522 : decode cL_law 522 = .ok (.if_icmp .ne 92, 3) := by decide +kernel
theorem dL_law_525 : decode cL_law 525 = .ok (.aload_n 2, 1) := by decide +kernel
theorem dL_law_526 : decode cL_law 526 = .ok (.iconst 4, 1) := by decide +kernel
theorem dL_law_527 : decode cL_law 527 = .ok (.iaload, 1) := by decide +kernel
theorem dL_law_528 : decode cL_law 528 = .ok (.ifCond .le 86, 3) := by decide +kernel
theorem dL_law_531 : decode cL_law 531 = .ok (.iload 18, 2) := by decide +kernel
theorem dL_law_533 : decode cL_law 533 = .ok (.aload_n 2, 1) := by decide +kernel
theorem dL_law_534 : decode cL_law 534 = .ok (.iconst 4, 1) := by decide +kernel
theorem dL_law_535 : decode cL_law 535 = .ok (.iaload, 1) := by decide +kernel
theorem dL_law_536 : decode cL_law 536 = .ok (.irem, 1) := by decide +kernel
theorem dL_law_537 : decode cL_law 537 = .ok (.istore 19, 2) := by decide +kernel
theorem dL_law_539 : decode cL_law 539 = .ok (.aload_n 3, 1) := by decide +kernel
theorem dL_law_540 : decode cL_law 540 = .ok (.iload 19, 2) := by decide +kernel
theorem dL_law_542 : decode cL_law 542 = .ok (.iaload, 1) := by decide +kernel
theorem dL_law_543 : decode cL_law 543 = .ok (.istore 20, 2) := by decide +kernel
theorem dL_law_545 : decode cL_law 545 = .ok (.aload_n 3, 1) := by decide +kernel
theorem dL_law_546 : decode cL_law 546 = .ok (.iload 19, 2) := by decide +kernel
theorem dL_law_548 : decode cL_law 548 = .ok (.iconst (-1), 1) := by decide +kernel
theorem dL_law_549 : decode cL_law 549 = .ok (.iastore, 1) := by decide +kernel
theorem dL_law_550 : decode cL_law 550 = .ok (.aload_n 1, 1) := by decide +kernel
theorem dL_law_551 : decode cL_law 551 = .ok (.iconst 0, 1) := by decide +kernel
theorem dL_law_552 : decode cL_law 552 = .ok (.iload 19, 2) := by decide +kernel
theorem dL_law_554 : decode cL_law 554 = .ok (.invokestatic 113, 3) := by decide +kernel
theorem dL_law_557 : decode cL_law 557 = .ok (.iload 20, 2) := by decide +kernel
theorem dL_law_559 : decode cL_law 559 = .ok (.ifCond .ge 8, 3) := by decide +kernel
theorem dL_law_562 : decode cL_law 562 = .ok (.bipush (-11), 2) := by decide +kernel
theorem dL_law_564 : decode cL_law 564 = .ok (.goto 5, 3) := by decide +kernel
theorem dL_law_567 : decode cL_law 567 = .ok (.iload 20, 2) := by decide +kernel
theorem dL_law_569 : decode cL_law 569 = .ok (.if_icmp .ne 7, 3) := by decide +kernel
theorem dL_law_572 : decode cL_law 572 = .ok (.iconst 1, 1) := by decide +kernel
theorem dL_law_573 : decode cL_law 573 = .ok (.goto 4, 3) := by decide +kernel
theorem dL_law_576 : decode cL_law 576 = .ok (.iconst 0, 1) := by decide +kernel
theorem dL_law_577 : decode cL_law 577 = .ok (.istore 14, 2) := by decide +kernel
theorem dL_law_579 : decode cL_law 579 = .ok (.iload 20, 2) := by decide +kernel
theorem dL_law_581 : decode cL_law 581 = .ok (.ifCond .lt 30, 3) := by decide +kernel
theorem dL_law_584 : decode cL_law 584 = .ok (.aload_n 2, 1) := by decide +kernel
theorem dL_law_585 : decode cL_law 585 = .ok (.aload_n 3, 1) := by decide +kernel
theorem dL_law_586 : decode cL_law 586 = .ok (.aload 4, 2) := by decide +kernel
theorem dL_law_588 : decode cL_law 588 = .ok (.aload 5, 2) := by decide +kernel
theorem dL_law_590 : decode cL_law 590 = .ok (.aload 6, 2) := by decide +kernel
theorem dL_law_592 : decode cL_law 592 = .ok (.aload 7, 2) := by decide +kernel
theorem dL_law_594 : decode cL_law 594 = .ok (.aload 8, 2) := by decide +kernel
theorem dL_law_596 : decode cL_law 596 = .ok (.aload 9, 2) := by decide +kernel
theorem dL_law_598 : decode cL_law 598 = .ok (.aload 10, 2) := by decide +kernel
theorem dL_law_600 : decode cL_law 600 = .ok (.aload 11, 2) := by decide +kernel
theorem dL_law_602 : decode cL_law 602 = .ok (.aload 12, 2) := by decide +kernel
theorem dL_law_604 : decode cL_law 604 = .ok (.aload 13, 2) := by decide +kernel
theorem dL_law_606 : decode cL_law 606 = .ok (.iload 20, 2) := by decide +kernel
theorem dL_law_608 : decode cL_law 608 = .ok (.invokestatic 143, 3) := by decide +kernel
theorem dL_law_611 : decode cL_law 611 = .ok (.goto 97, 3) := by decide +kernel
theorem dL_law_614 : decode cL_law 614 = .ok (.iconst 1, 1) := by decide +kernel
theorem dL_law_615 : decode cL_law 615 = .ok (.iload 18, 2) := by decide +kernel
theorem dL_law_617 : decode cL_law 617 = .ok (.iload 18, 2) := by decide +kernel
theorem dL_law_619 : decode cL_law 619 = .ok (.iconst 4, 1) := by decide +kernel
theorem dL_law_620 : decode cL_law 620 = .ok (.irem, 1) := by decide +kernel
theorem dL_law_621 : decode cL_law 621 = .ok (.ifCond .ne 8, 3) := by decide +kernel
theorem dL_law_624 : decode cL_law 624 = .ok (.bipush 24, 2) := by decide +kernel
theorem dL_law_626 : decode cL_law 626 = .ok (.goto 4, 3) := by decide +kernel
theorem dL_law_629 : decode cL_law 629 = .ok (.iconst 4, 1) := by decide +kernel
theorem dL_law_630 : decode cL_law 630 = .ok (.irem, 1) := by decide +kernel
theorem dL_law_631 : decode cL_law 631 = .ok (.iadd, 1) := by decide +kernel
theorem dL_law_632 : decode cL_law 632 = .ok (.istore 19, 2) := by decide +kernel
theorem dL_law_634 : decode cL_law 634 = .ok (.aload_n 2, 1) := by decide +kernel
theorem dL_law_635 : decode cL_law 635 = .ok (.iconst 3, 1) := by decide +kernel
theorem dL_law_636 : decode cL_law 636 = .ok (.iaload, 1) := by decide +kernel
theorem dL_law_637 : decode cL_law 637 = .ok (.iload 19, 2) := by decide +kernel
theorem dL_law_639 : decode cL_law 639 = .ok (.iadd, 1) := by decide +kernel
theorem dL_law_640 : decode cL_law 640 = .ok (.bipush 62, 2) := by decide +kernel
theorem dL_law_642 : decode cL_law 642 = .ok (.if_icmp .ge 66, 3) := by decide +kernel
theorem dL_law_645 : decode cL_law 645 = .ok (.aload_n 1, 1) := by decide +kernel
theorem dL_law_646 : decode cL_law 646 = .ok (.iconst 2, 1) := by decide +kernel
theorem dL_law_647 : decode cL_law 647 = .ok (.iload 19, 2) := by decide +kernel
theorem dL_law_649 : decode cL_law 649 = .ok (.invokestatic 113, 3) := by decide +kernel
theorem dL_law_652 : decode cL_law 652 = .ok (.aload_n 2, 1) := by decide +kernel
theorem dL_law_653 : decode cL_law 653 = .ok (.iconst 3, 1) := by decide +kernel
theorem dL_law_654 : decode cL_law 654 = .ok (.iaload, 1) := by decide +kernel
theorem dL_law_655 : decode cL_law 655 = .ok (.iload 19, 2) := by decide +kernel
theorem dL_law_657 : decode cL_law 657 = .ok (.iadd, 1) := by decide +kernel
theorem dL_law_658 : decode cL_law 658 = .ok (.if_icmp .ne 7, 3) := by decide +kernel
theorem dL_law_661 : decode cL_law 661 = .ok (.iconst 1, 1) := by decide +kernel
theorem dL_law_662 : decode cL_law 662 = .ok (.goto 4, 3) := by decide +kernel
theorem dL_law_665 : decode cL_law 665 = .ok (.iconst 0, 1) := by decide +kernel
theorem dL_law_666 : decode cL_law 666 = .ok (.istore 14, 2) := by decide +kernel
theorem dL_law_668 : decode cL_law 668 = .ok (.aload_n 2, 1) := by decide +kernel
theorem dL_law_669 : decode cL_law 669 = .ok (.iconst 3, 1) := by decide +kernel
theorem dL_law_670 : decode cL_law 670 = .ok (.iaload, 1) := by decide +kernel
theorem dL_law_671 : decode cL_law 671 = .ok (.istore 20, 2) := by decide +kernel

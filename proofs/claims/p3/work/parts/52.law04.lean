theorem d_La_law_537 : decode code 537 = .ok (.iaload, 1) := by decide +kernel
theorem d_La_law_538 : decode code 538 = .ok (.aload_n 0, 1) := by decide +kernel
theorem d_La_law_539 : decode code 539 = .ok (.iload 4, 2) := by decide +kernel
theorem d_La_law_541 : decode code 541 = .ok (.iconst 3, 1) := by decide +kernel
theorem d_La_law_542 : decode code 542 = .ok (.iadd, 1) := by decide +kernel
theorem d_La_law_543 : decode code 543 = .ok (.iaload, 1) := by decide +kernel
theorem d_La_law_544 : decode code 544 = .ok (.aload_n 0, 1) := by decide +kernel
theorem d_La_law_545 : decode code 545 = .ok (.iload 4, 2) := by decide +kernel
theorem d_La_law_547 : decode code 547 = .ok (.iconst 4, 1) := by decide +kernel
theorem d_La_law_548 : decode code 548 = .ok (.iadd, 1) := by decide +kernel
theorem d_La_law_549 : decode code 549 = .ok (.iaload, 1) := by decide +kernel
theorem d_La_law_550 : decode code 550 = .ok (.aload_n 3, 1) := by decide +kernel
theorem d_La_law_551 : decode code 551 = .ok (.invokestatic 102, 3) := by decide +kernel
theorem d_La_law_554 : decode code 554 = .ok (.istore 5, 2) := by decide +kernel
theorem d_La_law_556 : decode code 556 = .ok (.aload_n 2, 1) := by decide +kernel
theorem d_La_law_557 : decode code 557 = .ok (.aload_n 0, 1) := by decide +kernel
theorem d_La_law_558 : decode code 558 = .ok (.iload 4, 2) := by decide +kernel
theorem d_La_law_560 : decode code 560 = .ok (.iconst 1, 1) := by decide +kernel
theorem d_La_law_561 : decode code 561 = .ok (.iadd, 1) := by decide +kernel
theorem d_La_law_562 : decode code 562 = .ok (.iaload, 1) := by decide +kernel
theorem d_La_law_563 : decode code 563 = .ok (.aload_n 0, 1) := by decide +kernel
theorem d_La_law_564 : decode code 564 = .ok (.iload 4, 2) := by decide +kernel
theorem d_La_law_566 : decode code 566 = .ok (.iconst 2, 1) := by decide +kernel
theorem d_La_law_567 : decode code 567 = .ok (.iadd, 1) := by decide +kernel
theorem d_La_law_568 : decode code 568 = .ok (.iaload, 1) := by decide +kernel
theorem d_La_law_569 : decode code 569 = .ok (.aload_n 0, 1) := by decide +kernel
theorem d_La_law_570 : decode code 570 = .ok (.iload 4, 2) := by decide +kernel
theorem d_La_law_572 : decode code 572 = .ok (.iconst 3, 1) := by decide +kernel
theorem d_La_law_573 : decode code 573 = .ok (.iadd, 1) := by decide +kernel
theorem d_La_law_574 : decode code 574 = .ok (.iaload, 1) := by decide +kernel
theorem d_La_law_575 : decode code 575 = .ok (.aload_n 0, 1) := by decide +kernel
theorem d_La_law_576 : decode code 576 = .ok (.iload 4, 2) := by decide +kernel
theorem d_La_law_578 : decode code 578 = .ok (.iconst 4, 1) := by decide +kernel
theorem d_La_law_579 : decode code 579 = .ok (.iadd, 1) := by decide +kernel
theorem d_La_law_580 : decode code 580 = .ok (.iaload, 1) := by decide +kernel
theorem d_La_law_581 : decode code 581 = .ok (.invokevirtual 104, 3) := by decide +kernel
theorem d_La_law_584 : decode code 584 = .ok (.istore 6, 2) := by decide +kernel
theorem d_La_law_586 : decode code 586 = .ok (.goto 56, 3) := by decide +kernel
theorem d_La_law_589 : decode code 589 = .ok (.aload_n 1, 1) := by decide +kernel
theorem d_La_law_590 : decode code 590 = .ok (.aload_n 0, 1) := by decide +kernel
theorem d_La_law_591 : decode code 591 = .ok (.iload 4, 2) := by decide +kernel
theorem d_La_law_593 : decode code 593 = .ok (.iconst 1, 1) := by decide +kernel
theorem d_La_law_594 : decode code 594 = .ok (.iadd, 1) := by decide +kernel
theorem d_La_law_595 : decode code 595 = .ok (.iaload, 1) := by decide +kernel
theorem d_La_law_596 : decode code 596 = .ok (.aload_n 0, 1) := by decide +kernel
theorem d_La_law_597 : decode code 597 = .ok (.iload 4, 2) := by decide +kernel
theorem d_La_law_599 : decode code 599 = .ok (.iconst 2, 1) := by decide +kernel
theorem d_La_law_600 : decode code 600 = .ok (.iadd, 1) := by decide +kernel
theorem d_La_law_601 : decode code 601 = .ok (.iaload, 1) := by decide +kernel
theorem d_La_law_602 : decode code 602 = .ok (.aload_n 3, 1) := by decide +kernel
theorem d_La_law_603 : decode code 603 = .ok (.invokestatic 105, 3) := by decide +kernel
theorem d_La_law_606 : decode code 606 = .ok (.istore 5, 2) := by decide +kernel
theorem d_La_law_608 : decode code 608 = .ok (.aload_n 2, 1) := by decide +kernel
theorem d_La_law_609 : decode code 609 = .ok (.aload_n 0, 1) := by decide +kernel
theorem d_La_law_610 : decode code 610 = .ok (.iload 4, 2) := by decide +kernel
theorem d_La_law_612 : decode code 612 = .ok (.iconst 1, 1) := by decide +kernel
theorem d_La_law_613 : decode code 613 = .ok (.iadd, 1) := by decide +kernel
theorem d_La_law_614 : decode code 614 = .ok (.iaload, 1) := by decide +kernel
theorem d_La_law_615 : decode code 615 = .ok (.aload_n 0, 1) := by decide +kernel
theorem d_La_law_616 : decode code 616 = .ok (.iload 4, 2) := by decide +kernel
theorem d_La_law_618 : decode code 618 = .ok (.iconst 2, 1) := by decide +kernel
theorem d_La_law_619 : decode code 619 = .ok (.iadd, 1) := by decide +kernel
theorem d_La_law_620 : decode code 620 = .ok (.iaload, 1) := by decide +kernel
theorem d_La_law_621 : decode code 621 = .ok (.invokevirtual 107, 3) := by decide +kernel
theorem d_La_law_624 : decode code 624 = .ok (.istore 6, 2) := by decide +kernel
theorem d_La_law_626 : decode code 626 = .ok (.goto 16, 3) := by decide +kernel
theorem d_La_law_629 : decode code 629 = .ok (.aload_n 1, 1) := by decide +kernel
theorem d_La_law_630 : decode code 630 = .ok (.invokevirtual 108, 3) := by decide +kernel
theorem d_La_law_633 : decode code 633 = .ok (.pop, 1) := by decide +kernel
theorem d_La_law_634 : decode code 634 = .ok (.aload_n 2, 1) := by decide +kernel
theorem d_La_law_635 : decode code 635 = .ok (.invokevirtual 111, 3) := by decide +kernel
theorem d_La_law_638 : decode code 638 = .ok (.pop, 1) := by decide +kernel
theorem d_La_law_639 : decode code 639 = .ok (.goto 3, 3) := by decide +kernel
theorem d_La_law_642 : decode code 642 = .ok (.iinc 4 5, 3) := by decide +kernel
theorem d_La_law_645 : decode code 645 = .ok (.goto (-602), 3) := by decide +kernel
theorem d_La_law_648 : decode code 648 = .ok (.iconst 1, 1) := by decide +kernel
theorem d_La_law_649 : decode code 649 = .ok (.ireturn, 1) := by decide +kernel

theorem d_La_law_540 : decode code 540 = .ok (.iaload, 1) := by decide +kernel
theorem d_La_law_541 : decode code 541 = .ok (.invokevirtual 101, 3) := by decide +kernel
theorem d_La_law_544 : decode code 544 = .ok (.istore 6, 2) := by decide +kernel
theorem d_La_law_546 : decode code 546 = .ok (.goto 120, 3) := by decide +kernel
theorem d_La_law_549 : decode code 549 = .ok (.aload_n 1, 1) := by decide +kernel
theorem d_La_law_550 : decode code 550 = .ok (.aload_n 0, 1) := by decide +kernel
theorem d_La_law_551 : decode code 551 = .ok (.iload 4, 2) := by decide +kernel
theorem d_La_law_553 : decode code 553 = .ok (.iconst 1, 1) := by decide +kernel
theorem d_La_law_554 : decode code 554 = .ok (.iadd, 1) := by decide +kernel
theorem d_La_law_555 : decode code 555 = .ok (.iaload, 1) := by decide +kernel
theorem d_La_law_556 : decode code 556 = .ok (.aload_n 0, 1) := by decide +kernel
theorem d_La_law_557 : decode code 557 = .ok (.iload 4, 2) := by decide +kernel
theorem d_La_law_559 : decode code 559 = .ok (.iconst 2, 1) := by decide +kernel
theorem d_La_law_560 : decode code 560 = .ok (.iadd, 1) := by decide +kernel
theorem d_La_law_561 : decode code 561 = .ok (.iaload, 1) := by decide +kernel
theorem d_La_law_562 : decode code 562 = .ok (.aload_n 0, 1) := by decide +kernel
theorem d_La_law_563 : decode code 563 = .ok (.iload 4, 2) := by decide +kernel
theorem d_La_law_565 : decode code 565 = .ok (.iconst 3, 1) := by decide +kernel
theorem d_La_law_566 : decode code 566 = .ok (.iadd, 1) := by decide +kernel
theorem d_La_law_567 : decode code 567 = .ok (.iaload, 1) := by decide +kernel
theorem d_La_law_568 : decode code 568 = .ok (.aload_n 0, 1) := by decide +kernel
theorem d_La_law_569 : decode code 569 = .ok (.iload 4, 2) := by decide +kernel
theorem d_La_law_571 : decode code 571 = .ok (.iconst 4, 1) := by decide +kernel
theorem d_La_law_572 : decode code 572 = .ok (.iadd, 1) := by decide +kernel
theorem d_La_law_573 : decode code 573 = .ok (.iaload, 1) := by decide +kernel
theorem d_La_law_574 : decode code 574 = .ok (.aload_n 3, 1) := by decide +kernel
theorem d_La_law_575 : decode code 575 = .ok (.invokestatic 102, 3) := by decide +kernel
theorem d_La_law_578 : decode code 578 = .ok (.istore 5, 2) := by decide +kernel
theorem d_La_law_580 : decode code 580 = .ok (.aload_n 2, 1) := by decide +kernel
theorem d_La_law_581 : decode code 581 = .ok (.aload_n 0, 1) := by decide +kernel
theorem d_La_law_582 : decode code 582 = .ok (.iload 4, 2) := by decide +kernel
theorem d_La_law_584 : decode code 584 = .ok (.iconst 1, 1) := by decide +kernel
theorem d_La_law_585 : decode code 585 = .ok (.iadd, 1) := by decide +kernel
theorem d_La_law_586 : decode code 586 = .ok (.iaload, 1) := by decide +kernel
theorem d_La_law_587 : decode code 587 = .ok (.aload_n 0, 1) := by decide +kernel
theorem d_La_law_588 : decode code 588 = .ok (.iload 4, 2) := by decide +kernel
theorem d_La_law_590 : decode code 590 = .ok (.iconst 2, 1) := by decide +kernel
theorem d_La_law_591 : decode code 591 = .ok (.iadd, 1) := by decide +kernel
theorem d_La_law_592 : decode code 592 = .ok (.iaload, 1) := by decide +kernel
theorem d_La_law_593 : decode code 593 = .ok (.aload_n 0, 1) := by decide +kernel
theorem d_La_law_594 : decode code 594 = .ok (.iload 4, 2) := by decide +kernel
theorem d_La_law_596 : decode code 596 = .ok (.iconst 3, 1) := by decide +kernel
theorem d_La_law_597 : decode code 597 = .ok (.iadd, 1) := by decide +kernel
theorem d_La_law_598 : decode code 598 = .ok (.iaload, 1) := by decide +kernel
theorem d_La_law_599 : decode code 599 = .ok (.aload_n 0, 1) := by decide +kernel
theorem d_La_law_600 : decode code 600 = .ok (.iload 4, 2) := by decide +kernel
theorem d_La_law_602 : decode code 602 = .ok (.iconst 4, 1) := by decide +kernel
theorem d_La_law_603 : decode code 603 = .ok (.iadd, 1) := by decide +kernel
theorem d_La_law_604 : decode code 604 = .ok (.iaload, 1) := by decide +kernel
theorem d_La_law_605 : decode code 605 = .ok (.invokevirtual 104, 3) := by decide +kernel
theorem d_La_law_608 : decode code 608 = .ok (.istore 6, 2) := by decide +kernel
theorem d_La_law_610 : decode code 610 = .ok (.goto 56, 3) := by decide +kernel
theorem d_La_law_613 : decode code 613 = .ok (.aload_n 1, 1) := by decide +kernel
theorem d_La_law_614 : decode code 614 = .ok (.aload_n 0, 1) := by decide +kernel
theorem d_La_law_615 : decode code 615 = .ok (.iload 4, 2) := by decide +kernel
theorem d_La_law_617 : decode code 617 = .ok (.iconst 1, 1) := by decide +kernel
theorem d_La_law_618 : decode code 618 = .ok (.iadd, 1) := by decide +kernel
theorem d_La_law_619 : decode code 619 = .ok (.iaload, 1) := by decide +kernel
theorem d_La_law_620 : decode code 620 = .ok (.aload_n 0, 1) := by decide +kernel
theorem d_La_law_621 : decode code 621 = .ok (.iload 4, 2) := by decide +kernel
theorem d_La_law_623 : decode code 623 = .ok (.iconst 2, 1) := by decide +kernel
theorem d_La_law_624 : decode code 624 = .ok (.iadd, 1) := by decide +kernel
theorem d_La_law_625 : decode code 625 = .ok (.iaload, 1) := by decide +kernel
theorem d_La_law_626 : decode code 626 = .ok (.aload_n 3, 1) := by decide +kernel
theorem d_La_law_627 : decode code 627 = .ok (.invokestatic 105, 3) := by decide +kernel
theorem d_La_law_630 : decode code 630 = .ok (.istore 5, 2) := by decide +kernel
theorem d_La_law_632 : decode code 632 = .ok (.aload_n 2, 1) := by decide +kernel
theorem d_La_law_633 : decode code 633 = .ok (.aload_n 0, 1) := by decide +kernel
theorem d_La_law_634 : decode code 634 = .ok (.iload 4, 2) := by decide +kernel
theorem d_La_law_636 : decode code 636 = .ok (.iconst 1, 1) := by decide +kernel
theorem d_La_law_637 : decode code 637 = .ok (.iadd, 1) := by decide +kernel
theorem d_La_law_638 : decode code 638 = .ok (.iaload, 1) := by decide +kernel
theorem d_La_law_639 : decode code 639 = .ok (.aload_n 0, 1) := by decide +kernel
theorem d_La_law_640 : decode code 640 = .ok (.iload 4, 2) := by decide +kernel
theorem d_La_law_642 : decode code 642 = .ok (.iconst 2, 1) := by decide +kernel
theorem d_La_law_643 : decode code 643 = .ok (.iadd, 1) := by decide +kernel
theorem d_La_law_644 : decode code 644 = .ok (.iaload, 1) := by decide +kernel
theorem d_La_law_645 : decode code 645 = .ok (.invokevirtual 107, 3) := by decide +kernel
theorem d_La_law_648 : decode code 648 = .ok (.istore 6, 2) := by decide +kernel
theorem d_La_law_650 : decode code 650 = .ok (.goto 16, 3) := by decide +kernel
theorem d_La_law_653 : decode code 653 = .ok (.aload_n 1, 1) := by decide +kernel
theorem d_La_law_654 : decode code 654 = .ok (.invokevirtual 108, 3) := by decide +kernel
theorem d_La_law_657 : decode code 657 = .ok (.pop, 1) := by decide +kernel
theorem d_La_law_658 : decode code 658 = .ok (.aload_n 2, 1) := by decide +kernel
theorem d_La_law_659 : decode code 659 = .ok (.invokevirtual 111, 3) := by decide +kernel
theorem d_La_law_662 : decode code 662 = .ok (.pop, 1) := by decide +kernel
theorem d_La_law_663 : decode code 663 = .ok (.goto 3, 3) := by decide +kernel
theorem d_La_law_666 : decode code 666 = .ok (.iinc 4 5, 3) := by decide +kernel
theorem d_La_law_669 : decode code 669 = .ok (.goto (-626), 3) := by decide +kernel
theorem d_La_law_672 : decode code 672 = .ok (.iconst 1, 1) := by decide +kernel
theorem d_La_law_673 : decode code 673 = .ok (.ireturn, 1) := by decide +kernel

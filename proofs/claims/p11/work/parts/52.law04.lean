theorem d_La_law_533 : decode code 533 = .ok (.aload_n 0, 1) := by decide +kernel
theorem d_La_law_534 : decode code 534 = .ok (.iload 4, 2) := by decide +kernel
theorem d_La_law_536 : decode code 536 = .ok (.iconst 4, 1) := by decide +kernel
theorem d_La_law_537 : decode code 537 = .ok (.iadd, 1) := by decide +kernel
theorem d_La_law_538 : decode code 538 = .ok (.iaload, 1) := by decide +kernel
theorem d_La_law_539 : decode code 539 = .ok (.aload_n 3, 1) := by decide +kernel
theorem d_La_law_540 : decode code 540 = .ok (.invokestatic 99, 3) := by decide +kernel
theorem d_La_law_543 : decode code 543 = .ok (.istore 5, 2) := by decide +kernel
theorem d_La_law_545 : decode code 545 = .ok (.aload_n 2, 1) := by decide +kernel
theorem d_La_law_546 : decode code 546 = .ok (.aload_n 0, 1) := by decide +kernel
theorem d_La_law_547 : decode code 547 = .ok (.iload 4, 2) := by decide +kernel
theorem d_La_law_549 : decode code 549 = .ok (.iconst 1, 1) := by decide +kernel
theorem d_La_law_550 : decode code 550 = .ok (.iadd, 1) := by decide +kernel
theorem d_La_law_551 : decode code 551 = .ok (.iaload, 1) := by decide +kernel
theorem d_La_law_552 : decode code 552 = .ok (.aload_n 0, 1) := by decide +kernel
theorem d_La_law_553 : decode code 553 = .ok (.iload 4, 2) := by decide +kernel
theorem d_La_law_555 : decode code 555 = .ok (.iconst 2, 1) := by decide +kernel
theorem d_La_law_556 : decode code 556 = .ok (.iadd, 1) := by decide +kernel
theorem d_La_law_557 : decode code 557 = .ok (.iaload, 1) := by decide +kernel
theorem d_La_law_558 : decode code 558 = .ok (.aload_n 0, 1) := by decide +kernel
theorem d_La_law_559 : decode code 559 = .ok (.iload 4, 2) := by decide +kernel
theorem d_La_law_561 : decode code 561 = .ok (.iconst 3, 1) := by decide +kernel
theorem d_La_law_562 : decode code 562 = .ok (.iadd, 1) := by decide +kernel
theorem d_La_law_563 : decode code 563 = .ok (.iaload, 1) := by decide +kernel
theorem d_La_law_564 : decode code 564 = .ok (.aload_n 0, 1) := by decide +kernel
theorem d_La_law_565 : decode code 565 = .ok (.iload 4, 2) := by decide +kernel
theorem d_La_law_567 : decode code 567 = .ok (.iconst 4, 1) := by decide +kernel
theorem d_La_law_568 : decode code 568 = .ok (.iadd, 1) := by decide +kernel
theorem d_La_law_569 : decode code 569 = .ok (.iaload, 1) := by decide +kernel
theorem d_La_law_570 : decode code 570 = .ok (.invokevirtual 101, 3) := by decide +kernel
theorem d_La_law_573 : decode code 573 = .ok (.istore 6, 2) := by decide +kernel
theorem d_La_law_575 : decode code 575 = .ok (.aload_n 2, 1) := by decide +kernel
theorem d_La_law_576 : decode code 576 = .ok (.invokevirtual 102, 3) := by decide +kernel
theorem d_La_law_579 : decode code 579 = .ok (.iload 5, 2) := by decide +kernel
theorem d_La_law_581 : decode code 581 = .ok (.if_icmp .eq 5, 3) := by decide +kernel
theorem d_La_law_584 : decode code 584 = .ok (.iconst 0, 1) := by decide +kernel
theorem d_La_law_585 : decode code 585 = .ok (.ireturn, 1) := by decide +kernel
theorem d_La_law_586 : decode code 586 = .ok (.iload 5, 2) := by decide +kernel
theorem d_La_law_588 : decode code 588 = .ok (.ifCond .ne 22, 3) := by decide +kernel
theorem d_La_law_591 : decode code 591 = .ok (.aload_n 3, 1) := by decide +kernel
theorem d_La_law_592 : decode code 592 = .ok (.iconst 0, 1) := by decide +kernel
theorem d_La_law_593 : decode code 593 = .ok (.laload, 1) := by decide +kernel
theorem d_La_law_594 : decode code 594 = .ok (.iload 6, 2) := by decide +kernel
theorem d_La_law_596 : decode code 596 = .ok (.ifCond .eq 7, 3) := by decide +kernel
theorem d_La_law_599 : decode code 599 = .ok (.lconst 1, 1) := by decide +kernel
theorem d_La_law_600 : decode code 600 = .ok (.goto 4, 3) := by decide +kernel
theorem d_La_law_603 : decode code 603 = .ok (.lconst 0, 1) := by decide +kernel
theorem d_La_law_604 : decode code 604 = .ok (.lcmp, 1) := by decide +kernel
theorem d_La_law_605 : decode code 605 = .ok (.ifCond .eq 5, 3) := by decide +kernel
theorem d_La_law_608 : decode code 608 = .ok (.iconst 0, 1) := by decide +kernel
theorem d_La_law_609 : decode code 609 = .ok (.ireturn, 1) := by decide +kernel
theorem d_La_law_610 : decode code 610 = .ok (.goto 56, 3) := by decide +kernel
theorem d_La_law_613 : decode code 613 = .ok (.aload_n 1, 1) := by decide +kernel
theorem d_La_law_614 : decode code 614 = .ok (.aload_n 0, 1) := by decide +kernel
theorem d_La_law_615 : decode code 615 = .ok (.iload 4, 2) := by decide +kernel
theorem d_La_law_617 : decode code 617 = .ok (.iconst 1, 1) := by decide +kernel
theorem d_La_law_618 : decode code 618 = .ok (.iadd, 1) := by decide +kernel
theorem d_La_law_619 : decode code 619 = .ok (.iaload, 1) := by decide +kernel
theorem d_La_law_620 : decode code 620 = .ok (.aload_n 0, 1) := by decide +kernel
theorem d_La_law_621 : decode code 621 = .ok (.iload 4, 2) := by decide +kernel
theorem d_La_law_623 : decode code 623 = .ok (.iconst 2, 1) := by decide +kernel
theorem d_La_law_624 : decode code 624 = .ok (.iadd, 1) := by decide +kernel
theorem d_La_law_625 : decode code 625 = .ok (.iaload, 1) := by decide +kernel
theorem d_La_law_626 : decode code 626 = .ok (.aload_n 3, 1) := by decide +kernel
theorem d_La_law_627 : decode code 627 = .ok (.invokestatic 105, 3) := by decide +kernel
theorem d_La_law_630 : decode code 630 = .ok (.istore 5, 2) := by decide +kernel
theorem d_La_law_632 : decode code 632 = .ok (.aload_n 2, 1) := by decide +kernel
theorem d_La_law_633 : decode code 633 = .ok (.aload_n 0, 1) := by decide +kernel
theorem d_La_law_634 : decode code 634 = .ok (.iload 4, 2) := by decide +kernel
theorem d_La_law_636 : decode code 636 = .ok (.iconst 1, 1) := by decide +kernel
theorem d_La_law_637 : decode code 637 = .ok (.iadd, 1) := by decide +kernel
theorem d_La_law_638 : decode code 638 = .ok (.iaload, 1) := by decide +kernel
theorem d_La_law_639 : decode code 639 = .ok (.aload_n 0, 1) := by decide +kernel
theorem d_La_law_640 : decode code 640 = .ok (.iload 4, 2) := by decide +kernel
theorem d_La_law_642 : decode code 642 = .ok (.iconst 2, 1) := by decide +kernel
theorem d_La_law_643 : decode code 643 = .ok (.iadd, 1) := by decide +kernel
theorem d_La_law_644 : decode code 644 = .ok (.iaload, 1) := by decide +kernel
theorem d_La_law_645 : decode code 645 = .ok (.invokevirtual 107, 3) := by decide +kernel
theorem d_La_law_648 : decode code 648 = .ok (.istore 6, 2) := by decide +kernel
theorem d_La_law_650 : decode code 650 = .ok (.goto 16, 3) := by decide +kernel
theorem d_La_law_653 : decode code 653 = .ok (.aload_n 1, 1) := by decide +kernel
theorem d_La_law_654 : decode code 654 = .ok (.invokevirtual 108, 3) := by decide +kernel
theorem d_La_law_657 : decode code 657 = .ok (.pop, 1) := by decide +kernel
theorem d_La_law_658 : decode code 658 = .ok (.aload_n 2, 1) := by decide +kernel
theorem d_La_law_659 : decode code 659 = .ok (.invokevirtual 111, 3) := by decide +kernel
theorem d_La_law_662 : decode code 662 = .ok (.pop, 1) := by decide +kernel
theorem d_La_law_663 : decode code 663 = .ok (.goto 3, 3) := by decide +kernel
theorem d_La_law_666 : decode code 666 = .ok (.iinc 4 5, 3) := by decide +kernel
theorem d_La_law_669 : decode code 669 = .ok (.goto (-626), 3) := by decide +kernel
theorem d_La_law_672 : decode code 672 = .ok (.iconst 1, 1) := by decide +kernel
theorem d_La_law_673 : decode code 673 = .ok (.ireturn, 1) := by decide +kernel

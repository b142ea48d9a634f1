theorem d_La_law_539 : decode code 539 = .ok (.goto 120, 3) := by decide +kernel
theorem d_La_law_542 : decode code 542 = .ok (.aload_n 1, 1) := by decide +kernel
theorem d_La_law_543 : decode code 543 = .ok (.aload_n 0, 1) := by decide +kernel
theorem d_La_law_544 : decode code 544 = .ok (.iload 4, 2) := by decide +kernel
theorem d_La_law_546 : decode code 546 = .ok (.iconst 1, 1) := by decide +kernel
theorem d_La_law_547 : decode code 547 = .ok (.iadd, 1) := by decide +kernel
theorem d_La_law_548 : decode code 548 = .ok (.iaload, 1) := by decide +kernel
theorem d_La_law_549 : decode code 549 = .ok (.aload_n 0, 1) := by decide +kernel
theorem d_La_law_550 : decode code 550 = .ok (.iload 4, 2) := by decide +kernel
theorem d_La_law_552 : decode code 552 = .ok (.iconst 2, 1) := by decide +kernel
theorem d_La_law_553 : decode code 553 = .ok (.iadd, 1) := by decide +kernel
theorem d_La_law_554 : decode code 554 = .ok (.iaload, 1) := by decide +kernel
theorem d_La_law_555 : decode code 555 = .ok (.aload_n 0, 1) := by decide +kernel
theorem d_La_law_556 : decode code 556 = .ok (.iload 4, 2) := by decide +kernel
theorem d_La_law_558 : decode code 558 = .ok (.iconst 3, 1) := by decide +kernel
theorem d_La_law_559 : decode code 559 = .ok (.iadd, 1) := by decide +kernel
theorem d_La_law_560 : decode code 560 = .ok (.iaload, 1) := by decide +kernel
theorem d_La_law_561 : decode code 561 = .ok (.aload_n 0, 1) := by decide +kernel
theorem d_La_law_562 : decode code 562 = .ok (.iload 4, 2) := by decide +kernel
theorem d_La_law_564 : decode code 564 = .ok (.iconst 4, 1) := by decide +kernel
theorem d_La_law_565 : decode code 565 = .ok (.iadd, 1) := by decide +kernel
theorem d_La_law_566 : decode code 566 = .ok (.iaload, 1) := by decide +kernel
theorem d_La_law_567 : decode code 567 = .ok (.aload_n 3, 1) := by decide +kernel
theorem d_La_law_568 : decode code 568 = .ok (.invokestatic 102, 3) := by decide +kernel
theorem d_La_law_571 : decode code 571 = .ok (.istore 5, 2) := by decide +kernel
theorem d_La_law_573 : decode code 573 = .ok (.aload_n 2, 1) := by decide +kernel
theorem d_La_law_574 : decode code 574 = .ok (.aload_n 0, 1) := by decide +kernel
theorem d_La_law_575 : decode code 575 = .ok (.iload 4, 2) := by decide +kernel
theorem d_La_law_577 : decode code 577 = .ok (.iconst 1, 1) := by decide +kernel
theorem d_La_law_578 : decode code 578 = .ok (.iadd, 1) := by decide +kernel
theorem d_La_law_579 : decode code 579 = .ok (.iaload, 1) := by decide +kernel
theorem d_La_law_580 : decode code 580 = .ok (.aload_n 0, 1) := by decide +kernel
theorem d_La_law_581 : decode code 581 = .ok (.iload 4, 2) := by decide +kernel
theorem d_La_law_583 : decode code 583 = .ok (.iconst 2, 1) := by decide +kernel
theorem d_La_law_584 : decode code 584 = .ok (.iadd, 1) := by decide +kernel
theorem d_La_law_585 : decode code 585 = .ok (.iaload, 1) := by decide +kernel
theorem d_La_law_586 : decode code 586 = .ok (.aload_n 0, 1) := by decide +kernel
theorem d_La_law_587 : decode code 587 = .ok (.iload 4, 2) := by decide +kernel
theorem d_La_law_589 : decode code 589 = .ok (.iconst 3, 1) := by decide +kernel
theorem d_La_law_590 : decode code 590 = .ok (.iadd, 1) := by decide +kernel
theorem d_La_law_591 : decode code 591 = .ok (.iaload, 1) := by decide +kernel
theorem d_La_law_592 : decode code 592 = .ok (.aload_n 0, 1) := by decide +kernel
theorem d_La_law_593 : decode code 593 = .ok (.iload 4, 2) := by decide +kernel
theorem d_La_law_595 : decode code 595 = .ok (.iconst 4, 1) := by decide +kernel
theorem d_La_law_596 : decode code 596 = .ok (.iadd, 1) := by decide +kernel
theorem d_La_law_597 : decode code 597 = .ok (.iaload, 1) := by decide +kernel
theorem d_La_law_598 : decode code 598 = .ok (.invokevirtual 104, 3) := by decide +kernel
theorem d_La_law_601 : decode code 601 = .ok (.istore 6, 2) := by decide +kernel
theorem d_La_law_603 : decode code 603 = .ok (.goto 56, 3) := by decide +kernel
theorem d_La_law_606 : decode code 606 = .ok (.aload_n 1, 1) := by decide +kernel
theorem d_La_law_607 : decode code 607 = .ok (.aload_n 0, 1) := by decide +kernel
theorem d_La_law_608 : decode code 608 = .ok (.iload 4, 2) := by decide +kernel
theorem d_La_law_610 : decode code 610 = .ok (.iconst 1, 1) := by decide +kernel
theorem d_La_law_611 : decode code 611 = .ok (.iadd, 1) := by decide +kernel
theorem d_La_law_612 : decode code 612 = .ok (.iaload, 1) := by decide +kernel
theorem d_La_law_613 : decode code 613 = .ok (.aload_n 0, 1) := by decide +kernel
theorem d_La_law_614 : decode code 614 = .ok (.iload 4, 2) := by decide +kernel
theorem d_La_law_616 : decode code 616 = .ok (.iconst 2, 1) := by decide +kernel
theorem d_La_law_617 : decode code 617 = .ok (.iadd, 1) := by decide +kernel
theorem d_La_law_618 : decode code 618 = .ok (.iaload, 1) := by decide +kernel
theorem d_La_law_619 : decode code 619 = .ok (.aload_n 3, 1) := by decide +kernel
theorem d_La_law_620 : decode code 620 = .ok (.invokestatic 105, 3) := by decide +kernel
theorem d_La_law_623 : decode code 623 = .ok (.istore 5, 2) := by decide +kernel
theorem d_La_law_625 : decode code 625 = .ok (.aload_n 2, 1) := by decide +kernel
theorem d_La_law_626 : decode code 626 = .ok (.aload_n 0, 1) := by decide +kernel
theorem d_La_law_627 : decode code 627 = .ok (.iload 4, 2) := by decide +kernel
theorem d_La_law_629 : decode code 629 = .ok (.iconst 1, 1) := by decide +kernel
theorem d_La_law_630 : decode code 630 = .ok (.iadd, 1) := by decide +kernel
theorem d_La_law_631 : decode code 631 = .ok (.iaload, 1) := by decide +kernel
theorem d_La_law_632 : decode code 632 = .ok (.aload_n 0, 1) := by decide +kernel
theorem d_La_law_633 : decode code 633 = .ok (.iload 4, 2) := by decide +kernel
theorem d_La_law_635 : decode code 635 = .ok (.iconst 2, 1) := by decide +kernel
theorem d_La_law_636 : decode code 636 = .ok (.iadd, 1) := by decide +kernel
theorem d_La_law_637 : decode code 637 = .ok (.iaload, 1) := by decide +kernel
theorem d_La_law_638 : decode code 638 = .ok (.invokevirtual 107, 3) := by decide +kernel
theorem d_La_law_641 : decode code 641 = .ok (.istore 6, 2) := by decide +kernel
theorem d_La_law_643 : decode code 643 = .ok (.goto 16, 3) := by decide +kernel
theorem d_La_law_646 : decode code 646 = .ok (.aload_n 1, 1) := by decide +kernel
theorem d_La_law_647 : decode code 647 = .ok (.invokevirtual 108, 3) := by decide +kernel
theorem d_La_law_650 : decode code 650 = .ok (.pop, 1) := by decide +kernel
theorem d_La_law_651 : decode code 651 = .ok (.aload_n 2, 1) := by decide +kernel
theorem d_La_law_652 : decode code 652 = .ok (.invokevirtual 111, 3) := by decide +kernel
theorem d_La_law_655 : decode code 655 = .ok (.pop, 1) := by decide +kernel
theorem d_La_law_656 : decode code 656 = .ok (.goto 3, 3) := by decide +kernel
theorem d_La_law_659 : decode code 659 = .ok (.iinc 4 5, 3) := by decide +kernel
theorem d_La_law_662 : decode code 662 = .ok (.goto (-619), 3) := by decide +kernel
theorem d_La_law_665 : decode code 665 = .ok (.iconst 1, 1) := by decide +kernel
theorem d_La_law_666 : decode code 666 = .ok (.ireturn, 1) := by decide +kernel

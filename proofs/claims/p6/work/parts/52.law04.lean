theorem d_La_law_533 : decode code 533 = .ok (.aload_n 0, 1) := by decide +kernel
theorem d_La_law_534 : decode code 534 = .ok (.iload 4, 2) := by decide +kernel
theorem d_La_law_536 : decode code 536 = .ok (.iconst 4, 1) := by decide +kernel
theorem d_La_law_537 : decode code 537 = .ok (.iadd, 1) := by decide +kernel
theorem d_La_law_538 : decode code 538 = .ok (.iaload, 1) := by decide +kernel
theorem d_La_law_539 : decode code 539 = .ok (.aload_n 3, 1) := by decide +kernel
theorem d_La_law_540 : decode code 540 = .ok (.invokestatic 99, 3) := by decide +kernel
theorem d_La_law_543 : decode code 543 = .ok (.istore 5, 2) := by decide +kernel
theorem d_La_law_545 : decode code 545 = .ok (.aload_n 2, 1) := by decide +kernel
theorem d_La_law_546 : decode code 546 = .ok (.aload_n 0, 1) := by decide +kernel
theorem d_La_law_547 : decode code 547 = .ok (.iload 4, 2) := by decide +kernel
theorem d_La_law_549 : decode code 549 = .ok (.iconst 1, 1) := by decide +kernel
theorem d_La_law_550 : decode code 550 = .ok (.iadd, 1) := by decide +kernel
theorem d_La_law_551 : decode code 551 = .ok (.iaload, 1) := by decide +kernel
theorem d_La_law_552 : decode code 552 = .ok (.aload_n 0, 1) := by decide +kernel
theorem d_La_law_553 : decode code 553 = .ok (.iload 4, 2) := by decide +kernel
theorem d_La_law_555 : decode code 555 = .ok (.iconst 2, 1) := by decide +kernel
theorem d_La_law_556 : decode code 556 = .ok (.iadd, 1) := by decide +kernel
theorem d_La_law_557 : decode code 557 = .ok (.iaload, 1) := by decide +kernel
theorem d_La_law_558 : decode code 558 = .ok (.aload_n 0, 1) := by decide +kernel
theorem d_La_law_559 : decode code 559 = .ok (.iload 4, 2) := by decide +kernel
theorem d_La_law_561 : decode code 561 = .ok (.iconst 3, 1) := by decide +kernel
theorem d_La_law_562 : decode code 562 = .ok (.iadd, 1) := by decide +kernel
theorem d_La_law_563 : decode code 563 = .ok (.iaload, 1) := by decide +kernel
theorem d_La_law_564 : decode code 564 = .ok (.aload_n 0, 1) := by decide +kernel
theorem d_La_law_565 : decode code 565 = .ok (.iload 4, 2) := by decide +kernel
theorem d_La_law_567 : decode code 567 = .ok (.iconst 4, 1) := by decide +kernel
theorem d_La_law_568 : decode code 568 = .ok (.iadd, 1) := by decide +kernel
theorem d_La_law_569 : decode code 569 = .ok (.iaload, 1) := by decide +kernel
theorem d_La_law_570 : decode code 570 = .ok (.invokevirtual 101, 3) := by decide +kernel
theorem d_La_law_573 : decode code 573 = .ok (.istore 6, 2) := by decide +kernel
theorem d_La_law_575 : decode code 575 = .ok (.goto 56, 3) := by decide +kernel
theorem d_La_law_578 : decode code 578 = .ok (.aload_n 1, 1) := by decide +kernel
theorem d_La_law_579 : decode code 579 = .ok (.aload_n 0, 1) := by decide +kernel
theorem d_La_law_580 : decode code 580 = .ok (.iload 4, 2) := by decide +kernel
theorem d_La_law_582 : decode code 582 = .ok (.iconst 1, 1) := by decide +kernel
theorem d_La_law_583 : decode code 583 = .ok (.iadd, 1) := by decide +kernel
theorem d_La_law_584 : decode code 584 = .ok (.iaload, 1) := by decide +kernel
theorem d_La_law_585 : decode code 585 = .ok (.aload_n 0, 1) := by decide +kernel
theorem d_La_law_586 : decode code 586 = .ok (.iload 4, 2) := by decide +kernel
theorem d_La_law_588 : decode code 588 = .ok (.iconst 2, 1) := by decide +kernel
theorem d_La_law_589 : decode code 589 = .ok (.iadd, 1) := by decide +kernel
theorem d_La_law_590 : decode code 590 = .ok (.iaload, 1) := by decide +kernel
theorem d_La_law_591 : decode code 591 = .ok (.aload_n 3, 1) := by decide +kernel
theorem d_La_law_592 : decode code 592 = .ok (.invokestatic 102, 3) := by decide +kernel
theorem d_La_law_595 : decode code 595 = .ok (.istore 5, 2) := by decide +kernel
theorem d_La_law_597 : decode code 597 = .ok (.aload_n 2, 1) := by decide +kernel
theorem d_La_law_598 : decode code 598 = .ok (.aload_n 0, 1) := by decide +kernel
theorem d_La_law_599 : decode code 599 = .ok (.iload 4, 2) := by decide +kernel
theorem d_La_law_601 : decode code 601 = .ok (.iconst 1, 1) := by decide +kernel
theorem d_La_law_602 : decode code 602 = .ok (.iadd, 1) := by decide +kernel
theorem d_La_law_603 : decode code 603 = .ok (.iaload, 1) := by decide +kernel
theorem d_La_law_604 : decode code 604 = .ok (.aload_n 0, 1) := by decide +kernel
theorem d_La_law_605 : decode code 605 = .ok (.iload 4, 2) := by decide +kernel
theorem d_La_law_607 : decode code 607 = .ok (.iconst 2, 1) := by decide +kernel
theorem d_La_law_608 : decode code 608 = .ok (.iadd, 1) := by decide +kernel
theorem d_La_law_609 : decode code 609 = .ok (.iaload, 1) := by decide +kernel
theorem d_La_law_610 : decode code 610 = .ok (.invokevirtual 104, 3) := by decide +kernel
theorem d_La_law_613 : decode code 613 = .ok (.istore 6, 2) := by decide +kernel
theorem d_La_law_615 : decode code 615 = .ok (.goto 16, 3) := by decide +kernel
theorem d_La_law_618 : decode code 618 = .ok (.aload_n 1, 1) := by decide +kernel
theorem d_La_law_619 : decode code 619 = .ok (.invokevirtual 105, 3) := by decide +kernel
theorem d_La_law_622 : decode code 622 = .ok (.pop, 1) := by decide +kernel
theorem d_La_law_623 : decode code 623 = .ok (.aload_n 2, 1) := by decide +kernel
theorem d_La_law_624 : decode code 624 = .ok (.invokevirtual 108, 3) := by decide +kernel
theorem d_La_law_627 : decode code 627 = .ok (.pop, 1) := by decide +kernel
theorem d_La_law_628 : decode code 628 = .ok (.goto 3, 3) := by decide +kernel
theorem d_La_law_631 : decode code 631 = .ok (.iinc 4 5, 3) := by decide +kernel
theorem d_La_law_634 : decode code 634 = .ok (.goto (-591), 3) := by decide +kernel
theorem d_La_law_637 : decode code 637 = .ok (.iconst 1, 1) := by decide +kernel
theorem d_La_law_638 : decode code 638 = .ok (.ireturn, 1) := by decide +kernel

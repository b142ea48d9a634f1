theorem d_La_law_552 : decode code 552 = .ok (.aload_n 3, 1) := by decide +kernel
theorem d_La_law_553 : decode code 553 = .ok (.iconst 0, 1) := by decide +kernel
theorem d_La_law_554 : decode code 554 = .ok (.laload, 1) := by decide +kernel
theorem d_La_law_555 : decode code 555 = .ok (.iload 6, 2) := by decide +kernel
theorem d_La_law_557 : decode code 557 = .ok (.i2l, 1) := by decide +kernel
theorem d_La_law_558 : decode code 558 = .ok (.lcmp, 1) := by decide +kernel
theorem d_La_law_559 : decode code 559 = .ok (.ifCond .eq 5, 3) := by decide +kernel
theorem d_La_law_562 : decode code 562 = .ok (.iconst 0, 1) := by decide +kernel
theorem d_La_law_563 : decode code 563 = .ok (.ireturn, 1) := by decide +kernel
theorem d_La_law_564 : decode code 564 = .ok (.goto 358, 3) := by decide +kernel
theorem d_La_law_567 : decode code 567 = .ok (.aload_n 1, 1) := by decide +kernel
theorem d_La_law_568 : decode code 568 = .ok (.aload_n 0, 1) := by decide +kernel
theorem d_La_law_569 : decode code 569 = .ok (.iload 4, 2) := by decide +kernel
theorem d_La_law_571 : decode code 571 = .ok (.iconst 1, 1) := by decide +kernel
theorem d_La_law_572 : decode code 572 = .ok (.iadd, 1) := by decide +kernel
theorem d_La_law_573 : decode code 573 = .ok (.iaload, 1) := by decide +kernel
theorem d_La_law_574 : decode code 574 = .ok (.aload_n 3, 1) := by decide +kernel
theorem d_La_law_575 : decode code 575 = .ok (.invokestatic 92, 3) := by decide +kernel
theorem d_La_law_578 : decode code 578 = .ok (.istore 5, 2) := by decide +kernel
theorem d_La_law_580 : decode code 580 = .ok (.aload_n 2, 1) := by decide +kernel
theorem d_La_law_581 : decode code 581 = .ok (.aload_n 0, 1) := by decide +kernel
theorem d_La_law_582 : decode code 582 = .ok (.iload 4, 2) := by decide +kernel
theorem d_La_law_584 : decode code 584 = .ok (.iconst 1, 1) := by decide +kernel
theorem d_La_law_585 : decode code 585 = .ok (.iadd, 1) := by decide +kernel
theorem d_La_law_586 : decode code 586 = .ok (.iaload, 1) := by decide +kernel
theorem d_La_law_587 : decode code 587 = .ok (.invokevirtual 95, 3) := by decide +kernel
theorem d_La_law_590 : decode code 590 = .ok (.istore 6, 2) := by decide +kernel
theorem d_La_law_592 : decode code 592 = .ok (.aload_n 2, 1) := by decide +kernel
theorem d_La_law_593 : decode code 593 = .ok (.invokevirtual 68, 3) := by decide +kernel
theorem d_La_law_596 : decode code 596 = .ok (.iload 5, 2) := by decide +kernel
theorem d_La_law_598 : decode code 598 = .ok (.if_icmp .eq 5, 3) := by decide +kernel
theorem d_La_law_601 : decode code 601 = .ok (.iconst 0, 1) := by decide +kernel
theorem d_La_law_602 : decode code 602 = .ok (.ireturn, 1) := by decide +kernel
theorem d_La_law_603 : decode code 603 = .ok (.iload 5, 2) := by decide +kernel
theorem d_La_law_605 : decode code 605 = .ok (.ifCond .ne 15, 3) := by decide +kernel
theorem d_La_law_608 : decode code 608 = .ok (.aload_n 3, 1) := by decide +kernel
theorem d_La_law_609 : decode code 609 = .ok (.iconst 0, 1) := by decide +kernel
theorem d_La_law_610 : decode code 610 = .ok (.laload, 1) := by decide +kernel
theorem d_La_law_611 : decode code 611 = .ok (.iload 6, 2) := by decide +kernel
theorem d_La_law_613 : decode code 613 = .ok (.i2l, 1) := by decide +kernel
theorem d_La_law_614 : decode code 614 = .ok (.lcmp, 1) := by decide +kernel
theorem d_La_law_615 : decode code 615 = .ok (.ifCond .eq 5, 3) := by decide +kernel
theorem d_La_law_618 : decode code 618 = .ok (.iconst 0, 1) := by decide +kernel
theorem d_La_law_619 : decode code 619 = .ok (.ireturn, 1) := by decide +kernel
theorem d_La_law_620 : decode code 620 = .ok (.goto 302, 3) := by decide +kernel
theorem d_La_law_623 : decode code 623 = .ok (.aload_n 1, 1) := by decide +kernel
theorem d_La_law_624 : decode code 624 = .ok (.aload_n 0, 1) := by decide +kernel
theorem d_La_law_625 : decode code 625 = .ok (.iload 4, 2) := by decide +kernel
theorem d_La_law_627 : decode code 627 = .ok (.iconst 1, 1) := by decide +kernel
theorem d_La_law_628 : decode code 628 = .ok (.iadd, 1) := by decide +kernel
theorem d_La_law_629 : decode code 629 = .ok (.iaload, 1) := by decide +kernel
theorem d_La_law_630 : decode code 630 = .ok (.aload_n 3, 1) := by decide +kernel
theorem d_La_law_631 : decode code 631 = .ok (.invokestatic 96, 3) := by decide +kernel
theorem d_La_law_634 : decode code 634 = .ok (.istore 5, 2) := by decide +kernel
theorem d_La_law_636 : decode code 636 = .ok (.aload_n 2, 1) := by decide +kernel
theorem d_La_law_637 : decode code 637 = .ok (.aload_n 0, 1) := by decide +kernel
theorem d_La_law_638 : decode code 638 = .ok (.iload 4, 2) := by decide +kernel
theorem d_La_law_640 : decode code 640 = .ok (.iconst 1, 1) := by decide +kernel
theorem d_La_law_641 : decode code 641 = .ok (.iadd, 1) := by decide +kernel
theorem d_La_law_642 : decode code 642 = .ok (.iaload, 1) := by decide +kernel
theorem d_La_law_643 : decode code 643 = .ok (.invokevirtual 98, 3) := by decide +kernel
theorem d_La_law_646 : decode code 646 = .ok (.istore 6, 2) := by decide +kernel
theorem d_La_law_648 : decode code 648 = .ok (.aload_n 2, 1) := by decide +kernel
theorem d_La_law_649 : decode code 649 = .ok (.invokevirtual 68, 3) := by decide +kernel
theorem d_La_law_652 : decode code 652 = .ok (.iload 5, 2) := by decide +kernel
theorem d_La_law_654 : decode code 654 = .ok (.if_icmp .eq 5, 3) := by decide +kernel
theorem d_La_law_657 : decode code 657 = .ok (.iconst 0, 1) := by decide +kernel
theorem d_La_law_658 : decode code 658 = .ok (.ireturn, 1) := by decide +kernel
theorem d_La_law_659 : decode code 659 = .ok (.iload 5, 2) := by decide +kernel
theorem d_La_law_661 : decode code 661 = .ok (.ifCond .ne 15, 3) := by decide +kernel
theorem d_La_law_664 : decode code 664 = .ok (.aload_n 3, 1) := by decide +kernel
theorem d_La_law_665 : decode code 665 = .ok (.iconst 0, 1) := by decide +kernel
theorem d_La_law_666 : decode code 666 = .ok (.laload, 1) := by decide +kernel
theorem d_La_law_667 : decode code 667 = .ok (.iload 6, 2) := by decide +kernel
theorem d_La_law_669 : decode code 669 = .ok (.i2l, 1) := by decide +kernel
theorem d_La_law_670 : decode code 670 = .ok (.lcmp, 1) := by decide +kernel
theorem d_La_law_671 : decode code 671 = .ok (.ifCond .eq 5, 3) := by decide +kernel
theorem d_La_law_674 : decode code 674 = .ok (.iconst 0, 1) := by decide +kernel
theorem d_La_law_675 : decode code 675 = .ok (.ireturn, 1) := by decide +kernel
theorem d_La_law_676 : decode code 676 = .ok (.goto 246, 3) := by decide +kernel
theorem d_La_law_679 : decode code 679 = .ok (.aload_n 1, 1) := by decide +kernel
theorem d_La_law_680 : decode code 680 = .ok (.aload_n 0, 1) := by decide +kernel
theorem d_La_law_681 : decode code 681 = .ok (.iload 4, 2) := by decide +kernel
theorem d_La_law_683 : decode code 683 = .ok (.iconst 1, 1) := by decide +kernel
theorem d_La_law_684 : decode code 684 = .ok (.iadd, 1) := by decide +kernel
theorem d_La_law_685 : decode code 685 = .ok (.iaload, 1) := by decide +kernel
theorem d_La_law_686 : decode code 686 = .ok (.aload_n 3, 1) := by decide +kernel
theorem d_La_law_687 : decode code 687 = .ok (.invokestatic 99, 3) := by decide +kernel
theorem d_La_law_690 : decode code 690 = .ok (.istore 5, 2) := by decide +kernel
theorem d_La_law_692 : decode code 692 = .ok (.aload_n 2, 1) := by decide +kernel
theorem d_La_law_693 : decode code 693 = .ok (.aload_n 0, 1) := by decide +kernel
theorem d_La_law_694 : decode code 694 = .ok (.iload 4, 2) := by decide +kernel
theorem d_La_law_696 : decode code 696 = .ok (.iconst 1, 1) := by decide +kernel
theorem d_La_law_697 : decode code 697 = .ok (.iadd, 1) := by decide +kernel
theorem d_La_law_698 : decode code 698 = .ok (.iaload, 1) := by decide +kernel
theorem d_La_law_699 : decode code 699 = .ok (.invokevirtual 101, 3) := by decide +kernel
theorem d_La_law_702 : decode code 702 = .ok (.istore 6, 2) := by decide +kernel
theorem d_La_law_704 : decode code 704 = .ok (.aload_n 2, 1) := by decide +kernel
theorem d_La_law_705 : decode code 705 = .ok (.invokevirtual 68, 3) := by decide +kernel
theorem d_La_law_708 : decode code 708 = .ok (.iload 5, 2) := by decide +kernel
theorem d_La_law_710 : decode code 710 = .ok (.if_icmp .eq 5, 3) := by decide +kernel
theorem d_La_law_713 : decode code 713 = .ok (.iconst 0, 1) := by decide +kernel
theorem d_La_law_714 : decode code 714 = .ok (.ireturn, 1) := by decide +kernel
theorem d_La_law_715 : decode code 715 = .ok (.iload 5, 2) := by decide +kernel
theorem d_La_law_717 : decode code 717 = .ok (.ifCond .ne 15, 3) := by decide +kernel
theorem d_La_law_720 : decode code 720 = .ok (.aload_n 3, 1) := by decide +kernel
theorem d_La_law_721 : decode code 721 = .ok (.iconst 0, 1) := by decide +kernel
theorem d_La_law_722 : decode code 722 = .ok (.laload, 1) := by decide +kernel
theorem d_La_law_723 : decode code 723 = .ok (.iload 6, 2) := by decide +kernel
theorem d_La_law_725 : decode code 725 = .ok (.i2l, 1) := by decide +kernel

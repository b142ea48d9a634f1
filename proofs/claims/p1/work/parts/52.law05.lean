theorem d_La_law_726 : decode code 726 = .ok (.lcmp, 1) := by decide +kernel
theorem d_La_law_727 : decode code 727 = .ok (.ifCond .eq 5, 3) := by decide +kernel
theorem d_La_law_730 : decode code 730 = .ok (.iconst 0, 1) := by decide +kernel
theorem d_La_law_731 : decode code 731 = .ok (.ireturn, 1) := by decide +kernel
theorem d_La_law_732 : decode code 732 = .ok (.goto 190, 3) := by decide +kernel
theorem d_La_law_735 : decode code 735 = .ok (.aload_n 1, 1) := by decide +kernel
theorem d_La_law_736 : decode code 736 = .ok (.aload_n 0, 1) := by decide +kernel
theorem d_La_law_737 : decode code 737 = .ok (.iload 4, 2) := by decide +kernel
theorem d_La_law_739 : decode code 739 = .ok (.iconst 1, 1) := by decide +kernel
theorem d_La_law_740 : decode code 740 = .ok (.iadd, 1) := by decide +kernel
theorem d_La_law_741 : decode code 741 = .ok (.iaload, 1) := by decide +kernel
theorem d_La_law_742 : decode code 742 = .ok (.aload_n 0, 1) := by decide +kernel
theorem d_La_law_743 : decode code 743 = .ok (.iload 4, 2) := by decide +kernel
theorem d_La_law_745 : decode code 745 = .ok (.iconst 2, 1) := by decide +kernel
theorem d_La_law_746 : decode code 746 = .ok (.iadd, 1) := by decide +kernel
theorem d_La_law_747 : decode code 747 = .ok (.iaload, 1) := by decide +kernel
theorem d_La_law_748 : decode code 748 = .ok (.aload_n 0, 1) := by decide +kernel
theorem d_La_law_749 : decode code 749 = .ok (.iload 4, 2) := by decide +kernel
theorem d_La_law_751 : decode code 751 = .ok (.iconst 3, 1) := by decide +kernel
theorem d_La_law_752 : decode code 752 = .ok (.iadd, 1) := by decide +kernel
theorem d_La_law_753 : decode code 753 = .ok (.iaload, 1) := by decide +kernel
theorem d_La_law_754 : decode code 754 = .ok (.aload_n 0, 1) := by decide +kernel
theorem d_La_law_755 : decode code 755 = .ok (.iload 4, 2) := by decide +kernel
theorem d_La_law_757 : decode code 757 = .ok (.iconst 4, 1) := by decide +kernel
theorem d_La_law_758 : decode code 758 = .ok (.iadd, 1) := by decide +kernel
theorem d_La_law_759 : decode code 759 = .ok (.iaload, 1) := by decide +kernel
theorem d_La_law_760 : decode code 760 = .ok (.aload_n 3, 1) := by decide +kernel
theorem d_La_law_761 : decode code 761 = .ok (.invokestatic 102, 3) := by decide +kernel
theorem d_La_law_764 : decode code 764 = .ok (.istore 5, 2) := by decide +kernel
theorem d_La_law_766 : decode code 766 = .ok (.aload_n 2, 1) := by decide +kernel
theorem d_La_law_767 : decode code 767 = .ok (.aload_n 0, 1) := by decide +kernel
theorem d_La_law_768 : decode code 768 = .ok (.iload 4, 2) := by decide +kernel
theorem d_La_law_770 : decode code 770 = .ok (.iconst 1, 1) := by decide +kernel
theorem d_La_law_771 : decode code 771 = .ok (.iadd, 1) := by decide +kernel
theorem d_La_law_772 : decode code 772 = .ok (.iaload, 1) := by decide +kernel
theorem d_La_law_773 : decode code 773 = .ok (.aload_n 0, 1) := by decide +kernel
theorem d_La_law_774 : decode code 774 = .ok (.iload 4, 2) := by decide +kernel
theorem d_La_law_776 : decode code 776 = .ok (.iconst 2, 1) := by decide +kernel
theorem d_La_law_777 : decode code 777 = .ok (.iadd, 1) := by decide +kernel
theorem d_La_law_778 : decode code 778 = .ok (.iaload, 1) := by decide +kernel
theorem d_La_law_779 : decode code 779 = .ok (.aload_n 0, 1) := by decide +kernel
theorem d_La_law_780 : decode code 780 = .ok (.iload 4, 2) := by decide +kernel
theorem d_La_law_782 : decode code 782 = .ok (.iconst 3, 1) := by decide +kernel
theorem d_La_law_783 : decode code 783 = .ok (.iadd, 1) := by decide +kernel
theorem d_La_law_784 : decode code 784 = .ok (.iaload, 1) := by decide +kernel
theorem d_La_law_785 : decode code 785 = .ok (.aload_n 0, 1) := by decide +kernel
theorem d_La_law_786 : decode code 786 = .ok (.iload 4, 2) := by decide +kernel
theorem d_La_law_788 : decode code 788 = .ok (.iconst 4, 1) := by decide +kernel
theorem d_La_law_789 : decode code 789 = .ok (.iadd, 1) := by decide +kernel
theorem d_La_law_790 : decode code 790 = .ok (.iaload, 1) := by decide +kernel
theorem d_La_law_791 : decode code 791 = .ok (.invokevirtual 104, 3) := by decide +kernel
theorem d_La_law_794 : decode code 794 = .ok (.istore 6, 2) := by decide +kernel
theorem d_La_law_796 : decode code 796 = .ok (.aload_n 2, 1) := by decide +kernel
theorem d_La_law_797 : decode code 797 = .ok (.invokevirtual 68, 3) := by decide +kernel
theorem d_La_law_800 : decode code 800 = .ok (.iload 5, 2) := by decide +kernel
theorem d_La_law_802 : decode code 802 = .ok (.if_icmp .eq 5, 3) := by decide +kernel
theorem d_La_law_805 : decode code 805 = .ok (.iconst 0, 1) := by decide +kernel
theorem d_La_law_806 : decode code 806 = .ok (.ireturn, 1) := by decide +kernel
theorem d_La_law_807 : decode code 807 = .ok (.iload 5, 2) := by decide +kernel
theorem d_La_law_809 : decode code 809 = .ok (.ifCond .ne 22, 3) := by decide +kernel
theorem d_La_law_812 : decode code 812 = .ok (.aload_n 3, 1) := by decide +kernel
theorem d_La_law_813 : decode code 813 = .ok (.iconst 0, 1) := by decide +kernel
theorem d_La_law_814 : decode code 814 = .ok (.laload, 1) := by decide +kernel
theorem d_La_law_815 : decode code 815 = .ok (.iload 6, 2) := by decide +kernel
theorem d_La_law_817 : decode code 817 = .ok (.ifCond .eq 7, 3) := by decide +kernel
theorem d_La_law_820 : decode code 820 = .ok (.lconst 1, 1) := by decide +kernel
theorem d_La_law_821 : decode code 821 = .ok (.goto 4, 3) := by decide +kernel
theorem d_La_law_824 : decode code 824 = .ok (.lconst 0, 1) := by decide +kernel
theorem d_La_law_825 : decode code 825 = .ok (.lcmp, 1) := by decide +kernel
theorem d_La_law_826 : decode code 826 = .ok (.ifCond .eq 5, 3) := by decide +kernel
theorem d_La_law_829 : decode code 829 = .ok (.iconst 0, 1) := by decide +kernel
theorem d_La_law_830 : decode code 830 = .ok (.ireturn, 1) := by decide +kernel
theorem d_La_law_831 : decode code 831 = .ok (.goto 91, 3) := by decide +kernel
theorem d_La_law_834 : decode code 834 = .ok (.aload_n 1, 1) := by decide +kernel
theorem d_La_law_835 : decode code 835 = .ok (.aload_n 0, 1) := by decide +kernel
theorem d_La_law_836 : decode code 836 = .ok (.iload 4, 2) := by decide +kernel
theorem d_La_law_838 : decode code 838 = .ok (.iconst 1, 1) := by decide +kernel
theorem d_La_law_839 : decode code 839 = .ok (.iadd, 1) := by decide +kernel
theorem d_La_law_840 : decode code 840 = .ok (.iaload, 1) := by decide +kernel
theorem d_La_law_841 : decode code 841 = .ok (.aload_n 0, 1) := by decide +kernel
theorem d_La_law_842 : decode code 842 = .ok (.iload 4, 2) := by decide +kernel
theorem d_La_law_844 : decode code 844 = .ok (.iconst 2, 1) := by decide +kernel
theorem d_La_law_845 : decode code 845 = .ok (.iadd, 1) := by decide +kernel
theorem d_La_law_846 : decode code 846 = .ok (.iaload, 1) := by decide +kernel
theorem d_La_law_847 : decode code 847 = .ok (.aload_n 3, 1) := by decide +kernel
theorem d_La_law_848 : decode code 848 = .ok (.invokestatic 105, 3) := by decide +kernel
theorem d_La_law_851 : decode code 851 = .ok (.istore 5, 2) := by decide +kernel
theorem d_La_law_853 : decode code 853 = .ok (.aload_n 2, 1) := by decide +kernel
theorem d_La_law_854 : decode code 854 = .ok (.aload_n 0, 1) := by decide +kernel
theorem d_La_law_855 : decode code 855 = .ok (.iload 4, 2) := by decide +kernel
theorem d_La_law_857 : decode code 857 = .ok (.iconst 1, 1) := by decide +kernel
theorem d_La_law_858 : decode code 858 = .ok (.iadd, 1) := by decide +kernel
theorem d_La_law_859 : decode code 859 = .ok (.iaload, 1) := by decide +kernel
theorem d_La_law_860 : decode code 860 = .ok (.aload_n 0, 1) := by decide +kernel
theorem d_La_law_861 : decode code 861 = .ok (.iload 4, 2) := by decide +kernel
theorem d_La_law_863 : decode code 863 = .ok (.iconst 2, 1) := by decide +kernel
theorem d_La_law_864 : decode code 864 = .ok (.iadd, 1) := by decide +kernel
theorem d_La_law_865 : decode code 865 = .ok (.iaload, 1) := by decide +kernel
theorem d_La_law_866 : decode code 866 = .ok (.invokevirtual 107, 3) := by decide +kernel
theorem d_La_law_869 : decode code 869 = .ok (.istore 6, 2) := by decide +kernel
theorem d_La_law_871 : decode code 871 = .ok (.aload_n 2, 1) := by decide +kernel
theorem d_La_law_872 : decode code 872 = .ok (.invokevirtual 68, 3) := by decide +kernel
theorem d_La_law_875 : decode code 875 = .ok (.iload 5, 2) := by decide +kernel
theorem d_La_law_877 : decode code 877 = .ok (.if_icmp .eq 5, 3) := by decide +kernel
theorem d_La_law_880 : decode code 880 = .ok (.iconst 0, 1) := by decide +kernel
theorem d_La_law_881 : decode code 881 = .ok (.ireturn, 1) := by decide +kernel
theorem d_La_law_882 : decode code 882 = .ok (.iload 5, 2) := by decide +kernel
theorem d_La_law_884 : decode code 884 = .ok (.ifCond .ne 22, 3) := by decide +kernel
theorem d_La_law_887 : decode code 887 = .ok (.aload_n 3, 1) := by decide +kernel
theorem d_La_law_888 : decode code 888 = .ok (.iconst 0, 1) := by decide +kernel

theorem d_La_law_889 : decode code 889 = .ok (.laload, 1) := by decide +kernel
theorem d_La_law_890 : decode code 890 = .ok (.iload 6, 2) := by decide +kernel
theorem d_La_law_892 : decode code 892 = .ok (.ifCond .eq 7, 3) := by decide +kernel
theorem d_La_law_895 : decode code 895 = .ok (.lconst 1, 1) := by decide +kernel
theorem d_La_law_896 : decode code 896 = .ok (.goto 4, 3) := by decide +kernel
theorem d_La_law_899 : decode code 899 = .ok (.lconst 0, 1) := by decide +kernel
theorem d_La_law_900 : decode code 900 = .ok (.lcmp, 1) := by decide +kernel
theorem d_La_law_901 : decode code 901 = .ok (.ifCond .eq 5, 3) := by decide +kernel
theorem d_La_law_904 : decode code 904 = .ok (.iconst 0, 1) := by decide +kernel
theorem d_La_law_905 : decode code 905 = .ok (.ireturn, 1) := by decide +kernel
theorem d_La_law_906 : decode code 906 = .ok (.goto 16, 3) := by decide +kernel
theorem d_La_law_909 : decode code 909 = .ok (.aload_n 1, 1) := by decide +kernel
theorem d_La_law_910 : decode code 910 = .ok (.invokevirtual 108, 3) := by decide +kernel
theorem d_La_law_913 : decode code 913 = .ok (.aload_n 2, 1) := by decide +kernel
theorem d_La_law_914 : decode code 914 = .ok (.invokevirtual 111, 3) := by decide +kernel
theorem d_La_law_917 : decode code 917 = .ok (.if_icmp .eq 5, 3) := by decide +kernel
theorem d_La_law_920 : decode code 920 = .ok (.iconst 0, 1) := by decide +kernel
theorem d_La_law_921 : decode code 921 = .ok (.ireturn, 1) := by decide +kernel
theorem d_La_law_922 : decode code 922 = .ok (.iinc 4 5, 3) := by decide +kernel
theorem d_La_law_925 : decode code 925 = .ok (.goto (-882), 3) := by decide +kernel
theorem d_La_law_928 : decode code 928 = .ok (.iconst 1, 1) := by decide +kernel
theorem d_La_law_929 : decode code 929 = .ok (.ireturn, 1) := by decide +kernel

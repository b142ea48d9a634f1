theorem d_Mo_isIn_0 : decode b_Mo_isIn 0 = .ok (.iload_n 0, 1) := by decide +kernel
theorem d_Mo_isIn_1 : decode b_Mo_isIn 1 = .ok (.iload_n 1, 1) := by decide +kernel
theorem d_Mo_isIn_2 : decode b_Mo_isIn 2 = .ok (.if_icmp .lt 12, 3) := by decide +kernel
theorem d_Mo_isIn_5 : decode b_Mo_isIn 5 = .ok (.iload_n 0, 1) := by decide +kernel
theorem d_Mo_isIn_6 : decode b_Mo_isIn 6 = .ok (.iload_n 2, 1) := by decide +kernel
theorem d_Mo_isIn_7 : decode b_Mo_isIn 7 = .ok (.if_icmp .gt 7, 3) := by decide +kernel
theorem d_Mo_isIn_10 : decode b_Mo_isIn 10 = .ok (.iconst 1, 1) := by decide +kernel
theorem d_Mo_isIn_11 : decode b_Mo_isIn 11 = .ok (.goto 4, 3) := by decide +kernel
theorem d_Mo_isIn_14 : decode b_Mo_isIn 14 = .ok (.iconst 0, 1) := by decide +kernel
theorem d_Mo_isIn_15 : decode b_Mo_isIn 15 = .ok (.ireturn, 1) := by decide +kernel
theorem d_Mo_isCell_0 : decode b_Mo_isCell 0 = .ok (.iload_n 1, 1) := by decide +kernel
theorem d_Mo_isCell_1 : decode b_Mo_isCell 1 = .ok (.iconst 0, 1) := by decide +kernel
theorem d_Mo_isCell_2 : decode b_Mo_isCell 2 = .ok (.aload_n 0, 1) := by decide +kernel
theorem d_Mo_isCell_3 : decode b_Mo_isCell 3 = .ok (.getfield 50, 3) := by decide +kernel
theorem d_Mo_isCell_6 : decode b_Mo_isCell 6 = .ok (.iconst 1, 1) := by decide +kernel
theorem d_Mo_isCell_7 : decode b_Mo_isCell 7 = .ok (.isub, 1) := by decide +kernel
theorem d_Mo_isCell_8 : decode b_Mo_isCell 8 = .ok (.invokestatic 60, 3) := by decide +kernel
theorem d_Mo_isCell_11 : decode b_Mo_isCell 11 = .ok (.ifCond .eq 21, 3) := by decide +kernel
theorem d_Mo_isCell_14 : decode b_Mo_isCell 14 = .ok (.iload_n 2, 1) := by decide +kernel
theorem d_Mo_isCell_15 : decode b_Mo_isCell 15 = .ok (.iconst 0, 1) := by decide +kernel
theorem d_Mo_isCell_16 : decode b_Mo_isCell 16 = .ok (.aload_n 0, 1) := by decide +kernel
theorem d_Mo_isCell_17 : decode b_Mo_isCell 17 = .ok (.getfield 50, 3) := by decide +kernel
theorem d_Mo_isCell_20 : decode b_Mo_isCell 20 = .ok (.iconst 1, 1) := by decide +kernel
theorem d_Mo_isCell_21 : decode b_Mo_isCell 21 = .ok (.isub, 1) := by decide +kernel
theorem d_Mo_isCell_22 : decode b_Mo_isCell 22 = .ok (.invokestatic 60, 3) := by decide +kernel
theorem d_Mo_isCell_25 : decode b_Mo_isCell 25 = .ok (.ifCond .eq 7, 3) := by decide +kernel
theorem d_Mo_isCell_28 : decode b_Mo_isCell 28 = .ok (.iconst 1, 1) := by decide +kernel
theorem d_Mo_isCell_29 : decode b_Mo_isCell 29 = .ok (.goto 4, 3) := by decide +kernel
theorem d_Mo_isCell_32 : decode b_Mo_isCell 32 = .ok (.iconst 0, 1) := by decide +kernel
theorem d_Mo_isCell_33 : decode b_Mo_isCell 33 = .ok (.ireturn, 1) := by decide +kernel
theorem d_Mo_isWood_0 : decode b_Mo_isWood 0 = .ok (.aload_n 0, 1) := by decide +kernel
theorem d_Mo_isWood_1 : decode b_Mo_isWood 1 = .ok (.getfield 7, 3) := by decide +kernel
theorem d_Mo_isWood_4 : decode b_Mo_isWood 4 = .ok (.bipush 20, 2) := by decide +kernel
theorem d_Mo_isWood_6 : decode b_Mo_isWood 6 = .ok (.iload_n 2, 1) := by decide +kernel
theorem d_Mo_isWood_7 : decode b_Mo_isWood 7 = .ok (.imul, 1) := by decide +kernel
theorem d_Mo_isWood_8 : decode b_Mo_isWood 8 = .ok (.iload_n 1, 1) := by decide +kernel
theorem d_Mo_isWood_9 : decode b_Mo_isWood 9 = .ok (.iadd, 1) := by decide +kernel
theorem d_Mo_isWood_10 : decode b_Mo_isWood 10 = .ok (.baload, 1) := by decide +kernel
theorem d_Mo_isWood_11 : decode b_Mo_isWood 11 = .ok (.ifCond .eq 25, 3) := by decide +kernel
theorem d_Mo_isWood_14 : decode b_Mo_isWood 14 = .ok (.aload_n 0, 1) := by decide +kernel
theorem d_Mo_isWood_15 : decode b_Mo_isWood 15 = .ok (.getfield 7, 3) := by decide +kernel
theorem d_Mo_isWood_18 : decode b_Mo_isWood 18 = .ok (.sipush 400, 3) := by decide +kernel
theorem d_Mo_isWood_21 : decode b_Mo_isWood 21 = .ok (.bipush 20, 2) := by decide +kernel
theorem d_Mo_isWood_23 : decode b_Mo_isWood 23 = .ok (.iload_n 2, 1) := by decide +kernel
theorem d_Mo_isWood_24 : decode b_Mo_isWood 24 = .ok (.imul, 1) := by decide +kernel
theorem d_Mo_isWood_25 : decode b_Mo_isWood 25 = .ok (.iadd, 1) := by decide +kernel
theorem d_Mo_isWood_26 : decode b_Mo_isWood 26 = .ok (.iload_n 1, 1) := by decide +kernel
theorem d_Mo_isWood_27 : decode b_Mo_isWood 27 = .ok (.iadd, 1) := by decide +kernel
theorem d_Mo_isWood_28 : decode b_Mo_isWood 28 = .ok (.baload, 1) := by decide +kernel
theorem d_Mo_isWood_29 : decode b_Mo_isWood 29 = .ok (.ifCond .eq 7, 3) := by decide +kernel
theorem d_Mo_isWood_32 : decode b_Mo_isWood 32 = .ok (.iconst 1, 1) := by decide +kernel
theorem d_Mo_isWood_33 : decode b_Mo_isWood 33 = .ok (.goto 4, 3) := by decide +kernel
theorem d_Mo_isWood_36 : decode b_Mo_isWood 36 = .ok (.iconst 0, 1) := by decide +kernel
theorem d_Mo_isWood_37 : decode b_Mo_isWood 37 = .ok (.ireturn, 1) := by decide +kernel
theorem d_Mo_alongX_0 : decode b_Mo_alongX 0 = .ok (.iload_n 2, 1) := by decide +kernel
theorem d_Mo_alongX_1 : decode b_Mo_alongX 1 = .ok (.ifCond .ne 12, 3) := by decide +kernel
theorem d_Mo_alongX_4 : decode b_Mo_alongX 4 = .ok (.aload_n 0, 1) := by decide +kernel
theorem d_Mo_alongX_5 : decode b_Mo_alongX 5 = .ok (.getfield 20, 3) := by decide +kernel
theorem d_Mo_alongX_8 : decode b_Mo_alongX 8 = .ok (.iload_n 1, 1) := by decide +kernel
theorem d_Mo_alongX_9 : decode b_Mo_alongX 9 = .ok (.iaload, 1) := by decide +kernel
theorem d_Mo_alongX_10 : decode b_Mo_alongX 10 = .ok (.goto 9, 3) := by decide +kernel
theorem d_Mo_alongX_13 : decode b_Mo_alongX 13 = .ok (.aload_n 0, 1) := by decide +kernel
theorem d_Mo_alongX_14 : decode b_Mo_alongX 14 = .ok (.getfield 17, 3) := by decide +kernel
theorem d_Mo_alongX_17 : decode b_Mo_alongX 17 = .ok (.iload_n 1, 1) := by decide +kernel
theorem d_Mo_alongX_18 : decode b_Mo_alongX 18 = .ok (.iaload, 1) := by decide +kernel
theorem d_Mo_alongX_19 : decode b_Mo_alongX 19 = .ok (.ireturn, 1) := by decide +kernel
theorem d_Mo_alongY_0 : decode b_Mo_alongY 0 = .ok (.iload_n 2, 1) := by decide +kernel
theorem d_Mo_alongY_1 : decode b_Mo_alongY 1 = .ok (.ifCond .ne 12, 3) := by decide +kernel
theorem d_Mo_alongY_4 : decode b_Mo_alongY 4 = .ok (.aload_n 0, 1) := by decide +kernel
theorem d_Mo_alongY_5 : decode b_Mo_alongY 5 = .ok (.getfield 17, 3) := by decide +kernel
theorem d_Mo_alongY_8 : decode b_Mo_alongY 8 = .ok (.iload_n 1, 1) := by decide +kernel
theorem d_Mo_alongY_9 : decode b_Mo_alongY 9 = .ok (.iaload, 1) := by decide +kernel
theorem d_Mo_alongY_10 : decode b_Mo_alongY 10 = .ok (.goto 9, 3) := by decide +kernel
theorem d_Mo_alongY_13 : decode b_Mo_alongY 13 = .ok (.aload_n 0, 1) := by decide +kernel
theorem d_Mo_alongY_14 : decode b_Mo_alongY 14 = .ok (.getfield 20, 3) := by decide +kernel
theorem d_Mo_alongY_17 : decode b_Mo_alongY 17 = .ok (.iload_n 1, 1) := by decide +kernel
theorem d_Mo_alongY_18 : decode b_Mo_alongY 18 = .ok (.iaload, 1) := by decide +kernel
theorem d_Mo_alongY_19 : decode b_Mo_alongY 19 = .ok (.ireturn, 1) := by decide +kernel
theorem d_Mo_cell2_0 : decode b_Mo_cell2 0 = .ok (.bipush 21, 2) := by decide +kernel
theorem d_Mo_cell2_2 : decode b_Mo_cell2 2 = .ok (.iload_n 0, 1) := by decide +kernel
theorem d_Mo_cell2_3 : decode b_Mo_cell2 3 = .ok (.imul, 1) := by decide +kernel
theorem d_Mo_cell2_4 : decode b_Mo_cell2 4 = .ok (.iload_n 1, 1) := by decide +kernel
theorem d_Mo_cell2_5 : decode b_Mo_cell2 5 = .ok (.iadd, 1) := by decide +kernel
theorem d_Mo_cell2_6 : decode b_Mo_cell2 6 = .ok (.bipush 22, 2) := by decide +kernel
theorem d_Mo_cell2_8 : decode b_Mo_cell2 8 = .ok (.imul, 1) := by decide +kernel
theorem d_Mo_cell2_9 : decode b_Mo_cell2 9 = .ok (.iload_n 2, 1) := by decide +kernel
theorem d_Mo_cell2_10 : decode b_Mo_cell2 10 = .ok (.iadd, 1) := by decide +kernel
theorem d_Mo_cell2_11 : decode b_Mo_cell2 11 = .ok (.ireturn, 1) := by decide +kernel
theorem d_Mo_behind_0 : decode b_Mo_behind 0 = .ok (.iload_n 1, 1) := by decide +kernel
theorem d_Mo_behind_1 : decode b_Mo_behind 1 = .ok (.iload_n 2, 1) := by decide +kernel
theorem d_Mo_behind_2 : decode b_Mo_behind 2 = .ok (.iadd, 1) := by decide +kernel
theorem d_Mo_behind_3 : decode b_Mo_behind 3 = .ok (.aload_n 0, 1) := by decide +kernel
theorem d_Mo_behind_4 : decode b_Mo_behind 4 = .ok (.getfield 54, 3) := by decide +kernel
theorem d_Mo_behind_7 : decode b_Mo_behind 7 = .ok (.iadd, 1) := by decide +kernel
theorem d_Mo_behind_8 : decode b_Mo_behind 8 = .ok (.istore_n 3, 1) := by decide +kernel
theorem d_Mo_behind_9 : decode b_Mo_behind 9 = .ok (.iload_n 3, 1) := by decide +kernel
theorem d_Mo_behind_10 : decode b_Mo_behind 10 = .ok (.aload_n 0, 1) := by decide +kernel
theorem d_Mo_behind_11 : decode b_Mo_behind 11 = .ok (.getfield 50, 3) := by decide +kernel
theorem d_Mo_behind_14 : decode b_Mo_behind 14 = .ok (.if_icmp .le 10, 3) := by decide +kernel
theorem d_Mo_behind_17 : decode b_Mo_behind 17 = .ok (.aload_n 0, 1) := by decide +kernel
theorem d_Mo_behind_18 : decode b_Mo_behind 18 = .ok (.getfield 50, 3) := by decide +kernel
theorem d_Mo_behind_21 : decode b_Mo_behind 21 = .ok (.goto 4, 3) := by decide +kernel
theorem d_Mo_behind_24 : decode b_Mo_behind 24 = .ok (.iload_n 3, 1) := by decide +kernel
theorem d_Mo_behind_25 : decode b_Mo_behind 25 = .ok (.ireturn, 1) := by decide +kernel
theorem d_Mo_isBetter_0 : decode b_Mo_isBetter 0 = .ok (.iload_n 0, 1) := by decide +kernel
theorem d_Mo_isBetter_1 : decode b_Mo_isBetter 1 = .ok (.iload_n 2, 1) := by decide +kernel
theorem d_Mo_isBetter_2 : decode b_Mo_isBetter 2 = .ok (.if_icmp .gt 13, 3) := by decide +kernel
theorem d_Mo_isBetter_5 : decode b_Mo_isBetter 5 = .ok (.iload_n 0, 1) := by decide +kernel
theorem d_Mo_isBetter_6 : decode b_Mo_isBetter 6 = .ok (.iload_n 2, 1) := by decide +kernel
theorem d_Mo_isBetter_7 : decode b_Mo_isBetter 7 = .ok (.if_icmp .ne 12, 3) := by decide +kernel
theorem d_Mo_isBetter_10 : decode b_Mo_isBetter 10 = .ok (.iload_n 1, 1) := by decide +kernel
theorem d_Mo_isBetter_11 : decode b_Mo_isBetter 11 = .ok (.iload_n 3, 1) := by decide +kernel
theorem d_Mo_isBetter_12 : decode b_Mo_isBetter 12 = .ok (.if_icmp .ge 7, 3) := by decide +kernel
theorem d_Mo_isBetter_15 : decode b_Mo_isBetter 15 = .ok (.iconst 1, 1) := by decide +kernel
theorem d_Mo_isBetter_16 : decode b_Mo_isBetter 16 = .ok (.goto 4, 3) := by decide +kernel
theorem d_Mo_isBetter_19 : decode b_Mo_isBetter 19 = .ok (.iconst 0, 1) := by decide +kernel
theorem d_Mo_isBetter_20 : decode b_Mo_isBetter 20 = .ok (.ireturn, 1) := by decide +kernel
theorem d_Mo_over_0 : decode b_Mo_over 0 = .ok (.bipush 21, 2) := by decide +kernel
theorem d_Mo_over_2 : decode b_Mo_over 2 = .ok (.iload_n 3, 1) := by decide +kernel
theorem d_Mo_over_3 : decode b_Mo_over 3 = .ok (.imul, 1) := by decide +kernel
theorem d_Mo_over_4 : decode b_Mo_over 4 = .ok (.iload_n 2, 1) := by decide +kernel
theorem d_Mo_over_5 : decode b_Mo_over 5 = .ok (.iadd, 1) := by decide +kernel
theorem d_Mo_over_6 : decode b_Mo_over 6 = .ok (.istore 6, 2) := by decide +kernel
theorem d_Mo_over_8 : decode b_Mo_over 8 = .ok (.bipush 21, 2) := by decide +kernel
theorem d_Mo_over_10 : decode b_Mo_over 10 = .ok (.iload_n 3, 1) := by decide +kernel
theorem d_Mo_over_11 : decode b_Mo_over 11 = .ok (.iload 5, 2) := by decide +kernel
theorem d_Mo_over_13 : decode b_Mo_over 13 = .ok (.iadd, 1) := by decide +kernel
theorem d_Mo_over_14 : decode b_Mo_over 14 = .ok (.imul, 1) := by decide +kernel
theorem d_Mo_over_15 : decode b_Mo_over 15 = .ok (.iload_n 2, 1) := by decide +kernel
theorem d_Mo_over_16 : decode b_Mo_over 16 = .ok (.iadd, 1) := by decide +kernel
theorem d_Mo_over_17 : decode b_Mo_over 17 = .ok (.istore 7, 2) := by decide +kernel
theorem d_Mo_over_19 : decode b_Mo_over 19 = .ok (.iload_n 1, 1) := by decide +kernel
theorem d_Mo_over_20 : decode b_Mo_over 20 = .ok (.ifCond .eq 43, 3) := by decide +kernel
theorem d_Mo_over_23 : decode b_Mo_over 23 = .ok (.aload_n 0, 1) := by decide +kernel
theorem d_Mo_over_24 : decode b_Mo_over 24 = .ok (.getfield 32, 3) := by decide +kernel
theorem d_Mo_over_27 : decode b_Mo_over 27 = .ok (.iload 7, 2) := by decide +kernel
theorem d_Mo_over_29 : decode b_Mo_over 29 = .ok (.iload 4, 2) := by decide +kernel
theorem d_Mo_over_31 : decode b_Mo_over 31 = .ok (.iadd, 1) := by decide +kernel
theorem d_Mo_over_32 : decode b_Mo_over 32 = .ok (.iaload, 1) := by decide +kernel
theorem d_Mo_over_33 : decode b_Mo_over 33 = .ok (.aload_n 0, 1) := by decide +kernel
theorem d_Mo_over_34 : decode b_Mo_over 34 = .ok (.getfield 32, 3) := by decide +kernel
theorem d_Mo_over_37 : decode b_Mo_over 37 = .ok (.iload 7, 2) := by decide +kernel
theorem d_Mo_over_39 : decode b_Mo_over 39 = .ok (.iaload, 1) := by decide +kernel
theorem d_Mo_over_40 : decode b_Mo_over 40 = .ok (.isub, 1) := by decide +kernel
theorem d_Mo_over_41 : decode b_Mo_over 41 = .ok (.aload_n 0, 1) := by decide +kernel
theorem d_Mo_over_42 : decode b_Mo_over 42 = .ok (.getfield 32, 3) := by decide +kernel
theorem d_Mo_over_45 : decode b_Mo_over 45 = .ok (.iload 6, 2) := by decide +kernel
theorem d_Mo_over_47 : decode b_Mo_over 47 = .ok (.iload 4, 2) := by decide +kernel
theorem d_Mo_over_49 : decode b_Mo_over 49 = .ok (.iadd, 1) := by decide +kernel
theorem d_Mo_over_50 : decode b_Mo_over 50 = .ok (.iaload, 1) := by decide +kernel
theorem d_Mo_over_51 : decode b_Mo_over 51 = .ok (.isub, 1) := by decide +kernel
theorem d_Mo_over_52 : decode b_Mo_over 52 = .ok (.aload_n 0, 1) := by decide +kernel
theorem d_Mo_over_53 : decode b_Mo_over 53 = .ok (.getfield 32, 3) := by decide +kernel
theorem d_Mo_over_56 : decode b_Mo_over 56 = .ok (.iload 6, 2) := by decide +kernel
theorem d_Mo_over_58 : decode b_Mo_over 58 = .ok (.iaload, 1) := by decide +kernel
theorem d_Mo_over_59 : decode b_Mo_over 59 = .ok (.iadd, 1) := by decide +kernel
theorem d_Mo_over_60 : decode b_Mo_over 60 = .ok (.goto 40, 3) := by decide +kernel
theorem d_Mo_over_63 : decode b_Mo_over 63 = .ok (.aload_n 0, 1) := by decide +kernel
theorem d_Mo_over_64 : decode b_Mo_over 64 = .ok (.getfield 29, 3) := by decide +kernel
theorem d_Mo_over_67 : decode b_Mo_over 67 = .ok (.iload 7, 2) := by decide +kernel
theorem d_Mo_over_69 : decode b_Mo_over 69 = .ok (.iload 4, 2) := by decide +kernel
theorem d_Mo_over_71 : decode b_Mo_over 71 = .ok (.iadd, 1) := by decide +kernel
theorem d_Mo_over_72 : decode b_Mo_over 72 = .ok (.iaload, 1) := by decide +kernel
theorem d_Mo_over_73 : decode b_Mo_over 73 = .ok (.aload_n 0, 1) := by decide +kernel
theorem d_Mo_over_74 : decode b_Mo_over 74 = .ok (.getfield 29, 3) := by decide +kernel
theorem d_Mo_over_77 : decode b_Mo_over 77 = .ok (.iload 7, 2) := by decide +kernel
theorem d_Mo_over_79 : decode b_Mo_over 79 = .ok (.iaload, 1) := by decide +kernel
theorem d_Mo_over_80 : decode b_Mo_over 80 = .ok (.isub, 1) := by decide +kernel
theorem d_Mo_over_81 : decode b_Mo_over 81 = .ok (.aload_n 0, 1) := by decide +kernel
theorem d_Mo_over_82 : decode b_Mo_over 82 = .ok (.getfield 29, 3) := by decide +kernel
theorem d_Mo_over_85 : decode b_Mo_over 85 = .ok (.iload 6, 2) := by decide +kernel
theorem d_Mo_over_87 : decode b_Mo_over 87 = .ok (.iload 4, 2) := by decide +kernel
theorem d_Mo_over_89 : decode b_Mo_over 89 = .ok (.iadd, 1) := by decide +kernel
theorem d_Mo_over_90 : decode b_Mo_over 90 = .ok (.iaload, 1) := by decide +kernel
theorem d_Mo_over_91 : decode b_Mo_over 91 = .ok (.isub, 1) := by decide +kernel
theorem d_Mo_over_92 : decode b_Mo_over 92 = .ok (.aload_n 0, 1) := by decide +kernel
theorem d_Mo_over_93 : decode b_Mo_over 93 = .ok (.getfield 29, 3) := by decide +kernel
theorem d_Mo_over_96 : decode b_Mo_over 96 = .ok (.iload 6, 2) := by decide +kernel
theorem d_Mo_over_98 : decode b_Mo_over 98 = .ok (.iaload, 1) := by decide +kernel
theorem d_Mo_over_99 : decode b_Mo_over 99 = .ok (.iadd, 1) := by decide +kernel
theorem d_Mo_over_100 : decode b_Mo_over 100 = .ok (.ireturn, 1) := by decide +kernel
theorem d_Mo_fits_0 : decode b_Mo_fits 0 = .ok (.aload_n 0, 1) := by decide +kernel
theorem d_Mo_fits_1 : decode b_Mo_fits 1 = .ok (.iload_n 1, 1) := by decide +kernel
theorem d_Mo_fits_2 : decode b_Mo_fits 2 = .ok (.iload 4, 2) := by decide +kernel
theorem d_Mo_fits_4 : decode b_Mo_fits 4 = .ok (.invokevirtual 79, 3) := by decide +kernel
theorem d_Mo_fits_7 : decode b_Mo_fits 7 = .ok (.istore 5, 2) := by decide +kernel
theorem d_Mo_fits_9 : decode b_Mo_fits 9 = .ok (.aload_n 0, 1) := by decide +kernel
theorem d_Mo_fits_10 : decode b_Mo_fits 10 = .ok (.iload_n 1, 1) := by decide +kernel
theorem d_Mo_fits_11 : decode b_Mo_fits 11 = .ok (.iload 4, 2) := by decide +kernel
theorem d_Mo_fits_13 : decode b_Mo_fits 13 = .ok (.invokevirtual 83, 3) := by decide +kernel
theorem d_Mo_fits_16 : decode b_Mo_fits 16 = .ok (.istore 6, 2) := by decide +kernel
theorem d_Mo_fits_18 : decode b_Mo_fits 18 = .ok (.iload_n 2, 1) := by decide +kernel
theorem d_Mo_fits_19 : decode b_Mo_fits 19 = .ok (.ifCond .lt 53, 3) := by decide +kernel
theorem d_Mo_fits_22 : decode b_Mo_fits 22 = .ok (.iload_n 3, 1) := by decide +kernel
theorem d_Mo_fits_23 : decode b_Mo_fits 23 = .ok (.ifCond .lt 49, 3) := by decide +kernel
theorem d_Mo_fits_26 : decode b_Mo_fits 26 = .ok (.iload_n 2, 1) := by decide +kernel
theorem d_Mo_fits_27 : decode b_Mo_fits 27 = .ok (.aload_n 0, 1) := by decide +kernel
theorem d_Mo_fits_28 : decode b_Mo_fits 28 = .ok (.getfield 50, 3) := by decide +kernel
theorem d_Mo_fits_31 : decode b_Mo_fits 31 = .ok (.iload 5, 2) := by decide +kernel
theorem d_Mo_fits_33 : decode b_Mo_fits 33 = .ok (.isub, 1) := by decide +kernel
theorem d_Mo_fits_34 : decode b_Mo_fits 34 = .ok (.if_icmp .gt 38, 3) := by decide +kernel
theorem d_Mo_fits_37 : decode b_Mo_fits 37 = .ok (.iload_n 3, 1) := by decide +kernel
theorem d_Mo_fits_38 : decode b_Mo_fits 38 = .ok (.aload_n 0, 1) := by decide +kernel
theorem d_Mo_fits_39 : decode b_Mo_fits 39 = .ok (.getfield 50, 3) := by decide +kernel
theorem d_Mo_fits_42 : decode b_Mo_fits 42 = .ok (.iload 6, 2) := by decide +kernel
theorem d_Mo_fits_44 : decode b_Mo_fits 44 = .ok (.isub, 1) := by decide +kernel
theorem d_Mo_fits_45 : decode b_Mo_fits 45 = .ok (.if_icmp .gt 27, 3) := by decide +kernel
theorem d_Mo_fits_48 : decode b_Mo_fits 48 = .ok (.aload_n 0, 1) := by decide +kernel
theorem d_Mo_fits_49 : decode b_Mo_fits 49 = .ok (.iconst 0, 1) := by decide +kernel
theorem d_Mo_fits_50 : decode b_Mo_fits 50 = .ok (.iload_n 2, 1) := by decide +kernel
theorem d_Mo_fits_51 : decode b_Mo_fits 51 = .ok (.iload_n 3, 1) := by decide +kernel
theorem d_Mo_fits_52 : decode b_Mo_fits 52 = .ok (.iload 5, 2) := by decide +kernel
theorem d_Mo_fits_54 : decode b_Mo_fits 54 = .ok (.iload 6, 2) := by decide +kernel
theorem d_Mo_fits_56 : decode b_Mo_fits 56 = .ok (.invokevirtual 86, 3) := by decide +kernel
theorem d_Mo_fits_59 : decode b_Mo_fits 59 = .ok (.aload_n 0, 1) := by decide +kernel
theorem d_Mo_fits_60 : decode b_Mo_fits 60 = .ok (.getfield 26, 3) := by decide +kernel
theorem d_Mo_fits_63 : decode b_Mo_fits 63 = .ok (.iload_n 1, 1) := by decide +kernel
theorem d_Mo_fits_64 : decode b_Mo_fits 64 = .ok (.iaload, 1) := by decide +kernel
theorem d_Mo_fits_65 : decode b_Mo_fits 65 = .ok (.if_icmp .gt 7, 3) := by decide +kernel
theorem d_Mo_fits_68 : decode b_Mo_fits 68 = .ok (.iconst 1, 1) := by decide +kernel
theorem d_Mo_fits_69 : decode b_Mo_fits 69 = .ok (.goto 4, 3) := by decide +kernel
theorem d_Mo_fits_72 : decode b_Mo_fits 72 = .ok (.iconst 0, 1) := by decide +kernel
theorem d_Mo_fits_73 : decode b_Mo_fits 73 = .ok (.ireturn, 1) := by decide +kernel
theorem d_Mo_brings_0 : decode b_Mo_brings 0 = .ok (.aload_n 0, 1) := by decide +kernel
theorem d_Mo_brings_1 : decode b_Mo_brings 1 = .ok (.getfield 23, 3) := by decide +kernel
theorem d_Mo_brings_4 : decode b_Mo_brings 4 = .ok (.iload_n 1, 1) := by decide +kernel
theorem d_Mo_brings_5 : decode b_Mo_brings 5 = .ok (.iaload, 1) := by decide +kernel
theorem d_Mo_brings_6 : decode b_Mo_brings 6 = .ok (.aload_n 0, 1) := by decide +kernel
theorem d_Mo_brings_7 : decode b_Mo_brings 7 = .ok (.iconst 1, 1) := by decide +kernel
theorem d_Mo_brings_8 : decode b_Mo_brings 8 = .ok (.iload_n 2, 1) := by decide +kernel
theorem d_Mo_brings_9 : decode b_Mo_brings 9 = .ok (.iload_n 3, 1) := by decide +kernel
theorem d_Mo_brings_10 : decode b_Mo_brings 10 = .ok (.aload_n 0, 1) := by decide +kernel
theorem d_Mo_brings_11 : decode b_Mo_brings 11 = .ok (.iload_n 1, 1) := by decide +kernel
theorem d_Mo_brings_12 : decode b_Mo_brings 12 = .ok (.iload 4, 2) := by decide +kernel
theorem d_Mo_brings_14 : decode b_Mo_brings 14 = .ok (.invokevirtual 79, 3) := by decide +kernel
theorem d_Mo_brings_17 : decode b_Mo_brings 17 = .ok (.aload_n 0, 1) := by decide +kernel
theorem d_Mo_brings_18 : decode b_Mo_brings 18 = .ok (.iload_n 1, 1) := by decide +kernel
theorem d_Mo_brings_19 : decode b_Mo_brings 19 = .ok (.iload 4, 2) := by decide +kernel
theorem d_Mo_brings_21 : decode b_Mo_brings 21 = .ok (.invokevirtual 83, 3) := by decide +kernel
theorem d_Mo_brings_24 : decode b_Mo_brings 24 = .ok (.invokevirtual 86, 3) := by decide +kernel
theorem d_Mo_brings_27 : decode b_Mo_brings 27 = .ok (.isub, 1) := by decide +kernel
theorem d_Mo_brings_28 : decode b_Mo_brings 28 = .ok (.istore 5, 2) := by decide +kernel
theorem d_Mo_brings_30 : decode b_Mo_brings 30 = .ok (.iload 5, 2) := by decide +kernel
theorem d_Mo_brings_32 : decode b_Mo_brings 32 = .ok (.ifCond .ge 7, 3) := by decide +kernel
theorem d_Mo_brings_35 : decode b_Mo_brings 35 = .ok (.iconst 0, 1) := by decide +kernel
theorem d_Mo_brings_36 : decode b_Mo_brings 36 = .ok (.goto 5, 3) := by decide +kernel
theorem d_Mo_brings_39 : decode b_Mo_brings 39 = .ok (.iload 5, 2) := by decide +kernel
theorem d_Mo_brings_41 : decode b_Mo_brings 41 = .ok (.ireturn, 1) := by decide +kernel
theorem d_Mo_mayIn_0 : decode b_Mo_mayIn 0 = .ok (.aload_n 0, 1) := by decide +kernel
theorem d_Mo_mayIn_1 : decode b_Mo_mayIn 1 = .ok (.getfield 17, 3) := by decide +kernel
theorem d_Mo_mayIn_4 : decode b_Mo_mayIn 4 = .ok (.iload_n 1, 1) := by decide +kernel
theorem d_Mo_mayIn_5 : decode b_Mo_mayIn 5 = .ok (.iaload, 1) := by decide +kernel
theorem d_Mo_mayIn_6 : decode b_Mo_mayIn 6 = .ok (.iload 4, 2) := by decide +kernel
theorem d_Mo_mayIn_8 : decode b_Mo_mayIn 8 = .ok (.if_icmp .ne 38, 3) := by decide +kernel
theorem d_Mo_mayIn_11 : decode b_Mo_mayIn 11 = .ok (.iload_n 2, 1) := by decide +kernel
theorem d_Mo_mayIn_12 : decode b_Mo_mayIn 12 = .ok (.ifCond .ne 18, 3) := by decide +kernel
theorem d_Mo_mayIn_15 : decode b_Mo_mayIn 15 = .ok (.aload_n 0, 1) := by decide +kernel
theorem d_Mo_mayIn_16 : decode b_Mo_mayIn 16 = .ok (.iload_n 1, 1) := by decide +kernel
theorem d_Mo_mayIn_17 : decode b_Mo_mayIn 17 = .ok (.iload 5, 2) := by decide +kernel
theorem d_Mo_mayIn_19 : decode b_Mo_mayIn 19 = .ok (.iload_n 3, 1) := by decide +kernel
theorem d_Mo_mayIn_20 : decode b_Mo_mayIn 20 = .ok (.iload_n 2, 1) := by decide +kernel
theorem d_Mo_mayIn_21 : decode b_Mo_mayIn 21 = .ok (.invokevirtual 90, 3) := by decide +kernel
theorem d_Mo_mayIn_24 : decode b_Mo_mayIn 24 = .ok (.ifCond .eq 22, 3) := by decide +kernel
theorem d_Mo_mayIn_27 : decode b_Mo_mayIn 27 = .ok (.goto 15, 3) := by decide +kernel
theorem d_Mo_mayIn_30 : decode b_Mo_mayIn 30 = .ok (.aload_n 0, 1) := by decide +kernel
theorem d_Mo_mayIn_31 : decode b_Mo_mayIn 31 = .ok (.iload_n 1, 1) := by decide +kernel
theorem d_Mo_mayIn_32 : decode b_Mo_mayIn 32 = .ok (.iload_n 3, 1) := by decide +kernel
theorem d_Mo_mayIn_33 : decode b_Mo_mayIn 33 = .ok (.iload 5, 2) := by decide +kernel
theorem d_Mo_mayIn_35 : decode b_Mo_mayIn 35 = .ok (.iload_n 2, 1) := by decide +kernel
theorem d_Mo_mayIn_36 : decode b_Mo_mayIn 36 = .ok (.invokevirtual 90, 3) := by decide +kernel
theorem d_Mo_mayIn_39 : decode b_Mo_mayIn 39 = .ok (.ifCond .eq 7, 3) := by decide +kernel
theorem d_Mo_mayIn_42 : decode b_Mo_mayIn 42 = .ok (.iconst 1, 1) := by decide +kernel
theorem d_Mo_mayIn_43 : decode b_Mo_mayIn 43 = .ok (.goto 4, 3) := by decide +kernel
theorem d_Mo_mayIn_46 : decode b_Mo_mayIn 46 = .ok (.iconst 0, 1) := by decide +kernel
theorem d_Mo_mayIn_47 : decode b_Mo_mayIn 47 = .ok (.ireturn, 1) := by decide +kernel
theorem d_Mo_worthWith_0 : decode b_Mo_worthWith 0 = .ok (.iload_n 2, 1) := by decide +kernel
theorem d_Mo_worthWith_1 : decode b_Mo_worthWith 1 = .ok (.ifCond .ne 15, 3) := by decide +kernel
theorem d_Mo_worthWith_4 : decode b_Mo_worthWith 4 = .ok (.aload_n 0, 1) := by decide +kernel
theorem d_Mo_worthWith_5 : decode b_Mo_worthWith 5 = .ok (.iload_n 1, 1) := by decide +kernel
theorem d_Mo_worthWith_6 : decode b_Mo_worthWith 6 = .ok (.iload 5, 2) := by decide +kernel
theorem d_Mo_worthWith_8 : decode b_Mo_worthWith 8 = .ok (.iload_n 3, 1) := by decide +kernel
theorem d_Mo_worthWith_9 : decode b_Mo_worthWith 9 = .ok (.iload_n 2, 1) := by decide +kernel
theorem d_Mo_worthWith_10 : decode b_Mo_worthWith 10 = .ok (.invokevirtual 94, 3) := by decide +kernel
theorem d_Mo_worthWith_13 : decode b_Mo_worthWith 13 = .ok (.goto 12, 3) := by decide +kernel
theorem d_Mo_worthWith_16 : decode b_Mo_worthWith 16 = .ok (.aload_n 0, 1) := by decide +kernel
theorem d_Mo_worthWith_17 : decode b_Mo_worthWith 17 = .ok (.iload_n 1, 1) := by decide +kernel
theorem d_Mo_worthWith_18 : decode b_Mo_worthWith 18 = .ok (.iload_n 3, 1) := by decide +kernel
theorem d_Mo_worthWith_19 : decode b_Mo_worthWith 19 = .ok (.iload 5, 2) := by decide +kernel
theorem d_Mo_worthWith_21 : decode b_Mo_worthWith 21 = .ok (.iload_n 2, 1) := by decide +kernel
theorem d_Mo_worthWith_22 : decode b_Mo_worthWith 22 = .ok (.invokevirtual 94, 3) := by decide +kernel
theorem d_Mo_worthWith_25 : decode b_Mo_worthWith 25 = .ok (.istore 6, 2) := by decide +kernel
theorem d_Mo_worthWith_27 : decode b_Mo_worthWith 27 = .ok (.iload 6, 2) := by decide +kernel
theorem d_Mo_worthWith_29 : decode b_Mo_worthWith 29 = .ok (.aload_n 0, 1) := by decide +kernel
theorem d_Mo_worthWith_30 : decode b_Mo_worthWith 30 = .ok (.getfield 35, 3) := by decide +kernel
theorem d_Mo_worthWith_33 : decode b_Mo_worthWith 33 = .ok (.iload_n 3, 1) := by decide +kernel
theorem d_Mo_worthWith_34 : decode b_Mo_worthWith 34 = .ok (.iload 4, 2) := by decide +kernel
theorem d_Mo_worthWith_36 : decode b_Mo_worthWith 36 = .ok (.aload_n 0, 1) := by decide +kernel
theorem d_Mo_worthWith_37 : decode b_Mo_worthWith 37 = .ok (.iload 5, 2) := by decide +kernel
theorem d_Mo_worthWith_39 : decode b_Mo_worthWith 39 = .ok (.aload_n 0, 1) := by decide +kernel
theorem d_Mo_worthWith_40 : decode b_Mo_worthWith 40 = .ok (.getfield 20, 3) := by decide +kernel
theorem d_Mo_worthWith_43 : decode b_Mo_worthWith 43 = .ok (.iload_n 1, 1) := by decide +kernel
theorem d_Mo_worthWith_44 : decode b_Mo_worthWith 44 = .ok (.iaload, 1) := by decide +kernel
theorem d_Mo_worthWith_45 : decode b_Mo_worthWith 45 = .ok (.invokevirtual 98, 3) := by decide +kernel
theorem d_Mo_worthWith_48 : decode b_Mo_worthWith 48 = .ok (.invokestatic 101, 3) := by decide +kernel
theorem d_Mo_worthWith_51 : decode b_Mo_worthWith 51 = .ok (.iaload, 1) := by decide +kernel
theorem d_Mo_worthWith_52 : decode b_Mo_worthWith 52 = .ok (.iadd, 1) := by decide +kernel
theorem d_Mo_worthWith_53 : decode b_Mo_worthWith 53 = .ok (.ireturn, 1) := by decide +kernel
theorem d_Mo_countWith_0 : decode b_Mo_countWith 0 = .ok (.iconst 1, 1) := by decide +kernel
theorem d_Mo_countWith_1 : decode b_Mo_countWith 1 = .ok (.aload_n 0, 1) := by decide +kernel
theorem d_Mo_countWith_2 : decode b_Mo_countWith 2 = .ok (.getfield 38, 3) := by decide +kernel
theorem d_Mo_countWith_5 : decode b_Mo_countWith 5 = .ok (.iload_n 2, 1) := by decide +kernel
theorem d_Mo_countWith_6 : decode b_Mo_countWith 6 = .ok (.iload_n 3, 1) := by decide +kernel
theorem d_Mo_countWith_7 : decode b_Mo_countWith 7 = .ok (.aload_n 0, 1) := by decide +kernel
theorem d_Mo_countWith_8 : decode b_Mo_countWith 8 = .ok (.iload 4, 2) := by decide +kernel
theorem d_Mo_countWith_10 : decode b_Mo_countWith 10 = .ok (.aload_n 0, 1) := by decide +kernel
theorem d_Mo_countWith_11 : decode b_Mo_countWith 11 = .ok (.getfield 20, 3) := by decide +kernel
theorem d_Mo_countWith_14 : decode b_Mo_countWith 14 = .ok (.iload_n 1, 1) := by decide +kernel
theorem d_Mo_countWith_15 : decode b_Mo_countWith 15 = .ok (.iaload, 1) := by decide +kernel
theorem d_Mo_countWith_16 : decode b_Mo_countWith 16 = .ok (.invokevirtual 98, 3) := by decide +kernel
theorem d_Mo_countWith_19 : decode b_Mo_countWith 19 = .ok (.invokestatic 101, 3) := by decide +kernel
theorem d_Mo_countWith_22 : decode b_Mo_countWith 22 = .ok (.iaload, 1) := by decide +kernel
theorem d_Mo_countWith_23 : decode b_Mo_countWith 23 = .ok (.iadd, 1) := by decide +kernel
theorem d_Mo_countWith_24 : decode b_Mo_countWith 24 = .ok (.ireturn, 1) := by decide +kernel
theorem d_Mo_isThick_0 : decode b_Mo_isThick 0 = .ok (.iconst 0, 1) := by decide +kernel
theorem d_Mo_isThick_1 : decode b_Mo_isThick 1 = .ok (.istore_n 2, 1) := by decide +kernel
theorem d_Mo_isThick_2 : decode b_Mo_isThick 2 = .ok (.iconst 0, 1) := by decide +kernel
theorem d_Mo_isThick_3 : decode b_Mo_isThick 3 = .ok (.istore_n 3, 1) := by decide +kernel
theorem d_Mo_isThick_4 : decode b_Mo_isThick 4 = .ok (.iload_n 3, 1) := by decide +kernel
theorem d_Mo_isThick_5 : decode b_Mo_isThick 5 = .ok (.aload_n 0, 1) := by decide +kernel
theorem d_Mo_isThick_6 : decode b_Mo_isThick 6 = .ok (.getfield 73, 3) := by decide +kernel
theorem d_Mo_isThick_9 : decode b_Mo_isThick 9 = .ok (.if_icmp .ge 29, 3) := by decide +kernel
theorem d_Mo_isThick_12 : decode b_Mo_isThick 12 = .ok (.iload_n 2, 1) := by decide +kernel
theorem d_Mo_isThick_13 : decode b_Mo_isThick 13 = .ok (.ifCond .ne 13, 3) := by decide +kernel
theorem d_Mo_isThick_16 : decode b_Mo_isThick 16 = .ok (.aload_n 0, 1) := by decide +kernel
theorem d_Mo_isThick_17 : decode b_Mo_isThick 17 = .ok (.getfield 17, 3) := by decide +kernel
theorem d_Mo_isThick_20 : decode b_Mo_isThick 20 = .ok (.iload_n 3, 1) := by decide +kernel
theorem d_Mo_isThick_21 : decode b_Mo_isThick 21 = .ok (.iaload, 1) := by decide +kernel
theorem d_Mo_isThick_22 : decode b_Mo_isThick 22 = .ok (.iload_n 1, 1) := by decide +kernel
theorem d_Mo_isThick_23 : decode b_Mo_isThick 23 = .ok (.if_icmp .ne 7, 3) := by decide +kernel
theorem d_Mo_isThick_26 : decode b_Mo_isThick 26 = .ok (.iconst 1, 1) := by decide +kernel
theorem d_Mo_isThick_27 : decode b_Mo_isThick 27 = .ok (.goto 4, 3) := by decide +kernel
theorem d_Mo_isThick_30 : decode b_Mo_isThick 30 = .ok (.iconst 0, 1) := by decide +kernel
theorem d_Mo_isThick_31 : decode b_Mo_isThick 31 = .ok (.istore_n 2, 1) := by decide +kernel
theorem d_Mo_isThick_32 : decode b_Mo_isThick 32 = .ok (.iinc 3 1, 3) := by decide +kernel
theorem d_Mo_isThick_35 : decode b_Mo_isThick 35 = .ok (.goto (-31), 3) := by decide +kernel
theorem d_Mo_isThick_38 : decode b_Mo_isThick 38 = .ok (.iload_n 2, 1) := by decide +kernel
theorem d_Mo_isThick_39 : decode b_Mo_isThick 39 = .ok (.ireturn, 1) := by decide +kernel
theorem d_Mo_hasSlab_0 : decode b_Mo_hasSlab 0 = .ok (.iload_n 1, 1) := by decide +kernel
theorem d_Mo_hasSlab_1 : decode b_Mo_hasSlab 1 = .ok (.iload_n 2, 1) := by decide +kernel
theorem d_Mo_hasSlab_2 : decode b_Mo_hasSlab 2 = .ok (.iadd, 1) := by decide +kernel
theorem d_Mo_hasSlab_3 : decode b_Mo_hasSlab 3 = .ok (.aload_n 0, 1) := by decide +kernel
theorem d_Mo_hasSlab_4 : decode b_Mo_hasSlab 4 = .ok (.getfield 50, 3) := by decide +kernel
theorem d_Mo_hasSlab_7 : decode b_Mo_hasSlab 7 = .ok (.if_icmp .gt 29, 3) := by decide +kernel
theorem d_Mo_hasSlab_10 : decode b_Mo_hasSlab 10 = .ok (.aload_n 0, 1) := by decide +kernel
theorem d_Mo_hasSlab_11 : decode b_Mo_hasSlab 11 = .ok (.iload_n 2, 1) := by decide +kernel
theorem d_Mo_hasSlab_12 : decode b_Mo_hasSlab 12 = .ok (.invokevirtual 119, 3) := by decide +kernel
theorem d_Mo_hasSlab_15 : decode b_Mo_hasSlab 15 = .ok (.ifCond .eq 21, 3) := by decide +kernel
theorem d_Mo_hasSlab_18 : decode b_Mo_hasSlab 18 = .ok (.aload_n 0, 1) := by decide +kernel
theorem d_Mo_hasSlab_19 : decode b_Mo_hasSlab 19 = .ok (.getfield 38, 3) := by decide +kernel
theorem d_Mo_hasSlab_22 : decode b_Mo_hasSlab 22 = .ok (.iload_n 1, 1) := by decide +kernel
theorem d_Mo_hasSlab_23 : decode b_Mo_hasSlab 23 = .ok (.iload_n 2, 1) := by decide +kernel
theorem d_Mo_hasSlab_24 : decode b_Mo_hasSlab 24 = .ok (.iconst 0, 1) := by decide +kernel
theorem d_Mo_hasSlab_25 : decode b_Mo_hasSlab 25 = .ok (.invokestatic 101, 3) := by decide +kernel
theorem d_Mo_hasSlab_28 : decode b_Mo_hasSlab 28 = .ok (.iaload, 1) := by decide +kernel
theorem d_Mo_hasSlab_29 : decode b_Mo_hasSlab 29 = .ok (.ifCond .le 7, 3) := by decide +kernel
theorem d_Mo_hasSlab_32 : decode b_Mo_hasSlab 32 = .ok (.iconst 1, 1) := by decide +kernel
theorem d_Mo_hasSlab_33 : decode b_Mo_hasSlab 33 = .ok (.goto 4, 3) := by decide +kernel
theorem d_Mo_hasSlab_36 : decode b_Mo_hasSlab 36 = .ok (.iconst 0, 1) := by decide +kernel
theorem d_Mo_hasSlab_37 : decode b_Mo_hasSlab 37 = .ok (.ireturn, 1) := by decide +kernel
set_option maxHeartbeats 4000000 in
set_option maxRecDepth 100000 in
theorem m_isIn (l : Launch) (D : va_G) (cI cJ cZ : ClassId) (x : Int32) (a : Int32) (b : Int32) (zx : Int) (za : Int) (zb : Int) (ex : x.toInt = zx) (ea : a.toInt = za) (eb : b.toInt = zb) : kRead l y_Mo_isIn w_Mo_isIn ({ frames := 0, cells := 0, slots := 0, locals := 0 }) D vwCl (tyL cI cJ cZ) [] [.int x, .int a, .int b] (.int (pI (za ≤ zx ∧ zx ≤ zb))) := by
  refine Met.ofW (cc := b_Mo_isIn) (maxL := 3) (ret := (some (.boolean))) (by decide) rfl ?_
  intro p e s m args below meth c s₁ B hml hv
  obtain ⟨rfl, hP, hK, hZ⟩ := hv
  have hx := B.exec
  have hb := B.bytes
  have hr := B.returns
  have hts := atoms_spec (ws := w_Mo_isIn) B.pre
  have hown : s.vm.findClass R_Mo = some m.cls := findClass_of_methodNamed B.named
  have hlocks := B.notSynchronized
  have hP : va_P D vwCl [] s.heap := hP
  have hl := lv_entry ([.int x, .int a, .int b]) (n := 3) (Nat.le_of_ble_eq_true rfl)
  rw [lg_entry_eq]
  generalize (lg_sl ([.int x, .int a, .int b]) ++ List.replicate (3 - (lg_sl ([.int x, .int a, .int b])).length) Slot.unset).toArray = ls at hl ⊢
  have hl : lv_has ls 3 [(0, .int x), (1, .int a), (2, .int b)] := hl
  refine lv_iload_n hx hb d_Mo_isIn_0 rfl (lv_at hl 0 rfl) ?_
  refine lv_iload_n hx hb d_Mo_isIn_1 rfl (lv_at hl 1 rfl) ?_
  refine kb_clt (tgt := 14) rfl rfl hx hb d_Mo_isIn_2 (by decide) (fun c_2 => ?_) (fun c_2 => ?_)
  · refine lv_iconst (v := nI 0) hx hb d_Mo_isIn_14 (by decide +kernel) ?_
    refine ka_i (y := pI (za ≤ zx ∧ zx ≤ zb)) (pI_z (fun h => by omega)) ?_
    exact krdz (pI_narrow _) hx hb hr hlocks d_Mo_isIn_15
  · refine lv_iload_n hx hb d_Mo_isIn_5 rfl (lv_at hl 0 rfl) ?_
    refine lv_iload_n hx hb d_Mo_isIn_6 rfl (lv_at hl 2 rfl) ?_
    refine kb_cgt (tgt := 14) rfl rfl hx hb d_Mo_isIn_7 (by decide) (fun c_7 => ?_) (fun c_7 => ?_)
    · refine lv_iconst (v := nI 0) hx hb d_Mo_isIn_14 (by decide +kernel) ?_
      refine ka_i (y := pI (za ≤ zx ∧ zx ≤ zb)) (pI_z (fun h => by omega)) ?_
      exact krdz (pI_narrow _) hx hb hr hlocks d_Mo_isIn_15
    · refine lv_iconst (v := nI 1) hx hb d_Mo_isIn_10 (by decide +kernel) ?_
      refine lv_goto (tgt := 15) hx hb d_Mo_isIn_11 (by decide) ?_
      refine ka_i (y := pI (za ≤ zx ∧ zx ≤ zb)) (pI_1 (by omega)) ?_
      exact krdz (pI_narrow _) hx hb hr hlocks d_Mo_isIn_15
set_option maxHeartbeats 4000000 in
set_option maxRecDepth 100000 in
theorem m_isCell (l : Launch) (D : va_G) (cI cJ cZ : ClassId) (mo : Nat) (thr : Nat) (side : Nat) (kf : Nat) (m1 : Nat) (m2 : Nat) (cn : Nat) (m3 : Nat) (m4 : Nat) (m5 : Nat) (m6 : Nat) (m7 : Nat) (m8 : Nat) (m9 : Nat) (m10 : Nat) (m11 : Nat) (m12 : Nat) (sw : Prop) (tn : Nat) (tot : Nat) (psl : Nat) (pc_ : Nat) (m13 : Nat) (x : Int32) (y : Int32) (s1 : 1 ≤ side) (s2 : side ≤ 20) : kRead l y_Mo_isCell w_Mo_isCell ({ frames := 1, cells := 0, slots := 0, locals := 22 }) D vwCl (tyL cI cJ cZ) [(mo, .inr (6, [.int (nI thr), .int (nI side), .int (nI kf), .ref m1, .ref m2, .int (nI cn), .ref m3, .ref m4, .ref m5, .ref m6, .ref m7, .ref m8, .ref m9, .ref m10, .ref m11, .ref m12, .int (pI sw), .int (nI tn), .int (nI tot), .int (nI psl), .int (nI pc_), .ref m13]))] [.ref mo, .int x, .int y] (.int (pI ((0 ≤ x.toInt ∧ x.toInt < (side : Int)) ∧ 0 ≤ y.toInt ∧ y.toInt < (side : Int)))) := by
  refine Met.ofW (cc := b_Mo_isCell) (maxL := 3) (ret := (some (.boolean))) (by decide) rfl ?_
  intro p e s m args below meth c s₁ B hml hv
  obtain ⟨rfl, hP, hK, hZ⟩ := hv
  have hx := B.exec
  have hb := B.bytes
  have hr := B.returns
  have hts := atoms_spec (ws := w_Mo_isCell) B.pre
  have hown : s.vm.findClass R_Mo = some m.cls := findClass_of_methodNamed B.named
  have hlocks := B.notSynchronized
  have hP : va_P D vwCl [(mo, .inr (6, [.int (nI thr), .int (nI side), .int (nI kf), .ref m1, .ref m2, .int (nI cn), .ref m3, .ref m4, .ref m5, .ref m6, .ref m7, .ref m8, .ref m9, .ref m10, .ref m11, .ref m12, .int (pI sw), .int (nI tn), .int (nI tot), .int (nI psl), .int (nI pc_), .ref m13]))] s.heap := hP
  have hl := lv_entry ([.ref mo, .int x, .int y]) (n := 3) (Nat.le_of_ble_eq_true rfl)
  rw [lg_entry_eq]
  generalize (lg_sl ([.ref mo, .int x, .int y]) ++ List.replicate (3 - (lg_sl ([.ref mo, .int x, .int y])).length) Slot.unset).toArray = ls at hl ⊢
  have hl : lv_has ls 3 [(0, .ref mo), (1, .int x), (2, .int y)] := hl
  refine lv_iload_n hx hb d_Mo_isCell_0 rfl (lv_at hl 1 rfl) ?_
  refine lv_iconst (v := nI 0) hx hb d_Mo_isCell_1 (by decide +kernel) ?_
  refine lv_aload_n hx hb d_Mo_isCell_2 rfl (lv_at hl 0 rfl) ?_
  refine va_get (D := D) (ci := 6) (v := .int (nI side)) (C := R_Mo) (T := T_Mo) (N := 22) hx hb hts (fun w h => List.mem_cons_of_mem _ (iw_Mo w h)) hown hK hP 0 rfl rfl 1 (by decide) (hts _ (List.mem_cons_of_mem _ k_546)) (fun _ h9 => h9) rfl d_Mo_isCell_3 ?_
  refine lv_iconst (v := nI 1) hx hb d_Mo_isCell_6 (by decide +kernel) ?_
  refine lv_isub hx hb d_Mo_isCell_7 ?_
  refine ka_i (y := nI (side - 1)) (pk_sub (by omega)) ?_
  refine kcallR (r := .int (pI (((0 : Nat) : Int) ≤ x.toInt ∧ x.toInt ≤ ((side - 1 : Nat) : Int)))) (va_runS (As := [.int x, .int (nI 0), .int (nI (side - 1))]) (rest := []) ⟨hx, hb, hml, hown, hts⟩ (m_isIn l D cI cJ cZ x (nI 0) (nI (side - 1)) x.toInt ((0 : Nat) : Int) ((side - 1 : Nat) : Int) rfl (nI_t (by omega)) (nI_t (by omega))) ⟨callB_of 3 hts (gd kc_Mo_isIn) rfl rfl rfl (hts _ (List.mem_cons_of_mem _ k_8)) (hts _ (List.mem_cons_of_mem _ k_620)) (by decide +kernel) ⟨Nat.le_of_ble_eq_true rfl, Nat.le_of_ble_eq_true rfl⟩, hts _ (List.mem_cons_of_mem _ k_621)⟩ ⟨kR_blind, kR_at hP hK hZ [] rfl⟩ rfl rfl hl.1 rfl (lv_room (Nat.le_of_ble_eq_true rfl)) d_Mo_isCell_8 ⟨Nat.zero_le _, Nat.zero_le _⟩) ?_
  refine kb_eqP (tgt := 32) hx hb d_Mo_isCell_11 (by decide) (fun c_11 => ?_) (fun c_11 => ?_)
  · refine lv_iconst (v := nI 0) hx hb d_Mo_isCell_32 (by decide +kernel) ?_
    refine ka_i (y := pI ((0 ≤ x.toInt ∧ x.toInt < (side : Int)) ∧ 0 ≤ y.toInt ∧ y.toInt < (side : Int))) (pI_z (fun h => by omega)) ?_
    exact krdz (pI_narrow _) hx hb hr hlocks d_Mo_isCell_33
  · refine lv_iload_n hx hb d_Mo_isCell_14 rfl (lv_at hl 2 rfl) ?_
    refine lv_iconst (v := nI 0) hx hb d_Mo_isCell_15 (by decide +kernel) ?_
    refine lv_aload_n hx hb d_Mo_isCell_16 rfl (lv_at hl 0 rfl) ?_
    refine va_get (D := D) (ci := 6) (v := .int (nI side)) (C := R_Mo) (T := T_Mo) (N := 22) hx hb hts (fun w h => List.mem_cons_of_mem _ (iw_Mo w h)) hown hK hP 0 rfl rfl 1 (by decide) (hts _ (List.mem_cons_of_mem _ k_546)) (fun _ h9 => h9) rfl d_Mo_isCell_17 ?_
    refine lv_iconst (v := nI 1) hx hb d_Mo_isCell_20 (by decide +kernel) ?_
    refine lv_isub hx hb d_Mo_isCell_21 ?_
    refine ka_i (y := nI (side - 1)) (pk_sub (by omega)) ?_
    refine kcallR (r := .int (pI (((0 : Nat) : Int) ≤ y.toInt ∧ y.toInt ≤ ((side - 1 : Nat) : Int)))) (va_runS (As := [.int y, .int (nI 0), .int (nI (side - 1))]) (rest := []) ⟨hx, hb, hml, hown, hts⟩ (m_isIn l D cI cJ cZ y (nI 0) (nI (side - 1)) y.toInt ((0 : Nat) : Int) ((side - 1 : Nat) : Int) rfl (nI_t (by omega)) (nI_t (by omega))) ⟨callB_of 3 hts (gd kc_Mo_isIn) rfl rfl rfl (hts _ (List.mem_cons_of_mem _ k_8)) (hts _ (List.mem_cons_of_mem _ k_620)) (by decide +kernel) ⟨Nat.le_of_ble_eq_true rfl, Nat.le_of_ble_eq_true rfl⟩, hts _ (List.mem_cons_of_mem _ k_621)⟩ ⟨kR_blind, kR_at hP hK hZ [] rfl⟩ rfl rfl hl.1 rfl (lv_room (Nat.le_of_ble_eq_true rfl)) d_Mo_isCell_22 ⟨Nat.zero_le _, Nat.zero_le _⟩) ?_
    refine kb_eqP (tgt := 32) hx hb d_Mo_isCell_25 (by decide) (fun c_25 => ?_) (fun c_25 => ?_)
    · refine lv_iconst (v := nI 0) hx hb d_Mo_isCell_32 (by decide +kernel) ?_
      refine ka_i (y := pI ((0 ≤ x.toInt ∧ x.toInt < (side : Int)) ∧ 0 ≤ y.toInt ∧ y.toInt < (side : Int))) (pI_z (fun h => by omega)) ?_
      exact krdz (pI_narrow _) hx hb hr hlocks d_Mo_isCell_33
    · refine lv_iconst (v := nI 1) hx hb d_Mo_isCell_28 (by decide +kernel) ?_
      refine lv_goto (tgt := 33) hx hb d_Mo_isCell_29 (by decide) ?_
      refine ka_i (y := pI ((0 ≤ x.toInt ∧ x.toInt < (side : Int)) ∧ 0 ≤ y.toInt ∧ y.toInt < (side : Int))) (pI_1 (by omega)) ?_
      exact krdz (pI_narrow _) hx hb hr hlocks d_Mo_isCell_33
set_option maxHeartbeats 4000000 in
set_option maxRecDepth 100000 in
theorem m_isWood (l : Launch) (D : va_G) (cI cJ cZ : ClassId) (mo : Nat) (thr : Nat) (side : Nat) (kf : Nat) (m1 : Nat) (m2 : Nat) (cn : Nat) (m3 : Nat) (m4 : Nat) (m5 : Nat) (m6 : Nat) (m7 : Nat) (m8 : Nat) (m9 : Nat) (m10 : Nat) (m11 : Nat) (m12 : Nat) (sw : Prop) (tn : Nat) (tot : Nat) (psl : Nat) (pc_ : Nat) (m13 : Nat) (IN : Nat → Prop) (x : Nat) (y : Nat) (hx_ : x < 20) (hy_ : y < 20) : kRead l y_Mo_isWood w_Mo_isWood ({ frames := 0, cells := 0, slots := 0, locals := 0 }) D vwCl (tyL cI cJ cZ) [(mo, .inr (6, [.int (nI thr), .int (nI side), .int (nI kf), .ref m1, .ref m2, .int (nI cn), .ref m3, .ref m4, .ref m5, .ref m6, .ref m7, .ref m8, .ref m9, .ref m10, .ref m11, .ref m12, .int (pI sw), .int (nI tn), .int (nI tot), .int (nI psl), .int (nI pc_), .ref m13])), (m1, .inl (cZ, 800, .inl (fun j => pI (IN j))))] [.ref mo, .int (nI x), .int (nI y)] (.int (pI (IN (20 * y + x) ∧ IN (400 + 20 * y + x)))) := by
  refine Met.ofW (cc := b_Mo_isWood) (maxL := 3) (ret := (some (.boolean))) (by decide) rfl ?_
  intro p e s m args below meth c s₁ B hml hv
  obtain ⟨rfl, hP, hK, hZ⟩ := hv
  have hx := B.exec
  have hb := B.bytes
  have hr := B.returns
  have hts := atoms_spec (ws := w_Mo_isWood) B.pre
  have hown : s.vm.findClass R_Mo = some m.cls := findClass_of_methodNamed B.named
  have hlocks := B.notSynchronized
  have hP : va_P D vwCl [(mo, .inr (6, [.int (nI thr), .int (nI side), .int (nI kf), .ref m1, .ref m2, .int (nI cn), .ref m3, .ref m4, .ref m5, .ref m6, .ref m7, .ref m8, .ref m9, .ref m10, .ref m11, .ref m12, .int (pI sw), .int (nI tn), .int (nI tot), .int (nI psl), .int (nI pc_), .ref m13])), (m1, .inl (cZ, 800, .inl (fun j => pI (IN j))))] s.heap := hP
  have hl := lv_entry ([.ref mo, .int (nI x), .int (nI y)]) (n := 3) (Nat.le_of_ble_eq_true rfl)
  rw [lg_entry_eq]
  generalize (lg_sl ([.ref mo, .int (nI x), .int (nI y)]) ++ List.replicate (3 - (lg_sl ([.ref mo, .int (nI x), .int (nI y)])).length) Slot.unset).toArray = ls at hl ⊢
  have hl : lv_has ls 3 [(0, .ref mo), (1, .int (nI x)), (2, .int (nI y))] := hl
  refine lv_aload_n hx hb d_Mo_isWood_0 rfl (lv_at hl 0 rfl) ?_
  refine va_get (D := D) (ci := 6) (v := .ref m1) (C := R_Mo) (T := T_Mo) (N := 22) hx hb hts (fun w h => List.mem_cons_of_mem _ (iw_Mo w h)) hown hK hP 0 rfl rfl 3 (by decide) (hts _ (List.mem_cons_of_mem _ k_548)) (fun _ h9 => h9) rfl d_Mo_isWood_1 ?_
  refine lv_bipush (v := nI 20) hx hb d_Mo_isWood_4 (by decide +kernel) ?_
  refine lv_iload_n hx hb d_Mo_isWood_6 rfl (lv_at hl 2 rfl) ?_
  refine lv_imul hx hb d_Mo_isWood_7 ?_
  refine ka_i (y := nI (20 * y)) (pk_mul _ _) ?_
  refine lv_iload_n hx hb d_Mo_isWood_8 rfl (lv_at hl 1 rfl) ?_
  refine lv_iadd hx hb d_Mo_isWood_9 ?_
  refine ka_i (y := nI ((20 * y) + x)) (nI_add _ _) ?_
  refine ka_zald (k := ((20 * y) + x)) (n := 800) (f := fun j => pI (IN j)) (nI_t (by omega)) (by omega) hx hb hK hP 1 2 rfl rfl d_Mo_isWood_10 ?_
  refine kb_eqP (tgt := 36) hx hb d_Mo_isWood_11 (by decide) (fun c1 => ?_) (fun c1 => ?_)
  · refine lv_iconst (v := nI 0) hx hb d_Mo_isWood_36 (by decide +kernel) ?_
    refine ka_i (y := pI (IN (20 * y + x) ∧ IN (400 + 20 * y + x))) (pI_z (fun h => c1 h.1)) ?_
    exact krdz (pI_narrow _) hx hb hr hlocks d_Mo_isWood_37
  · refine lv_aload_n hx hb d_Mo_isWood_14 rfl (lv_at hl 0 rfl) ?_
    refine va_get (D := D) (ci := 6) (v := .ref m1) (C := R_Mo) (T := T_Mo) (N := 22) hx hb hts (fun w h => List.mem_cons_of_mem _ (iw_Mo w h)) hown hK hP 0 rfl rfl 3 (by decide) (hts _ (List.mem_cons_of_mem _ k_548)) (fun _ h9 => h9) rfl d_Mo_isWood_15 ?_
    refine lv_sipush (v := nI 400) hx hb d_Mo_isWood_18 (by decide +kernel) ?_
    refine lv_bipush (v := nI 20) hx hb d_Mo_isWood_21 (by decide +kernel) ?_
    refine lv_iload_n hx hb d_Mo_isWood_23 rfl (lv_at hl 2 rfl) ?_
    refine lv_imul hx hb d_Mo_isWood_24 ?_
    refine ka_i (y := nI (20 * y)) (pk_mul _ _) ?_
    refine lv_iadd hx hb d_Mo_isWood_25 ?_
    refine ka_i (y := nI (400 + (20 * y))) (nI_add _ _) ?_
    refine lv_iload_n hx hb d_Mo_isWood_26 rfl (lv_at hl 1 rfl) ?_
    refine lv_iadd hx hb d_Mo_isWood_27 ?_
    refine ka_i (y := nI ((400 + (20 * y)) + x)) (nI_add _ _) ?_
    refine ka_zald (k := ((400 + (20 * y)) + x)) (n := 800) (f := fun j => pI (IN j)) (nI_t (by omega)) (by omega) hx hb hK hP 1 2 rfl rfl d_Mo_isWood_28 ?_
    refine kb_eqP (tgt := 36) hx hb d_Mo_isWood_29 (by decide) (fun c2 => ?_) (fun c2 => ?_)
    · refine lv_iconst (v := nI 0) hx hb d_Mo_isWood_36 (by decide +kernel) ?_
      refine ka_i (y := pI (IN (20 * y + x) ∧ IN (400 + 20 * y + x))) (pI_z (fun h => c2 h.2)) ?_
      exact krdz (pI_narrow _) hx hb hr hlocks d_Mo_isWood_37
    · refine lv_iconst (v := nI 1) hx hb d_Mo_isWood_32 (by decide +kernel) ?_
      refine lv_goto (tgt := 37) hx hb d_Mo_isWood_33 (by decide) ?_
      refine ka_i (y := pI (IN (20 * y + x) ∧ IN (400 + 20 * y + x))) (pI_1 (⟨c1, c2⟩)) ?_
      exact krdz (pI_narrow _) hx hb hr hlocks d_Mo_isWood_37
set_option maxHeartbeats 4000000 in
set_option maxRecDepth 100000 in
theorem m_alongX (l : Launch) (D : va_G) (cI cJ cZ : ClassId) (mo : Nat) (thr : Nat) (side : Nat) (kf : Nat) (m1 : Nat) (m2 : Nat) (cn : Nat) (m3 : Nat) (m4 : Nat) (m5 : Nat) (m6 : Nat) (m7 : Nat) (m8 : Nat) (m9 : Nat) (m10 : Nat) (m11 : Nat) (m12 : Nat) (sw : Prop) (tn : Nat) (tot : Nat) (psl : Nat) (pc_ : Nat) (m13 : Nat) (th : Nat → Nat) (wi : Nat → Nat) (i : Nat) (tq : Nat) (i8 : i < 8) (tq1 : tq ≤ 1) : kRead l y_Mo_alongX w_Mo_alongX ({ frames := 0, cells := 0, slots := 0, locals := 0 }) D vwCl (tyL cI cJ cZ) [(mo, .inr (6, [.int (nI thr), .int (nI side), .int (nI kf), .ref m1, .ref m2, .int (nI cn), .ref m3, .ref m4, .ref m5, .ref m6, .ref m7, .ref m8, .ref m9, .ref m10, .ref m11, .ref m12, .int (pI sw), .int (nI tn), .int (nI tot), .int (nI psl), .int (nI pc_), .ref m13])), (m3, .inl (cI, 8, .inl (fun j => nI (th j)))), (m4, .inl (cI, 8, .inl (fun j => nI (wi j))))] [.ref mo, .int (nI i), .int (nI tq)] (.int (nI (if ((tq : Nat) : Int) = 0 then wi i else th i))) := by
  refine Met.ofW (cc := b_Mo_alongX) (maxL := 3) (ret := (some (.int))) (by decide) rfl ?_
  intro p e s m args below meth c s₁ B hml hv
  obtain ⟨rfl, hP, hK, hZ⟩ := hv
  have hx := B.exec
  have hb := B.bytes
  have hr := B.returns
  have hts := atoms_spec (ws := w_Mo_alongX) B.pre
  have hown : s.vm.findClass R_Mo = some m.cls := findClass_of_methodNamed B.named
  have hlocks := B.notSynchronized
  have hP : va_P D vwCl [(mo, .inr (6, [.int (nI thr), .int (nI side), .int (nI kf), .ref m1, .ref m2, .int (nI cn), .ref m3, .ref m4, .ref m5, .ref m6, .ref m7, .ref m8, .ref m9, .ref m10, .ref m11, .ref m12, .int (pI sw), .int (nI tn), .int (nI tot), .int (nI psl), .int (nI pc_), .ref m13])), (m3, .inl (cI, 8, .inl (fun j => nI (th j)))), (m4, .inl (cI, 8, .inl (fun j => nI (wi j))))] s.heap := hP
  have hl := lv_entry ([.ref mo, .int (nI i), .int (nI tq)]) (n := 3) (Nat.le_of_ble_eq_true rfl)
  rw [lg_entry_eq]
  generalize (lg_sl ([.ref mo, .int (nI i), .int (nI tq)]) ++ List.replicate (3 - (lg_sl ([.ref mo, .int (nI i), .int (nI tq)])).length) Slot.unset).toArray = ls at hl ⊢
  have hl : lv_has ls 3 [(0, .ref mo), (1, .int (nI i)), (2, .int (nI tq))] := hl
  refine lv_iload_n hx hb d_Mo_alongX_0 rfl (lv_at hl 2 rfl) ?_
  refine kb_ne (tgt := 13) (nI_t (by omega)) hx hb d_Mo_alongX_1 (by decide) (fun c => ?_) (fun c => ?_)
  · refine lv_aload_n hx hb d_Mo_alongX_13 rfl (lv_at hl 0 rfl) ?_
    refine va_get (D := D) (ci := 6) (v := .ref m3) (C := R_Mo) (T := T_Mo) (N := 22) hx hb hts (fun w h => List.mem_cons_of_mem _ (iw_Mo w h)) hown hK hP 0 rfl rfl 6 (by decide) (hts _ (List.mem_cons_of_mem _ k_551)) (fun _ h9 => h9) rfl d_Mo_alongX_14 ?_
    refine lv_iload_n hx hb d_Mo_alongX_17 rfl (lv_at hl 1 rfl) ?_
    refine ka_iald (k := i) (n := 8) (f := fun j => nI (th j)) (nI_t (by omega)) (by omega) hx hb hK hP 1 0 rfl rfl d_Mo_alongX_18 ?_
    refine ka_i (y := nI (if ((tq : Nat) : Int) = 0 then wi i else th i)) (congrArg nI (if_neg (by omega)).symm) ?_
    exact krdi hx hb hr hlocks d_Mo_alongX_19
  · refine lv_aload_n hx hb d_Mo_alongX_4 rfl (lv_at hl 0 rfl) ?_
    refine va_get (D := D) (ci := 6) (v := .ref m4) (C := R_Mo) (T := T_Mo) (N := 22) hx hb hts (fun w h => List.mem_cons_of_mem _ (iw_Mo w h)) hown hK hP 0 rfl rfl 7 (by decide) (hts _ (List.mem_cons_of_mem _ k_552)) (fun _ h9 => h9) rfl d_Mo_alongX_5 ?_
    refine lv_iload_n hx hb d_Mo_alongX_8 rfl (lv_at hl 1 rfl) ?_
    refine ka_iald (k := i) (n := 8) (f := fun j => nI (wi j)) (nI_t (by omega)) (by omega) hx hb hK hP 2 0 rfl rfl d_Mo_alongX_9 ?_
    refine ka_i (y := nI (if ((tq : Nat) : Int) = 0 then wi i else th i)) (congrArg nI (if_pos (by omega)).symm) ?_
    refine lv_goto (tgt := 19) hx hb d_Mo_alongX_10 (by decide) ?_
    exact krdi hx hb hr hlocks d_Mo_alongX_19
set_option maxHeartbeats 4000000 in
set_option maxRecDepth 100000 in
theorem m_alongY (l : Launch) (D : va_G) (cI cJ cZ : ClassId) (mo : Nat) (thr : Nat) (side : Nat) (kf : Nat) (m1 : Nat) (m2 : Nat) (cn : Nat) (m3 : Nat) (m4 : Nat) (m5 : Nat) (m6 : Nat) (m7 : Nat) (m8 : Nat) (m9 : Nat) (m10 : Nat) (m11 : Nat) (m12 : Nat) (sw : Prop) (tn : Nat) (tot : Nat) (psl : Nat) (pc_ : Nat) (m13 : Nat) (th : Nat → Nat) (wi : Nat → Nat) (i : Nat) (tq : Nat) (i8 : i < 8) (tq1 : tq ≤ 1) : kRead l y_Mo_alongY w_Mo_alongY ({ frames := 0, cells := 0, slots := 0, locals := 0 }) D vwCl (tyL cI cJ cZ) [(mo, .inr (6, [.int (nI thr), .int (nI side), .int (nI kf), .ref m1, .ref m2, .int (nI cn), .ref m3, .ref m4, .ref m5, .ref m6, .ref m7, .ref m8, .ref m9, .ref m10, .ref m11, .ref m12, .int (pI sw), .int (nI tn), .int (nI tot), .int (nI psl), .int (nI pc_), .ref m13])), (m3, .inl (cI, 8, .inl (fun j => nI (th j)))), (m4, .inl (cI, 8, .inl (fun j => nI (wi j))))] [.ref mo, .int (nI i), .int (nI tq)] (.int (nI (if ((tq : Nat) : Int) = 0 then th i else wi i))) := by
  refine Met.ofW (cc := b_Mo_alongY) (maxL := 3) (ret := (some (.int))) (by decide) rfl ?_
  intro p e s m args below meth c s₁ B hml hv
  obtain ⟨rfl, hP, hK, hZ⟩ := hv
  have hx := B.exec
  have hb := B.bytes
  have hr := B.returns
  have hts := atoms_spec (ws := w_Mo_alongY) B.pre
  have hown : s.vm.findClass R_Mo = some m.cls := findClass_of_methodNamed B.named
  have hlocks := B.notSynchronized
  have hP : va_P D vwCl [(mo, .inr (6, [.int (nI thr), .int (nI side), .int (nI kf), .ref m1, .ref m2, .int (nI cn), .ref m3, .ref m4, .ref m5, .ref m6, .ref m7, .ref m8, .ref m9, .ref m10, .ref m11, .ref m12, .int (pI sw), .int (nI tn), .int (nI tot), .int (nI psl), .int (nI pc_), .ref m13])), (m3, .inl (cI, 8, .inl (fun j => nI (th j)))), (m4, .inl (cI, 8, .inl (fun j => nI (wi j))))] s.heap := hP
  have hl := lv_entry ([.ref mo, .int (nI i), .int (nI tq)]) (n := 3) (Nat.le_of_ble_eq_true rfl)
  rw [lg_entry_eq]
  generalize (lg_sl ([.ref mo, .int (nI i), .int (nI tq)]) ++ List.replicate (3 - (lg_sl ([.ref mo, .int (nI i), .int (nI tq)])).length) Slot.unset).toArray = ls at hl ⊢
  have hl : lv_has ls 3 [(0, .ref mo), (1, .int (nI i)), (2, .int (nI tq))] := hl
  refine lv_iload_n hx hb d_Mo_alongY_0 rfl (lv_at hl 2 rfl) ?_
  refine kb_ne (tgt := 13) (nI_t (by omega)) hx hb d_Mo_alongY_1 (by decide) (fun c => ?_) (fun c => ?_)
  · refine lv_aload_n hx hb d_Mo_alongY_13 rfl (lv_at hl 0 rfl) ?_
    refine va_get (D := D) (ci := 6) (v := .ref m4) (C := R_Mo) (T := T_Mo) (N := 22) hx hb hts (fun w h => List.mem_cons_of_mem _ (iw_Mo w h)) hown hK hP 0 rfl rfl 7 (by decide) (hts _ (List.mem_cons_of_mem _ k_552)) (fun _ h9 => h9) rfl d_Mo_alongY_14 ?_
    refine lv_iload_n hx hb d_Mo_alongY_17 rfl (lv_at hl 1 rfl) ?_
    refine ka_iald (k := i) (n := 8) (f := fun j => nI (wi j)) (nI_t (by omega)) (by omega) hx hb hK hP 2 0 rfl rfl d_Mo_alongY_18 ?_
    refine ka_i (y := nI (if ((tq : Nat) : Int) = 0 then th i else wi i)) (congrArg nI (if_neg (by omega)).symm) ?_
    exact krdi hx hb hr hlocks d_Mo_alongY_19
  · refine lv_aload_n hx hb d_Mo_alongY_4 rfl (lv_at hl 0 rfl) ?_
    refine va_get (D := D) (ci := 6) (v := .ref m3) (C := R_Mo) (T := T_Mo) (N := 22) hx hb hts (fun w h => List.mem_cons_of_mem _ (iw_Mo w h)) hown hK hP 0 rfl rfl 6 (by decide) (hts _ (List.mem_cons_of_mem _ k_551)) (fun _ h9 => h9) rfl d_Mo_alongY_5 ?_
    refine lv_iload_n hx hb d_Mo_alongY_8 rfl (lv_at hl 1 rfl) ?_
    refine ka_iald (k := i) (n := 8) (f := fun j => nI (th j)) (nI_t (by omega)) (by omega) hx hb hK hP 1 0 rfl rfl d_Mo_alongY_9 ?_
    refine ka_i (y := nI (if ((tq : Nat) : Int) = 0 then th i else wi i)) (congrArg nI (if_pos (by omega)).symm) ?_
    refine lv_goto (tgt := 19) hx hb d_Mo_alongY_10 (by decide) ?_
    exact krdi hx hb hr hlocks d_Mo_alongY_19
set_option maxHeartbeats 4000000 in
set_option maxRecDepth 100000 in
theorem m_cell2 (l : Launch) (D : va_G) (cI cJ cZ : ClassId) (a_ : Nat) (b_ : Nat) (c_ : Nat)  : kRead l y_Mo_cell2 w_Mo_cell2 ({ frames := 0, cells := 0, slots := 0, locals := 0 }) D vwCl (tyL cI cJ cZ) [] [.int (nI a_), .int (nI b_), .int (nI c_)] (.int (nI ((21 * a_ + b_) * 22 + c_))) := by
  refine Met.ofW (cc := b_Mo_cell2) (maxL := 3) (ret := (some (.int))) (by decide) rfl ?_
  intro p e s m args below meth c s₁ B hml hv
  obtain ⟨rfl, hP, hK, hZ⟩ := hv
  have hx := B.exec
  have hb := B.bytes
  have hr := B.returns
  have hts := atoms_spec (ws := w_Mo_cell2) B.pre
  have hown : s.vm.findClass R_Mo = some m.cls := findClass_of_methodNamed B.named
  have hlocks := B.notSynchronized
  have hP : va_P D vwCl [] s.heap := hP
  have hl := lv_entry ([.int (nI a_), .int (nI b_), .int (nI c_)]) (n := 3) (Nat.le_of_ble_eq_true rfl)
  rw [lg_entry_eq]
  generalize (lg_sl ([.int (nI a_), .int (nI b_), .int (nI c_)]) ++ List.replicate (3 - (lg_sl ([.int (nI a_), .int (nI b_), .int (nI c_)])).length) Slot.unset).toArray = ls at hl ⊢
  have hl : lv_has ls 3 [(0, .int (nI a_)), (1, .int (nI b_)), (2, .int (nI c_))] := hl
  refine lv_bipush (v := nI 21) hx hb d_Mo_cell2_0 (by decide +kernel) ?_
  refine lv_iload_n hx hb d_Mo_cell2_2 rfl (lv_at hl 0 rfl) ?_
  refine lv_imul hx hb d_Mo_cell2_3 ?_
  refine ka_i (y := nI (21 * a_)) (pk_mul _ _) ?_
  refine lv_iload_n hx hb d_Mo_cell2_4 rfl (lv_at hl 1 rfl) ?_
  refine lv_iadd hx hb d_Mo_cell2_5 ?_
  refine ka_i (y := nI ((21 * a_) + b_)) (nI_add _ _) ?_
  refine lv_bipush (v := nI 22) hx hb d_Mo_cell2_6 (by decide +kernel) ?_
  refine lv_imul hx hb d_Mo_cell2_8 ?_
  refine ka_i (y := nI (((21 * a_) + b_) * 22)) (pk_mul _ _) ?_
  refine lv_iload_n hx hb d_Mo_cell2_9 rfl (lv_at hl 2 rfl) ?_
  refine lv_iadd hx hb d_Mo_cell2_10 ?_
  refine ka_i (y := nI ((((21 * a_) + b_) * 22) + c_)) (nI_add _ _) ?_
  exact krdi hx hb hr hlocks d_Mo_cell2_11
set_option maxHeartbeats 4000000 in
set_option maxRecDepth 100000 in
theorem m_behind (l : Launch) (D : va_G) (cI cJ cZ : ClassId) (mo : Nat) (thr : Nat) (side : Nat) (kf : Nat) (m1 : Nat) (m2 : Nat) (cn : Nat) (m3 : Nat) (m4 : Nat) (m5 : Nat) (m6 : Nat) (m7 : Nat) (m8 : Nat) (m9 : Nat) (m10 : Nat) (m11 : Nat) (m12 : Nat) (sw : Prop) (tn : Nat) (tot : Nat) (psl : Nat) (pc_ : Nat) (m13 : Nat) (p_ : Nat) (q_ : Nat) (s2 : side ≤ 20) (k4 : kf ≤ 4) (hp : p_ ≤ 1000) (hq : q_ ≤ 1000) : kRead l y_Mo_behind w_Mo_behind ({ frames := 0, cells := 0, slots := 0, locals := 0 }) D vwCl (tyL cI cJ cZ) [(mo, .inr (6, [.int (nI thr), .int (nI side), .int (nI kf), .ref m1, .ref m2, .int (nI cn), .ref m3, .ref m4, .ref m5, .ref m6, .ref m7, .ref m8, .ref m9, .ref m10, .ref m11, .ref m12, .int (pI sw), .int (nI tn), .int (nI tot), .int (nI psl), .int (nI pc_), .ref m13]))] [.ref mo, .int (nI p_), .int (nI q_)] (.int (nI (min side (p_ + q_ + kf)))) := by
  refine Met.ofW (cc := b_Mo_behind) (maxL := 4) (ret := (some (.int))) (by decide) rfl ?_
  intro p e s m args below meth c s₁ B hml hv
  obtain ⟨rfl, hP, hK, hZ⟩ := hv
  have hx := B.exec
  have hb := B.bytes
  have hr := B.returns
  have hts := atoms_spec (ws := w_Mo_behind) B.pre
  have hown : s.vm.findClass R_Mo = some m.cls := findClass_of_methodNamed B.named
  have hlocks := B.notSynchronized
  have hP : va_P D vwCl [(mo, .inr (6, [.int (nI thr), .int (nI side), .int (nI kf), .ref m1, .ref m2, .int (nI cn), .ref m3, .ref m4, .ref m5, .ref m6, .ref m7, .ref m8, .ref m9, .ref m10, .ref m11, .ref m12, .int (pI sw), .int (nI tn), .int (nI tot), .int (nI psl), .int (nI pc_), .ref m13]))] s.heap := hP
  have hl := lv_entry ([.ref mo, .int (nI p_), .int (nI q_)]) (n := 4) (Nat.le_of_ble_eq_true rfl)
  rw [lg_entry_eq]
  generalize (lg_sl ([.ref mo, .int (nI p_), .int (nI q_)]) ++ List.replicate (4 - (lg_sl ([.ref mo, .int (nI p_), .int (nI q_)])).length) Slot.unset).toArray = ls at hl ⊢
  have hl : lv_has ls 4 [(0, .ref mo), (1, .int (nI p_)), (2, .int (nI q_))] := hl
  refine lv_iload_n hx hb d_Mo_behind_0 rfl (lv_at hl 1 rfl) ?_
  refine lv_iload_n hx hb d_Mo_behind_1 rfl (lv_at hl 2 rfl) ?_
  refine lv_iadd hx hb d_Mo_behind_2 ?_
  refine ka_i (y := nI (p_ + q_)) (nI_add _ _) ?_
  refine lv_aload_n hx hb d_Mo_behind_3 rfl (lv_at hl 0 rfl) ?_
  refine va_get (D := D) (ci := 6) (v := .int (nI kf)) (C := R_Mo) (T := T_Mo) (N := 22) hx hb hts (fun w h => List.mem_cons_of_mem _ (iw_Mo w h)) hown hK hP 0 rfl rfl 2 (by decide) (hts _ (List.mem_cons_of_mem _ k_547)) (fun _ h9 => h9) rfl d_Mo_behind_4 ?_
  refine lv_iadd hx hb d_Mo_behind_7 ?_
  refine ka_i (y := nI ((p_ + q_) + kf)) (nI_add _ _) ?_
  refine lv_istore_n (lv' := [(3, .int (nI ((p_ + q_) + kf))), (0, .ref mo), (1, .int (nI p_)), (2, .int (nI q_))]) hx hb d_Mo_behind_8 rfl hl (by decide) rfl (fun ls hl => ?_)
  refine lv_iload_n hx hb d_Mo_behind_9 rfl (lv_at hl 0 rfl) ?_
  refine lv_aload_n hx hb d_Mo_behind_10 rfl (lv_at hl 1 rfl) ?_
  refine va_get (D := D) (ci := 6) (v := .int (nI side)) (C := R_Mo) (T := T_Mo) (N := 22) hx hb hts (fun w h => List.mem_cons_of_mem _ (iw_Mo w h)) hown hK hP 0 rfl rfl 1 (by decide) (hts _ (List.mem_cons_of_mem _ k_546)) (fun _ h9 => h9) rfl d_Mo_behind_11 ?_
  refine kb_cle (tgt := 24) (nI_t (by omega)) (nI_t (by omega)) hx hb d_Mo_behind_14 (by decide) (fun c_14 => ?_) (fun c_14 => ?_)
  · refine lv_iload_n hx hb d_Mo_behind_24 rfl (lv_at hl 0 rfl) ?_
    refine ka_i (y := nI (min side (p_ + q_ + kf))) (congrArg nI (by omega)) ?_
    exact krdi hx hb hr hlocks d_Mo_behind_25
  · refine lv_aload_n hx hb d_Mo_behind_17 rfl (lv_at hl 1 rfl) ?_
    refine va_get (D := D) (ci := 6) (v := .int (nI side)) (C := R_Mo) (T := T_Mo) (N := 22) hx hb hts (fun w h => List.mem_cons_of_mem _ (iw_Mo w h)) hown hK hP 0 rfl rfl 1 (by decide) (hts _ (List.mem_cons_of_mem _ k_546)) (fun _ h9 => h9) rfl d_Mo_behind_18 ?_
    refine ka_i (y := nI (min side (p_ + q_ + kf))) (congrArg nI (by omega)) ?_
    refine lv_goto (tgt := 25) hx hb d_Mo_behind_21 (by decide) ?_
    exact krdi hx hb hr hlocks d_Mo_behind_25
set_option maxHeartbeats 4000000 in
set_option maxRecDepth 100000 in
theorem m_isBetter (l : Launch) (D : va_G) (cI cJ cZ : ClassId) (w_ : Nat) (n_ : Nat) (o_ : Nat) (k_ : Nat) (b1 : w_ < 2147483648) (b2 : n_ < 2147483648) (b3 : o_ < 2147483648) (b4 : k_ < 2147483648) : kRead l y_Mo_isBetter w_Mo_isBetter ({ frames := 0, cells := 0, slots := 0, locals := 0 }) D vwCl (tyL cI cJ cZ) [] [.int (nI w_), .int (nI n_), .int (nI o_), .int (nI k_)] (.int (pI (o_ < w_ ∨ (w_ = o_ ∧ n_ < k_)))) := by
  refine Met.ofW (cc := b_Mo_isBetter) (maxL := 4) (ret := (some (.boolean))) (by decide) rfl ?_
  intro p e s m args below meth c s₁ B hml hv
  obtain ⟨rfl, hP, hK, hZ⟩ := hv
  have hx := B.exec
  have hb := B.bytes
  have hr := B.returns
  have hts := atoms_spec (ws := w_Mo_isBetter) B.pre
  have hown : s.vm.findClass R_Mo = some m.cls := findClass_of_methodNamed B.named
  have hlocks := B.notSynchronized
  have hP : va_P D vwCl [] s.heap := hP
  have hl := lv_entry ([.int (nI w_), .int (nI n_), .int (nI o_), .int (nI k_)]) (n := 4) (Nat.le_of_ble_eq_true rfl)
  rw [lg_entry_eq]
  generalize (lg_sl ([.int (nI w_), .int (nI n_), .int (nI o_), .int (nI k_)]) ++ List.replicate (4 - (lg_sl ([.int (nI w_), .int (nI n_), .int (nI o_), .int (nI k_)])).length) Slot.unset).toArray = ls at hl ⊢
  have hl : lv_has ls 4 [(0, .int (nI w_)), (1, .int (nI n_)), (2, .int (nI o_)), (3, .int (nI k_))] := hl
  refine lv_iload_n hx hb d_Mo_isBetter_0 rfl (lv_at hl 0 rfl) ?_
  refine lv_iload_n hx hb d_Mo_isBetter_1 rfl (lv_at hl 2 rfl) ?_
  refine kb_cgt (tgt := 15) (nI_t (by omega)) (nI_t (by omega)) hx hb d_Mo_isBetter_2 (by decide) (fun c_2 => ?_) (fun c_2 => ?_)
  · refine lv_iconst (v := nI 1) hx hb d_Mo_isBetter_15 (by decide +kernel) ?_
    refine lv_goto (tgt := 20) hx hb d_Mo_isBetter_16 (by decide) ?_
    refine ka_i (y := pI (o_ < w_ ∨ (w_ = o_ ∧ n_ < k_))) (pI_1 (by omega)) ?_
    exact krdz (pI_narrow _) hx hb hr hlocks d_Mo_isBetter_20
  · refine lv_iload_n hx hb d_Mo_isBetter_5 rfl (lv_at hl 0 rfl) ?_
    refine lv_iload_n hx hb d_Mo_isBetter_6 rfl (lv_at hl 2 rfl) ?_
    refine kb_cne (tgt := 19) (nI_t (by omega)) (nI_t (by omega)) hx hb d_Mo_isBetter_7 (by decide) (fun c_7 => ?_) (fun c_7 => ?_)
    · refine lv_iconst (v := nI 0) hx hb d_Mo_isBetter_19 (by decide +kernel) ?_
      refine ka_i (y := pI (o_ < w_ ∨ (w_ = o_ ∧ n_ < k_))) (pI_z (fun h => by omega)) ?_
      exact krdz (pI_narrow _) hx hb hr hlocks d_Mo_isBetter_20
    · refine lv_iload_n hx hb d_Mo_isBetter_10 rfl (lv_at hl 1 rfl) ?_
      refine lv_iload_n hx hb d_Mo_isBetter_11 rfl (lv_at hl 3 rfl) ?_
      refine kb_cge (tgt := 19) (nI_t (by omega)) (nI_t (by omega)) hx hb d_Mo_isBetter_12 (by decide) (fun c_12 => ?_) (fun c_12 => ?_)
      · refine lv_iconst (v := nI 0) hx hb d_Mo_isBetter_19 (by decide +kernel) ?_
        refine ka_i (y := pI (o_ < w_ ∨ (w_ = o_ ∧ n_ < k_))) (pI_z (fun h => by omega)) ?_
        exact krdz (pI_narrow _) hx hb hr hlocks d_Mo_isBetter_20
      · refine lv_iconst (v := nI 1) hx hb d_Mo_isBetter_15 (by decide +kernel) ?_
        refine lv_goto (tgt := 20) hx hb d_Mo_isBetter_16 (by decide) ?_
        refine ka_i (y := pI (o_ < w_ ∨ (w_ = o_ ∧ n_ < k_))) (pI_1 (by omega)) ?_
        exact krdz (pI_narrow _) hx hb hr hlocks d_Mo_isBetter_20
set_option maxHeartbeats 4000000 in
set_option maxRecDepth 100000 in
theorem m_over0 (l : Launch) (D : va_G) (cI cJ cZ : ClassId) (mo : Nat) (thr : Nat) (side : Nat) (kf : Nat) (m1 : Nat) (m2 : Nat) (cn : Nat) (m3 : Nat) (m4 : Nat) (m5 : Nat) (m6 : Nat) (m7 : Nat) (m8 : Nat) (m9 : Nat) (m10 : Nat) (m11 : Nat) (m12 : Nat) (sw : Prop) (tn : Nat) (tot : Nat) (psl : Nat) (pc_ : Nat) (m13 : Nat) (F3 : Nat → Nat) (f : Nat → Nat → Nat) (x : Nat) (y : Nat) (w_ : Nat) (h_ : Nat) (s2 : side ≤ 20) (g1 : x + w_ ≤ side) (g2 : y + h_ ≤ side) (hF : ∀ X Y, X ≤ side → Y ≤ side → F3 (21 * Y + X) = psm f X Y) : kRead l y_Mo_over w_Mo_over ({ frames := 0, cells := 0, slots := 0, locals := 0 }) D vwCl (tyL cI cJ cZ) [(mo, .inr (6, [.int (nI thr), .int (nI side), .int (nI kf), .ref m1, .ref m2, .int (nI cn), .ref m3, .ref m4, .ref m5, .ref m6, .ref m7, .ref m8, .ref m9, .ref m10, .ref m11, .ref m12, .int (pI sw), .int (nI tn), .int (nI tot), .int (nI psl), .int (nI pc_), .ref m13])), (m7, .inl (cI, 441, .inl (fun j => nI (F3 j))))] [.ref mo, .int (nI 0), .int (nI x), .int (nI y), .int (nI w_), .int (nI h_)] (.int (nI (rcs f x y w_ h_))) := by
  refine Met.ofW (cc := b_Mo_over) (maxL := 8) (ret := (some (.int))) (by decide) rfl ?_
  intro p e s m args below meth c s₁ B hml hv
  obtain ⟨rfl, hP, hK, hZ⟩ := hv
  have hx := B.exec
  have hb := B.bytes
  have hr := B.returns
  have hts := atoms_spec (ws := w_Mo_over) B.pre
  have hown : s.vm.findClass R_Mo = some m.cls := findClass_of_methodNamed B.named
  have hlocks := B.notSynchronized
  have hP : va_P D vwCl [(mo, .inr (6, [.int (nI thr), .int (nI side), .int (nI kf), .ref m1, .ref m2, .int (nI cn), .ref m3, .ref m4, .ref m5, .ref m6, .ref m7, .ref m8, .ref m9, .ref m10, .ref m11, .ref m12, .int (pI sw), .int (nI tn), .int (nI tot), .int (nI psl), .int (nI pc_), .ref m13])), (m7, .inl (cI, 441, .inl (fun j => nI (F3 j))))] s.heap := hP
  have hl := lv_entry ([.ref mo, .int (nI 0), .int (nI x), .int (nI y), .int (nI w_), .int (nI h_)]) (n := 8) (Nat.le_of_ble_eq_true rfl)
  rw [lg_entry_eq]
  generalize (lg_sl ([.ref mo, .int (nI 0), .int (nI x), .int (nI y), .int (nI w_), .int (nI h_)]) ++ List.replicate (8 - (lg_sl ([.ref mo, .int (nI 0), .int (nI x), .int (nI y), .int (nI w_), .int (nI h_)])).length) Slot.unset).toArray = ls at hl ⊢
  have hl : lv_has ls 8 [(0, .ref mo), (1, .int (nI 0)), (2, .int (nI x)), (3, .int (nI y)), (4, .int (nI w_)), (5, .int (nI h_))] := hl
  have e1 : F3 (21 * (y + h_) + x + w_) = psm f (x + w_) (y + h_) := by rw [Nat.add_assoc]; exact hF _ _ (by omega) (by omega)
  have e2 : F3 (21 * (y + h_) + x) = psm f x (y + h_) := hF _ _ (by omega) (by omega)
  have e3 : F3 (21 * y + x + w_) = psm f (x + w_) y := by rw [Nat.add_assoc]; exact hF _ _ (by omega) (by omega)
  have e4 : F3 (21 * y + x) = psm f x y := hF _ _ (by omega) (by omega)
  have e5 := rcs_psm f x y w_ h_
  refine lv_bipush (v := nI 21) hx hb d_Mo_over_0 (by decide +kernel) ?_
  refine lv_iload_n hx hb d_Mo_over_2 rfl (lv_at hl 3 rfl) ?_
  refine lv_imul hx hb d_Mo_over_3 ?_
  refine ka_i (y := nI (21 * y)) (pk_mul _ _) ?_
  refine lv_iload_n hx hb d_Mo_over_4 rfl (lv_at hl 2 rfl) ?_
  refine lv_iadd hx hb d_Mo_over_5 ?_
  refine ka_i (y := nI ((21 * y) + x)) (nI_add _ _) ?_
  refine lv_istore (lv' := [(6, .int (nI ((21 * y) + x))), (0, .ref mo), (1, .int (nI 0)), (2, .int (nI x)), (3, .int (nI y)), (4, .int (nI w_)), (5, .int (nI h_))]) hx hb d_Mo_over_6 hl (by decide) rfl (fun ls hl => ?_)
  refine lv_bipush (v := nI 21) hx hb d_Mo_over_8 (by decide +kernel) ?_
  refine lv_iload_n hx hb d_Mo_over_10 rfl (lv_at hl 4 rfl) ?_
  refine lv_iload hx hb d_Mo_over_11 (lv_at hl 6 rfl) ?_
  refine lv_iadd hx hb d_Mo_over_13 ?_
  refine ka_i (y := nI (y + h_)) (nI_add _ _) ?_
  refine lv_imul hx hb d_Mo_over_14 ?_
  refine ka_i (y := nI (21 * (y + h_))) (pk_mul _ _) ?_
  refine lv_iload_n hx hb d_Mo_over_15 rfl (lv_at hl 3 rfl) ?_
  refine lv_iadd hx hb d_Mo_over_16 ?_
  refine ka_i (y := nI ((21 * (y + h_)) + x)) (nI_add _ _) ?_
  refine lv_istore (lv' := [(7, .int (nI ((21 * (y + h_)) + x))), (6, .int (nI ((21 * y) + x))), (0, .ref mo), (1, .int (nI 0)), (2, .int (nI x)), (3, .int (nI y)), (4, .int (nI w_)), (5, .int (nI h_))]) hx hb d_Mo_over_17 hl (by decide) rfl (fun ls hl => ?_)
  refine lv_iload_n hx hb d_Mo_over_19 rfl (lv_at hl 3 rfl) ?_
  refine kb_eq (tgt := 63) (nI_t (by omega)) hx hb d_Mo_over_20 (by decide) (fun c_20 => ?_) (fun c_20 => ?_)
  · refine lv_aload_n hx hb d_Mo_over_63 rfl (lv_at hl 2 rfl) ?_
    refine va_get (D := D) (ci := 6) (v := .ref m7) (C := R_Mo) (T := T_Mo) (N := 22) hx hb hts (fun w h => List.mem_cons_of_mem _ (iw_Mo w h)) hown hK hP 0 rfl rfl 10 (by decide) (hts _ (List.mem_cons_of_mem _ k_555)) (fun _ h9 => h9) rfl d_Mo_over_64 ?_
    refine lv_iload hx hb d_Mo_over_67 (lv_at hl 0 rfl) ?_
    refine lv_iload hx hb d_Mo_over_69 (lv_at hl 6 rfl) ?_
    refine lv_iadd hx hb d_Mo_over_71 ?_
    refine ka_i (y := nI (((21 * (y + h_)) + x) + w_)) (nI_add _ _) ?_
    refine ka_iald (k := (((21 * (y + h_)) + x) + w_)) (n := 441) (f := fun j => nI (F3 j)) (nI_t (by omega)) (by omega) hx hb hK hP 1 0 rfl rfl d_Mo_over_72 ?_
    refine lv_aload_n hx hb d_Mo_over_73 rfl (lv_at hl 2 rfl) ?_
    refine va_get (D := D) (ci := 6) (v := .ref m7) (C := R_Mo) (T := T_Mo) (N := 22) hx hb hts (fun w h => List.mem_cons_of_mem _ (iw_Mo w h)) hown hK hP 0 rfl rfl 10 (by decide) (hts _ (List.mem_cons_of_mem _ k_555)) (fun _ h9 => h9) rfl d_Mo_over_74 ?_
    refine lv_iload hx hb d_Mo_over_77 (lv_at hl 0 rfl) ?_
    refine ka_iald (k := ((21 * (y + h_)) + x)) (n := 441) (f := fun j => nI (F3 j)) (nI_t (by omega)) (by omega) hx hb hK hP 1 0 rfl rfl d_Mo_over_79 ?_
    refine lv_isub hx hb d_Mo_over_80 ?_
    refine ka_i (y := iI (((F3 (((21 * (y + h_)) + x) + w_) : Nat) : Int) - ((F3 ((21 * (y + h_)) + x) : Nat) : Int))) (by rw [iI_of (F3 (((21 * (y + h_)) + x) + w_)), iI_of (F3 ((21 * (y + h_)) + x))]; exact iI_sub _ _) ?_
    refine lv_aload_n hx hb d_Mo_over_81 rfl (lv_at hl 2 rfl) ?_
    refine va_get (D := D) (ci := 6) (v := .ref m7) (C := R_Mo) (T := T_Mo) (N := 22) hx hb hts (fun w h => List.mem_cons_of_mem _ (iw_Mo w h)) hown hK hP 0 rfl rfl 10 (by decide) (hts _ (List.mem_cons_of_mem _ k_555)) (fun _ h9 => h9) rfl d_Mo_over_82 ?_
    refine lv_iload hx hb d_Mo_over_85 (lv_at hl 1 rfl) ?_
    refine lv_iload hx hb d_Mo_over_87 (lv_at hl 6 rfl) ?_
    refine lv_iadd hx hb d_Mo_over_89 ?_
    refine ka_i (y := nI (((21 * y) + x) + w_)) (nI_add _ _) ?_
    refine ka_iald (k := (((21 * y) + x) + w_)) (n := 441) (f := fun j => nI (F3 j)) (nI_t (by omega)) (by omega) hx hb hK hP 1 0 rfl rfl d_Mo_over_90 ?_
    refine lv_isub hx hb d_Mo_over_91 ?_
    refine ka_i (y := iI ((((F3 (((21 * (y + h_)) + x) + w_) : Nat) : Int) - ((F3 ((21 * (y + h_)) + x) : Nat) : Int)) - ((F3 (((21 * y) + x) + w_) : Nat) : Int))) (by rw [iI_of (F3 (((21 * y) + x) + w_))]; exact iI_sub _ _) ?_
    refine lv_aload_n hx hb d_Mo_over_92 rfl (lv_at hl 2 rfl) ?_
    refine va_get (D := D) (ci := 6) (v := .ref m7) (C := R_Mo) (T := T_Mo) (N := 22) hx hb hts (fun w h => List.mem_cons_of_mem _ (iw_Mo w h)) hown hK hP 0 rfl rfl 10 (by decide) (hts _ (List.mem_cons_of_mem _ k_555)) (fun _ h9 => h9) rfl d_Mo_over_93 ?_
    refine lv_iload hx hb d_Mo_over_96 (lv_at hl 1 rfl) ?_
    refine ka_iald (k := ((21 * y) + x)) (n := 441) (f := fun j => nI (F3 j)) (nI_t (by omega)) (by omega) hx hb hK hP 1 0 rfl rfl d_Mo_over_98 ?_
    refine lv_iadd hx hb d_Mo_over_99 ?_
    refine ka_i (y := iI (((((F3 (((21 * (y + h_)) + x) + w_) : Nat) : Int) - ((F3 ((21 * (y + h_)) + x) : Nat) : Int)) - ((F3 (((21 * y) + x) + w_) : Nat) : Int)) + ((F3 ((21 * y) + x) : Nat) : Int))) (by rw [iI_of (F3 ((21 * y) + x))]; exact iI_add _ _) ?_
    refine ka_i (y := nI (rcs f x y w_ h_)) (iI_eqn (by omega)) ?_
    exact krdi hx hb hr hlocks d_Mo_over_100
  · exfalso; omega
set_option maxHeartbeats 4000000 in
set_option maxRecDepth 100000 in
theorem m_over1 (l : Launch) (D : va_G) (cI cJ cZ : ClassId) (mo : Nat) (thr : Nat) (side : Nat) (kf : Nat) (m1 : Nat) (m2 : Nat) (cn : Nat) (m3 : Nat) (m4 : Nat) (m5 : Nat) (m6 : Nat) (m7 : Nat) (m8 : Nat) (m9 : Nat) (m10 : Nat) (m11 : Nat) (m12 : Nat) (sw : Prop) (tn : Nat) (tot : Nat) (psl : Nat) (pc_ : Nat) (m13 : Nat) (F4 : Nat → Nat) (f : Nat → Nat → Nat) (x : Nat) (y : Nat) (w_ : Nat) (h_ : Nat) (s2 : side ≤ 20) (g1 : x + w_ ≤ side) (g2 : y + h_ ≤ side) (hF : ∀ X Y, X ≤ side → Y ≤ side → F4 (21 * Y + X) = psm f X Y) : kRead l y_Mo_over w_Mo_over ({ frames := 0, cells := 0, slots := 0, locals := 0 }) D vwCl (tyL cI cJ cZ) [(mo, .inr (6, [.int (nI thr), .int (nI side), .int (nI kf), .ref m1, .ref m2, .int (nI cn), .ref m3, .ref m4, .ref m5, .ref m6, .ref m7, .ref m8, .ref m9, .ref m10, .ref m11, .ref m12, .int (pI sw), .int (nI tn), .int (nI tot), .int (nI psl), .int (nI pc_), .ref m13])), (m8, .inl (cI, 441, .inl (fun j => nI (F4 j))))] [.ref mo, .int (nI 1), .int (nI x), .int (nI y), .int (nI w_), .int (nI h_)] (.int (nI (rcs f x y w_ h_))) := by
  refine Met.ofW (cc := b_Mo_over) (maxL := 8) (ret := (some (.int))) (by decide) rfl ?_
  intro p e s m args below meth c s₁ B hml hv
  obtain ⟨rfl, hP, hK, hZ⟩ := hv
  have hx := B.exec
  have hb := B.bytes
  have hr := B.returns
  have hts := atoms_spec (ws := w_Mo_over) B.pre
  have hown : s.vm.findClass R_Mo = some m.cls := findClass_of_methodNamed B.named
  have hlocks := B.notSynchronized
  have hP : va_P D vwCl [(mo, .inr (6, [.int (nI thr), .int (nI side), .int (nI kf), .ref m1, .ref m2, .int (nI cn), .ref m3, .ref m4, .ref m5, .ref m6, .ref m7, .ref m8, .ref m9, .ref m10, .ref m11, .ref m12, .int (pI sw), .int (nI tn), .int (nI tot), .int (nI psl), .int (nI pc_), .ref m13])), (m8, .inl (cI, 441, .inl (fun j => nI (F4 j))))] s.heap := hP
  have hl := lv_entry ([.ref mo, .int (nI 1), .int (nI x), .int (nI y), .int (nI w_), .int (nI h_)]) (n := 8) (Nat.le_of_ble_eq_true rfl)
  rw [lg_entry_eq]
  generalize (lg_sl ([.ref mo, .int (nI 1), .int (nI x), .int (nI y), .int (nI w_), .int (nI h_)]) ++ List.replicate (8 - (lg_sl ([.ref mo, .int (nI 1), .int (nI x), .int (nI y), .int (nI w_), .int (nI h_)])).length) Slot.unset).toArray = ls at hl ⊢
  have hl : lv_has ls 8 [(0, .ref mo), (1, .int (nI 1)), (2, .int (nI x)), (3, .int (nI y)), (4, .int (nI w_)), (5, .int (nI h_))] := hl
  have e1 : F4 (21 * (y + h_) + x + w_) = psm f (x + w_) (y + h_) := by rw [Nat.add_assoc]; exact hF _ _ (by omega) (by omega)
  have e2 : F4 (21 * (y + h_) + x) = psm f x (y + h_) := hF _ _ (by omega) (by omega)
  have e3 : F4 (21 * y + x + w_) = psm f (x + w_) y := by rw [Nat.add_assoc]; exact hF _ _ (by omega) (by omega)
  have e4 : F4 (21 * y + x) = psm f x y := hF _ _ (by omega) (by omega)
  have e5 := rcs_psm f x y w_ h_
  refine lv_bipush (v := nI 21) hx hb d_Mo_over_0 (by decide +kernel) ?_
  refine lv_iload_n hx hb d_Mo_over_2 rfl (lv_at hl 3 rfl) ?_
  refine lv_imul hx hb d_Mo_over_3 ?_
  refine ka_i (y := nI (21 * y)) (pk_mul _ _) ?_
  refine lv_iload_n hx hb d_Mo_over_4 rfl (lv_at hl 2 rfl) ?_
  refine lv_iadd hx hb d_Mo_over_5 ?_
  refine ka_i (y := nI ((21 * y) + x)) (nI_add _ _) ?_
  refine lv_istore (lv' := [(6, .int (nI ((21 * y) + x))), (0, .ref mo), (1, .int (nI 1)), (2, .int (nI x)), (3, .int (nI y)), (4, .int (nI w_)), (5, .int (nI h_))]) hx hb d_Mo_over_6 hl (by decide) rfl (fun ls hl => ?_)
  refine lv_bipush (v := nI 21) hx hb d_Mo_over_8 (by decide +kernel) ?_
  refine lv_iload_n hx hb d_Mo_over_10 rfl (lv_at hl 4 rfl) ?_
  refine lv_iload hx hb d_Mo_over_11 (lv_at hl 6 rfl) ?_
  refine lv_iadd hx hb d_Mo_over_13 ?_
  refine ka_i (y := nI (y + h_)) (nI_add _ _) ?_
  refine lv_imul hx hb d_Mo_over_14 ?_
  refine ka_i (y := nI (21 * (y + h_))) (pk_mul _ _) ?_
  refine lv_iload_n hx hb d_Mo_over_15 rfl (lv_at hl 3 rfl) ?_
  refine lv_iadd hx hb d_Mo_over_16 ?_
  refine ka_i (y := nI ((21 * (y + h_)) + x)) (nI_add _ _) ?_
  refine lv_istore (lv' := [(7, .int (nI ((21 * (y + h_)) + x))), (6, .int (nI ((21 * y) + x))), (0, .ref mo), (1, .int (nI 1)), (2, .int (nI x)), (3, .int (nI y)), (4, .int (nI w_)), (5, .int (nI h_))]) hx hb d_Mo_over_17 hl (by decide) rfl (fun ls hl => ?_)
  refine lv_iload_n hx hb d_Mo_over_19 rfl (lv_at hl 3 rfl) ?_
  refine kb_eq (tgt := 63) (nI_t (by omega)) hx hb d_Mo_over_20 (by decide) (fun c_20 => ?_) (fun c_20 => ?_)
  · exfalso; omega
  · refine lv_aload_n hx hb d_Mo_over_23 rfl (lv_at hl 2 rfl) ?_
    refine va_get (D := D) (ci := 6) (v := .ref m8) (C := R_Mo) (T := T_Mo) (N := 22) hx hb hts (fun w h => List.mem_cons_of_mem _ (iw_Mo w h)) hown hK hP 0 rfl rfl 11 (by decide) (hts _ (List.mem_cons_of_mem _ k_556)) (fun _ h9 => h9) rfl d_Mo_over_24 ?_
    refine lv_iload hx hb d_Mo_over_27 (lv_at hl 0 rfl) ?_
    refine lv_iload hx hb d_Mo_over_29 (lv_at hl 6 rfl) ?_
    refine lv_iadd hx hb d_Mo_over_31 ?_
    refine ka_i (y := nI (((21 * (y + h_)) + x) + w_)) (nI_add _ _) ?_
    refine ka_iald (k := (((21 * (y + h_)) + x) + w_)) (n := 441) (f := fun j => nI (F4 j)) (nI_t (by omega)) (by omega) hx hb hK hP 1 0 rfl rfl d_Mo_over_32 ?_
    refine lv_aload_n hx hb d_Mo_over_33 rfl (lv_at hl 2 rfl) ?_
    refine va_get (D := D) (ci := 6) (v := .ref m8) (C := R_Mo) (T := T_Mo) (N := 22) hx hb hts (fun w h => List.mem_cons_of_mem _ (iw_Mo w h)) hown hK hP 0 rfl rfl 11 (by decide) (hts _ (List.mem_cons_of_mem _ k_556)) (fun _ h9 => h9) rfl d_Mo_over_34 ?_
    refine lv_iload hx hb d_Mo_over_37 (lv_at hl 0 rfl) ?_
    refine ka_iald (k := ((21 * (y + h_)) + x)) (n := 441) (f := fun j => nI (F4 j)) (nI_t (by omega)) (by omega) hx hb hK hP 1 0 rfl rfl d_Mo_over_39 ?_
    refine lv_isub hx hb d_Mo_over_40 ?_
    refine ka_i (y := iI (((F4 (((21 * (y + h_)) + x) + w_) : Nat) : Int) - ((F4 ((21 * (y + h_)) + x) : Nat) : Int))) (by rw [iI_of (F4 (((21 * (y + h_)) + x) + w_)), iI_of (F4 ((21 * (y + h_)) + x))]; exact iI_sub _ _) ?_
    refine lv_aload_n hx hb d_Mo_over_41 rfl (lv_at hl 2 rfl) ?_
    refine va_get (D := D) (ci := 6) (v := .ref m8) (C := R_Mo) (T := T_Mo) (N := 22) hx hb hts (fun w h => List.mem_cons_of_mem _ (iw_Mo w h)) hown hK hP 0 rfl rfl 11 (by decide) (hts _ (List.mem_cons_of_mem _ k_556)) (fun _ h9 => h9) rfl d_Mo_over_42 ?_
    refine lv_iload hx hb d_Mo_over_45 (lv_at hl 1 rfl) ?_
    refine lv_iload hx hb d_Mo_over_47 (lv_at hl 6 rfl) ?_
    refine lv_iadd hx hb d_Mo_over_49 ?_
    refine ka_i (y := nI (((21 * y) + x) + w_)) (nI_add _ _) ?_
    refine ka_iald (k := (((21 * y) + x) + w_)) (n := 441) (f := fun j => nI (F4 j)) (nI_t (by omega)) (by omega) hx hb hK hP 1 0 rfl rfl d_Mo_over_50 ?_
    refine lv_isub hx hb d_Mo_over_51 ?_
    refine ka_i (y := iI ((((F4 (((21 * (y + h_)) + x) + w_) : Nat) : Int) - ((F4 ((21 * (y + h_)) + x) : Nat) : Int)) - ((F4 (((21 * y) + x) + w_) : Nat) : Int))) (by rw [iI_of (F4 (((21 * y) + x) + w_))]; exact iI_sub _ _) ?_
    refine lv_aload_n hx hb d_Mo_over_52 rfl (lv_at hl 2 rfl) ?_
    refine va_get (D := D) (ci := 6) (v := .ref m8) (C := R_Mo) (T := T_Mo) (N := 22) hx hb hts (fun w h => List.mem_cons_of_mem _ (iw_Mo w h)) hown hK hP 0 rfl rfl 11 (by decide) (hts _ (List.mem_cons_of_mem _ k_556)) (fun _ h9 => h9) rfl d_Mo_over_53 ?_
    refine lv_iload hx hb d_Mo_over_56 (lv_at hl 1 rfl) ?_
    refine ka_iald (k := ((21 * y) + x)) (n := 441) (f := fun j => nI (F4 j)) (nI_t (by omega)) (by omega) hx hb hK hP 1 0 rfl rfl d_Mo_over_58 ?_
    refine lv_iadd hx hb d_Mo_over_59 ?_
    refine ka_i (y := iI (((((F4 (((21 * (y + h_)) + x) + w_) : Nat) : Int) - ((F4 ((21 * (y + h_)) + x) : Nat) : Int)) - ((F4 (((21 * y) + x) + w_) : Nat) : Int)) + ((F4 ((21 * y) + x) : Nat) : Int))) (by rw [iI_of (F4 ((21 * y) + x))]; exact iI_add _ _) ?_
    refine ka_i (y := nI (rcs f x y w_ h_)) (iI_eqn (by omega)) ?_
    refine lv_goto (tgt := 100) hx hb d_Mo_over_60 (by decide) ?_
    exact krdi hx hb hr hlocks d_Mo_over_100
theorem sumZ_on {f : Nat → Nat → Nat} {side : Nat} {x y : Int} {ax ay : Nat} (h : 0 ≤ sumZ f side x y ax ay) : 0 ≤ x ∧ 0 ≤ y ∧ x + (ax : Int) ≤ (side : Int) ∧ y + (ay : Int) ≤ (side : Int) := by
  unfold sumZ at h
  split at h
  · assumption
  · omega
set_option maxHeartbeats 4000000 in
set_option maxRecDepth 100000 in
theorem m_fits (l : Launch) (D : va_G) (cI cJ cZ : ClassId) (mo : Nat) (thr : Nat) (side : Nat) (kf : Nat) (m1 : Nat) (m2 : Nat) (cn : Nat) (m3 : Nat) (m4 : Nat) (m5 : Nat) (m6 : Nat) (m7 : Nat) (m8 : Nat) (m9 : Nat) (m10 : Nat) (m11 : Nat) (m12 : Nat) (sw : Prop) (tn : Nat) (tot : Nat) (psl : Nat) (pc_ : Nat) (m13 : Nat) (th : Nat → Nat) (wi : Nat → Nat) (wn : Nat → Nat) (F3 : Nat → Nat) (fb : Nat → Nat → Nat) (i : Nat) (x : Int32) (y : Int32) (zx : Int) (zy : Int) (tq : Nat) (s2 : side ≤ 20) (i8 : i < 8) (tq1 : tq ≤ 1) (ex : x.toInt = zx) (ey : y.toInt = zy) (ht : ∀ k, k < 8 → th k ≤ 20) (hw : ∀ k, k < 8 → wi k ≤ 20) (hn : ∀ k, k < 8 → wn k ≤ 400) (hF : ∀ X Y, X ≤ side → Y ≤ side → F3 (21 * Y + X) = psm fb X Y) (hf : ∀ i j, i < side → j < side → fb i j ≤ 10000) : kRead l y_Mo_fits w_Mo_fits ({ frames := 1, cells := 0, slots := 0, locals := 27 }) D vwCl (tyL cI cJ cZ) [(mo, .inr (6, [.int (nI thr), .int (nI side), .int (nI kf), .ref m1, .ref m2, .int (nI cn), .ref m3, .ref m4, .ref m5, .ref m6, .ref m7, .ref m8, .ref m9, .ref m10, .ref m11, .ref m12, .int (pI sw), .int (nI tn), .int (nI tot), .int (nI psl), .int (nI pc_), .ref m13])), (m3, .inl (cI, 8, .inl (fun j => nI (th j)))), (m4, .inl (cI, 8, .inl (fun j => nI (wi j)))), (m6, .inl (cI, 8, .inl (fun j => nI (wn j)))), (m7, .inl (cI, 441, .inl (fun j => nI (F3 j))))] [.ref mo, .int (nI i), .int x, .int y, .int (nI tq)] (.int (pI (0 ≤ sumZ fb side zx zy (if ((tq : Nat) : Int) = 0 then wi i else th i) (if ((tq : Nat) : Int) = 0 then th i else wi i) ∧ sumZ fb side zx zy (if ((tq : Nat) : Int) = 0 then wi i else th i) (if ((tq : Nat) : Int) = 0 then th i else wi i) ≤ (wn i : Int)))) := by
  refine Met.ofW (cc := b_Mo_fits) (maxL := 7) (ret := (some (.boolean))) (by decide) rfl ?_
  intro p e s m args below meth c s₁ B hml hv
  obtain ⟨rfl, hP, hK, hZ⟩ := hv
  have hx := B.exec
  have hb := B.bytes
  have hr := B.returns
  have hts := atoms_spec (ws := w_Mo_fits) B.pre
  have hown : s.vm.findClass R_Mo = some m.cls := findClass_of_methodNamed B.named
  have hlocks := B.notSynchronized
  have hP : va_P D vwCl [(mo, .inr (6, [.int (nI thr), .int (nI side), .int (nI kf), .ref m1, .ref m2, .int (nI cn), .ref m3, .ref m4, .ref m5, .ref m6, .ref m7, .ref m8, .ref m9, .ref m10, .ref m11, .ref m12, .int (pI sw), .int (nI tn), .int (nI tot), .int (nI psl), .int (nI pc_), .ref m13])), (m3, .inl (cI, 8, .inl (fun j => nI (th j)))), (m4, .inl (cI, 8, .inl (fun j => nI (wi j)))), (m6, .inl (cI, 8, .inl (fun j => nI (wn j)))), (m7, .inl (cI, 441, .inl (fun j => nI (F3 j))))] s.heap := hP
  have hl := lv_entry ([.ref mo, .int (nI i), .int x, .int y, .int (nI tq)]) (n := 7) (Nat.le_of_ble_eq_true rfl)
  rw [lg_entry_eq]
  generalize (lg_sl ([.ref mo, .int (nI i), .int x, .int y, .int (nI tq)]) ++ List.replicate (7 - (lg_sl ([.ref mo, .int (nI i), .int x, .int y, .int (nI tq)])).length) Slot.unset).toArray = ls at hl ⊢
  have hl : lv_has ls 7 [(0, .ref mo), (1, .int (nI i)), (2, .int x), (3, .int y), (4, .int (nI tq))] := hl
  subst ex; subst ey
  have t1 := ht i i8
  have t2 := hw i i8
  have t3 := hn i i8
  have l1 : (if ((tq : Nat) : Int) = 0 then wi i else th i) ≤ 20 := ite_le (by omega) (by omega)
  have l2 : (if ((tq : Nat) : Int) = 0 then th i else wi i) ≤ 20 := ite_le (by omega) (by omega)
  refine lv_aload_n hx hb d_Mo_fits_0 rfl (lv_at hl 0 rfl) ?_
  refine lv_iload_n hx hb d_Mo_fits_1 rfl (lv_at hl 1 rfl) ?_
  refine lv_iload hx hb d_Mo_fits_2 (lv_at hl 4 rfl) ?_
  refine kcallR (r := .int (nI (if ((tq : Nat) : Int) = 0 then wi i else th i))) (va_runV (As := [.int (nI i), .int (nI tq)]) (rest := []) ⟨hx, hb, hml, hown, hts⟩ (m_alongX l D cI cJ cZ mo thr side kf m1 m2 cn m3 m4 m5 m6 m7 m8 m9 m10 m11 m12 sw tn tot psl pc_ m13 th wi i tq (by omega) (by omega)) ⟨callB_of 2 hts (gd kc_Mo_alongX) rfl rfl rfl (hts _ (List.mem_cons_of_mem _ k_8)) (hts _ (List.mem_cons_of_mem _ k_675)) (by decide +kernel) ⟨Nat.le_of_ble_eq_true rfl, Nat.le_of_ble_eq_true rfl⟩, hts _ (List.mem_cons_of_mem _ k_677), hts _ (List.mem_cons_of_mem _ ks_20)⟩ ⟨kR_blind, va_recv hK hP (ci := 6) (q0 := 0) rfl rfl, kR_at hP hK hZ [0, 1, 2] rfl⟩ rfl rfl hl.1 rfl (lv_room (Nat.le_of_ble_eq_true rfl)) d_Mo_fits_4 ⟨Nat.zero_le _, Nat.zero_le _⟩) ?_
  refine lv_istore (lv' := [(5, .int (nI (if ((tq : Nat) : Int) = 0 then wi i else th i))), (0, .ref mo), (1, .int (nI i)), (2, .int x), (3, .int y), (4, .int (nI tq))]) hx hb d_Mo_fits_7 hl (by decide) rfl (fun ls hl => ?_)
  refine lv_aload_n hx hb d_Mo_fits_9 rfl (lv_at hl 1 rfl) ?_
  refine lv_iload_n hx hb d_Mo_fits_10 rfl (lv_at hl 2 rfl) ?_
  refine lv_iload hx hb d_Mo_fits_11 (lv_at hl 5 rfl) ?_
  refine kcallR (r := .int (nI (if ((tq : Nat) : Int) = 0 then th i else wi i))) (va_runV (As := [.int (nI i), .int (nI tq)]) (rest := []) ⟨hx, hb, hml, hown, hts⟩ (m_alongY l D cI cJ cZ mo thr side kf m1 m2 cn m3 m4 m5 m6 m7 m8 m9 m10 m11 m12 sw tn tot psl pc_ m13 th wi i tq (by omega) (by omega)) ⟨callB_of 2 hts (gd kc_Mo_alongY) rfl rfl rfl (hts _ (List.mem_cons_of_mem _ k_8)) (hts _ (List.mem_cons_of_mem _ k_679)) (by decide +kernel) ⟨Nat.le_of_ble_eq_true rfl, Nat.le_of_ble_eq_true rfl⟩, hts _ (List.mem_cons_of_mem _ k_681), hts _ (List.mem_cons_of_mem _ ks_21)⟩ ⟨kR_blind, va_recv hK hP (ci := 6) (q0 := 0) rfl rfl, kR_at hP hK hZ [0, 1, 2] rfl⟩ rfl rfl hl.1 rfl (lv_room (Nat.le_of_ble_eq_true rfl)) d_Mo_fits_13 ⟨Nat.zero_le _, Nat.zero_le _⟩) ?_
  refine lv_istore (lv' := [(6, .int (nI (if ((tq : Nat) : Int) = 0 then th i else wi i))), (5, .int (nI (if ((tq : Nat) : Int) = 0 then wi i else th i))), (0, .ref mo), (1, .int (nI i)), (2, .int x), (3, .int y), (4, .int (nI tq))]) hx hb d_Mo_fits_16 hl (by decide) rfl (fun ls hl => ?_)
  refine lv_iload_n hx hb d_Mo_fits_18 rfl (lv_at hl 4 rfl) ?_
  refine kb_lt (tgt := 72) rfl hx hb d_Mo_fits_19 (by decide) (fun c_19 => ?_) (fun c_19 => ?_)
  · refine lv_iconst (v := nI 0) hx hb d_Mo_fits_72 (by decide +kernel) ?_
    refine ka_i (y := pI (0 ≤ sumZ fb side x.toInt y.toInt (if ((tq : Nat) : Int) = 0 then wi i else th i) (if ((tq : Nat) : Int) = 0 then th i else wi i) ∧ sumZ fb side x.toInt y.toInt (if ((tq : Nat) : Int) = 0 then wi i else th i) (if ((tq : Nat) : Int) = 0 then th i else wi i) ≤ (wn i : Int))) (pI_z (fun h => by
        have h9 := sumZ_on h.1
        omega)) ?_
    exact krdz (pI_narrow _) hx hb hr hlocks d_Mo_fits_73
  · refine lv_iload_n hx hb d_Mo_fits_22 rfl (lv_at hl 5 rfl) ?_
    refine kb_lt (tgt := 72) rfl hx hb d_Mo_fits_23 (by decide) (fun c_23 => ?_) (fun c_23 => ?_)
    · refine lv_iconst (v := nI 0) hx hb d_Mo_fits_72 (by decide +kernel) ?_
      refine ka_i (y := pI (0 ≤ sumZ fb side x.toInt y.toInt (if ((tq : Nat) : Int) = 0 then wi i else th i) (if ((tq : Nat) : Int) = 0 then th i else wi i) ∧ sumZ fb side x.toInt y.toInt (if ((tq : Nat) : Int) = 0 then wi i else th i) (if ((tq : Nat) : Int) = 0 then th i else wi i) ≤ (wn i : Int))) (pI_z (fun h => by
          have h9 := sumZ_on h.1
          omega)) ?_
      exact krdz (pI_narrow _) hx hb hr hlocks d_Mo_fits_73
    · refine lv_iload_n hx hb d_Mo_fits_26 rfl (lv_at hl 4 rfl) ?_
      refine lv_aload_n hx hb d_Mo_fits_27 rfl (lv_at hl 2 rfl) ?_
      refine va_get (D := D) (ci := 6) (v := .int (nI side)) (C := R_Mo) (T := T_Mo) (N := 22) hx hb hts (fun w h => List.mem_cons_of_mem _ (iw_Mo w h)) hown hK hP 0 rfl rfl 1 (by decide) (hts _ (List.mem_cons_of_mem _ k_546)) (fun _ h9 => h9) rfl d_Mo_fits_28 ?_
      refine lv_iload hx hb d_Mo_fits_31 (lv_at hl 1 rfl) ?_
      refine lv_isub hx hb d_Mo_fits_33 ?_
      refine ka_i (y := iI (((side : Nat) : Int) - (((if ((tq : Nat) : Int) = 0 then wi i else th i) : Nat) : Int))) (by rw [iI_of side, iI_of (if ((tq : Nat) : Int) = 0 then wi i else th i)]; exact iI_sub _ _) ?_
      refine kb_cgt (tgt := 72) rfl (iI_t (by omega) (by omega)) hx hb d_Mo_fits_34 (by decide) (fun c_34 => ?_) (fun c_34 => ?_)
      · refine lv_iconst (v := nI 0) hx hb d_Mo_fits_72 (by decide +kernel) ?_
        refine ka_i (y := pI (0 ≤ sumZ fb side x.toInt y.toInt (if ((tq : Nat) : Int) = 0 then wi i else th i) (if ((tq : Nat) : Int) = 0 then th i else wi i) ∧ sumZ fb side x.toInt y.toInt (if ((tq : Nat) : Int) = 0 then wi i else th i) (if ((tq : Nat) : Int) = 0 then th i else wi i) ≤ (wn i : Int))) (pI_z (fun h => by
            have h9 := sumZ_on h.1
            omega)) ?_
        exact krdz (pI_narrow _) hx hb hr hlocks d_Mo_fits_73
      · refine lv_iload_n hx hb d_Mo_fits_37 rfl (lv_at hl 5 rfl) ?_
        refine lv_aload_n hx hb d_Mo_fits_38 rfl (lv_at hl 2 rfl) ?_
        refine va_get (D := D) (ci := 6) (v := .int (nI side)) (C := R_Mo) (T := T_Mo) (N := 22) hx hb hts (fun w h => List.mem_cons_of_mem _ (iw_Mo w h)) hown hK hP 0 rfl rfl 1 (by decide) (hts _ (List.mem_cons_of_mem _ k_546)) (fun _ h9 => h9) rfl d_Mo_fits_39 ?_
        refine lv_iload hx hb d_Mo_fits_42 (lv_at hl 0 rfl) ?_
        refine lv_isub hx hb d_Mo_fits_44 ?_
        refine ka_i (y := iI (((side : Nat) : Int) - (((if ((tq : Nat) : Int) = 0 then th i else wi i) : Nat) : Int))) (by rw [iI_of side, iI_of (if ((tq : Nat) : Int) = 0 then th i else wi i)]; exact iI_sub _ _) ?_
        refine kb_cgt (tgt := 72) rfl (iI_t (by omega) (by omega)) hx hb d_Mo_fits_45 (by decide) (fun c_45 => ?_) (fun c_45 => ?_)
        · refine lv_iconst (v := nI 0) hx hb d_Mo_fits_72 (by decide +kernel) ?_
          refine ka_i (y := pI (0 ≤ sumZ fb side x.toInt y.toInt (if ((tq : Nat) : Int) = 0 then wi i else th i) (if ((tq : Nat) : Int) = 0 then th i else wi i) ∧ sumZ fb side x.toInt y.toInt (if ((tq : Nat) : Int) = 0 then wi i else th i) (if ((tq : Nat) : Int) = 0 then th i else wi i) ≤ (wn i : Int))) (pI_z (fun h => by
              have h9 := sumZ_on h.1
              omega)) ?_
          exact krdz (pI_narrow _) hx hb hr hlocks d_Mo_fits_73
        · obtain ⟨e_x, n_x⟩ := zN_eq (x := x) (by omega)
          obtain ⟨e_y, n_y⟩ := zN_eq (x := y) (by omega)
          have hl : lv_has ls 7 [(6, .int (nI (if ((tq : Nat) : Int) = 0 then th i else wi i))), (5, .int (nI (if ((tq : Nat) : Int) = 0 then wi i else th i))), (0, .ref mo), (1, .int (nI i)), (2, .int (nI (zN x))), (3, .int (nI (zN y))), (4, .int (nI tq))] := by rw [← e_x, ← e_y]; exact hl
          have es : sumZ fb side x.toInt y.toInt (if ((tq : Nat) : Int) = 0 then wi i else th i) (if ((tq : Nat) : Int) = 0 then th i else wi i) = (rcs fb (zN x) (zN y) (if ((tq : Nat) : Int) = 0 then wi i else th i) (if ((tq : Nat) : Int) = 0 then th i else wi i) : Int) := sumZ_in n_x.symm n_y.symm (by omega) (by omega)
          have eh := sumZ_hi (f := fb) (side := side) x.toInt y.toInt (if ((tq : Nat) : Int) = 0 then wi i else th i) (if ((tq : Nat) : Int) = 0 then th i else wi i) s2 hf
          refine lv_aload_n hx hb d_Mo_fits_48 rfl (lv_at hl 2 rfl) ?_
          refine lv_iconst (v := nI 0) hx hb d_Mo_fits_49 (by decide +kernel) ?_
          refine lv_iload_n hx hb d_Mo_fits_50 rfl (lv_at hl 4 rfl) ?_
          refine lv_iload_n hx hb d_Mo_fits_51 rfl (lv_at hl 5 rfl) ?_
          refine lv_iload hx hb d_Mo_fits_52 (lv_at hl 1 rfl) ?_
          refine lv_iload hx hb d_Mo_fits_54 (lv_at hl 0 rfl) ?_
          refine kcallR (r := .int (nI (rcs fb (zN x) (zN y) (if ((tq : Nat) : Int) = 0 then wi i else th i) (if ((tq : Nat) : Int) = 0 then th i else wi i)))) (va_runV (As := [.int (nI 0), .int (nI (zN x)), .int (nI (zN y)), .int (nI (if ((tq : Nat) : Int) = 0 then wi i else th i)), .int (nI (if ((tq : Nat) : Int) = 0 then th i else wi i))]) (rest := []) ⟨hx, hb, hml, hown, hts⟩ (m_over0 l D cI cJ cZ mo thr side kf m1 m2 cn m3 m4 m5 m6 m7 m8 m9 m10 m11 m12 sw tn tot psl pc_ m13 F3 fb (zN x) (zN y) (if ((tq : Nat) : Int) = 0 then wi i else th i) (if ((tq : Nat) : Int) = 0 then th i else wi i) s2 (by omega) (by omega) hF) ⟨callB_of 5 hts (gd kc_Mo_over) rfl rfl rfl (hts _ (List.mem_cons_of_mem _ k_8)) (hts _ (List.mem_cons_of_mem _ k_683)) (by decide +kernel) ⟨Nat.le_of_ble_eq_true rfl, Nat.le_of_ble_eq_true rfl⟩, hts _ (List.mem_cons_of_mem _ k_685), hts _ (List.mem_cons_of_mem _ ks_22)⟩ ⟨kR_blind, va_recv hK hP (ci := 6) (q0 := 0) rfl rfl, kR_at hP hK hZ [0, 4] rfl⟩ rfl rfl hl.1 rfl (lv_room (Nat.le_of_ble_eq_true rfl)) d_Mo_fits_56 ⟨Nat.zero_le _, Nat.zero_le _⟩) ?_
          refine lv_aload_n hx hb d_Mo_fits_59 rfl (lv_at hl 2 rfl) ?_
          refine va_get (D := D) (ci := 6) (v := .ref m6) (C := R_Mo) (T := T_Mo) (N := 22) hx hb hts (fun w h => List.mem_cons_of_mem _ (iw_Mo w h)) hown hK hP 0 rfl rfl 9 (by decide) (hts _ (List.mem_cons_of_mem _ k_554)) (fun _ h9 => h9) rfl d_Mo_fits_60 ?_
          refine lv_iload_n hx hb d_Mo_fits_63 rfl (lv_at hl 3 rfl) ?_
          refine ka_iald (k := i) (n := 8) (f := fun j => nI (wn j)) (nI_t (by omega)) (by omega) hx hb hK hP 3 0 rfl rfl d_Mo_fits_64 ?_
          refine kb_cgt (tgt := 72) (nI_t (by omega)) (nI_t (by omega)) hx hb d_Mo_fits_65 (by decide) (fun c_65 => ?_) (fun c_65 => ?_)
          · refine lv_iconst (v := nI 0) hx hb d_Mo_fits_72 (by decide +kernel) ?_
            refine ka_i (y := pI (0 ≤ sumZ fb side x.toInt y.toInt (if ((tq : Nat) : Int) = 0 then wi i else th i) (if ((tq : Nat) : Int) = 0 then th i else wi i) ∧ sumZ fb side x.toInt y.toInt (if ((tq : Nat) : Int) = 0 then wi i else th i) (if ((tq : Nat) : Int) = 0 then th i else wi i) ≤ (wn i : Int))) (pI_z (fun h => by omega)) ?_
            exact krdz (pI_narrow _) hx hb hr hlocks d_Mo_fits_73
          · refine lv_iconst (v := nI 1) hx hb d_Mo_fits_68 (by decide +kernel) ?_
            refine lv_goto (tgt := 73) hx hb d_Mo_fits_69 (by decide) ?_
            refine ka_i (y := pI (0 ≤ sumZ fb side x.toInt y.toInt (if ((tq : Nat) : Int) = 0 then wi i else th i) (if ((tq : Nat) : Int) = 0 then th i else wi i) ∧ sumZ fb side x.toInt y.toInt (if ((tq : Nat) : Int) = 0 then wi i else th i) (if ((tq : Nat) : Int) = 0 then th i else wi i) ≤ (wn i : Int))) (pI_1 (by omega)) ?_
            exact krdz (pI_narrow _) hx hb hr hlocks d_Mo_fits_73
set_option maxHeartbeats 4000000 in
set_option maxRecDepth 100000 in
theorem m_brings (l : Launch) (D : va_G) (cI cJ cZ : ClassId) (mo : Nat) (thr : Nat) (side : Nat) (kf : Nat) (m1 : Nat) (m2 : Nat) (cn : Nat) (m3 : Nat) (m4 : Nat) (m5 : Nat) (m6 : Nat) (m7 : Nat) (m8 : Nat) (m9 : Nat) (m10 : Nat) (m11 : Nat) (m12 : Nat) (sw : Prop) (tn : Nat) (tot : Nat) (psl : Nat) (pc_ : Nat) (m13 : Nat) (th : Nat → Nat) (wi : Nat → Nat) (wo : Nat → Nat) (F4 : Nat → Nat) (fl : Nat → Nat → Nat) (i : Nat) (x : Nat) (y : Nat) (tq : Nat) (s2 : side ≤ 20) (i8 : i < 8) (tq1 : tq ≤ 1) (g1 : ((x : Nat) : Int) + ((((if ((tq : Nat) : Int) = 0 then wi i else th i) : Nat) : Int) : Int) ≤ (side : Int)) (g2 : ((y : Nat) : Int) + ((((if ((tq : Nat) : Int) = 0 then th i else wi i) : Nat) : Int) : Int) ≤ (side : Int)) (ho : ∀ k, k < 8 → wo k ≤ 100000) (hF : ∀ X Y, X ≤ side → Y ≤ side → F4 (21 * Y + X) = psm fl X Y) (hf : ∀ i j, i < side → j < side → fl i j ≤ 10000) : kRead l y_Mo_brings w_Mo_brings ({ frames := 1, cells := 0, slots := 0, locals := 27 }) D vwCl (tyL cI cJ cZ) [(mo, .inr (6, [.int (nI thr), .int (nI side), .int (nI kf), .ref m1, .ref m2, .int (nI cn), .ref m3, .ref m4, .ref m5, .ref m6, .ref m7, .ref m8, .ref m9, .ref m10, .ref m11, .ref m12, .int (pI sw), .int (nI tn), .int (nI tot), .int (nI psl), .int (nI pc_), .ref m13])), (m3, .inl (cI, 8, .inl (fun j => nI (th j)))), (m4, .inl (cI, 8, .inl (fun j => nI (wi j)))), (m5, .inl (cI, 8, .inl (fun j => nI (wo j)))), (m8, .inl (cI, 441, .inl (fun j => nI (F4 j))))] [.ref mo, .int (nI i), .int (nI x), .int (nI y), .int (nI tq)] (.int (nI ((max 0 ((wo i : Int) - sumZ fl side ((x : Nat) : Int) ((y : Nat) : Int) (if ((tq : Nat) : Int) = 0 then wi i else th i) (if ((tq : Nat) : Int) = 0 then th i else wi i))).toNat))) := by
  refine Met.ofW (cc := b_Mo_brings) (maxL := 6) (ret := (some (.int))) (by decide) rfl ?_
  intro p e s m args below meth c s₁ B hml hv
  obtain ⟨rfl, hP, hK, hZ⟩ := hv
  have hx := B.exec
  have hb := B.bytes
  have hr := B.returns
  have hts := atoms_spec (ws := w_Mo_brings) B.pre
  have hown : s.vm.findClass R_Mo = some m.cls := findClass_of_methodNamed B.named
  have hlocks := B.notSynchronized
  have hP : va_P D vwCl [(mo, .inr (6, [.int (nI thr), .int (nI side), .int (nI kf), .ref m1, .ref m2, .int (nI cn), .ref m3, .ref m4, .ref m5, .ref m6, .ref m7, .ref m8, .ref m9, .ref m10, .ref m11, .ref m12, .int (pI sw), .int (nI tn), .int (nI tot), .int (nI psl), .int (nI pc_), .ref m13])), (m3, .inl (cI, 8, .inl (fun j => nI (th j)))), (m4, .inl (cI, 8, .inl (fun j => nI (wi j)))), (m5, .inl (cI, 8, .inl (fun j => nI (wo j)))), (m8, .inl (cI, 441, .inl (fun j => nI (F4 j))))] s.heap := hP
  have hl := lv_entry ([.ref mo, .int (nI i), .int (nI x), .int (nI y), .int (nI tq)]) (n := 6) (Nat.le_of_ble_eq_true rfl)
  rw [lg_entry_eq]
  generalize (lg_sl ([.ref mo, .int (nI i), .int (nI x), .int (nI y), .int (nI tq)]) ++ List.replicate (6 - (lg_sl ([.ref mo, .int (nI i), .int (nI x), .int (nI y), .int (nI tq)])).length) Slot.unset).toArray = ls at hl ⊢
  have hl : lv_has ls 6 [(0, .ref mo), (1, .int (nI i)), (2, .int (nI x)), (3, .int (nI y)), (4, .int (nI tq))] := hl
  have t3 := ho i i8
  have es : sumZ fl side ((x : Nat) : Int) ((y : Nat) : Int) (if ((tq : Nat) : Int) = 0 then wi i else th i) (if ((tq : Nat) : Int) = 0 then th i else wi i) = (rcs fl x y (if ((tq : Nat) : Int) = 0 then wi i else th i) (if ((tq : Nat) : Int) = 0 then th i else wi i) : Int) := sumZ_in rfl rfl (by omega) (by omega)
  have eh := sumZ_hi (f := fl) (side := side) ((x : Nat) : Int) ((y : Nat) : Int) (if ((tq : Nat) : Int) = 0 then wi i else th i) (if ((tq : Nat) : Int) = 0 then th i else wi i) s2 hf
  refine lv_aload_n hx hb d_Mo_brings_0 rfl (lv_at hl 0 rfl) ?_
  refine va_get (D := D) (ci := 6) (v := .ref m5) (C := R_Mo) (T := T_Mo) (N := 22) hx hb hts (fun w h => List.mem_cons_of_mem _ (iw_Mo w h)) hown hK hP 0 rfl rfl 8 (by decide) (hts _ (List.mem_cons_of_mem _ k_553)) (fun _ h9 => h9) rfl d_Mo_brings_1 ?_
  refine lv_iload_n hx hb d_Mo_brings_4 rfl (lv_at hl 1 rfl) ?_
  refine ka_iald (k := i) (n := 8) (f := fun j => nI (wo j)) (nI_t (by omega)) (by omega) hx hb hK hP 3 0 rfl rfl d_Mo_brings_5 ?_
  refine lv_aload_n hx hb d_Mo_brings_6 rfl (lv_at hl 0 rfl) ?_
  refine lv_iconst (v := nI 1) hx hb d_Mo_brings_7 (by decide +kernel) ?_
  refine lv_iload_n hx hb d_Mo_brings_8 rfl (lv_at hl 2 rfl) ?_
  refine lv_iload_n hx hb d_Mo_brings_9 rfl (lv_at hl 3 rfl) ?_
  refine lv_aload_n hx hb d_Mo_brings_10 rfl (lv_at hl 0 rfl) ?_
  refine lv_iload_n hx hb d_Mo_brings_11 rfl (lv_at hl 1 rfl) ?_
  refine lv_iload hx hb d_Mo_brings_12 (lv_at hl 4 rfl) ?_
  refine kcallR (r := .int (nI (if ((tq : Nat) : Int) = 0 then wi i else th i))) (va_runV (As := [.int (nI i), .int (nI tq)]) (rest := [.int (nI y), .int (nI x), .int (nI 1), .ref mo, .int (nI (wo i))]) ⟨hx, hb, hml, hown, hts⟩ (m_alongX l D cI cJ cZ mo thr side kf m1 m2 cn m3 m4 m5 m6 m7 m8 m9 m10 m11 m12 sw tn tot psl pc_ m13 th wi i tq (by omega) (by omega)) ⟨callB_of 2 hts (gd kc_Mo_alongX) rfl rfl rfl (hts _ (List.mem_cons_of_mem _ k_8)) (hts _ (List.mem_cons_of_mem _ k_675)) (by decide +kernel) ⟨Nat.le_of_ble_eq_true rfl, Nat.le_of_ble_eq_true rfl⟩, hts _ (List.mem_cons_of_mem _ k_677), hts _ (List.mem_cons_of_mem _ ks_20)⟩ ⟨kR_blind, va_recv hK hP (ci := 6) (q0 := 0) rfl rfl, kR_at hP hK hZ [0, 1, 2] rfl⟩ rfl rfl hl.1 rfl (lv_room (Nat.le_of_ble_eq_true rfl)) d_Mo_brings_14 ⟨Nat.zero_le _, Nat.zero_le _⟩) ?_
  refine lv_aload_n hx hb d_Mo_brings_17 rfl (lv_at hl 0 rfl) ?_
  refine lv_iload_n hx hb d_Mo_brings_18 rfl (lv_at hl 1 rfl) ?_
  refine lv_iload hx hb d_Mo_brings_19 (lv_at hl 4 rfl) ?_
  refine kcallR (r := .int (nI (if ((tq : Nat) : Int) = 0 then th i else wi i))) (va_runV (As := [.int (nI i), .int (nI tq)]) (rest := [.int (nI (if ((tq : Nat) : Int) = 0 then wi i else th i)), .int (nI y), .int (nI x), .int (nI 1), .ref mo, .int (nI (wo i))]) ⟨hx, hb, hml, hown, hts⟩ (m_alongY l D cI cJ cZ mo thr side kf m1 m2 cn m3 m4 m5 m6 m7 m8 m9 m10 m11 m12 sw tn tot psl pc_ m13 th wi i tq (by omega) (by omega)) ⟨callB_of 2 hts (gd kc_Mo_alongY) rfl rfl rfl (hts _ (List.mem_cons_of_mem _ k_8)) (hts _ (List.mem_cons_of_mem _ k_679)) (by decide +kernel) ⟨Nat.le_of_ble_eq_true rfl, Nat.le_of_ble_eq_true rfl⟩, hts _ (List.mem_cons_of_mem _ k_681), hts _ (List.mem_cons_of_mem _ ks_21)⟩ ⟨kR_blind, va_recv hK hP (ci := 6) (q0 := 0) rfl rfl, kR_at hP hK hZ [0, 1, 2] rfl⟩ rfl rfl hl.1 rfl (lv_room (Nat.le_of_ble_eq_true rfl)) d_Mo_brings_21 ⟨Nat.zero_le _, Nat.zero_le _⟩) ?_
  refine kcallR (r := .int (nI (rcs fl x y (if ((tq : Nat) : Int) = 0 then wi i else th i) (if ((tq : Nat) : Int) = 0 then th i else wi i)))) (va_runV (As := [.int (nI 1), .int (nI x), .int (nI y), .int (nI (if ((tq : Nat) : Int) = 0 then wi i else th i)), .int (nI (if ((tq : Nat) : Int) = 0 then th i else wi i))]) (rest := [.int (nI (wo i))]) ⟨hx, hb, hml, hown, hts⟩ (m_over1 l D cI cJ cZ mo thr side kf m1 m2 cn m3 m4 m5 m6 m7 m8 m9 m10 m11 m12 sw tn tot psl pc_ m13 F4 fl x y (if ((tq : Nat) : Int) = 0 then wi i else th i) (if ((tq : Nat) : Int) = 0 then th i else wi i) s2 (by omega) (by omega) hF) ⟨callB_of 5 hts (gd kc_Mo_over) rfl rfl rfl (hts _ (List.mem_cons_of_mem _ k_8)) (hts _ (List.mem_cons_of_mem _ k_683)) (by decide +kernel) ⟨Nat.le_of_ble_eq_true rfl, Nat.le_of_ble_eq_true rfl⟩, hts _ (List.mem_cons_of_mem _ k_685), hts _ (List.mem_cons_of_mem _ ks_22)⟩ ⟨kR_blind, va_recv hK hP (ci := 6) (q0 := 0) rfl rfl, kR_at hP hK hZ [0, 4] rfl⟩ rfl rfl hl.1 rfl (lv_room (Nat.le_of_ble_eq_true rfl)) d_Mo_brings_24 ⟨Nat.zero_le _, Nat.zero_le _⟩) ?_
  refine lv_isub hx hb d_Mo_brings_27 ?_
  refine ka_i (y := iI (((wo i : Nat) : Int) - ((rcs fl x y (if ((tq : Nat) : Int) = 0 then wi i else th i) (if ((tq : Nat) : Int) = 0 then th i else wi i) : Nat) : Int))) (by rw [iI_of (wo i), iI_of (rcs fl x y (if ((tq : Nat) : Int) = 0 then wi i else th i) (if ((tq : Nat) : Int) = 0 then th i else wi i))]; exact iI_sub _ _) ?_
  refine lv_istore (lv' := [(5, .int (iI (((wo i : Nat) : Int) - ((rcs fl x y (if ((tq : Nat) : Int) = 0 then wi i else th i) (if ((tq : Nat) : Int) = 0 then th i else wi i) : Nat) : Int)))), (0, .ref mo), (1, .int (nI i)), (2, .int (nI x)), (3, .int (nI y)), (4, .int (nI tq))]) hx hb d_Mo_brings_28 hl (by decide) rfl (fun ls hl => ?_)
  refine lv_iload hx hb d_Mo_brings_30 (lv_at hl 0 rfl) ?_
  refine kb_ge (tgt := 39) (iI_t (by omega) (by omega)) hx hb d_Mo_brings_32 (by decide) (fun c_32 => ?_) (fun c_32 => ?_)
  · refine lv_iload hx hb d_Mo_brings_39 (lv_at hl 0 rfl) ?_
    refine ka_i (y := nI ((max 0 ((wo i : Int) - sumZ fl side ((x : Nat) : Int) ((y : Nat) : Int) (if ((tq : Nat) : Int) = 0 then wi i else th i) (if ((tq : Nat) : Int) = 0 then th i else wi i))).toNat)) (iI_eqn (by omega)) ?_
    exact krdi hx hb hr hlocks d_Mo_brings_41
  · refine lv_iconst (v := nI 0) hx hb d_Mo_brings_35 (by decide +kernel) ?_
    refine ka_i (y := nI ((max 0 ((wo i : Int) - sumZ fl side ((x : Nat) : Int) ((y : Nat) : Int) (if ((tq : Nat) : Int) = 0 then wi i else th i) (if ((tq : Nat) : Int) = 0 then th i else wi i))).toNat)) (congrArg nI (by omega)) ?_
    refine lv_goto (tgt := 41) hx hb d_Mo_brings_36 (by decide) ?_
    exact krdi hx hb hr hlocks d_Mo_brings_41
set_option maxHeartbeats 4000000 in
set_option maxRecDepth 100000 in
theorem m_mayIn (l : Launch) (D : va_G) (cI cJ cZ : ClassId) (mo : Nat) (thr : Nat) (side : Nat) (kf : Nat) (m1 : Nat) (m2 : Nat) (cn : Nat) (m3 : Nat) (m4 : Nat) (m5 : Nat) (m6 : Nat) (m7 : Nat) (m8 : Nat) (m9 : Nat) (m10 : Nat) (m11 : Nat) (m12 : Nat) (sw : Prop) (tn : Nat) (tot : Nat) (psl : Nat) (pc_ : Nat) (m13 : Nat) (th : Nat → Nat) (wi : Nat → Nat) (wn : Nat → Nat) (F3 : Nat → Nat) (fb : Nat → Nat → Nat) (i : Nat) (tq : Nat) (row : Nat) (thick : Nat) (col : Nat) (s2 : side ≤ 20) (i8 : i < 8) (tq1 : tq ≤ 1) (rb : row ≤ 20) (tb : thick ≤ 20) (cb : col ≤ 20) (ht : ∀ k, k < 8 → th k ≤ 20) (hw : ∀ k, k < 8 → wi k ≤ 20) (hn : ∀ k, k < 8 → wn k ≤ 400) (hF : ∀ X Y, X ≤ side → Y ≤ side → F3 (21 * Y + X) = psm fb X Y) (hf : ∀ i j, i < side → j < side → fb i j ≤ 10000) : kRead l y_Mo_mayIn w_Mo_mayIn ({ frames := 2, cells := 0, slots := 0, locals := 53 }) D vwCl (tyL cI cJ cZ) [(mo, .inr (6, [.int (nI thr), .int (nI side), .int (nI kf), .ref m1, .ref m2, .int (nI cn), .ref m3, .ref m4, .ref m5, .ref m6, .ref m7, .ref m8, .ref m9, .ref m10, .ref m11, .ref m12, .int (pI sw), .int (nI tn), .int (nI tot), .int (nI psl), .int (nI pc_), .ref m13])), (m3, .inl (cI, 8, .inl (fun j => nI (th j)))), (m4, .inl (cI, 8, .inl (fun j => nI (wi j)))), (m6, .inl (cI, 8, .inl (fun j => nI (wn j)))), (m7, .inl (cI, 441, .inl (fun j => nI (F3 j))))] [.ref mo, .int (nI i), .int (nI tq), .int (nI row), .int (nI thick), .int (nI col)] (.int (pI (th i = thick ∧ okC side fb th wi wn tq row col i))) := by
  refine Met.ofW (cc := b_Mo_mayIn) (maxL := 6) (ret := (some (.boolean))) (by decide) rfl ?_
  intro p e s m args below meth c s₁ B hml hv
  obtain ⟨rfl, hP, hK, hZ⟩ := hv
  have hx := B.exec
  have hb := B.bytes
  have hr := B.returns
  have hts := atoms_spec (ws := w_Mo_mayIn) B.pre
  have hown : s.vm.findClass R_Mo = some m.cls := findClass_of_methodNamed B.named
  have hlocks := B.notSynchronized
  have hP : va_P D vwCl [(mo, .inr (6, [.int (nI thr), .int (nI side), .int (nI kf), .ref m1, .ref m2, .int (nI cn), .ref m3, .ref m4, .ref m5, .ref m6, .ref m7, .ref m8, .ref m9, .ref m10, .ref m11, .ref m12, .int (pI sw), .int (nI tn), .int (nI tot), .int (nI psl), .int (nI pc_), .ref m13])), (m3, .inl (cI, 8, .inl (fun j => nI (th j)))), (m4, .inl (cI, 8, .inl (fun j => nI (wi j)))), (m6, .inl (cI, 8, .inl (fun j => nI (wn j)))), (m7, .inl (cI, 441, .inl (fun j => nI (F3 j))))] s.heap := hP
  have hl := lv_entry ([.ref mo, .int (nI i), .int (nI tq), .int (nI row), .int (nI thick), .int (nI col)]) (n := 6) (Nat.le_of_ble_eq_true rfl)
  rw [lg_entry_eq]
  generalize (lg_sl ([.ref mo, .int (nI i), .int (nI tq), .int (nI row), .int (nI thick), .int (nI col)]) ++ List.replicate (6 - (lg_sl ([.ref mo, .int (nI i), .int (nI tq), .int (nI row), .int (nI thick), .int (nI col)])).length) Slot.unset).toArray = ls at hl ⊢
  have hl : lv_has ls 6 [(0, .ref mo), (1, .int (nI i)), (2, .int (nI tq)), (3, .int (nI row)), (4, .int (nI thick)), (5, .int (nI col))] := hl
  have t1 := ht i i8
  refine lv_aload_n hx hb d_Mo_mayIn_0 rfl (lv_at hl 0 rfl) ?_
  refine va_get (D := D) (ci := 6) (v := .ref m3) (C := R_Mo) (T := T_Mo) (N := 22) hx hb hts (fun w h => List.mem_cons_of_mem _ (iw_Mo w h)) hown hK hP 0 rfl rfl 6 (by decide) (hts _ (List.mem_cons_of_mem _ k_551)) (fun _ h9 => h9) rfl d_Mo_mayIn_1 ?_
  refine lv_iload_n hx hb d_Mo_mayIn_4 rfl (lv_at hl 1 rfl) ?_
  refine ka_iald (k := i) (n := 8) (f := fun j => nI (th j)) (nI_t (by omega)) (by omega) hx hb hK hP 1 0 rfl rfl d_Mo_mayIn_5 ?_
  refine lv_iload hx hb d_Mo_mayIn_6 (lv_at hl 4 rfl) ?_
  refine kb_cne (tgt := 46) (nI_t (by omega)) (nI_t (by omega)) hx hb d_Mo_mayIn_8 (by decide) (fun c0 => ?_) (fun c0 => ?_)
  · refine lv_iconst (v := nI 0) hx hb d_Mo_mayIn_46 (by decide +kernel) ?_
    refine ka_i (y := pI (th i = thick ∧ okC side fb th wi wn tq row col i)) (pI_z (fun h => absurd h.1 (by omega))) ?_
    exact krdz (pI_narrow _) hx hb hr hlocks d_Mo_mayIn_47
  · refine lv_iload_n hx hb d_Mo_mayIn_11 rfl (lv_at hl 2 rfl) ?_
    refine kb_ne (tgt := 30) (nI_t (by omega)) hx hb d_Mo_mayIn_12 (by decide) (fun c1 => ?_) (fun c1 => ?_)
    · have e_tq : tq = 1 := by omega
      subst e_tq
      refine lv_aload_n hx hb d_Mo_mayIn_30 rfl (lv_at hl 0 rfl) ?_
      refine lv_iload_n hx hb d_Mo_mayIn_31 rfl (lv_at hl 1 rfl) ?_
      refine lv_iload_n hx hb d_Mo_mayIn_32 rfl (lv_at hl 3 rfl) ?_
      refine lv_iload hx hb d_Mo_mayIn_33 (lv_at hl 5 rfl) ?_
      refine lv_iload_n hx hb d_Mo_mayIn_35 rfl (lv_at hl 2 rfl) ?_
      refine kcallR (r := .int (pI (0 ≤ sumZ fb side ((row : Nat) : Int) ((col : Nat) : Int) (if ((1 : Nat) : Int) = 0 then wi i else th i) (if ((1 : Nat) : Int) = 0 then th i else wi i) ∧ sumZ fb side ((row : Nat) : Int) ((col : Nat) : Int) (if ((1 : Nat) : Int) = 0 then wi i else th i) (if ((1 : Nat) : Int) = 0 then th i else wi i) ≤ (wn i : Int)))) (va_runV (As := [.int (nI i), .int (nI row), .int (nI col), .int (nI 1)]) (rest := []) ⟨hx, hb, hml, hown, hts⟩ (m_fits l D cI cJ cZ mo thr side kf m1 m2 cn m3 m4 m5 m6 m7 m8 m9 m10 m11 m12 sw tn tot psl pc_ m13 th wi wn F3 fb i (nI row) (nI col) ((row : Nat) : Int) ((col : Nat) : Int) 1 s2 i8 (by omega) (nI_t (by omega)) (nI_t (by omega)) ht hw hn hF hf) ⟨callB_of 4 hts (gd kc_Mo_fits) rfl rfl rfl (hts _ (List.mem_cons_of_mem _ k_8)) (hts _ (List.mem_cons_of_mem _ k_671)) (by decide +kernel) ⟨Nat.le_of_ble_eq_true rfl, Nat.le_of_ble_eq_true rfl⟩, hts _ (List.mem_cons_of_mem _ k_673), hts _ (List.mem_cons_of_mem _ ks_19)⟩ ⟨kR_blind, va_recv hK hP (ci := 6) (q0 := 0) rfl rfl, kR_at hP hK hZ [0, 1, 2, 3, 4] rfl⟩ rfl rfl hl.1 rfl (lv_room (Nat.le_of_ble_eq_true rfl)) d_Mo_mayIn_36 ⟨Nat.zero_le _, Nat.zero_le _⟩) ?_
      refine kb_eqP (tgt := 46) hx hb d_Mo_mayIn_39 (by decide) (fun c2 => ?_) (fun c2 => ?_)
      · refine lv_iconst (v := nI 0) hx hb d_Mo_mayIn_46 (by decide +kernel) ?_
        refine ka_i (y := pI (th i = thick ∧ okC side fb th wi wn 1 row col i)) (pI_z (fun h => c2 h.2)) ?_
        exact krdz (pI_narrow _) hx hb hr hlocks d_Mo_mayIn_47
      · refine lv_iconst (v := nI 1) hx hb d_Mo_mayIn_42 (by decide +kernel) ?_
        refine lv_goto (tgt := 47) hx hb d_Mo_mayIn_43 (by decide) ?_
        refine ka_i (y := pI (th i = thick ∧ okC side fb th wi wn 1 row col i)) (pI_1 (⟨by omega, c2⟩)) ?_
        exact krdz (pI_narrow _) hx hb hr hlocks d_Mo_mayIn_47
    · have e_tq : tq = 0 := by omega
      subst e_tq
      refine lv_aload_n hx hb d_Mo_mayIn_15 rfl (lv_at hl 0 rfl) ?_
      refine lv_iload_n hx hb d_Mo_mayIn_16 rfl (lv_at hl 1 rfl) ?_
      refine lv_iload hx hb d_Mo_mayIn_17 (lv_at hl 5 rfl) ?_
      refine lv_iload_n hx hb d_Mo_mayIn_19 rfl (lv_at hl 3 rfl) ?_
      refine lv_iload_n hx hb d_Mo_mayIn_20 rfl (lv_at hl 2 rfl) ?_
      refine kcallR (r := .int (pI (0 ≤ sumZ fb side ((col : Nat) : Int) ((row : Nat) : Int) (if ((0 : Nat) : Int) = 0 then wi i else th i) (if ((0 : Nat) : Int) = 0 then th i else wi i) ∧ sumZ fb side ((col : Nat) : Int) ((row : Nat) : Int) (if ((0 : Nat) : Int) = 0 then wi i else th i) (if ((0 : Nat) : Int) = 0 then th i else wi i) ≤ (wn i : Int)))) (va_runV (As := [.int (nI i), .int (nI col), .int (nI row), .int (nI 0)]) (rest := []) ⟨hx, hb, hml, hown, hts⟩ (m_fits l D cI cJ cZ mo thr side kf m1 m2 cn m3 m4 m5 m6 m7 m8 m9 m10 m11 m12 sw tn tot psl pc_ m13 th wi wn F3 fb i (nI col) (nI row) ((col : Nat) : Int) ((row : Nat) : Int) 0 s2 i8 (by omega) (nI_t (by omega)) (nI_t (by omega)) ht hw hn hF hf) ⟨callB_of 4 hts (gd kc_Mo_fits) rfl rfl rfl (hts _ (List.mem_cons_of_mem _ k_8)) (hts _ (List.mem_cons_of_mem _ k_671)) (by decide +kernel) ⟨Nat.le_of_ble_eq_true rfl, Nat.le_of_ble_eq_true rfl⟩, hts _ (List.mem_cons_of_mem _ k_673), hts _ (List.mem_cons_of_mem _ ks_19)⟩ ⟨kR_blind, va_recv hK hP (ci := 6) (q0 := 0) rfl rfl, kR_at hP hK hZ [0, 1, 2, 3, 4] rfl⟩ rfl rfl hl.1 rfl (lv_room (Nat.le_of_ble_eq_true rfl)) d_Mo_mayIn_21 ⟨Nat.zero_le _, Nat.zero_le _⟩) ?_
      refine kb_eqP (tgt := 46) hx hb d_Mo_mayIn_24 (by decide) (fun c2 => ?_) (fun c2 => ?_)
      · refine lv_iconst (v := nI 0) hx hb d_Mo_mayIn_46 (by decide +kernel) ?_
        refine ka_i (y := pI (th i = thick ∧ okC side fb th wi wn 0 row col i)) (pI_z (fun h => c2 h.2)) ?_
        exact krdz (pI_narrow _) hx hb hr hlocks d_Mo_mayIn_47
      · refine lv_goto (tgt := 42) hx hb d_Mo_mayIn_27 (by decide) ?_
        refine lv_iconst (v := nI 1) hx hb d_Mo_mayIn_42 (by decide +kernel) ?_
        refine lv_goto (tgt := 47) hx hb d_Mo_mayIn_43 (by decide) ?_
        refine ka_i (y := pI (th i = thick ∧ okC side fb th wi wn 0 row col i)) (pI_1 (⟨by omega, c2⟩)) ?_
        exact krdz (pI_narrow _) hx hb hr hlocks d_Mo_mayIn_47
set_option maxHeartbeats 4000000 in
set_option maxRecDepth 100000 in
theorem m_worthWith (l : Launch) (D : va_G) (cI cJ cZ : ClassId) (mo : Nat) (thr : Nat) (side : Nat) (kf : Nat) (m1 : Nat) (m2 : Nat) (cn : Nat) (m3 : Nat) (m4 : Nat) (m5 : Nat) (m6 : Nat) (m7 : Nat) (m8 : Nat) (m9 : Nat) (m10 : Nat) (m11 : Nat) (m12 : Nat) (sw : Prop) (tn : Nat) (tot : Nat) (psl : Nat) (pc_ : Nat) (m13 : Nat) (th : Nat → Nat) (wi : Nat → Nat) (wo : Nat → Nat) (F4 : Nat → Nat) (SW : Nat → Nat) (fb : Nat → Nat → Nat) (fl : Nat → Nat → Nat) (wn : Nat → Nat) (i : Nat) (tq : Nat) (row : Nat) (thick : Nat) (col : Nat) (s2 : side ≤ 20) (k4 : kf ≤ 4) (i8 : i < 8) (tq1 : tq ≤ 1) (rb : row ≤ 20) (tb : thick ≤ 20) (cb : col ≤ 20) (hok : okC side fb th wi wn tq row col i) (hw : ∀ k, k < 8 → wi k ≤ 20) (ho : ∀ k, k < 8 → wo k ≤ 100000) (hF : ∀ X Y, X ≤ side → Y ≤ side → F4 (21 * Y + X) = psm fl X Y) (hf : ∀ i j, i < side → j < side → fl i j ≤ 10000) : kRead l y_Mo_worthWith w_Mo_worthWith ({ frames := 2, cells := 0, slots := 0, locals := 52 }) D vwCl (tyL cI cJ cZ) [(mo, .inr (6, [.int (nI thr), .int (nI side), .int (nI kf), .ref m1, .ref m2, .int (nI cn), .ref m3, .ref m4, .ref m5, .ref m6, .ref m7, .ref m8, .ref m9, .ref m10, .ref m11, .ref m12, .int (pI sw), .int (nI tn), .int (nI tot), .int (nI psl), .int (nI pc_), .ref m13])), (m3, .inl (cI, 8, .inl (fun j => nI (th j)))), (m4, .inl (cI, 8, .inl (fun j => nI (wi j)))), (m5, .inl (cI, 8, .inl (fun j => nI (wo j)))), (m8, .inl (cI, 441, .inl (fun j => nI (F4 j)))), (m9, .inl (cI, 9702, .inl (fun j => nI (SW j))))] [.ref mo, .int (nI i), .int (nI tq), .int (nI row), .int (nI thick), .int (nI col)] (.int (nI ((vaC side fl th wi wo tq row col i).toNat + SW ((21 * row + thick) * 22 + min side (col + wi i + kf))))) := by
  refine Met.ofW (cc := b_Mo_worthWith) (maxL := 7) (ret := (some (.int))) (by decide) rfl ?_
  intro p e s m args below meth c s₁ B hml hv
  obtain ⟨rfl, hP, hK, hZ⟩ := hv
  have hx := B.exec
  have hb := B.bytes
  have hr := B.returns
  have hts := atoms_spec (ws := w_Mo_worthWith) B.pre
  have hown : s.vm.findClass R_Mo = some m.cls := findClass_of_methodNamed B.named
  have hlocks := B.notSynchronized
  have hP : va_P D vwCl [(mo, .inr (6, [.int (nI thr), .int (nI side), .int (nI kf), .ref m1, .ref m2, .int (nI cn), .ref m3, .ref m4, .ref m5, .ref m6, .ref m7, .ref m8, .ref m9, .ref m10, .ref m11, .ref m12, .int (pI sw), .int (nI tn), .int (nI tot), .int (nI psl), .int (nI pc_), .ref m13])), (m3, .inl (cI, 8, .inl (fun j => nI (th j)))), (m4, .inl (cI, 8, .inl (fun j => nI (wi j)))), (m5, .inl (cI, 8, .inl (fun j => nI (wo j)))), (m8, .inl (cI, 441, .inl (fun j => nI (F4 j)))), (m9, .inl (cI, 9702, .inl (fun j => nI (SW j))))] s.heap := hP
  have hl := lv_entry ([.ref mo, .int (nI i), .int (nI tq), .int (nI row), .int (nI thick), .int (nI col)]) (n := 7) (Nat.le_of_ble_eq_true rfl)
  rw [lg_entry_eq]
  generalize (lg_sl ([.ref mo, .int (nI i), .int (nI tq), .int (nI row), .int (nI thick), .int (nI col)]) ++ List.replicate (7 - (lg_sl ([.ref mo, .int (nI i), .int (nI tq), .int (nI row), .int (nI thick), .int (nI col)])).length) Slot.unset).toArray = ls at hl ⊢
  have hl : lv_has ls 7 [(0, .ref mo), (1, .int (nI i)), (2, .int (nI tq)), (3, .int (nI row)), (4, .int (nI thick)), (5, .int (nI col))] := hl
  have t1 := hw i i8
  refine lv_iload_n hx hb d_Mo_worthWith_0 rfl (lv_at hl 2 rfl) ?_
  refine kb_ne (tgt := 16) (nI_t (by omega)) hx hb d_Mo_worthWith_1 (by decide) (fun c1 => ?_) (fun c1 => ?_)
  · have e_tq : tq = 1 := by omega
    subst e_tq
    have og := sumZ_on hok.1
    have g1 : ((row : Nat) : Int) + (((if ((1 : Nat) : Int) = 0 then wi i else th i) : Nat) : Int) ≤ (side : Int) := og.2.2.1
    have g2 : ((col : Nat) : Int) + (((if ((1 : Nat) : Int) = 0 then th i else wi i) : Nat) : Int) ≤ (side : Int) := og.2.2.2
    refine lv_aload_n hx hb d_Mo_worthWith_16 rfl (lv_at hl 0 rfl) ?_
    refine lv_iload_n hx hb d_Mo_worthWith_17 rfl (lv_at hl 1 rfl) ?_
    refine lv_iload_n hx hb d_Mo_worthWith_18 rfl (lv_at hl 3 rfl) ?_
    refine lv_iload hx hb d_Mo_worthWith_19 (lv_at hl 5 rfl) ?_
    refine lv_iload_n hx hb d_Mo_worthWith_21 rfl (lv_at hl 2 rfl) ?_
    refine kcallR (r := .int (nI ((max 0 ((wo i : Int) - sumZ fl side ((row : Nat) : Int) ((col : Nat) : Int) (if ((1 : Nat) : Int) = 0 then wi i else th i) (if ((1 : Nat) : Int) = 0 then th i else wi i))).toNat))) (va_runV (As := [.int (nI i), .int (nI row), .int (nI col), .int (nI 1)]) (rest := []) ⟨hx, hb, hml, hown, hts⟩ (m_brings l D cI cJ cZ mo thr side kf m1 m2 cn m3 m4 m5 m6 m7 m8 m9 m10 m11 m12 sw tn tot psl pc_ m13 th wi wo F4 fl i row col 1 s2 i8 (by omega) g1 g2 ho hF hf) ⟨callB_of 4 hts (gd kc_Mo_brings) rfl rfl rfl (hts _ (List.mem_cons_of_mem _ k_8)) (hts _ (List.mem_cons_of_mem _ k_691)) (by decide +kernel) ⟨Nat.le_of_ble_eq_true rfl, Nat.le_of_ble_eq_true rfl⟩, hts _ (List.mem_cons_of_mem _ k_693), hts _ (List.mem_cons_of_mem _ ks_24)⟩ ⟨kR_blind, va_recv hK hP (ci := 6) (q0 := 0) rfl rfl, kR_at hP hK hZ [0, 1, 2, 3, 4] rfl⟩ rfl rfl hl.1 rfl (lv_room (Nat.le_of_ble_eq_true rfl)) d_Mo_worthWith_22 ⟨Nat.zero_le _, Nat.zero_le _⟩) ?_
    refine ka_i (y := nI ((vaC side fl th wi wo 1 row col i).toNat)) (rfl) ?_
    refine lv_istore (lv' := [(6, .int (nI ((vaC side fl th wi wo 1 row col i).toNat))), (0, .ref mo), (1, .int (nI i)), (2, .int (nI 1)), (3, .int (nI row)), (4, .int (nI thick)), (5, .int (nI col))]) hx hb d_Mo_worthWith_25 hl (by decide) rfl (fun ls hl => ?_)
    refine lv_iload hx hb d_Mo_worthWith_27 (lv_at hl 0 rfl) ?_
    refine lv_aload_n hx hb d_Mo_worthWith_29 rfl (lv_at hl 1 rfl) ?_
    refine va_get (D := D) (ci := 6) (v := .ref m9) (C := R_Mo) (T := T_Mo) (N := 22) hx hb hts (fun w h => List.mem_cons_of_mem _ (iw_Mo w h)) hown hK hP 0 rfl rfl 12 (by decide) (hts _ (List.mem_cons_of_mem _ k_557)) (fun _ h9 => h9) rfl d_Mo_worthWith_30 ?_
    refine lv_iload_n hx hb d_Mo_worthWith_33 rfl (lv_at hl 4 rfl) ?_
    refine lv_iload hx hb d_Mo_worthWith_34 (lv_at hl 5 rfl) ?_
    refine lv_aload_n hx hb d_Mo_worthWith_36 rfl (lv_at hl 1 rfl) ?_
    refine lv_iload hx hb d_Mo_worthWith_37 (lv_at hl 6 rfl) ?_
    refine lv_aload_n hx hb d_Mo_worthWith_39 rfl (lv_at hl 1 rfl) ?_
    refine va_get (D := D) (ci := 6) (v := .ref m4) (C := R_Mo) (T := T_Mo) (N := 22) hx hb hts (fun w h => List.mem_cons_of_mem _ (iw_Mo w h)) hown hK hP 0 rfl rfl 7 (by decide) (hts _ (List.mem_cons_of_mem _ k_552)) (fun _ h9 => h9) rfl d_Mo_worthWith_40 ?_
    refine lv_iload_n hx hb d_Mo_worthWith_43 rfl (lv_at hl 2 rfl) ?_
    refine ka_iald (k := i) (n := 8) (f := fun j => nI (wi j)) (nI_t (by omega)) (by omega) hx hb hK hP 2 0 rfl rfl d_Mo_worthWith_44 ?_
    refine kcallR (r := .int (nI (min side (col + (wi i) + kf)))) (va_runV (As := [.int (nI col), .int (nI (wi i))]) (rest := [.int (nI thick), .int (nI row), .ref m9, .int (nI ((vaC side fl th wi wo 1 row col i).toNat))]) ⟨hx, hb, hml, hown, hts⟩ (m_behind l D cI cJ cZ mo thr side kf m1 m2 cn m3 m4 m5 m6 m7 m8 m9 m10 m11 m12 sw tn tot psl pc_ m13 col (wi i) (by omega) (by omega) (by omega) (by omega)) ⟨callB_of 2 hts (gd kc_Mo_behind) rfl rfl rfl (hts _ (List.mem_cons_of_mem _ k_8)) (hts _ (List.mem_cons_of_mem _ k_695)) (by decide +kernel) ⟨Nat.le_of_ble_eq_true rfl, Nat.le_of_ble_eq_true rfl⟩, hts _ (List.mem_cons_of_mem _ k_697), hts _ (List.mem_cons_of_mem _ ks_25)⟩ ⟨kR_blind, va_recv hK hP (ci := 6) (q0 := 0) rfl rfl, kR_at hP hK hZ [0] rfl⟩ rfl rfl hl.1 rfl (lv_room (Nat.le_of_ble_eq_true rfl)) d_Mo_worthWith_45 ⟨Nat.zero_le _, Nat.zero_le _⟩) ?_
    refine kcallR (r := .int (nI ((21 * row + thick) * 22 + (min side (col + (wi i) + kf))))) (va_runS (As := [.int (nI row), .int (nI thick), .int (nI (min side (col + (wi i) + kf)))]) (rest := [.ref m9, .int (nI ((vaC side fl th wi wo 1 row col i).toNat))]) ⟨hx, hb, hml, hown, hts⟩ (m_cell2 l D cI cJ cZ row thick (min side (col + (wi i) + kf)) ) ⟨callB_of 3 hts (gd kc_Mo_cell2) rfl rfl rfl (hts _ (List.mem_cons_of_mem _ k_8)) (hts _ (List.mem_cons_of_mem _ k_664)) (by decide +kernel) ⟨Nat.le_of_ble_eq_true rfl, Nat.le_of_ble_eq_true rfl⟩, hts _ (List.mem_cons_of_mem _ k_665)⟩ ⟨kR_blind, kR_at hP hK hZ [] rfl⟩ rfl rfl hl.1 rfl (lv_room (Nat.le_of_ble_eq_true rfl)) d_Mo_worthWith_48 ⟨Nat.zero_le _, Nat.zero_le _⟩) ?_
    refine ka_iald (k := ((21 * row + thick) * 22 + (min side (col + (wi i) + kf)))) (n := 9702) (f := fun j => nI (SW j)) (nI_t (by omega)) (by omega) hx hb hK hP 5 0 rfl rfl d_Mo_worthWith_51 ?_
    refine lv_iadd hx hb d_Mo_worthWith_52 ?_
    refine ka_i (y := nI (((vaC side fl th wi wo 1 row col i).toNat) + (SW ((21 * row + thick) * 22 + (min side (col + (wi i) + kf)))))) (nI_add _ _) ?_
    exact krdi hx hb hr hlocks d_Mo_worthWith_53
  · have e_tq : tq = 0 := by omega
    subst e_tq
    have og := sumZ_on hok.1
    have g1 : ((col : Nat) : Int) + (((if ((0 : Nat) : Int) = 0 then wi i else th i) : Nat) : Int) ≤ (side : Int) := og.2.2.1
    have g2 : ((row : Nat) : Int) + (((if ((0 : Nat) : Int) = 0 then th i else wi i) : Nat) : Int) ≤ (side : Int) := og.2.2.2
    refine lv_aload_n hx hb d_Mo_worthWith_4 rfl (lv_at hl 0 rfl) ?_
    refine lv_iload_n hx hb d_Mo_worthWith_5 rfl (lv_at hl 1 rfl) ?_
    refine lv_iload hx hb d_Mo_worthWith_6 (lv_at hl 5 rfl) ?_
    refine lv_iload_n hx hb d_Mo_worthWith_8 rfl (lv_at hl 3 rfl) ?_
    refine lv_iload_n hx hb d_Mo_worthWith_9 rfl (lv_at hl 2 rfl) ?_
    refine kcallR (r := .int (nI ((max 0 ((wo i : Int) - sumZ fl side ((col : Nat) : Int) ((row : Nat) : Int) (if ((0 : Nat) : Int) = 0 then wi i else th i) (if ((0 : Nat) : Int) = 0 then th i else wi i))).toNat))) (va_runV (As := [.int (nI i), .int (nI col), .int (nI row), .int (nI 0)]) (rest := []) ⟨hx, hb, hml, hown, hts⟩ (m_brings l D cI cJ cZ mo thr side kf m1 m2 cn m3 m4 m5 m6 m7 m8 m9 m10 m11 m12 sw tn tot psl pc_ m13 th wi wo F4 fl i col row 0 s2 i8 (by omega) g1 g2 ho hF hf) ⟨callB_of 4 hts (gd kc_Mo_brings) rfl rfl rfl (hts _ (List.mem_cons_of_mem _ k_8)) (hts _ (List.mem_cons_of_mem _ k_691)) (by decide +kernel) ⟨Nat.le_of_ble_eq_true rfl, Nat.le_of_ble_eq_true rfl⟩, hts _ (List.mem_cons_of_mem _ k_693), hts _ (List.mem_cons_of_mem _ ks_24)⟩ ⟨kR_blind, va_recv hK hP (ci := 6) (q0 := 0) rfl rfl, kR_at hP hK hZ [0, 1, 2, 3, 4] rfl⟩ rfl rfl hl.1 rfl (lv_room (Nat.le_of_ble_eq_true rfl)) d_Mo_worthWith_10 ⟨Nat.zero_le _, Nat.zero_le _⟩) ?_
    refine ka_i (y := nI ((vaC side fl th wi wo 0 row col i).toNat)) (rfl) ?_
    refine lv_goto (tgt := 25) hx hb d_Mo_worthWith_13 (by decide) ?_
    refine lv_istore (lv' := [(6, .int (nI ((vaC side fl th wi wo 0 row col i).toNat))), (0, .ref mo), (1, .int (nI i)), (2, .int (nI 0)), (3, .int (nI row)), (4, .int (nI thick)), (5, .int (nI col))]) hx hb d_Mo_worthWith_25 hl (by decide) rfl (fun ls hl => ?_)
    refine lv_iload hx hb d_Mo_worthWith_27 (lv_at hl 0 rfl) ?_
    refine lv_aload_n hx hb d_Mo_worthWith_29 rfl (lv_at hl 1 rfl) ?_
    refine va_get (D := D) (ci := 6) (v := .ref m9) (C := R_Mo) (T := T_Mo) (N := 22) hx hb hts (fun w h => List.mem_cons_of_mem _ (iw_Mo w h)) hown hK hP 0 rfl rfl 12 (by decide) (hts _ (List.mem_cons_of_mem _ k_557)) (fun _ h9 => h9) rfl d_Mo_worthWith_30 ?_
    refine lv_iload_n hx hb d_Mo_worthWith_33 rfl (lv_at hl 4 rfl) ?_
    refine lv_iload hx hb d_Mo_worthWith_34 (lv_at hl 5 rfl) ?_
    refine lv_aload_n hx hb d_Mo_worthWith_36 rfl (lv_at hl 1 rfl) ?_
    refine lv_iload hx hb d_Mo_worthWith_37 (lv_at hl 6 rfl) ?_
    refine lv_aload_n hx hb d_Mo_worthWith_39 rfl (lv_at hl 1 rfl) ?_
    refine va_get (D := D) (ci := 6) (v := .ref m4) (C := R_Mo) (T := T_Mo) (N := 22) hx hb hts (fun w h => List.mem_cons_of_mem _ (iw_Mo w h)) hown hK hP 0 rfl rfl 7 (by decide) (hts _ (List.mem_cons_of_mem _ k_552)) (fun _ h9 => h9) rfl d_Mo_worthWith_40 ?_
    refine lv_iload_n hx hb d_Mo_worthWith_43 rfl (lv_at hl 2 rfl) ?_
    refine ka_iald (k := i) (n := 8) (f := fun j => nI (wi j)) (nI_t (by omega)) (by omega) hx hb hK hP 2 0 rfl rfl d_Mo_worthWith_44 ?_
    refine kcallR (r := .int (nI (min side (col + (wi i) + kf)))) (va_runV (As := [.int (nI col), .int (nI (wi i))]) (rest := [.int (nI thick), .int (nI row), .ref m9, .int (nI ((vaC side fl th wi wo 0 row col i).toNat))]) ⟨hx, hb, hml, hown, hts⟩ (m_behind l D cI cJ cZ mo thr side kf m1 m2 cn m3 m4 m5 m6 m7 m8 m9 m10 m11 m12 sw tn tot psl pc_ m13 col (wi i) (by omega) (by omega) (by omega) (by omega)) ⟨callB_of 2 hts (gd kc_Mo_behind) rfl rfl rfl (hts _ (List.mem_cons_of_mem _ k_8)) (hts _ (List.mem_cons_of_mem _ k_695)) (by decide +kernel) ⟨Nat.le_of_ble_eq_true rfl, Nat.le_of_ble_eq_true rfl⟩, hts _ (List.mem_cons_of_mem _ k_697), hts _ (List.mem_cons_of_mem _ ks_25)⟩ ⟨kR_blind, va_recv hK hP (ci := 6) (q0 := 0) rfl rfl, kR_at hP hK hZ [0] rfl⟩ rfl rfl hl.1 rfl (lv_room (Nat.le_of_ble_eq_true rfl)) d_Mo_worthWith_45 ⟨Nat.zero_le _, Nat.zero_le _⟩) ?_
    refine kcallR (r := .int (nI ((21 * row + thick) * 22 + (min side (col + (wi i) + kf))))) (va_runS (As := [.int (nI row), .int (nI thick), .int (nI (min side (col + (wi i) + kf)))]) (rest := [.ref m9, .int (nI ((vaC side fl th wi wo 0 row col i).toNat))]) ⟨hx, hb, hml, hown, hts⟩ (m_cell2 l D cI cJ cZ row thick (min side (col + (wi i) + kf)) ) ⟨callB_of 3 hts (gd kc_Mo_cell2) rfl rfl rfl (hts _ (List.mem_cons_of_mem _ k_8)) (hts _ (List.mem_cons_of_mem _ k_664)) (by decide +kernel) ⟨Nat.le_of_ble_eq_true rfl, Nat.le_of_ble_eq_true rfl⟩, hts _ (List.mem_cons_of_mem _ k_665)⟩ ⟨kR_blind, kR_at hP hK hZ [] rfl⟩ rfl rfl hl.1 rfl (lv_room (Nat.le_of_ble_eq_true rfl)) d_Mo_worthWith_48 ⟨Nat.zero_le _, Nat.zero_le _⟩) ?_
    refine ka_iald (k := ((21 * row + thick) * 22 + (min side (col + (wi i) + kf)))) (n := 9702) (f := fun j => nI (SW j)) (nI_t (by omega)) (by omega) hx hb hK hP 5 0 rfl rfl d_Mo_worthWith_51 ?_
    refine lv_iadd hx hb d_Mo_worthWith_52 ?_
    refine ka_i (y := nI (((vaC side fl th wi wo 0 row col i).toNat) + (SW ((21 * row + thick) * 22 + (min side (col + (wi i) + kf)))))) (nI_add _ _) ?_
    exact krdi hx hb hr hlocks d_Mo_worthWith_53
set_option maxHeartbeats 4000000 in
set_option maxRecDepth 100000 in
theorem m_countWith (l : Launch) (D : va_G) (cI cJ cZ : ClassId) (mo : Nat) (thr : Nat) (side : Nat) (kf : Nat) (m1 : Nat) (m2 : Nat) (cn : Nat) (m3 : Nat) (m4 : Nat) (m5 : Nat) (m6 : Nat) (m7 : Nat) (m8 : Nat) (m9 : Nat) (m10 : Nat) (m11 : Nat) (m12 : Nat) (sw : Prop) (tn : Nat) (tot : Nat) (psl : Nat) (pc_ : Nat) (m13 : Nat) (wi : Nat → Nat) (SN : Nat → Nat) (i : Nat) (row : Nat) (thick : Nat) (col : Nat) (s2 : side ≤ 20) (k4 : kf ≤ 4) (i8 : i < 8) (rb : row ≤ 20) (tb : thick ≤ 20) (cb : col ≤ 20) (hw : ∀ k, k < 8 → wi k ≤ 20) : kRead l y_Mo_countWith w_Mo_countWith ({ frames := 1, cells := 0, slots := 0, locals := 23 }) D vwCl (tyL cI cJ cZ) [(mo, .inr (6, [.int (nI thr), .int (nI side), .int (nI kf), .ref m1, .ref m2, .int (nI cn), .ref m3, .ref m4, .ref m5, .ref m6, .ref m7, .ref m8, .ref m9, .ref m10, .ref m11, .ref m12, .int (pI sw), .int (nI tn), .int (nI tot), .int (nI psl), .int (nI pc_), .ref m13])), (m4, .inl (cI, 8, .inl (fun j => nI (wi j)))), (m10, .inl (cI, 9702, .inl (fun j => nI (SN j))))] [.ref mo, .int (nI i), .int (nI row), .int (nI thick), .int (nI col)] (.int (nI (1 + SN ((21 * row + thick) * 22 + min side (col + wi i + kf))))) := by
  refine Met.ofW (cc := b_Mo_countWith) (maxL := 5) (ret := (some (.int))) (by decide) rfl ?_
  intro p e s m args below meth c s₁ B hml hv
  obtain ⟨rfl, hP, hK, hZ⟩ := hv
  have hx := B.exec
  have hb := B.bytes
  have hr := B.returns
  have hts := atoms_spec (ws := w_Mo_countWith) B.pre
  have hown : s.vm.findClass R_Mo = some m.cls := findClass_of_methodNamed B.named
  have hlocks := B.notSynchronized
  have hP : va_P D vwCl [(mo, .inr (6, [.int (nI thr), .int (nI side), .int (nI kf), .ref m1, .ref m2, .int (nI cn), .ref m3, .ref m4, .ref m5, .ref m6, .ref m7, .ref m8, .ref m9, .ref m10, .ref m11, .ref m12, .int (pI sw), .int (nI tn), .int (nI tot), .int (nI psl), .int (nI pc_), .ref m13])), (m4, .inl (cI, 8, .inl (fun j => nI (wi j)))), (m10, .inl (cI, 9702, .inl (fun j => nI (SN j))))] s.heap := hP
  have hl := lv_entry ([.ref mo, .int (nI i), .int (nI row), .int (nI thick), .int (nI col)]) (n := 5) (Nat.le_of_ble_eq_true rfl)
  rw [lg_entry_eq]
  generalize (lg_sl ([.ref mo, .int (nI i), .int (nI row), .int (nI thick), .int (nI col)]) ++ List.replicate (5 - (lg_sl ([.ref mo, .int (nI i), .int (nI row), .int (nI thick), .int (nI col)])).length) Slot.unset).toArray = ls at hl ⊢
  have hl : lv_has ls 5 [(0, .ref mo), (1, .int (nI i)), (2, .int (nI row)), (3, .int (nI thick)), (4, .int (nI col))] := hl
  have t1 := hw i i8
  refine lv_iconst (v := nI 1) hx hb d_Mo_countWith_0 (by decide +kernel) ?_
  refine lv_aload_n hx hb d_Mo_countWith_1 rfl (lv_at hl 0 rfl) ?_
  refine va_get (D := D) (ci := 6) (v := .ref m10) (C := R_Mo) (T := T_Mo) (N := 22) hx hb hts (fun w h => List.mem_cons_of_mem _ (iw_Mo w h)) hown hK hP 0 rfl rfl 13 (by decide) (hts _ (List.mem_cons_of_mem _ k_558)) (fun _ h9 => h9) rfl d_Mo_countWith_2 ?_
  refine lv_iload_n hx hb d_Mo_countWith_5 rfl (lv_at hl 2 rfl) ?_
  refine lv_iload_n hx hb d_Mo_countWith_6 rfl (lv_at hl 3 rfl) ?_
  refine lv_aload_n hx hb d_Mo_countWith_7 rfl (lv_at hl 0 rfl) ?_
  refine lv_iload hx hb d_Mo_countWith_8 (lv_at hl 4 rfl) ?_
  refine lv_aload_n hx hb d_Mo_countWith_10 rfl (lv_at hl 0 rfl) ?_
  refine va_get (D := D) (ci := 6) (v := .ref m4) (C := R_Mo) (T := T_Mo) (N := 22) hx hb hts (fun w h => List.mem_cons_of_mem _ (iw_Mo w h)) hown hK hP 0 rfl rfl 7 (by decide) (hts _ (List.mem_cons_of_mem _ k_552)) (fun _ h9 => h9) rfl d_Mo_countWith_11 ?_
  refine lv_iload_n hx hb d_Mo_countWith_14 rfl (lv_at hl 1 rfl) ?_
  refine ka_iald (k := i) (n := 8) (f := fun j => nI (wi j)) (nI_t (by omega)) (by omega) hx hb hK hP 1 0 rfl rfl d_Mo_countWith_15 ?_
  refine kcallR (r := .int (nI (min side (col + (wi i) + kf)))) (va_runV (As := [.int (nI col), .int (nI (wi i))]) (rest := [.int (nI thick), .int (nI row), .ref m10, .int (nI 1)]) ⟨hx, hb, hml, hown, hts⟩ (m_behind l D cI cJ cZ mo thr side kf m1 m2 cn m3 m4 m5 m6 m7 m8 m9 m10 m11 m12 sw tn tot psl pc_ m13 col (wi i) (by omega) (by omega) (by omega) (by omega)) ⟨callB_of 2 hts (gd kc_Mo_behind) rfl rfl rfl (hts _ (List.mem_cons_of_mem _ k_8)) (hts _ (List.mem_cons_of_mem _ k_695)) (by decide +kernel) ⟨Nat.le_of_ble_eq_true rfl, Nat.le_of_ble_eq_true rfl⟩, hts _ (List.mem_cons_of_mem _ k_697), hts _ (List.mem_cons_of_mem _ ks_25)⟩ ⟨kR_blind, va_recv hK hP (ci := 6) (q0 := 0) rfl rfl, kR_at hP hK hZ [0] rfl⟩ rfl rfl hl.1 rfl (lv_room (Nat.le_of_ble_eq_true rfl)) d_Mo_countWith_16 ⟨Nat.zero_le _, Nat.zero_le _⟩) ?_
  refine kcallR (r := .int (nI ((21 * row + thick) * 22 + (min side (col + (wi i) + kf))))) (va_runS (As := [.int (nI row), .int (nI thick), .int (nI (min side (col + (wi i) + kf)))]) (rest := [.ref m10, .int (nI 1)]) ⟨hx, hb, hml, hown, hts⟩ (m_cell2 l D cI cJ cZ row thick (min side (col + (wi i) + kf)) ) ⟨callB_of 3 hts (gd kc_Mo_cell2) rfl rfl rfl (hts _ (List.mem_cons_of_mem _ k_8)) (hts _ (List.mem_cons_of_mem _ k_664)) (by decide +kernel) ⟨Nat.le_of_ble_eq_true rfl, Nat.le_of_ble_eq_true rfl⟩, hts _ (List.mem_cons_of_mem _ k_665)⟩ ⟨kR_blind, kR_at hP hK hZ [] rfl⟩ rfl rfl hl.1 rfl (lv_room (Nat.le_of_ble_eq_true rfl)) d_Mo_countWith_19 ⟨Nat.zero_le _, Nat.zero_le _⟩) ?_
  refine ka_iald (k := ((21 * row + thick) * 22 + (min side (col + (wi i) + kf)))) (n := 9702) (f := fun j => nI (SN j)) (nI_t (by omega)) (by omega) hx hb hK hP 2 0 rfl rfl d_Mo_countWith_22 ?_
  refine lv_iadd hx hb d_Mo_countWith_23 ?_
  refine ka_i (y := nI (1 + (SN ((21 * row + thick) * 22 + (min side (col + (wi i) + kf)))))) (nI_add _ _) ?_
  exact krdi hx hb hr hlocks d_Mo_countWith_24
set_option maxHeartbeats 4000000 in
set_option maxRecDepth 100000 in
theorem m_isThick (l : Launch) (D : va_G) (cI cJ cZ : ClassId) (mo : Nat) (thr : Nat) (side : Nat) (kf : Nat) (m1 : Nat) (m2 : Nat) (cn : Nat) (m3 : Nat) (m4 : Nat) (m5 : Nat) (m6 : Nat) (m7 : Nat) (m8 : Nat) (m9 : Nat) (m10 : Nat) (m11 : Nat) (m12 : Nat) (sw : Prop) (tn : Nat) (tot : Nat) (psl : Nat) (pc_ : Nat) (m13 : Nat) (th : Nat → Nat) (x : Nat) (n8 : cn ≤ 8) (xb : x ≤ 20) (ht : ∀ k, k < 8 → th k ≤ 20) : kRead l y_Mo_isThick w_Mo_isThick ({ frames := 0, cells := 0, slots := 0, locals := 0 }) D vwCl (tyL cI cJ cZ) [(mo, .inr (6, [.int (nI thr), .int (nI side), .int (nI kf), .ref m1, .ref m2, .int (nI cn), .ref m3, .ref m4, .ref m5, .ref m6, .ref m7, .ref m8, .ref m9, .ref m10, .ref m11, .ref m12, .int (pI sw), .int (nI tn), .int (nI tot), .int (nI psl), .int (nI pc_), .ref m13])), (m3, .inl (cI, 8, .inl (fun j => nI (th j))))] [.ref mo, .int (nI x)] (.int (pI (∃ k_, k_ < cn ∧ th k_ = x))) := by
  refine Met.ofW (cc := b_Mo_isThick) (maxL := 4) (ret := (some (.boolean))) (by decide) rfl ?_
  intro p e s m args below meth c s₁ B hml hv
  obtain ⟨rfl, hP, hK, hZ⟩ := hv
  have hx := B.exec
  have hb := B.bytes
  have hr := B.returns
  have hts := atoms_spec (ws := w_Mo_isThick) B.pre
  have hown : s.vm.findClass R_Mo = some m.cls := findClass_of_methodNamed B.named
  have hlocks := B.notSynchronized
  have hP : va_P D vwCl [(mo, .inr (6, [.int (nI thr), .int (nI side), .int (nI kf), .ref m1, .ref m2, .int (nI cn), .ref m3, .ref m4, .ref m5, .ref m6, .ref m7, .ref m8, .ref m9, .ref m10, .ref m11, .ref m12, .int (pI sw), .int (nI tn), .int (nI tot), .int (nI psl), .int (nI pc_), .ref m13])), (m3, .inl (cI, 8, .inl (fun j => nI (th j))))] s.heap := hP
  have hl := lv_entry ([.ref mo, .int (nI x)]) (n := 4) (Nat.le_of_ble_eq_true rfl)
  rw [lg_entry_eq]
  generalize (lg_sl ([.ref mo, .int (nI x)]) ++ List.replicate (4 - (lg_sl ([.ref mo, .int (nI x)])).length) Slot.unset).toArray = ls at hl ⊢
  have hl : lv_has ls 4 [(0, .ref mo), (1, .int (nI x))] := hl
  refine lv_iconst (v := nI 0) hx hb d_Mo_isThick_0 (by decide +kernel) ?_
  refine ka_i (y := pI (∃ k_, k_ < 0 ∧ th k_ = x)) (pI_z (fun ⟨_, h, _⟩ => absurd h (Nat.not_lt_zero _))) ?_
  refine lv_istore_n (lv' := [(2, .int (pI (∃ k_, k_ < 0 ∧ th k_ = x))), (0, .ref mo), (1, .int (nI x))]) hx hb d_Mo_isThick_1 rfl hl (by decide) rfl (fun ls hl => ?_)
  refine lv_iconst (v := nI 0) hx hb d_Mo_isThick_2 (by decide +kernel) ?_
  refine lv_istore_n (lv' := [(3, .int (nI 0)), (2, .int (pI (∃ k_, k_ < 0 ∧ th k_ = x))), (0, .ref mo), (1, .int (nI x))]) hx hb d_Mo_isThick_3 rfl hl (by decide) rfl (fun ls hl => ?_)
  have lp : ∀ (n : Nat) (k : Nat), (k + n = cn) → ∀ ls : Array Slot, lv_has ls 4 [(3, .int (nI k)), (2, .int (pI (∃ k_, k_ < k ∧ th k_ = x))), (0, .ref mo), (1, .int (nI x))] → W p l e (headSpec w_Mo_isThick ({ frames := 0, cells := 0, slots := 0, locals := 0 })).room s m ([.ref mo, .int (nI x)]).toArray below meth c s.heap [] 0 0 (MQ below (k2_QcV (.int (pI (∃ k_, k_ < cn ∧ th k_ = x)))) ([.ref mo, .int (nI x)]).toArray s 0 0 (fun _ => False)) (F0 m 4 ls []) := by
    intro n
    induction n with
    | zero =>
      intro k hi ls hl
      have ek : cn = k := by omega
      subst ek
      refine lv_iload_n hx hb d_Mo_isThick_4 rfl (lv_at hl 0 rfl) ?_
      refine lv_aload_n hx hb d_Mo_isThick_5 rfl (lv_at hl 2 rfl) ?_
      refine va_get (D := D) (ci := 6) (v := .int (nI cn)) (C := R_Mo) (T := T_Mo) (N := 22) hx hb hts (fun w h => List.mem_cons_of_mem _ (iw_Mo w h)) hown hK hP 0 rfl rfl 5 (by decide) (hts _ (List.mem_cons_of_mem _ k_550)) (fun _ h9 => h9) rfl d_Mo_isThick_6 ?_
      refine kb_cge (tgt := 38) (nI_t (by omega)) (nI_t (by omega)) hx hb d_Mo_isThick_9 (by decide) (fun c_9 => ?_) (fun c_9 => ?_)
      · refine lv_iload_n hx hb d_Mo_isThick_38 rfl (lv_at hl 1 rfl) ?_
        exact krdz (pI_narrow _) hx hb hr hlocks d_Mo_isThick_39
      · exfalso; omega
    | succ n ih =>
      intro k hi ls hl
      refine lv_iload_n hx hb d_Mo_isThick_4 rfl (lv_at hl 0 rfl) ?_
      refine lv_aload_n hx hb d_Mo_isThick_5 rfl (lv_at hl 2 rfl) ?_
      refine va_get (D := D) (ci := 6) (v := .int (nI cn)) (C := R_Mo) (T := T_Mo) (N := 22) hx hb hts (fun w h => List.mem_cons_of_mem _ (iw_Mo w h)) hown hK hP 0 rfl rfl 5 (by decide) (hts _ (List.mem_cons_of_mem _ k_550)) (fun _ h9 => h9) rfl d_Mo_isThick_6 ?_
      refine kb_cge (tgt := 38) (nI_t (by omega)) (nI_t (by omega)) hx hb d_Mo_isThick_9 (by decide) (fun c_9 => ?_) (fun c_9 => ?_)
      · exfalso; omega
      · have q := ht k (by omega)
        refine lv_iload_n hx hb d_Mo_isThick_12 rfl (lv_at hl 1 rfl) ?_
        refine kb_neP (tgt := 26) hx hb d_Mo_isThick_13 (by decide) (fun ci => ?_) (fun ci => ?_)
        · refine lv_iconst (v := nI 1) hx hb d_Mo_isThick_26 (by decide +kernel) ?_
          refine ka_i (y := pI (∃ k_, k_ < (k + 1) ∧ th k_ = x)) (pI_1 (by
              obtain ⟨q1, q2, q3⟩ := ci
              exact ⟨q1, by omega, q3⟩)) ?_
          refine lv_goto (tgt := 31) hx hb d_Mo_isThick_27 (by decide) ?_
          refine lv_istore_n (lv' := [(2, .int (pI (∃ k_, k_ < (k + 1) ∧ th k_ = x))), (3, .int (nI k)), (0, .ref mo), (1, .int (nI x))]) hx hb d_Mo_isThick_31 rfl hl (by decide) rfl (fun ls hl => ?_)
          refine lv_iinc (v := nI (k + 1)) (lv' := [(3, .int (nI (k + 1))), (2, .int (pI (∃ k_, k_ < (k + 1) ∧ th k_ = x))), (0, .ref mo), (1, .int (nI x))]) hx hb d_Mo_isThick_32 hl (k := 1) rfl (nI_add _ 1) (by decide) rfl (fun ls hl => ?_)
          refine lv_goto (tgt := 4) hx hb d_Mo_isThick_35 (by decide) ?_
          exact ih (k + 1) (by omega) ls (lv_sub hl [0, 1, 2, 3] rfl)
        · refine lv_aload_n hx hb d_Mo_isThick_16 rfl (lv_at hl 2 rfl) ?_
          refine va_get (D := D) (ci := 6) (v := .ref m3) (C := R_Mo) (T := T_Mo) (N := 22) hx hb hts (fun w h => List.mem_cons_of_mem _ (iw_Mo w h)) hown hK hP 0 rfl rfl 6 (by decide) (hts _ (List.mem_cons_of_mem _ k_551)) (fun _ h9 => h9) rfl d_Mo_isThick_17 ?_
          refine lv_iload_n hx hb d_Mo_isThick_20 rfl (lv_at hl 0 rfl) ?_
          refine ka_iald (k := k) (n := 8) (f := fun j => nI (th j)) (nI_t (by omega)) (by omega) hx hb hK hP 1 0 rfl rfl d_Mo_isThick_21 ?_
          refine lv_iload_n hx hb d_Mo_isThick_22 rfl (lv_at hl 3 rfl) ?_
          refine kb_cne (tgt := 30) (nI_t (by omega)) (nI_t (by omega)) hx hb d_Mo_isThick_23 (by decide) (fun ct => ?_) (fun ct => ?_)
          · refine lv_iconst (v := nI 0) hx hb d_Mo_isThick_30 (by decide +kernel) ?_
            refine ka_i (y := pI (∃ k_, k_ < (k + 1) ∧ th k_ = x)) (pI_z (by
                intro ⟨q1, q2, q3⟩
                by_cases e : q1 = k
                · subst e; omega
                · exact ci ⟨q1, by omega, q3⟩)) ?_
            refine lv_istore_n (lv' := [(2, .int (pI (∃ k_, k_ < (k + 1) ∧ th k_ = x))), (3, .int (nI k)), (0, .ref mo), (1, .int (nI x))]) hx hb d_Mo_isThick_31 rfl hl (by decide) rfl (fun ls hl => ?_)
            refine lv_iinc (v := nI (k + 1)) (lv' := [(3, .int (nI (k + 1))), (2, .int (pI (∃ k_, k_ < (k + 1) ∧ th k_ = x))), (0, .ref mo), (1, .int (nI x))]) hx hb d_Mo_isThick_32 hl (k := 1) rfl (nI_add _ 1) (by decide) rfl (fun ls hl => ?_)
            refine lv_goto (tgt := 4) hx hb d_Mo_isThick_35 (by decide) ?_
            exact ih (k + 1) (by omega) ls (lv_sub hl [0, 1, 2, 3] rfl)
          · refine lv_iconst (v := nI 1) hx hb d_Mo_isThick_26 (by decide +kernel) ?_
            refine ka_i (y := pI (∃ k_, k_ < (k + 1) ∧ th k_ = x)) (pI_1 (⟨k, by omega, by omega⟩)) ?_
            refine lv_goto (tgt := 31) hx hb d_Mo_isThick_27 (by decide) ?_
            refine lv_istore_n (lv' := [(2, .int (pI (∃ k_, k_ < (k + 1) ∧ th k_ = x))), (3, .int (nI k)), (0, .ref mo), (1, .int (nI x))]) hx hb d_Mo_isThick_31 rfl hl (by decide) rfl (fun ls hl => ?_)
            refine lv_iinc (v := nI (k + 1)) (lv' := [(3, .int (nI (k + 1))), (2, .int (pI (∃ k_, k_ < (k + 1) ∧ th k_ = x))), (0, .ref mo), (1, .int (nI x))]) hx hb d_Mo_isThick_32 hl (k := 1) rfl (nI_add _ 1) (by decide) rfl (fun ls hl => ?_)
            refine lv_goto (tgt := 4) hx hb d_Mo_isThick_35 (by decide) ?_
            exact ih (k + 1) (by omega) ls (lv_sub hl [0, 1, 2, 3] rfl)
  exact lp cn 0 (by omega) ls (lv_sub hl [0, 1, 2, 3] rfl)
set_option maxHeartbeats 4000000 in
set_option maxRecDepth 100000 in
theorem m_hasSlab (l : Launch) (D : va_G) (cI cJ cZ : ClassId) (mo : Nat) (thr : Nat) (side : Nat) (kf : Nat) (m1 : Nat) (m2 : Nat) (cn : Nat) (m3 : Nat) (m4 : Nat) (m5 : Nat) (m6 : Nat) (m7 : Nat) (m8 : Nat) (m9 : Nat) (m10 : Nat) (m11 : Nat) (m12 : Nat) (sw : Prop) (tn : Nat) (tot : Nat) (psl : Nat) (pc_ : Nat) (m13 : Nat) (th : Nat → Nat) (SN : Nat → Nat) (row : Nat) (thick : Nat) (s2 : side ≤ 20) (n8 : cn ≤ 8) (rb : row ≤ 20) (tb : thick ≤ 20) (ht : ∀ k, k < 8 → th k ≤ 20) (bN : ∀ q, SN q ≤ 1000) : kRead l y_Mo_hasSlab w_Mo_hasSlab ({ frames := 1, cells := 0, slots := 0, locals := 23 }) D vwCl (tyL cI cJ cZ) [(mo, .inr (6, [.int (nI thr), .int (nI side), .int (nI kf), .ref m1, .ref m2, .int (nI cn), .ref m3, .ref m4, .ref m5, .ref m6, .ref m7, .ref m8, .ref m9, .ref m10, .ref m11, .ref m12, .int (pI sw), .int (nI tn), .int (nI tot), .int (nI psl), .int (nI pc_), .ref m13])), (m3, .inl (cI, 8, .inl (fun j => nI (th j)))), (m10, .inl (cI, 9702, .inl (fun j => nI (SN j))))] [.ref mo, .int (nI row), .int (nI thick)] (.int (pI (row + thick ≤ side ∧ (∃ k_, k_ < cn ∧ th k_ = thick) ∧ 0 < SN ((21 * row + thick) * 22 + 0)))) := by
  refine Met.ofW (cc := b_Mo_hasSlab) (maxL := 3) (ret := (some (.boolean))) (by decide) rfl ?_
  intro p e s m args below meth c s₁ B hml hv
  obtain ⟨rfl, hP, hK, hZ⟩ := hv
  have hx := B.exec
  have hb := B.bytes
  have hr := B.returns
  have hts := atoms_spec (ws := w_Mo_hasSlab) B.pre
  have hown : s.vm.findClass R_Mo = some m.cls := findClass_of_methodNamed B.named
  have hlocks := B.notSynchronized
  have hP : va_P D vwCl [(mo, .inr (6, [.int (nI thr), .int (nI side), .int (nI kf), .ref m1, .ref m2, .int (nI cn), .ref m3, .ref m4, .ref m5, .ref m6, .ref m7, .ref m8, .ref m9, .ref m10, .ref m11, .ref m12, .int (pI sw), .int (nI tn), .int (nI tot), .int (nI psl), .int (nI pc_), .ref m13])), (m3, .inl (cI, 8, .inl (fun j => nI (th j)))), (m10, .inl (cI, 9702, .inl (fun j => nI (SN j))))] s.heap := hP
  have hl := lv_entry ([.ref mo, .int (nI row), .int (nI thick)]) (n := 3) (Nat.le_of_ble_eq_true rfl)
  rw [lg_entry_eq]
  generalize (lg_sl ([.ref mo, .int (nI row), .int (nI thick)]) ++ List.replicate (3 - (lg_sl ([.ref mo, .int (nI row), .int (nI thick)])).length) Slot.unset).toArray = ls at hl ⊢
  have hl : lv_has ls 3 [(0, .ref mo), (1, .int (nI row)), (2, .int (nI thick))] := hl
  have t1 := bN ((21 * row + thick) * 22 + 0)
  refine lv_iload_n hx hb d_Mo_hasSlab_0 rfl (lv_at hl 1 rfl) ?_
  refine lv_iload_n hx hb d_Mo_hasSlab_1 rfl (lv_at hl 2 rfl) ?_
  refine lv_iadd hx hb d_Mo_hasSlab_2 ?_
  refine ka_i (y := nI (row + thick)) (nI_add _ _) ?_
  refine lv_aload_n hx hb d_Mo_hasSlab_3 rfl (lv_at hl 0 rfl) ?_
  refine va_get (D := D) (ci := 6) (v := .int (nI side)) (C := R_Mo) (T := T_Mo) (N := 22) hx hb hts (fun w h => List.mem_cons_of_mem _ (iw_Mo w h)) hown hK hP 0 rfl rfl 1 (by decide) (hts _ (List.mem_cons_of_mem _ k_546)) (fun _ h9 => h9) rfl d_Mo_hasSlab_4 ?_
  refine kb_cgt (tgt := 36) (nI_t (by omega)) (nI_t (by omega)) hx hb d_Mo_hasSlab_7 (by decide) (fun c_7 => ?_) (fun c_7 => ?_)
  · refine lv_iconst (v := nI 0) hx hb d_Mo_hasSlab_36 (by decide +kernel) ?_
    refine ka_i (y := pI (row + thick ≤ side ∧ (∃ k_, k_ < cn ∧ th k_ = thick) ∧ 0 < SN ((21 * row + thick) * 22 + 0))) (pI_z (fun h => by omega)) ?_
    exact krdz (pI_narrow _) hx hb hr hlocks d_Mo_hasSlab_37
  · refine lv_aload_n hx hb d_Mo_hasSlab_10 rfl (lv_at hl 0 rfl) ?_
    refine lv_iload_n hx hb d_Mo_hasSlab_11 rfl (lv_at hl 2 rfl) ?_
    refine kcallR (r := .int (pI (∃ k_, k_ < cn ∧ th k_ = thick))) (va_runV (As := [.int (nI thick)]) (rest := []) ⟨hx, hb, hml, hown, hts⟩ (m_isThick l D cI cJ cZ mo thr side kf m1 m2 cn m3 m4 m5 m6 m7 m8 m9 m10 m11 m12 sw tn tot psl pc_ m13 th thick (by omega) (by omega) ht) ⟨callB_of 1 hts (gd kc_Mo_isThick) rfl rfl rfl (hts _ (List.mem_cons_of_mem _ k_8)) (hts _ (List.mem_cons_of_mem _ k_656)) (by decide +kernel) ⟨Nat.le_of_ble_eq_true rfl, Nat.le_of_ble_eq_true rfl⟩, hts _ (List.mem_cons_of_mem _ k_658), hts _ (List.mem_cons_of_mem _ ks_16)⟩ ⟨kR_blind, va_recv hK hP (ci := 6) (q0 := 0) rfl rfl, kR_at hP hK hZ [0, 1] rfl⟩ rfl rfl hl.1 rfl (lv_room (Nat.le_of_ble_eq_true rfl)) d_Mo_hasSlab_12 ⟨Nat.zero_le _, Nat.zero_le _⟩) ?_
    refine kb_eqP (tgt := 36) hx hb d_Mo_hasSlab_15 (by decide) (fun c1 => ?_) (fun c1 => ?_)
    · refine lv_iconst (v := nI 0) hx hb d_Mo_hasSlab_36 (by decide +kernel) ?_
      refine ka_i (y := pI (row + thick ≤ side ∧ (∃ k_, k_ < cn ∧ th k_ = thick) ∧ 0 < SN ((21 * row + thick) * 22 + 0))) (pI_z (fun h => c1 h.2.1)) ?_
      exact krdz (pI_narrow _) hx hb hr hlocks d_Mo_hasSlab_37
    · refine lv_aload_n hx hb d_Mo_hasSlab_18 rfl (lv_at hl 0 rfl) ?_
      refine va_get (D := D) (ci := 6) (v := .ref m10) (C := R_Mo) (T := T_Mo) (N := 22) hx hb hts (fun w h => List.mem_cons_of_mem _ (iw_Mo w h)) hown hK hP 0 rfl rfl 13 (by decide) (hts _ (List.mem_cons_of_mem _ k_558)) (fun _ h9 => h9) rfl d_Mo_hasSlab_19 ?_
      refine lv_iload_n hx hb d_Mo_hasSlab_22 rfl (lv_at hl 1 rfl) ?_
      refine lv_iload_n hx hb d_Mo_hasSlab_23 rfl (lv_at hl 2 rfl) ?_
      refine lv_iconst (v := nI 0) hx hb d_Mo_hasSlab_24 (by decide +kernel) ?_
      refine kcallR (r := .int (nI ((21 * row + thick) * 22 + 0))) (va_runS (As := [.int (nI row), .int (nI thick), .int (nI 0)]) (rest := [.ref m10]) ⟨hx, hb, hml, hown, hts⟩ (m_cell2 l D cI cJ cZ row thick 0 ) ⟨callB_of 3 hts (gd kc_Mo_cell2) rfl rfl rfl (hts _ (List.mem_cons_of_mem _ k_8)) (hts _ (List.mem_cons_of_mem _ k_664)) (by decide +kernel) ⟨Nat.le_of_ble_eq_true rfl, Nat.le_of_ble_eq_true rfl⟩, hts _ (List.mem_cons_of_mem _ k_665)⟩ ⟨kR_blind, kR_at hP hK hZ [] rfl⟩ rfl rfl hl.1 rfl (lv_room (Nat.le_of_ble_eq_true rfl)) d_Mo_hasSlab_25 ⟨Nat.zero_le _, Nat.zero_le _⟩) ?_
      refine ka_iald (k := ((21 * row + thick) * 22 + 0)) (n := 9702) (f := fun j => nI (SN j)) (nI_t (by omega)) (by omega) hx hb hK hP 2 0 rfl rfl d_Mo_hasSlab_28 ?_
      refine kb_le (tgt := 36) (nI_t (by omega)) hx hb d_Mo_hasSlab_29 (by decide) (fun c2 => ?_) (fun c2 => ?_)
      · refine lv_iconst (v := nI 0) hx hb d_Mo_hasSlab_36 (by decide +kernel) ?_
        refine ka_i (y := pI (row + thick ≤ side ∧ (∃ k_, k_ < cn ∧ th k_ = thick) ∧ 0 < SN ((21 * row + thick) * 22 + 0))) (pI_z (fun h => by
            have h9 := h.2.2
            omega)) ?_
        exact krdz (pI_narrow _) hx hb hr hlocks d_Mo_hasSlab_37
      · refine lv_iconst (v := nI 1) hx hb d_Mo_hasSlab_32 (by decide +kernel) ?_
        refine lv_goto (tgt := 37) hx hb d_Mo_hasSlab_33 (by decide) ?_
        refine ka_i (y := pI (row + thick ≤ side ∧ (∃ k_, k_ < cn ∧ th k_ = thick) ∧ 0 < SN ((21 * row + thick) * 22 + 0))) (pI_1 (⟨by omega, c1, by omega⟩)) ?_
        exact krdz (pI_narrow _) hx hb hr hlocks d_Mo_hasSlab_37

theorem d_Mo_bareOf_0 : decode b_Mo_bareOf 0 = .ok (.aload_n 0, 1) := by decide +kernel
theorem d_Mo_bareOf_1 : decode b_Mo_bareOf 1 = .ok (.iconst 0, 1) := by decide +kernel
theorem d_Mo_bareOf_2 : decode b_Mo_bareOf 2 = .ok (.aload_n 0, 1) := by decide +kernel
theorem d_Mo_bareOf_3 : decode b_Mo_bareOf 3 = .ok (.getfield 47, 3) := by decide +kernel
theorem d_Mo_bareOf_6 : decode b_Mo_bareOf 6 = .ok (.bipush 6, 2) := by decide +kernel
theorem d_Mo_bareOf_8 : decode b_Mo_bareOf 8 = .ok (.iload_n 1, 1) := by decide +kernel
theorem d_Mo_bareOf_9 : decode b_Mo_bareOf 9 = .ok (.imul, 1) := by decide +kernel
theorem d_Mo_bareOf_10 : decode b_Mo_bareOf 10 = .ok (.iconst 1, 1) := by decide +kernel
theorem d_Mo_bareOf_11 : decode b_Mo_bareOf 11 = .ok (.iadd, 1) := by decide +kernel
theorem d_Mo_bareOf_12 : decode b_Mo_bareOf 12 = .ok (.iaload, 1) := by decide +kernel
theorem d_Mo_bareOf_13 : decode b_Mo_bareOf 13 = .ok (.aload_n 0, 1) := by decide +kernel
theorem d_Mo_bareOf_14 : decode b_Mo_bareOf 14 = .ok (.getfield 47, 3) := by decide +kernel
theorem d_Mo_bareOf_17 : decode b_Mo_bareOf 17 = .ok (.bipush 6, 2) := by decide +kernel
theorem d_Mo_bareOf_19 : decode b_Mo_bareOf 19 = .ok (.iload_n 1, 1) := by decide +kernel
theorem d_Mo_bareOf_20 : decode b_Mo_bareOf 20 = .ok (.imul, 1) := by decide +kernel
theorem d_Mo_bareOf_21 : decode b_Mo_bareOf 21 = .ok (.iconst 2, 1) := by decide +kernel
theorem d_Mo_bareOf_22 : decode b_Mo_bareOf 22 = .ok (.iadd, 1) := by decide +kernel
theorem d_Mo_bareOf_23 : decode b_Mo_bareOf 23 = .ok (.iaload, 1) := by decide +kernel
theorem d_Mo_bareOf_24 : decode b_Mo_bareOf 24 = .ok (.aload_n 0, 1) := by decide +kernel
theorem d_Mo_bareOf_25 : decode b_Mo_bareOf 25 = .ok (.getfield 47, 3) := by decide +kernel
theorem d_Mo_bareOf_28 : decode b_Mo_bareOf 28 = .ok (.bipush 6, 2) := by decide +kernel
theorem d_Mo_bareOf_30 : decode b_Mo_bareOf 30 = .ok (.iload_n 1, 1) := by decide +kernel
theorem d_Mo_bareOf_31 : decode b_Mo_bareOf 31 = .ok (.imul, 1) := by decide +kernel
theorem d_Mo_bareOf_32 : decode b_Mo_bareOf 32 = .ok (.iconst 3, 1) := by decide +kernel
theorem d_Mo_bareOf_33 : decode b_Mo_bareOf 33 = .ok (.iadd, 1) := by decide +kernel
theorem d_Mo_bareOf_34 : decode b_Mo_bareOf 34 = .ok (.iaload, 1) := by decide +kernel
theorem d_Mo_bareOf_35 : decode b_Mo_bareOf 35 = .ok (.aload_n 0, 1) := by decide +kernel
theorem d_Mo_bareOf_36 : decode b_Mo_bareOf 36 = .ok (.getfield 47, 3) := by decide +kernel
theorem d_Mo_bareOf_39 : decode b_Mo_bareOf 39 = .ok (.bipush 6, 2) := by decide +kernel
theorem d_Mo_bareOf_41 : decode b_Mo_bareOf 41 = .ok (.iload_n 1, 1) := by decide +kernel
theorem d_Mo_bareOf_42 : decode b_Mo_bareOf 42 = .ok (.imul, 1) := by decide +kernel
theorem d_Mo_bareOf_43 : decode b_Mo_bareOf 43 = .ok (.iconst 4, 1) := by decide +kernel
theorem d_Mo_bareOf_44 : decode b_Mo_bareOf 44 = .ok (.iadd, 1) := by decide +kernel
theorem d_Mo_bareOf_45 : decode b_Mo_bareOf 45 = .ok (.iaload, 1) := by decide +kernel
theorem d_Mo_bareOf_46 : decode b_Mo_bareOf 46 = .ok (.invokevirtual 86, 3) := by decide +kernel
theorem d_Mo_bareOf_49 : decode b_Mo_bareOf 49 = .ok (.ireturn, 1) := by decide +kernel
theorem d_Mo_board_0 : decode b_Mo_board 0 = .ok (.aload_n 0, 1) := by decide +kernel
theorem d_Mo_board_1 : decode b_Mo_board 1 = .ok (.aload_n 0, 1) := by decide +kernel
theorem d_Mo_board_2 : decode b_Mo_board 2 = .ok (.getfield 68, 3) := by decide +kernel
theorem d_Mo_board_5 : decode b_Mo_board 5 = .ok (.ifCond .ne 7, 3) := by decide +kernel
theorem d_Mo_board_8 : decode b_Mo_board 8 = .ok (.iconst 1, 1) := by decide +kernel
theorem d_Mo_board_9 : decode b_Mo_board 9 = .ok (.goto 32, 3) := by decide +kernel
theorem d_Mo_board_12 : decode b_Mo_board 12 = .ok (.iload_n 1, 1) := by decide +kernel
theorem d_Mo_board_13 : decode b_Mo_board 13 = .ok (.iconst 0, 1) := by decide +kernel
theorem d_Mo_board_14 : decode b_Mo_board 14 = .ok (.aload_n 0, 1) := by decide +kernel
theorem d_Mo_board_15 : decode b_Mo_board 15 = .ok (.getfield 133, 3) := by decide +kernel
theorem d_Mo_board_18 : decode b_Mo_board 18 = .ok (.iconst 1, 1) := by decide +kernel
theorem d_Mo_board_19 : decode b_Mo_board 19 = .ok (.isub, 1) := by decide +kernel
theorem d_Mo_board_20 : decode b_Mo_board 20 = .ok (.invokestatic 60, 3) := by decide +kernel
theorem d_Mo_board_23 : decode b_Mo_board 23 = .ok (.ifCond .eq 17, 3) := by decide +kernel
theorem d_Mo_board_26 : decode b_Mo_board 26 = .ok (.iload_n 2, 1) := by decide +kernel
theorem d_Mo_board_27 : decode b_Mo_board 27 = .ok (.iconst 0, 1) := by decide +kernel
theorem d_Mo_board_28 : decode b_Mo_board 28 = .ok (.bipush 6, 2) := by decide +kernel
theorem d_Mo_board_30 : decode b_Mo_board 30 = .ok (.invokestatic 60, 3) := by decide +kernel
theorem d_Mo_board_33 : decode b_Mo_board 33 = .ok (.ifCond .eq 7, 3) := by decide +kernel
theorem d_Mo_board_36 : decode b_Mo_board 36 = .ok (.iconst 0, 1) := by decide +kernel
theorem d_Mo_board_37 : decode b_Mo_board 37 = .ok (.goto 4, 3) := by decide +kernel
theorem d_Mo_board_40 : decode b_Mo_board 40 = .ok (.iconst 2, 1) := by decide +kernel
theorem d_Mo_board_41 : decode b_Mo_board 41 = .ok (.putfield 57, 3) := by decide +kernel
theorem d_Mo_board_44 : decode b_Mo_board 44 = .ok (.aload_n 0, 1) := by decide +kernel
theorem d_Mo_board_45 : decode b_Mo_board 45 = .ok (.getfield 57, 3) := by decide +kernel
theorem d_Mo_board_48 : decode b_Mo_board 48 = .ok (.ifCond .le 7, 3) := by decide +kernel
theorem d_Mo_board_51 : decode b_Mo_board 51 = .ok (.iconst 0, 1) := by decide +kernel
theorem d_Mo_board_52 : decode b_Mo_board 52 = .ok (.goto 28, 3) := by decide +kernel
theorem d_Mo_board_55 : decode b_Mo_board 55 = .ok (.iload_n 2, 1) := by decide +kernel
theorem d_Mo_board_56 : decode b_Mo_board 56 = .ok (.bipush 6, 2) := by decide +kernel
theorem d_Mo_board_58 : decode b_Mo_board 58 = .ok (.if_icmp .ge 17, 3) := by decide +kernel
theorem d_Mo_board_61 : decode b_Mo_board 61 = .ok (.aload_n 0, 1) := by decide +kernel
theorem d_Mo_board_62 : decode b_Mo_board 62 = .ok (.getfield 47, 3) := by decide +kernel
theorem d_Mo_board_65 : decode b_Mo_board 65 = .ok (.bipush 6, 2) := by decide +kernel
theorem d_Mo_board_67 : decode b_Mo_board 67 = .ok (.iload_n 1, 1) := by decide +kernel
theorem d_Mo_board_68 : decode b_Mo_board 68 = .ok (.imul, 1) := by decide +kernel
theorem d_Mo_board_69 : decode b_Mo_board 69 = .ok (.iload_n 2, 1) := by decide +kernel
theorem d_Mo_board_70 : decode b_Mo_board 70 = .ok (.iadd, 1) := by decide +kernel
theorem d_Mo_board_71 : decode b_Mo_board 71 = .ok (.iaload, 1) := by decide +kernel
theorem d_Mo_board_72 : decode b_Mo_board 72 = .ok (.goto 8, 3) := by decide +kernel
theorem d_Mo_board_75 : decode b_Mo_board 75 = .ok (.aload_n 0, 1) := by decide +kernel
theorem d_Mo_board_76 : decode b_Mo_board 76 = .ok (.iload_n 1, 1) := by decide +kernel
theorem d_Mo_board_77 : decode b_Mo_board 77 = .ok (.invokevirtual 159, 3) := by decide +kernel
theorem d_Mo_board_80 : decode b_Mo_board 80 = .ok (.ireturn, 1) := by decide +kernel
theorem d_Mo_all_0 : decode b_Mo_all 0 = .ok (.aload_n 0, 1) := by decide +kernel
theorem d_Mo_all_1 : decode b_Mo_all 1 = .ok (.aload_n 0, 1) := by decide +kernel
theorem d_Mo_all_2 : decode b_Mo_all 2 = .ok (.getfield 68, 3) := by decide +kernel
theorem d_Mo_all_5 : decode b_Mo_all 5 = .ok (.ifCond .ne 7, 3) := by decide +kernel
theorem d_Mo_all_8 : decode b_Mo_all 8 = .ok (.iconst 1, 1) := by decide +kernel
theorem d_Mo_all_9 : decode b_Mo_all 9 = .ok (.goto 17, 3) := by decide +kernel
theorem d_Mo_all_12 : decode b_Mo_all 12 = .ok (.iload_n 1, 1) := by decide +kernel
theorem d_Mo_all_13 : decode b_Mo_all 13 = .ok (.iconst 0, 1) := by decide +kernel
theorem d_Mo_all_14 : decode b_Mo_all 14 = .ok (.iconst 3, 1) := by decide +kernel
theorem d_Mo_all_15 : decode b_Mo_all 15 = .ok (.invokestatic 60, 3) := by decide +kernel
theorem d_Mo_all_18 : decode b_Mo_all 18 = .ok (.ifCond .eq 7, 3) := by decide +kernel
theorem d_Mo_all_21 : decode b_Mo_all 21 = .ok (.iconst 0, 1) := by decide +kernel
theorem d_Mo_all_22 : decode b_Mo_all 22 = .ok (.goto 4, 3) := by decide +kernel
theorem d_Mo_all_25 : decode b_Mo_all 25 = .ok (.iconst 2, 1) := by decide +kernel
theorem d_Mo_all_26 : decode b_Mo_all 26 = .ok (.putfield 57, 3) := by decide +kernel
theorem d_Mo_all_29 : decode b_Mo_all 29 = .ok (.aload_n 0, 1) := by decide +kernel
theorem d_Mo_all_30 : decode b_Mo_all 30 = .ok (.getfield 57, 3) := by decide +kernel
theorem d_Mo_all_33 : decode b_Mo_all 33 = .ok (.ifCond .le 5, 3) := by decide +kernel
theorem d_Mo_all_36 : decode b_Mo_all 36 = .ok (.iconst 0, 1) := by decide +kernel
theorem d_Mo_all_37 : decode b_Mo_all 37 = .ok (.ireturn, 1) := by decide +kernel
theorem d_Mo_all_38 : decode b_Mo_all 38 = .ok (.iload_n 1, 1) := by decide +kernel
theorem d_Mo_all_39 : decode b_Mo_all 39 = .ok (.ifCond .ne 10, 3) := by decide +kernel
theorem d_Mo_all_42 : decode b_Mo_all 42 = .ok (.aload_n 0, 1) := by decide +kernel
theorem d_Mo_all_43 : decode b_Mo_all 43 = .ok (.getfield 153, 3) := by decide +kernel
theorem d_Mo_all_46 : decode b_Mo_all 46 = .ok (.goto 31, 3) := by decide +kernel
theorem d_Mo_all_49 : decode b_Mo_all 49 = .ok (.iload_n 1, 1) := by decide +kernel
theorem d_Mo_all_50 : decode b_Mo_all 50 = .ok (.iconst 1, 1) := by decide +kernel
theorem d_Mo_all_51 : decode b_Mo_all 51 = .ok (.if_icmp .ne 10, 3) := by decide +kernel
theorem d_Mo_all_54 : decode b_Mo_all 54 = .ok (.aload_n 0, 1) := by decide +kernel
theorem d_Mo_all_55 : decode b_Mo_all 55 = .ok (.getfield 150, 3) := by decide +kernel
theorem d_Mo_all_58 : decode b_Mo_all 58 = .ok (.goto 19, 3) := by decide +kernel
theorem d_Mo_all_61 : decode b_Mo_all 61 = .ok (.iload_n 1, 1) := by decide +kernel
theorem d_Mo_all_62 : decode b_Mo_all 62 = .ok (.iconst 2, 1) := by decide +kernel
theorem d_Mo_all_63 : decode b_Mo_all 63 = .ok (.if_icmp .ne 10, 3) := by decide +kernel
theorem d_Mo_all_66 : decode b_Mo_all 66 = .ok (.aload_n 0, 1) := by decide +kernel
theorem d_Mo_all_67 : decode b_Mo_all 67 = .ok (.getfield 140, 3) := by decide +kernel
theorem d_Mo_all_70 : decode b_Mo_all 70 = .ok (.goto 7, 3) := by decide +kernel
theorem d_Mo_all_73 : decode b_Mo_all 73 = .ok (.aload_n 0, 1) := by decide +kernel
theorem d_Mo_all_74 : decode b_Mo_all 74 = .ok (.getfield 133, 3) := by decide +kernel
theorem d_Mo_all_77 : decode b_Mo_all 77 = .ok (.ireturn, 1) := by decide +kernel
theorem d_Mo_isApart_0 : decode b_Mo_isApart 0 = .ok (.aload_n 0, 1) := by decide +kernel
theorem d_Mo_isApart_1 : decode b_Mo_isApart 1 = .ok (.getfield 47, 3) := by decide +kernel
theorem d_Mo_isApart_4 : decode b_Mo_isApart 4 = .ok (.bipush 6, 2) := by decide +kernel
theorem d_Mo_isApart_6 : decode b_Mo_isApart 6 = .ok (.iload_n 1, 1) := by decide +kernel
theorem d_Mo_isApart_7 : decode b_Mo_isApart 7 = .ok (.imul, 1) := by decide +kernel
theorem d_Mo_isApart_8 : decode b_Mo_isApart 8 = .ok (.iconst 1, 1) := by decide +kernel
theorem d_Mo_isApart_9 : decode b_Mo_isApart 9 = .ok (.iadd, 1) := by decide +kernel
theorem d_Mo_isApart_10 : decode b_Mo_isApart 10 = .ok (.iload_n 3, 1) := by decide +kernel
theorem d_Mo_isApart_11 : decode b_Mo_isApart 11 = .ok (.iadd, 1) := by decide +kernel
theorem d_Mo_isApart_12 : decode b_Mo_isApart 12 = .ok (.iaload, 1) := by decide +kernel
theorem d_Mo_isApart_13 : decode b_Mo_isApart 13 = .ok (.istore 4, 2) := by decide +kernel
theorem d_Mo_isApart_15 : decode b_Mo_isApart 15 = .ok (.aload_n 0, 1) := by decide +kernel
theorem d_Mo_isApart_16 : decode b_Mo_isApart 16 = .ok (.getfield 47, 3) := by decide +kernel
theorem d_Mo_isApart_19 : decode b_Mo_isApart 19 = .ok (.bipush 6, 2) := by decide +kernel
theorem d_Mo_isApart_21 : decode b_Mo_isApart 21 = .ok (.iload_n 2, 1) := by decide +kernel
theorem d_Mo_isApart_22 : decode b_Mo_isApart 22 = .ok (.imul, 1) := by decide +kernel
theorem d_Mo_isApart_23 : decode b_Mo_isApart 23 = .ok (.iconst 1, 1) := by decide +kernel
theorem d_Mo_isApart_24 : decode b_Mo_isApart 24 = .ok (.iadd, 1) := by decide +kernel
theorem d_Mo_isApart_25 : decode b_Mo_isApart 25 = .ok (.iload_n 3, 1) := by decide +kernel
theorem d_Mo_isApart_26 : decode b_Mo_isApart 26 = .ok (.iadd, 1) := by decide +kernel
theorem d_Mo_isApart_27 : decode b_Mo_isApart 27 = .ok (.iaload, 1) := by decide +kernel
theorem d_Mo_isApart_28 : decode b_Mo_isApart 28 = .ok (.istore 5, 2) := by decide +kernel
theorem d_Mo_isApart_30 : decode b_Mo_isApart 30 = .ok (.iload 4, 2) := by decide +kernel
theorem d_Mo_isApart_32 : decode b_Mo_isApart 32 = .ok (.aload_n 0, 1) := by decide +kernel
theorem d_Mo_isApart_33 : decode b_Mo_isApart 33 = .ok (.getfield 47, 3) := by decide +kernel
theorem d_Mo_isApart_36 : decode b_Mo_isApart 36 = .ok (.bipush 6, 2) := by decide +kernel
theorem d_Mo_isApart_38 : decode b_Mo_isApart 38 = .ok (.iload_n 1, 1) := by decide +kernel
theorem d_Mo_isApart_39 : decode b_Mo_isApart 39 = .ok (.imul, 1) := by decide +kernel
theorem d_Mo_isApart_40 : decode b_Mo_isApart 40 = .ok (.iconst 3, 1) := by decide +kernel
theorem d_Mo_isApart_41 : decode b_Mo_isApart 41 = .ok (.iadd, 1) := by decide +kernel
theorem d_Mo_isApart_42 : decode b_Mo_isApart 42 = .ok (.iload_n 3, 1) := by decide +kernel
theorem d_Mo_isApart_43 : decode b_Mo_isApart 43 = .ok (.iadd, 1) := by decide +kernel
theorem d_Mo_isApart_44 : decode b_Mo_isApart 44 = .ok (.iaload, 1) := by decide +kernel
theorem d_Mo_isApart_45 : decode b_Mo_isApart 45 = .ok (.iadd, 1) := by decide +kernel
theorem d_Mo_isApart_46 : decode b_Mo_isApart 46 = .ok (.aload_n 0, 1) := by decide +kernel
theorem d_Mo_isApart_47 : decode b_Mo_isApart 47 = .ok (.getfield 54, 3) := by decide +kernel
theorem d_Mo_isApart_50 : decode b_Mo_isApart 50 = .ok (.iadd, 1) := by decide +kernel
theorem d_Mo_isApart_51 : decode b_Mo_isApart 51 = .ok (.iload 5, 2) := by decide +kernel
theorem d_Mo_isApart_53 : decode b_Mo_isApart 53 = .ok (.if_icmp .le 29, 3) := by decide +kernel
theorem d_Mo_isApart_56 : decode b_Mo_isApart 56 = .ok (.iload 5, 2) := by decide +kernel
theorem d_Mo_isApart_58 : decode b_Mo_isApart 58 = .ok (.aload_n 0, 1) := by decide +kernel
theorem d_Mo_isApart_59 : decode b_Mo_isApart 59 = .ok (.getfield 47, 3) := by decide +kernel
theorem d_Mo_isApart_62 : decode b_Mo_isApart 62 = .ok (.bipush 6, 2) := by decide +kernel
theorem d_Mo_isApart_64 : decode b_Mo_isApart 64 = .ok (.iload_n 2, 1) := by decide +kernel
theorem d_Mo_isApart_65 : decode b_Mo_isApart 65 = .ok (.imul, 1) := by decide +kernel
theorem d_Mo_isApart_66 : decode b_Mo_isApart 66 = .ok (.iconst 3, 1) := by decide +kernel
theorem d_Mo_isApart_67 : decode b_Mo_isApart 67 = .ok (.iadd, 1) := by decide +kernel
theorem d_Mo_isApart_68 : decode b_Mo_isApart 68 = .ok (.iload_n 3, 1) := by decide +kernel
theorem d_Mo_isApart_69 : decode b_Mo_isApart 69 = .ok (.iadd, 1) := by decide +kernel
theorem d_Mo_isApart_70 : decode b_Mo_isApart 70 = .ok (.iaload, 1) := by decide +kernel
theorem d_Mo_isApart_71 : decode b_Mo_isApart 71 = .ok (.iadd, 1) := by decide +kernel
theorem d_Mo_isApart_72 : decode b_Mo_isApart 72 = .ok (.aload_n 0, 1) := by decide +kernel
theorem d_Mo_isApart_73 : decode b_Mo_isApart 73 = .ok (.getfield 54, 3) := by decide +kernel
theorem d_Mo_isApart_76 : decode b_Mo_isApart 76 = .ok (.iadd, 1) := by decide +kernel
theorem d_Mo_isApart_77 : decode b_Mo_isApart 77 = .ok (.iload 4, 2) := by decide +kernel
theorem d_Mo_isApart_79 : decode b_Mo_isApart 79 = .ok (.if_icmp .gt 7, 3) := by decide +kernel
theorem d_Mo_isApart_82 : decode b_Mo_isApart 82 = .ok (.iconst 1, 1) := by decide +kernel
theorem d_Mo_isApart_83 : decode b_Mo_isApart 83 = .ok (.goto 4, 3) := by decide +kernel
theorem d_Mo_isApart_86 : decode b_Mo_isApart 86 = .ok (.iconst 0, 1) := by decide +kernel
theorem d_Mo_isApart_87 : decode b_Mo_isApart 87 = .ok (.ireturn, 1) := by decide +kernel
theorem d_Mo_apart_0 : decode b_Mo_apart 0 = .ok (.aload_n 0, 1) := by decide +kernel
theorem d_Mo_apart_1 : decode b_Mo_apart 1 = .ok (.aload_n 0, 1) := by decide +kernel
theorem d_Mo_apart_2 : decode b_Mo_apart 2 = .ok (.getfield 68, 3) := by decide +kernel
theorem d_Mo_apart_5 : decode b_Mo_apart 5 = .ok (.ifCond .ne 7, 3) := by decide +kernel
theorem d_Mo_apart_8 : decode b_Mo_apart 8 = .ok (.iconst 1, 1) := by decide +kernel
theorem d_Mo_apart_9 : decode b_Mo_apart 9 = .ok (.goto 36, 3) := by decide +kernel
theorem d_Mo_apart_12 : decode b_Mo_apart 12 = .ok (.iload_n 1, 1) := by decide +kernel
theorem d_Mo_apart_13 : decode b_Mo_apart 13 = .ok (.iconst 0, 1) := by decide +kernel
theorem d_Mo_apart_14 : decode b_Mo_apart 14 = .ok (.aload_n 0, 1) := by decide +kernel
theorem d_Mo_apart_15 : decode b_Mo_apart 15 = .ok (.getfield 133, 3) := by decide +kernel
theorem d_Mo_apart_18 : decode b_Mo_apart 18 = .ok (.iconst 1, 1) := by decide +kernel
theorem d_Mo_apart_19 : decode b_Mo_apart 19 = .ok (.isub, 1) := by decide +kernel
theorem d_Mo_apart_20 : decode b_Mo_apart 20 = .ok (.invokestatic 60, 3) := by decide +kernel
theorem d_Mo_apart_23 : decode b_Mo_apart 23 = .ok (.ifCond .eq 21, 3) := by decide +kernel
theorem d_Mo_apart_26 : decode b_Mo_apart 26 = .ok (.iload_n 2, 1) := by decide +kernel
theorem d_Mo_apart_27 : decode b_Mo_apart 27 = .ok (.iconst 0, 1) := by decide +kernel
theorem d_Mo_apart_28 : decode b_Mo_apart 28 = .ok (.aload_n 0, 1) := by decide +kernel
theorem d_Mo_apart_29 : decode b_Mo_apart 29 = .ok (.getfield 133, 3) := by decide +kernel
theorem d_Mo_apart_32 : decode b_Mo_apart 32 = .ok (.iconst 1, 1) := by decide +kernel
theorem d_Mo_apart_33 : decode b_Mo_apart 33 = .ok (.isub, 1) := by decide +kernel
theorem d_Mo_apart_34 : decode b_Mo_apart 34 = .ok (.invokestatic 60, 3) := by decide +kernel
theorem d_Mo_apart_37 : decode b_Mo_apart 37 = .ok (.ifCond .eq 7, 3) := by decide +kernel
theorem d_Mo_apart_40 : decode b_Mo_apart 40 = .ok (.iconst 0, 1) := by decide +kernel
theorem d_Mo_apart_41 : decode b_Mo_apart 41 = .ok (.goto 4, 3) := by decide +kernel
theorem d_Mo_apart_44 : decode b_Mo_apart 44 = .ok (.iconst 2, 1) := by decide +kernel
theorem d_Mo_apart_45 : decode b_Mo_apart 45 = .ok (.putfield 57, 3) := by decide +kernel
theorem d_Mo_apart_48 : decode b_Mo_apart 48 = .ok (.aload_n 0, 1) := by decide +kernel
theorem d_Mo_apart_49 : decode b_Mo_apart 49 = .ok (.getfield 57, 3) := by decide +kernel
theorem d_Mo_apart_52 : decode b_Mo_apart 52 = .ok (.ifCond .ne 27, 3) := by decide +kernel
theorem d_Mo_apart_55 : decode b_Mo_apart 55 = .ok (.aload_n 0, 1) := by decide +kernel
theorem d_Mo_apart_56 : decode b_Mo_apart 56 = .ok (.iload_n 1, 1) := by decide +kernel
theorem d_Mo_apart_57 : decode b_Mo_apart 57 = .ok (.iload_n 2, 1) := by decide +kernel
theorem d_Mo_apart_58 : decode b_Mo_apart 58 = .ok (.iconst 0, 1) := by decide +kernel
theorem d_Mo_apart_59 : decode b_Mo_apart 59 = .ok (.invokevirtual 167, 3) := by decide +kernel
theorem d_Mo_apart_62 : decode b_Mo_apart 62 = .ok (.ifCond .ne 13, 3) := by decide +kernel
theorem d_Mo_apart_65 : decode b_Mo_apart 65 = .ok (.aload_n 0, 1) := by decide +kernel
theorem d_Mo_apart_66 : decode b_Mo_apart 66 = .ok (.iload_n 1, 1) := by decide +kernel
theorem d_Mo_apart_67 : decode b_Mo_apart 67 = .ok (.iload_n 2, 1) := by decide +kernel
theorem d_Mo_apart_68 : decode b_Mo_apart 68 = .ok (.iconst 1, 1) := by decide +kernel
theorem d_Mo_apart_69 : decode b_Mo_apart 69 = .ok (.invokevirtual 167, 3) := by decide +kernel
theorem d_Mo_apart_72 : decode b_Mo_apart 72 = .ok (.ifCond .eq 7, 3) := by decide +kernel
theorem d_Mo_apart_75 : decode b_Mo_apart 75 = .ok (.iconst 1, 1) := by decide +kernel
theorem d_Mo_apart_76 : decode b_Mo_apart 76 = .ok (.goto 4, 3) := by decide +kernel
theorem d_Mo_apart_79 : decode b_Mo_apart 79 = .ok (.iconst 0, 1) := by decide +kernel
theorem d_Mo_apart_80 : decode b_Mo_apart 80 = .ok (.ireturn, 1) := by decide +kernel
theorem d_Mo_yields_0 : decode b_Mo_yields 0 = .ok (.aload_n 0, 1) := by decide +kernel
theorem d_Mo_yields_1 : decode b_Mo_yields 1 = .ok (.aload_n 0, 1) := by decide +kernel
theorem d_Mo_yields_2 : decode b_Mo_yields 2 = .ok (.getfield 68, 3) := by decide +kernel
theorem d_Mo_yields_5 : decode b_Mo_yields 5 = .ok (.ifCond .ne 7, 3) := by decide +kernel
theorem d_Mo_yields_8 : decode b_Mo_yields 8 = .ok (.iconst 1, 1) := by decide +kernel
theorem d_Mo_yields_9 : decode b_Mo_yields 9 = .ok (.goto 17, 3) := by decide +kernel
theorem d_Mo_yields_12 : decode b_Mo_yields 12 = .ok (.iload_n 1, 1) := by decide +kernel
theorem d_Mo_yields_13 : decode b_Mo_yields 13 = .ok (.iconst 0, 1) := by decide +kernel
theorem d_Mo_yields_14 : decode b_Mo_yields 14 = .ok (.iconst 1, 1) := by decide +kernel
theorem d_Mo_yields_15 : decode b_Mo_yields 15 = .ok (.invokestatic 60, 3) := by decide +kernel
theorem d_Mo_yields_18 : decode b_Mo_yields 18 = .ok (.ifCond .eq 7, 3) := by decide +kernel
theorem d_Mo_yields_21 : decode b_Mo_yields 21 = .ok (.iconst 0, 1) := by decide +kernel
theorem d_Mo_yields_22 : decode b_Mo_yields 22 = .ok (.goto 4, 3) := by decide +kernel
theorem d_Mo_yields_25 : decode b_Mo_yields 25 = .ok (.iconst 2, 1) := by decide +kernel
theorem d_Mo_yields_26 : decode b_Mo_yields 26 = .ok (.putfield 57, 3) := by decide +kernel
theorem d_Mo_yields_29 : decode b_Mo_yields 29 = .ok (.aload_n 0, 1) := by decide +kernel
theorem d_Mo_yields_30 : decode b_Mo_yields 30 = .ok (.getfield 57, 3) := by decide +kernel
theorem d_Mo_yields_33 : decode b_Mo_yields 33 = .ok (.ifCond .le 5, 3) := by decide +kernel
theorem d_Mo_yields_36 : decode b_Mo_yields 36 = .ok (.iconst 0, 1) := by decide +kernel
theorem d_Mo_yields_37 : decode b_Mo_yields 37 = .ok (.ireturn, 1) := by decide +kernel
theorem d_Mo_yields_38 : decode b_Mo_yields 38 = .ok (.aload_n 0, 1) := by decide +kernel
theorem d_Mo_yields_39 : decode b_Mo_yields 39 = .ok (.invokevirtual 163, 3) := by decide +kernel
theorem d_Mo_yields_42 : decode b_Mo_yields 42 = .ok (.istore_n 2, 1) := by decide +kernel
theorem d_Mo_yields_43 : decode b_Mo_yields 43 = .ok (.iconst 0, 1) := by decide +kernel
theorem d_Mo_yields_44 : decode b_Mo_yields 44 = .ok (.istore_n 3, 1) := by decide +kernel
theorem d_Mo_yields_45 : decode b_Mo_yields 45 = .ok (.iconst 0, 1) := by decide +kernel
theorem d_Mo_yields_46 : decode b_Mo_yields 46 = .ok (.istore 4, 2) := by decide +kernel
theorem d_Mo_yields_48 : decode b_Mo_yields 48 = .ok (.iload 4, 2) := by decide +kernel
theorem d_Mo_yields_50 : decode b_Mo_yields 50 = .ok (.aload_n 0, 1) := by decide +kernel
theorem d_Mo_yields_51 : decode b_Mo_yields 51 = .ok (.getfield 133, 3) := by decide +kernel
theorem d_Mo_yields_54 : decode b_Mo_yields 54 = .ok (.if_icmp .ge 37, 3) := by decide +kernel
theorem d_Mo_yields_57 : decode b_Mo_yields 57 = .ok (.iload_n 3, 1) := by decide +kernel
theorem d_Mo_yields_58 : decode b_Mo_yields 58 = .ok (.aload_n 0, 1) := by decide +kernel
theorem d_Mo_yields_59 : decode b_Mo_yields 59 = .ok (.getfield 47, 3) := by decide +kernel
theorem d_Mo_yields_62 : decode b_Mo_yields 62 = .ok (.bipush 6, 2) := by decide +kernel
theorem d_Mo_yields_64 : decode b_Mo_yields 64 = .ok (.iload 4, 2) := by decide +kernel
theorem d_Mo_yields_66 : decode b_Mo_yields 66 = .ok (.imul, 1) := by decide +kernel
theorem d_Mo_yields_67 : decode b_Mo_yields 67 = .ok (.iconst 3, 1) := by decide +kernel
theorem d_Mo_yields_68 : decode b_Mo_yields 68 = .ok (.iadd, 1) := by decide +kernel
theorem d_Mo_yields_69 : decode b_Mo_yields 69 = .ok (.iaload, 1) := by decide +kernel
theorem d_Mo_yields_70 : decode b_Mo_yields 70 = .ok (.aload_n 0, 1) := by decide +kernel
theorem d_Mo_yields_71 : decode b_Mo_yields 71 = .ok (.getfield 47, 3) := by decide +kernel
theorem d_Mo_yields_74 : decode b_Mo_yields 74 = .ok (.bipush 6, 2) := by decide +kernel
theorem d_Mo_yields_76 : decode b_Mo_yields 76 = .ok (.iload 4, 2) := by decide +kernel
theorem d_Mo_yields_78 : decode b_Mo_yields 78 = .ok (.imul, 1) := by decide +kernel
theorem d_Mo_yields_79 : decode b_Mo_yields 79 = .ok (.iconst 4, 1) := by decide +kernel
theorem d_Mo_yields_80 : decode b_Mo_yields 80 = .ok (.iadd, 1) := by decide +kernel
theorem d_Mo_yields_81 : decode b_Mo_yields 81 = .ok (.iaload, 1) := by decide +kernel
theorem d_Mo_yields_82 : decode b_Mo_yields 82 = .ok (.imul, 1) := by decide +kernel
theorem d_Mo_yields_83 : decode b_Mo_yields 83 = .ok (.iadd, 1) := by decide +kernel
theorem d_Mo_yields_84 : decode b_Mo_yields 84 = .ok (.istore_n 3, 1) := by decide +kernel
theorem d_Mo_yields_85 : decode b_Mo_yields 85 = .ok (.iinc 4 1, 3) := by decide +kernel
theorem d_Mo_yields_88 : decode b_Mo_yields 88 = .ok (.goto (-40), 3) := by decide +kernel
theorem d_Mo_yields_91 : decode b_Mo_yields 91 = .ok (.iload_n 2, 1) := by decide +kernel
theorem d_Mo_yields_92 : decode b_Mo_yields 92 = .ok (.ifCond .ne 5, 3) := by decide +kernel
theorem d_Mo_yields_95 : decode b_Mo_yields 95 = .ok (.iload_n 1, 1) := by decide +kernel
theorem d_Mo_yields_96 : decode b_Mo_yields 96 = .ok (.ireturn, 1) := by decide +kernel
theorem d_Mo_yields_97 : decode b_Mo_yields 97 = .ok (.iload_n 3, 1) := by decide +kernel
theorem d_Mo_yields_98 : decode b_Mo_yields 98 = .ok (.istore 4, 2) := by decide +kernel
theorem d_Mo_yields_100 : decode b_Mo_yields 100 = .ok (.iload_n 2, 1) := by decide +kernel
theorem d_Mo_yields_101 : decode b_Mo_yields 101 = .ok (.istore 5, 2) := by decide +kernel
theorem d_Mo_yields_103 : decode b_Mo_yields 103 = .ok (.iload 5, 2) := by decide +kernel
theorem d_Mo_yields_105 : decode b_Mo_yields 105 = .ok (.ifCond .eq 21, 3) := by decide +kernel
theorem d_Mo_yields_108 : decode b_Mo_yields 108 = .ok (.iload 4, 2) := by decide +kernel
theorem d_Mo_yields_110 : decode b_Mo_yields 110 = .ok (.iload 5, 2) := by decide +kernel
theorem d_Mo_yields_112 : decode b_Mo_yields 112 = .ok (.irem, 1) := by decide +kernel
theorem d_Mo_yields_113 : decode b_Mo_yields 113 = .ok (.istore 6, 2) := by decide +kernel
theorem d_Mo_yields_115 : decode b_Mo_yields 115 = .ok (.iload 5, 2) := by decide +kernel
theorem d_Mo_yields_117 : decode b_Mo_yields 117 = .ok (.istore 4, 2) := by decide +kernel
theorem d_Mo_yields_119 : decode b_Mo_yields 119 = .ok (.iload 6, 2) := by decide +kernel
theorem d_Mo_yields_121 : decode b_Mo_yields 121 = .ok (.istore 5, 2) := by decide +kernel
theorem d_Mo_yields_123 : decode b_Mo_yields 123 = .ok (.goto (-20), 3) := by decide +kernel
theorem d_Mo_yields_126 : decode b_Mo_yields 126 = .ok (.iload_n 1, 1) := by decide +kernel
theorem d_Mo_yields_127 : decode b_Mo_yields 127 = .ok (.ifCond .ne 10, 3) := by decide +kernel
theorem d_Mo_yields_130 : decode b_Mo_yields 130 = .ok (.iload_n 3, 1) := by decide +kernel
theorem d_Mo_yields_131 : decode b_Mo_yields 131 = .ok (.iload 4, 2) := by decide +kernel
theorem d_Mo_yields_133 : decode b_Mo_yields 133 = .ok (.idiv, 1) := by decide +kernel
theorem d_Mo_yields_134 : decode b_Mo_yields 134 = .ok (.goto 7, 3) := by decide +kernel
theorem d_Mo_yields_137 : decode b_Mo_yields 137 = .ok (.iload_n 2, 1) := by decide +kernel
theorem d_Mo_yields_138 : decode b_Mo_yields 138 = .ok (.iload 4, 2) := by decide +kernel
theorem d_Mo_yields_140 : decode b_Mo_yields 140 = .ok (.idiv, 1) := by decide +kernel
theorem d_Mo_yields_141 : decode b_Mo_yields 141 = .ok (.ireturn, 1) := by decide +kernel
set_option maxHeartbeats 4000000 in
set_option maxRecDepth 100000 in
theorem m_overR (l : Launch) (D : va_G) (cI cJ cZ : ClassId) (mo : Nat) (thr : Nat) (side : Nat) (kf : Nat) (m1 : Nat) (m2 : Nat) (cn : Nat) (m3 : Nat) (m4 : Nat) (m5 : Nat) (m6 : Nat) (m7 : Nat) (m8 : Nat) (m9 : Nat) (m10 : Nat) (m11 : Nat) (m12 : Nat) (sw : Prop) (tn : Nat) (tot : Nat) (psl : Nat) (pc_ : Nat) (m13 : Nat) (F3 : Nat → Nat) (x : Nat) (y : Nat) (w_ : Nat) (h_ : Nat) (g1 : x + w_ ≤ 20) (g2 : y + h_ ≤ 20) : kRead l y_Mo_over w_Mo_over ({ frames := 0, cells := 0, slots := 0, locals := 0 }) D vwCl (tyL cI cJ cZ) [(mo, .inr (6, [.int (nI thr), .int (nI side), .int (nI kf), .ref m1, .ref m2, .int (nI cn), .ref m3, .ref m4, .ref m5, .ref m6, .ref m7, .ref m8, .ref m9, .ref m10, .ref m11, .ref m12, .int (pI sw), .int (nI tn), .int (nI tot), .int (nI psl), .int (nI pc_), .ref m13])), (m7, .inl (cI, 441, .inl (fun j => nI (F3 j))))] [.ref mo, .int (nI 0), .int (nI x), .int (nI y), .int (nI w_), .int (nI h_)] (.int (iI (((F3 (21 * (y + h_) + x + w_) : Nat) : Int) - ((F3 (21 * (y + h_) + x) : Nat) : Int) - ((F3 (21 * y + x + w_) : Nat) : Int) + ((F3 (21 * y + x) : Nat) : Int)))) := by
  refine Met.ofW (cc := b_Mo_over) (maxL := 8) (ret := (some (.int))) (by decide) rfl ?_
  intro p e s m args below meth c s₁ B hml hv
  obtain ⟨rfl, hP, hK, hZ⟩ := hv
  have hx := B.exec
  have hb := B.bytes
  have hr := B.returns
  have hts := atoms_spec (ws := w_Mo_over) B.pre
  have hown : s.vm.findClass R_Mo = some m.cls := findClass_of_methodNamed B.named
  have hlocks := B.notSynchronized
  have hP : va_P D vwCl [(mo, .inr (6, [.int (nI thr), .int (nI side), .int (nI kf), .ref m1, .ref m2, .int (nI cn), .ref m3, .ref m4, .ref m5, .ref m6, .ref m7, .ref m8, .ref m9, .ref m10, .ref m11, .ref m12, .int (pI sw), .int (nI tn), .int (nI tot), .int (nI psl), .int (nI pc_), .ref m13])), (m7, .inl (cI, 441, .inl (fun j => nI (F3 j))))] s.heap := hP
  have hl := lv_entry ([.ref mo, .int (nI 0), .int (nI x), .int (nI y), .int (nI w_), .int (nI h_)]) (n := 8) (Nat.le_of_ble_eq_true rfl)
  rw [lg_entry_eq]
  generalize (lg_sl ([.ref mo, .int (nI 0), .int (nI x), .int (nI y), .int (nI w_), .int (nI h_)]) ++ List.replicate (8 - (lg_sl ([.ref mo, .int (nI 0), .int (nI x), .int (nI y), .int (nI w_), .int (nI h_)])).length) Slot.unset).toArray = ls at hl ⊢
  have hl : lv_has ls 8 [(0, .ref mo), (1, .int (nI 0)), (2, .int (nI x)), (3, .int (nI y)), (4, .int (nI w_)), (5, .int (nI h_))] := hl
  refine lv_bipush (v := nI 21) hx hb d_Mo_over_0 (by decide +kernel) ?_
  refine lv_iload_n hx hb d_Mo_over_2 rfl (lv_at hl 3 rfl) ?_
  refine lv_imul hx hb d_Mo_over_3 ?_
  refine ka_i (y := nI (21 * y)) (pk_mul _ _) ?_
  refine lv_iload_n hx hb d_Mo_over_4 rfl (lv_at hl 2 rfl) ?_
  refine lv_iadd hx hb d_Mo_over_5 ?_
  refine ka_i (y := nI ((21 * y) + x)) (nI_add _ _) ?_
  refine lv_istore (lv' := [(6, .int (nI ((21 * y) + x))), (0, .ref mo), (1, .int (nI 0)), (2, .int (nI x)), (3, .int (nI y)), (4, .int (nI w_)), (5, .int (nI h_))]) hx hb d_Mo_over_6 hl (by decide) rfl (fun ls hl => ?_)
  refine lv_bipush (v := nI 21) hx hb d_Mo_over_8 (by decide +kernel) ?_
  refine lv_iload_n hx hb d_Mo_over_10 rfl (lv_at hl 4 rfl) ?_
  refine lv_iload hx hb d_Mo_over_11 (lv_at hl 6 rfl) ?_
  refine lv_iadd hx hb d_Mo_over_13 ?_
  refine ka_i (y := nI (y + h_)) (nI_add _ _) ?_
  refine lv_imul hx hb d_Mo_over_14 ?_
  refine ka_i (y := nI (21 * (y + h_))) (pk_mul _ _) ?_
  refine lv_iload_n hx hb d_Mo_over_15 rfl (lv_at hl 3 rfl) ?_
  refine lv_iadd hx hb d_Mo_over_16 ?_
  refine ka_i (y := nI ((21 * (y + h_)) + x)) (nI_add _ _) ?_
  refine lv_istore (lv' := [(7, .int (nI ((21 * (y + h_)) + x))), (6, .int (nI ((21 * y) + x))), (0, .ref mo), (1, .int (nI 0)), (2, .int (nI x)), (3, .int (nI y)), (4, .int (nI w_)), (5, .int (nI h_))]) hx hb d_Mo_over_17 hl (by decide) rfl (fun ls hl => ?_)
  refine lv_iload_n hx hb d_Mo_over_19 rfl (lv_at hl 3 rfl) ?_
  refine kb_eq (tgt := 63) (nI_t (by omega)) hx hb d_Mo_over_20 (by decide) (fun c_20 => ?_) (fun c_20 => ?_)
  · refine lv_aload_n hx hb d_Mo_over_63 rfl (lv_at hl 2 rfl) ?_
    refine va_get (D := D) (ci := 6) (v := .ref m7) (C := R_Mo) (T := T_Mo) (N := 22) hx hb hts (fun w h => List.mem_cons_of_mem _ (iw_Mo w h)) hown hK hP 0 rfl rfl 10 (by decide) (hts _ (List.mem_cons_of_mem _ k_555)) (fun _ h9 => h9) rfl d_Mo_over_64 ?_
    refine lv_iload hx hb d_Mo_over_67 (lv_at hl 0 rfl) ?_
    refine lv_iload hx hb d_Mo_over_69 (lv_at hl 6 rfl) ?_
    refine lv_iadd hx hb d_Mo_over_71 ?_
    refine ka_i (y := nI (((21 * (y + h_)) + x) + w_)) (nI_add _ _) ?_
    refine ka_iald (k := (((21 * (y + h_)) + x) + w_)) (n := 441) (f := fun j => nI (F3 j)) (nI_t (by omega)) (by omega) hx hb hK hP 1 0 rfl rfl d_Mo_over_72 ?_
    refine lv_aload_n hx hb d_Mo_over_73 rfl (lv_at hl 2 rfl) ?_
    refine va_get (D := D) (ci := 6) (v := .ref m7) (C := R_Mo) (T := T_Mo) (N := 22) hx hb hts (fun w h => List.mem_cons_of_mem _ (iw_Mo w h)) hown hK hP 0 rfl rfl 10 (by decide) (hts _ (List.mem_cons_of_mem _ k_555)) (fun _ h9 => h9) rfl d_Mo_over_74 ?_
    refine lv_iload hx hb d_Mo_over_77 (lv_at hl 0 rfl) ?_
    refine ka_iald (k := ((21 * (y + h_)) + x)) (n := 441) (f := fun j => nI (F3 j)) (nI_t (by omega)) (by omega) hx hb hK hP 1 0 rfl rfl d_Mo_over_79 ?_
    refine lv_isub hx hb d_Mo_over_80 ?_
    refine ka_i (y := iI (((F3 (((21 * (y + h_)) + x) + w_) : Nat) : Int) - ((F3 ((21 * (y + h_)) + x) : Nat) : Int))) (by rw [iI_of (F3 (((21 * (y + h_)) + x) + w_)), iI_of (F3 ((21 * (y + h_)) + x))]; exact iI_sub _ _) ?_
    refine lv_aload_n hx hb d_Mo_over_81 rfl (lv_at hl 2 rfl) ?_
    refine va_get (D := D) (ci := 6) (v := .ref m7) (C := R_Mo) (T := T_Mo) (N := 22) hx hb hts (fun w h => List.mem_cons_of_mem _ (iw_Mo w h)) hown hK hP 0 rfl rfl 10 (by decide) (hts _ (List.mem_cons_of_mem _ k_555)) (fun _ h9 => h9) rfl d_Mo_over_82 ?_
    refine lv_iload hx hb d_Mo_over_85 (lv_at hl 1 rfl) ?_
    refine lv_iload hx hb d_Mo_over_87 (lv_at hl 6 rfl) ?_
    refine lv_iadd hx hb d_Mo_over_89 ?_
    refine ka_i (y := nI (((21 * y) + x) + w_)) (nI_add _ _) ?_
    refine ka_iald (k := (((21 * y) + x) + w_)) (n := 441) (f := fun j => nI (F3 j)) (nI_t (by omega)) (by omega) hx hb hK hP 1 0 rfl rfl d_Mo_over_90 ?_
    refine lv_isub hx hb d_Mo_over_91 ?_
    refine ka_i (y := iI ((((F3 (((21 * (y + h_)) + x) + w_) : Nat) : Int) - ((F3 ((21 * (y + h_)) + x) : Nat) : Int)) - ((F3 (((21 * y) + x) + w_) : Nat) : Int))) (by rw [iI_of (F3 (((21 * y) + x) + w_))]; exact iI_sub _ _) ?_
    refine lv_aload_n hx hb d_Mo_over_92 rfl (lv_at hl 2 rfl) ?_
    refine va_get (D := D) (ci := 6) (v := .ref m7) (C := R_Mo) (T := T_Mo) (N := 22) hx hb hts (fun w h => List.mem_cons_of_mem _ (iw_Mo w h)) hown hK hP 0 rfl rfl 10 (by decide) (hts _ (List.mem_cons_of_mem _ k_555)) (fun _ h9 => h9) rfl d_Mo_over_93 ?_
    refine lv_iload hx hb d_Mo_over_96 (lv_at hl 1 rfl) ?_
    refine ka_iald (k := ((21 * y) + x)) (n := 441) (f := fun j => nI (F3 j)) (nI_t (by omega)) (by omega) hx hb hK hP 1 0 rfl rfl d_Mo_over_98 ?_
    refine lv_iadd hx hb d_Mo_over_99 ?_
    refine ka_i (y := iI (((((F3 (((21 * (y + h_)) + x) + w_) : Nat) : Int) - ((F3 ((21 * (y + h_)) + x) : Nat) : Int)) - ((F3 (((21 * y) + x) + w_) : Nat) : Int)) + ((F3 ((21 * y) + x) : Nat) : Int))) (by rw [iI_of (F3 ((21 * y) + x))]; exact iI_add _ _) ?_
    refine ka_i (y := iI (((F3 (21 * (y + h_) + x + w_) : Nat) : Int) - ((F3 (21 * (y + h_) + x) : Nat) : Int) - ((F3 (21 * y + x + w_) : Nat) : Int) + ((F3 (21 * y + x) : Nat) : Int))) (rfl) ?_
    exact krdi hx hb hr hlocks d_Mo_over_100
  · exfalso; omega
set_option maxHeartbeats 4000000 in
set_option maxRecDepth 100000 in
theorem m_bareOf (l : Launch) (D : va_G) (cI cJ cZ : ClassId) (mo : Nat) (thr : Nat) (side : Nat) (kf : Nat) (m1 : Nat) (m2 : Nat) (cn : Nat) (m3 : Nat) (m4 : Nat) (m5 : Nat) (m6 : Nat) (m7 : Nat) (m8 : Nat) (m9 : Nat) (m10 : Nat) (m11 : Nat) (m12 : Nat) (sw : Prop) (tn : Nat) (tot : Nat) (psl : Nat) (pc_ : Nat) (m13 : Nat) (F3 : Nat → Nat) (AT : Nat → Nat) (k : Nat) (kb : k < 400) (g1 : AT (6 * k + 1) + AT (6 * k + 3) ≤ 20) (g2 : AT (6 * k + 2) + AT (6 * k + 4) ≤ 20) : kRead l y_Mo_bareOf w_Mo_bareOf ({ frames := 1, cells := 0, slots := 0, locals := 27 }) D vwCl (tyL cI cJ cZ) [(mo, .inr (6, [.int (nI thr), .int (nI side), .int (nI kf), .ref m1, .ref m2, .int (nI cn), .ref m3, .ref m4, .ref m5, .ref m6, .ref m7, .ref m8, .ref m9, .ref m10, .ref m11, .ref m12, .int (pI sw), .int (nI tn), .int (nI tot), .int (nI psl), .int (nI pc_), .ref m13])), (m7, .inl (cI, 441, .inl (fun j => nI (F3 j)))), (m13, .inl (cI, 2400, .inl (fun j => nI (AT j))))] [.ref mo, .int (nI k)] (.int (iI (((F3 (21 * ((AT (6 * k + 2)) + (AT (6 * k + 4))) + (AT (6 * k + 1)) + (AT (6 * k + 3))) : Nat) : Int) - ((F3 (21 * ((AT (6 * k + 2)) + (AT (6 * k + 4))) + (AT (6 * k + 1))) : Nat) : Int) - ((F3 (21 * (AT (6 * k + 2)) + (AT (6 * k + 1)) + (AT (6 * k + 3))) : Nat) : Int) + ((F3 (21 * (AT (6 * k + 2)) + (AT (6 * k + 1))) : Nat) : Int)))) := by
  refine Met.ofW (cc := b_Mo_bareOf) (maxL := 2) (ret := (some (.int))) (by decide) rfl ?_
  intro p e s m args below meth c s₁ B hml hv
  obtain ⟨rfl, hP, hK, hZ⟩ := hv
  have hx := B.exec
  have hb := B.bytes
  have hr := B.returns
  have hts := atoms_spec (ws := w_Mo_bareOf) B.pre
  have hown : s.vm.findClass R_Mo = some m.cls := findClass_of_methodNamed B.named
  have hlocks := B.notSynchronized
  have hP : va_P D vwCl [(mo, .inr (6, [.int (nI thr), .int (nI side), .int (nI kf), .ref m1, .ref m2, .int (nI cn), .ref m3, .ref m4, .ref m5, .ref m6, .ref m7, .ref m8, .ref m9, .ref m10, .ref m11, .ref m12, .int (pI sw), .int (nI tn), .int (nI tot), .int (nI psl), .int (nI pc_), .ref m13])), (m7, .inl (cI, 441, .inl (fun j => nI (F3 j)))), (m13, .inl (cI, 2400, .inl (fun j => nI (AT j))))] s.heap := hP
  have hl := lv_entry ([.ref mo, .int (nI k)]) (n := 2) (Nat.le_of_ble_eq_true rfl)
  rw [lg_entry_eq]
  generalize (lg_sl ([.ref mo, .int (nI k)]) ++ List.replicate (2 - (lg_sl ([.ref mo, .int (nI k)])).length) Slot.unset).toArray = ls at hl ⊢
  have hl : lv_has ls 2 [(0, .ref mo), (1, .int (nI k))] := hl
  refine lv_aload_n hx hb d_Mo_bareOf_0 rfl (lv_at hl 0 rfl) ?_
  refine lv_iconst (v := nI 0) hx hb d_Mo_bareOf_1 (by decide +kernel) ?_
  refine lv_aload_n hx hb d_Mo_bareOf_2 rfl (lv_at hl 0 rfl) ?_
  refine va_get (D := D) (ci := 6) (v := .ref m13) (C := R_Mo) (T := T_Mo) (N := 22) hx hb hts (fun w h => List.mem_cons_of_mem _ (iw_Mo w h)) hown hK hP 0 rfl rfl 21 (by decide) (hts _ (List.mem_cons_of_mem _ k_566)) (fun _ h9 => h9) rfl d_Mo_bareOf_3 ?_
  refine lv_bipush (v := nI 6) hx hb d_Mo_bareOf_6 (by decide +kernel) ?_
  refine lv_iload_n hx hb d_Mo_bareOf_8 rfl (lv_at hl 1 rfl) ?_
  refine lv_imul hx hb d_Mo_bareOf_9 ?_
  refine ka_i (y := nI (6 * k)) (pk_mul _ _) ?_
  refine lv_iconst (v := nI 1) hx hb d_Mo_bareOf_10 (by decide +kernel) ?_
  refine lv_iadd hx hb d_Mo_bareOf_11 ?_
  refine ka_i (y := nI ((6 * k) + 1)) (nI_add _ _) ?_
  refine ka_iald (k := ((6 * k) + 1)) (n := 2400) (f := fun j => nI (AT j)) (nI_t (by omega)) (by omega) hx hb hK hP 2 0 rfl rfl d_Mo_bareOf_12 ?_
  refine lv_aload_n hx hb d_Mo_bareOf_13 rfl (lv_at hl 0 rfl) ?_
  refine va_get (D := D) (ci := 6) (v := .ref m13) (C := R_Mo) (T := T_Mo) (N := 22) hx hb hts (fun w h => List.mem_cons_of_mem _ (iw_Mo w h)) hown hK hP 0 rfl rfl 21 (by decide) (hts _ (List.mem_cons_of_mem _ k_566)) (fun _ h9 => h9) rfl d_Mo_bareOf_14 ?_
  refine lv_bipush (v := nI 6) hx hb d_Mo_bareOf_17 (by decide +kernel) ?_
  refine lv_iload_n hx hb d_Mo_bareOf_19 rfl (lv_at hl 1 rfl) ?_
  refine lv_imul hx hb d_Mo_bareOf_20 ?_
  refine ka_i (y := nI (6 * k)) (pk_mul _ _) ?_
  refine lv_iconst (v := nI 2) hx hb d_Mo_bareOf_21 (by decide +kernel) ?_
  refine lv_iadd hx hb d_Mo_bareOf_22 ?_
  refine ka_i (y := nI ((6 * k) + 2)) (nI_add _ _) ?_
  refine ka_iald (k := ((6 * k) + 2)) (n := 2400) (f := fun j => nI (AT j)) (nI_t (by omega)) (by omega) hx hb hK hP 2 0 rfl rfl d_Mo_bareOf_23 ?_
  refine lv_aload_n hx hb d_Mo_bareOf_24 rfl (lv_at hl 0 rfl) ?_
  refine va_get (D := D) (ci := 6) (v := .ref m13) (C := R_Mo) (T := T_Mo) (N := 22) hx hb hts (fun w h => List.mem_cons_of_mem _ (iw_Mo w h)) hown hK hP 0 rfl rfl 21 (by decide) (hts _ (List.mem_cons_of_mem _ k_566)) (fun _ h9 => h9) rfl d_Mo_bareOf_25 ?_
  refine lv_bipush (v := nI 6) hx hb d_Mo_bareOf_28 (by decide +kernel) ?_
  refine lv_iload_n hx hb d_Mo_bareOf_30 rfl (lv_at hl 1 rfl) ?_
  refine lv_imul hx hb d_Mo_bareOf_31 ?_
  refine ka_i (y := nI (6 * k)) (pk_mul _ _) ?_
  refine lv_iconst (v := nI 3) hx hb d_Mo_bareOf_32 (by decide +kernel) ?_
  refine lv_iadd hx hb d_Mo_bareOf_33 ?_
  refine ka_i (y := nI ((6 * k) + 3)) (nI_add _ _) ?_
  refine ka_iald (k := ((6 * k) + 3)) (n := 2400) (f := fun j => nI (AT j)) (nI_t (by omega)) (by omega) hx hb hK hP 2 0 rfl rfl d_Mo_bareOf_34 ?_
  refine lv_aload_n hx hb d_Mo_bareOf_35 rfl (lv_at hl 0 rfl) ?_
  refine va_get (D := D) (ci := 6) (v := .ref m13) (C := R_Mo) (T := T_Mo) (N := 22) hx hb hts (fun w h => List.mem_cons_of_mem _ (iw_Mo w h)) hown hK hP 0 rfl rfl 21 (by decide) (hts _ (List.mem_cons_of_mem _ k_566)) (fun _ h9 => h9) rfl d_Mo_bareOf_36 ?_
  refine lv_bipush (v := nI 6) hx hb d_Mo_bareOf_39 (by decide +kernel) ?_
  refine lv_iload_n hx hb d_Mo_bareOf_41 rfl (lv_at hl 1 rfl) ?_
  refine lv_imul hx hb d_Mo_bareOf_42 ?_
  refine ka_i (y := nI (6 * k)) (pk_mul _ _) ?_
  refine lv_iconst (v := nI 4) hx hb d_Mo_bareOf_43 (by decide +kernel) ?_
  refine lv_iadd hx hb d_Mo_bareOf_44 ?_
  refine ka_i (y := nI ((6 * k) + 4)) (nI_add _ _) ?_
  refine ka_iald (k := ((6 * k) + 4)) (n := 2400) (f := fun j => nI (AT j)) (nI_t (by omega)) (by omega) hx hb hK hP 2 0 rfl rfl d_Mo_bareOf_45 ?_
  refine kcallR (r := .int (iI (((F3 (21 * ((AT ((6 * k) + 2)) + (AT ((6 * k) + 4))) + (AT ((6 * k) + 1)) + (AT ((6 * k) + 3))) : Nat) : Int) - ((F3 (21 * ((AT ((6 * k) + 2)) + (AT ((6 * k) + 4))) + (AT ((6 * k) + 1))) : Nat) : Int) - ((F3 (21 * (AT ((6 * k) + 2)) + (AT ((6 * k) + 1)) + (AT ((6 * k) + 3))) : Nat) : Int) + ((F3 (21 * (AT ((6 * k) + 2)) + (AT ((6 * k) + 1))) : Nat) : Int)))) (va_runV (As := [.int (nI 0), .int (nI (AT ((6 * k) + 1))), .int (nI (AT ((6 * k) + 2))), .int (nI (AT ((6 * k) + 3))), .int (nI (AT ((6 * k) + 4)))]) (rest := []) ⟨hx, hb, hml, hown, hts⟩ (m_overR l D cI cJ cZ mo thr side kf m1 m2 cn m3 m4 m5 m6 m7 m8 m9 m10 m11 m12 sw tn tot psl pc_ m13 F3 (AT ((6 * k) + 1)) (AT ((6 * k) + 2)) (AT ((6 * k) + 3)) (AT ((6 * k) + 4)) (by omega) (by omega)) ⟨callB_of 5 hts (gd kc_Mo_over) rfl rfl rfl (hts _ (List.mem_cons_of_mem _ k_8)) (hts _ (List.mem_cons_of_mem _ k_683)) (by decide +kernel) ⟨Nat.le_of_ble_eq_true rfl, Nat.le_of_ble_eq_true rfl⟩, hts _ (List.mem_cons_of_mem _ k_685), hts _ (List.mem_cons_of_mem _ ks_22)⟩ ⟨kR_blind, va_recv hK hP (ci := 6) (q0 := 0) rfl rfl, kR_at hP hK hZ [0, 1] rfl⟩ rfl rfl hl.1 rfl (lv_room (Nat.le_of_ble_eq_true rfl)) d_Mo_bareOf_46 ⟨Nat.zero_le _, Nat.zero_le _⟩) ?_
  refine ka_i (y := iI (((F3 (21 * ((AT (6 * k + 2)) + (AT (6 * k + 4))) + (AT (6 * k + 1)) + (AT (6 * k + 3))) : Nat) : Int) - ((F3 (21 * ((AT (6 * k + 2)) + (AT (6 * k + 4))) + (AT (6 * k + 1))) : Nat) : Int) - ((F3 (21 * (AT (6 * k + 2)) + (AT (6 * k + 1)) + (AT (6 * k + 3))) : Nat) : Int) + ((F3 (21 * (AT (6 * k + 2)) + (AT (6 * k + 1))) : Nat) : Int))) (rfl) ?_
  exact krdi hx hb hr hlocks d_Mo_bareOf_49
set_option maxHeartbeats 4000000 in
set_option maxRecDepth 100000 in
theorem m_board (l : Launch) (D : va_G) (cI cJ cZ : ClassId) (sz : Nat) (mo : Nat) (m1 : Nat) (m2 : Nat) (m3 : Nat) (m4 : Nat) (m5 : Nat) (m6 : Nat) (m7 : Nat) (m8 : Nat) (m9 : Nat) (m10 : Nat) (m11 : Nat) (m12 : Nat) (m13 : Nat) (M : MoS) (x : Int32) (y : Int32) (hI : moI M) : Met l y_Mo_board w_Mo_board ({ frames := 2, cells := 0, slots := 0, locals := 48 }) (va_Pc [.ref mo, .int x, .int y] (kB D vwCl (tyL cI cJ cZ) sz [(mo, .inr (6, [.int (nI M.thr), .int (nI M.side), .int (nI M.kf), .ref m1, .ref m2, .int (nI M.cn), .ref m3, .ref m4, .ref m5, .ref m6, .ref m7, .ref m8, .ref m9, .ref m10, .ref m11, .ref m12, .int (pI M.sw), .int (nI M.tn), .int (nI M.tot), .int (nI M.psl), .int (nI M.pc_), .ref m13])), (m1, .inl (cZ, 800, .inl (fun j => pI (M.IN j)))), (m2, .inl (cI, 400, .inl (fun j => nI (M.LO j)))), (m3, .inl (cI, 8, .inl (fun j => nI (M.th j)))), (m4, .inl (cI, 8, .inl (fun j => nI (M.wi j)))), (m5, .inl (cI, 8, .inl (fun j => nI (M.wo j)))), (m6, .inl (cI, 8, .inl (fun j => nI (M.wn j)))), (m7, .inl (cI, 441, .inl (fun j => nI (M.F3 j)))), (m8, .inl (cI, 441, .inl (fun j => nI (M.F4 j)))), (m9, .inl (cI, 9702, .inl (fun j => nI (M.SW j)))), (m10, .inl (cI, 9702, .inl (fun j => nI (M.SN j)))), (m11, .inl (cI, 21, .inl (fun j => nI (M.RW j)))), (m12, .inl (cI, 21, .inl (fun j => nI (M.RN j)))), (m13, .inl (cI, 2400, .inl (fun j => nI (M.AT j))))])) (va_Qi (fun (r : Int32) (u : MoS) => moI u ∧ ∃ t_, u = moThr M t_) (fun (u : MoS) t => kE D vwCl (va_A [(mo, .inr (6, [.int (nI M.thr), .int (nI M.side), .int (nI M.kf), .ref m1, .ref m2, .int (nI M.cn), .ref m3, .ref m4, .ref m5, .ref m6, .ref m7, .ref m8, .ref m9, .ref m10, .ref m11, .ref m12, .int (pI M.sw), .int (nI M.tn), .int (nI M.tot), .int (nI M.psl), .int (nI M.pc_), .ref m13])), (m1, .inl (cZ, 800, .inl (fun j => pI (M.IN j)))), (m2, .inl (cI, 400, .inl (fun j => nI (M.LO j)))), (m3, .inl (cI, 8, .inl (fun j => nI (M.th j)))), (m4, .inl (cI, 8, .inl (fun j => nI (M.wi j)))), (m5, .inl (cI, 8, .inl (fun j => nI (M.wo j)))), (m6, .inl (cI, 8, .inl (fun j => nI (M.wn j)))), (m7, .inl (cI, 441, .inl (fun j => nI (M.F3 j)))), (m8, .inl (cI, 441, .inl (fun j => nI (M.F4 j)))), (m9, .inl (cI, 9702, .inl (fun j => nI (M.SW j)))), (m10, .inl (cI, 9702, .inl (fun j => nI (M.SN j)))), (m11, .inl (cI, 21, .inl (fun j => nI (M.RW j)))), (m12, .inl (cI, 21, .inl (fun j => nI (M.RN j)))), (m13, .inl (cI, 2400, .inl (fun j => nI (M.AT j))))] sz) [(mo, .inr (6, [.int (nI u.thr), .int (nI u.side), .int (nI u.kf), .ref m1, .ref m2, .int (nI u.cn), .ref m3, .ref m4, .ref m5, .ref m6, .ref m7, .ref m8, .ref m9, .ref m10, .ref m11, .ref m12, .int (pI u.sw), .int (nI u.tn), .int (nI u.tot), .int (nI u.psl), .int (nI u.pc_), .ref m13])), (m1, .inl (cZ, 800, .inl (fun j => pI (u.IN j)))), (m2, .inl (cI, 400, .inl (fun j => nI (u.LO j)))), (m3, .inl (cI, 8, .inl (fun j => nI (u.th j)))), (m4, .inl (cI, 8, .inl (fun j => nI (u.wi j)))), (m5, .inl (cI, 8, .inl (fun j => nI (u.wo j)))), (m6, .inl (cI, 8, .inl (fun j => nI (u.wn j)))), (m7, .inl (cI, 441, .inl (fun j => nI (u.F3 j)))), (m8, .inl (cI, 441, .inl (fun j => nI (u.F4 j)))), (m9, .inl (cI, 9702, .inl (fun j => nI (u.SW j)))), (m10, .inl (cI, 9702, .inl (fun j => nI (u.SN j)))), (m11, .inl (cI, 21, .inl (fun j => nI (u.RW j)))), (m12, .inl (cI, 21, .inl (fun j => nI (u.RN j)))), (m13, .inl (cI, 2400, .inl (fun j => nI (u.AT j))))] t) (va_A [(mo, .inr (6, [.int (nI M.thr), .int (nI M.side), .int (nI M.kf), .ref m1, .ref m2, .int (nI M.cn), .ref m3, .ref m4, .ref m5, .ref m6, .ref m7, .ref m8, .ref m9, .ref m10, .ref m11, .ref m12, .int (pI M.sw), .int (nI M.tn), .int (nI M.tot), .int (nI M.psl), .int (nI M.pc_), .ref m13])), (m1, .inl (cZ, 800, .inl (fun j => pI (M.IN j)))), (m2, .inl (cI, 400, .inl (fun j => nI (M.LO j)))), (m3, .inl (cI, 8, .inl (fun j => nI (M.th j)))), (m4, .inl (cI, 8, .inl (fun j => nI (M.wi j)))), (m5, .inl (cI, 8, .inl (fun j => nI (M.wo j)))), (m6, .inl (cI, 8, .inl (fun j => nI (M.wn j)))), (m7, .inl (cI, 441, .inl (fun j => nI (M.F3 j)))), (m8, .inl (cI, 441, .inl (fun j => nI (M.F4 j)))), (m9, .inl (cI, 9702, .inl (fun j => nI (M.SW j)))), (m10, .inl (cI, 9702, .inl (fun j => nI (M.SN j)))), (m11, .inl (cI, 21, .inl (fun j => nI (M.RW j)))), (m12, .inl (cI, 21, .inl (fun j => nI (M.RN j)))), (m13, .inl (cI, 2400, .inl (fun j => nI (M.AT j))))] sz)) 0 0 (va_A [(mo, .inr (6, [.int (nI M.thr), .int (nI M.side), .int (nI M.kf), .ref m1, .ref m2, .int (nI M.cn), .ref m3, .ref m4, .ref m5, .ref m6, .ref m7, .ref m8, .ref m9, .ref m10, .ref m11, .ref m12, .int (pI M.sw), .int (nI M.tn), .int (nI M.tot), .int (nI M.psl), .int (nI M.pc_), .ref m13])), (m1, .inl (cZ, 800, .inl (fun j => pI (M.IN j)))), (m2, .inl (cI, 400, .inl (fun j => nI (M.LO j)))), (m3, .inl (cI, 8, .inl (fun j => nI (M.th j)))), (m4, .inl (cI, 8, .inl (fun j => nI (M.wi j)))), (m5, .inl (cI, 8, .inl (fun j => nI (M.wo j)))), (m6, .inl (cI, 8, .inl (fun j => nI (M.wn j)))), (m7, .inl (cI, 441, .inl (fun j => nI (M.F3 j)))), (m8, .inl (cI, 441, .inl (fun j => nI (M.F4 j)))), (m9, .inl (cI, 9702, .inl (fun j => nI (M.SW j)))), (m10, .inl (cI, 9702, .inl (fun j => nI (M.SN j)))), (m11, .inl (cI, 21, .inl (fun j => nI (M.RW j)))), (m12, .inl (cI, 21, .inl (fun j => nI (M.RN j)))), (m13, .inl (cI, 2400, .inl (fun j => nI (M.AT j))))] sz) := by
  refine Met.ofW (cc := b_Mo_board) (maxL := 3) (ret := (some (.int))) (by decide) rfl ?_
  intro p e s m args below meth c s₁ B hml hv
  obtain ⟨rfl, hsz, hP, hK, hD0, hZ⟩ := hv
  have hx := B.exec
  have hb := B.bytes
  have hr := B.returns
  have hts := atoms_spec (ws := w_Mo_board) B.pre
  have hown : s.vm.findClass R_Mo = some m.cls := findClass_of_methodNamed B.named
  have hlocks := B.notSynchronized
  subst hsz
  have hD := hD0.self (sz := s.heap.size)
  generalize hAe : va_A [(mo, .inr (6, [.int (nI M.thr), .int (nI M.side), .int (nI M.kf), .ref m1, .ref m2, .int (nI M.cn), .ref m3, .ref m4, .ref m5, .ref m6, .ref m7, .ref m8, .ref m9, .ref m10, .ref m11, .ref m12, .int (pI M.sw), .int (nI M.tn), .int (nI M.tot), .int (nI M.psl), .int (nI M.pc_), .ref m13])), (m1, .inl (cZ, 800, .inl (fun j => pI (M.IN j)))), (m2, .inl (cI, 400, .inl (fun j => nI (M.LO j)))), (m3, .inl (cI, 8, .inl (fun j => nI (M.th j)))), (m4, .inl (cI, 8, .inl (fun j => nI (M.wi j)))), (m5, .inl (cI, 8, .inl (fun j => nI (M.wo j)))), (m6, .inl (cI, 8, .inl (fun j => nI (M.wn j)))), (m7, .inl (cI, 441, .inl (fun j => nI (M.F3 j)))), (m8, .inl (cI, 441, .inl (fun j => nI (M.F4 j)))), (m9, .inl (cI, 9702, .inl (fun j => nI (M.SW j)))), (m10, .inl (cI, 9702, .inl (fun j => nI (M.SN j)))), (m11, .inl (cI, 21, .inl (fun j => nI (M.RW j)))), (m12, .inl (cI, 21, .inl (fun j => nI (M.RN j)))), (m13, .inl (cI, 2400, .inl (fun j => nI (M.AT j))))] s.heap.size = A at hD ⊢
  have hA : ∀ q : Nat, s.heap.size ≤ q → A q := fun q h => by rw [← hAe]; exact Or.inr h
  have hS : va_S A s.heap s.heap [] := va_S.rf
  have hP : va_P D vwCl [(mo, .inr (6, [.int (nI M.thr), .int (nI M.side), .int (nI M.kf), .ref m1, .ref m2, .int (nI M.cn), .ref m3, .ref m4, .ref m5, .ref m6, .ref m7, .ref m8, .ref m9, .ref m10, .ref m11, .ref m12, .int (pI M.sw), .int (nI M.tn), .int (nI M.tot), .int (nI M.psl), .int (nI M.pc_), .ref m13])), (m1, .inl (cZ, 800, .inl (fun j => pI (M.IN j)))), (m2, .inl (cI, 400, .inl (fun j => nI (M.LO j)))), (m3, .inl (cI, 8, .inl (fun j => nI (M.th j)))), (m4, .inl (cI, 8, .inl (fun j => nI (M.wi j)))), (m5, .inl (cI, 8, .inl (fun j => nI (M.wo j)))), (m6, .inl (cI, 8, .inl (fun j => nI (M.wn j)))), (m7, .inl (cI, 441, .inl (fun j => nI (M.F3 j)))), (m8, .inl (cI, 441, .inl (fun j => nI (M.F4 j)))), (m9, .inl (cI, 9702, .inl (fun j => nI (M.SW j)))), (m10, .inl (cI, 9702, .inl (fun j => nI (M.SN j)))), (m11, .inl (cI, 21, .inl (fun j => nI (M.RW j)))), (m12, .inl (cI, 21, .inl (fun j => nI (M.RN j)))), (m13, .inl (cI, 2400, .inl (fun j => nI (M.AT j))))] s.heap := hP
  have hl := lv_entry ([.ref mo, .int x, .int y]) (n := 3) (Nat.le_of_ble_eq_true rfl)
  rw [lg_entry_eq]
  generalize (lg_sl ([.ref mo, .int x, .int y]) ++ List.replicate (3 - (lg_sl ([.ref mo, .int x, .int y])).length) Slot.unset).toArray = ls at hl ⊢
  have hl : lv_has ls 3 [(0, .ref mo), (1, .int x), (2, .int y)] := hl
  have s1 := hI.s1
  have s2 := hI.s2
  have k4 := hI.k4
  have n8 := hI.n8
  have ht := hI.ht
  have hw := hI.hw
  have hw1 := hI.hw1
  have ho := hI.ho
  have hn := hI.hn
  have hL := hI.hL
  have e3 := hI.e3
  have e4 := hI.e4
  have bW := hI.bW
  have bN := hI.bN
  have cW := hI.cW
  have cN := hI.cN
  have tn1 := hI.tn1
  have hpc := hI.hpc
  have hat := hI.hat
  have qq := (sq20 s2).2
  refine lv_aload_n hx hb d_Mo_board_0 rfl (lv_at hl 0 rfl) ?_
  refine lv_aload_n hx hb d_Mo_board_1 rfl (lv_at hl 0 rfl) ?_
  refine va_get (D := D) (ci := 6) (v := .int (pI M.sw)) (C := R_Mo) (T := T_Mo) (N := 22) hx hb hts (fun w h => List.mem_cons_of_mem _ (iw_Mo w h)) hown hK hP 0 rfl rfl 16 (by decide) (hts _ (List.mem_cons_of_mem _ k_561)) (fun _ h9 => h9) rfl d_Mo_board_2 ?_
  refine kb_neP (tgt := 12) hx hb d_Mo_board_5 (by decide) (fun cs => ?_) (fun cs => ?_)
  · refine lv_iload_n hx hb d_Mo_board_12 rfl (lv_at hl 1 rfl) ?_
    refine lv_iconst (v := nI 0) hx hb d_Mo_board_13 (by decide +kernel) ?_
    refine lv_aload_n hx hb d_Mo_board_14 rfl (lv_at hl 0 rfl) ?_
    refine va_get (D := D) (ci := 6) (v := .int (nI M.pc_)) (C := R_Mo) (T := T_Mo) (N := 22) hx hb hts (fun w h => List.mem_cons_of_mem _ (iw_Mo w h)) hown hK hP 0 rfl rfl 20 (by decide) (hts _ (List.mem_cons_of_mem _ k_565)) (fun _ h9 => h9) rfl d_Mo_board_15 ?_
    refine lv_iconst (v := nI 1) hx hb d_Mo_board_18 (by decide +kernel) ?_
    refine lv_isub hx hb d_Mo_board_19 ?_
    refine ka_i (y := iI (((M.pc_ : Nat) : Int) - ((1 : Nat) : Int))) (by rw [iI_of M.pc_, iI_of 1]; exact iI_sub _ _) ?_
    refine kcallR (r := .int (pI (((0 : Nat) : Int) ≤ x.toInt ∧ x.toInt ≤ (((M.pc_ : Nat) : Int) - ((1 : Nat) : Int))))) (va_runS (As := [.int x, .int (nI 0), .int (iI (((M.pc_ : Nat) : Int) - ((1 : Nat) : Int)))]) (rest := [.ref mo]) ⟨hx, hb, hml, hown, hts⟩ (m_isIn l D cI cJ cZ x (nI 0) (iI (((M.pc_ : Nat) : Int) - ((1 : Nat) : Int))) x.toInt ((0 : Nat) : Int) (((M.pc_ : Nat) : Int) - ((1 : Nat) : Int)) rfl (nI_t (by omega)) (iI_t (by omega) (by omega))) ⟨callB_of 3 hts (gd kc_Mo_isIn) rfl rfl rfl (hts _ (List.mem_cons_of_mem _ k_8)) (hts _ (List.mem_cons_of_mem _ k_620)) (by decide +kernel) ⟨Nat.le_of_ble_eq_true rfl, Nat.le_of_ble_eq_true rfl⟩, hts _ (List.mem_cons_of_mem _ k_621)⟩ ⟨kR_blind, kR_at hP hK hZ [] rfl⟩ rfl rfl hl.1 rfl (lv_room (Nat.le_of_ble_eq_true rfl)) d_Mo_board_20 ⟨Nat.zero_le _, Nat.zero_le _⟩) ?_
    refine kb_eqP (tgt := 40) hx hb d_Mo_board_23 (by decide) (fun c1 => ?_) (fun c1 => ?_)
    · refine lv_iconst (v := nI 2) hx hb d_Mo_board_40 (by decide +kernel) ?_
      refine va_put (D := D) (ci := 6) (v := .int (nI 2)) (ty := .int) (C := R_Mo) (T := T_Mo) (N := 22) hx hb hts (fun w h => List.mem_cons_of_mem _ (iw_Mo w h)) ty_Mo tyok_Mo nm_Mo hown hK hP hD hS 0 rfl rfl 0 (by decide) (hts _ (List.mem_cons_of_mem _ k_545)) (fun _ h9 => h9) rfl (by decide +kernel) (rfl) (rfl) (Nat.le_of_ble_eq_true rfl) d_Mo_board_41 (fun H locs hP hD hS => ?_)
      have hP : va_P D vwCl [(mo, .inr (6, [.int (nI 2), .int (nI M.side), .int (nI M.kf), .ref m1, .ref m2, .int (nI M.cn), .ref m3, .ref m4, .ref m5, .ref m6, .ref m7, .ref m8, .ref m9, .ref m10, .ref m11, .ref m12, .int (pI M.sw), .int (nI M.tn), .int (nI M.tot), .int (nI M.psl), .int (nI M.pc_), .ref m13])), (m1, .inl (cZ, 800, .inl (fun j => pI (M.IN j)))), (m2, .inl (cI, 400, .inl (fun j => nI (M.LO j)))), (m3, .inl (cI, 8, .inl (fun j => nI (M.th j)))), (m4, .inl (cI, 8, .inl (fun j => nI (M.wi j)))), (m5, .inl (cI, 8, .inl (fun j => nI (M.wo j)))), (m6, .inl (cI, 8, .inl (fun j => nI (M.wn j)))), (m7, .inl (cI, 441, .inl (fun j => nI (M.F3 j)))), (m8, .inl (cI, 441, .inl (fun j => nI (M.F4 j)))), (m9, .inl (cI, 9702, .inl (fun j => nI (M.SW j)))), (m10, .inl (cI, 9702, .inl (fun j => nI (M.SN j)))), (m11, .inl (cI, 21, .inl (fun j => nI (M.RW j)))), (m12, .inl (cI, 21, .inl (fun j => nI (M.RN j)))), (m13, .inl (cI, 2400, .inl (fun j => nI (M.AT j))))] H := hP
      have hD : va_D A [(mo, .inr (6, [.int (nI 2), .int (nI M.side), .int (nI M.kf), .ref m1, .ref m2, .int (nI M.cn), .ref m3, .ref m4, .ref m5, .ref m6, .ref m7, .ref m8, .ref m9, .ref m10, .ref m11, .ref m12, .int (pI M.sw), .int (nI M.tn), .int (nI M.tot), .int (nI M.psl), .int (nI M.pc_), .ref m13])), (m1, .inl (cZ, 800, .inl (fun j => pI (M.IN j)))), (m2, .inl (cI, 400, .inl (fun j => nI (M.LO j)))), (m3, .inl (cI, 8, .inl (fun j => nI (M.th j)))), (m4, .inl (cI, 8, .inl (fun j => nI (M.wi j)))), (m5, .inl (cI, 8, .inl (fun j => nI (M.wo j)))), (m6, .inl (cI, 8, .inl (fun j => nI (M.wn j)))), (m7, .inl (cI, 441, .inl (fun j => nI (M.F3 j)))), (m8, .inl (cI, 441, .inl (fun j => nI (M.F4 j)))), (m9, .inl (cI, 9702, .inl (fun j => nI (M.SW j)))), (m10, .inl (cI, 9702, .inl (fun j => nI (M.SN j)))), (m11, .inl (cI, 21, .inl (fun j => nI (M.RW j)))), (m12, .inl (cI, 21, .inl (fun j => nI (M.RN j)))), (m13, .inl (cI, 2400, .inl (fun j => nI (M.AT j))))] := hD
      refine lv_aload_n hx hb d_Mo_board_44 rfl (lv_at hl 0 rfl) ?_
      refine va_get (D := D) (ci := 6) (v := .int (nI 2)) (C := R_Mo) (T := T_Mo) (N := 22) hx hb hts (fun w h => List.mem_cons_of_mem _ (iw_Mo w h)) hown hK hP 0 rfl rfl 0 (by decide) (hts _ (List.mem_cons_of_mem _ k_545)) (fun _ h9 => h9) rfl d_Mo_board_45 ?_
      refine kb_le (tgt := 55) (nI_t (by omega)) hx hb d_Mo_board_48 (by decide) (fun c_48 => ?_) (fun c_48 => ?_)
      · exfalso; omega
      · refine lv_iconst (v := nI 0) hx hb d_Mo_board_51 (by decide +kernel) ?_
        refine lv_goto (tgt := 80) hx hb d_Mo_board_52 (by decide) ?_
        exact kreti (u := moThr M 2) hx hb hr hP hD hS hlocks rfl (⟨moI_thr hI 2, 2, rfl⟩) d_Mo_board_80
    · refine lv_iload_n hx hb d_Mo_board_26 rfl (lv_at hl 2 rfl) ?_
      refine lv_iconst (v := nI 0) hx hb d_Mo_board_27 (by decide +kernel) ?_
      refine lv_bipush (v := nI 6) hx hb d_Mo_board_28 (by decide +kernel) ?_
      refine kcallR (r := .int (pI (((0 : Nat) : Int) ≤ y.toInt ∧ y.toInt ≤ ((6 : Nat) : Int)))) (va_runS (As := [.int y, .int (nI 0), .int (nI 6)]) (rest := [.ref mo]) ⟨hx, hb, hml, hown, hts⟩ (m_isIn l D cI cJ cZ y (nI 0) (nI 6) y.toInt ((0 : Nat) : Int) ((6 : Nat) : Int) rfl (nI_t (by omega)) (nI_t (by omega))) ⟨callB_of 3 hts (gd kc_Mo_isIn) rfl rfl rfl (hts _ (List.mem_cons_of_mem _ k_8)) (hts _ (List.mem_cons_of_mem _ k_620)) (by decide +kernel) ⟨Nat.le_of_ble_eq_true rfl, Nat.le_of_ble_eq_true rfl⟩, hts _ (List.mem_cons_of_mem _ k_621)⟩ ⟨kR_blind, kR_at hP hK hZ [] rfl⟩ rfl rfl hl.1 rfl (lv_room (Nat.le_of_ble_eq_true rfl)) d_Mo_board_30 ⟨Nat.zero_le _, Nat.zero_le _⟩) ?_
      refine kb_eqP (tgt := 40) hx hb d_Mo_board_33 (by decide) (fun c2 => ?_) (fun c2 => ?_)
      · refine lv_iconst (v := nI 2) hx hb d_Mo_board_40 (by decide +kernel) ?_
        refine va_put (D := D) (ci := 6) (v := .int (nI 2)) (ty := .int) (C := R_Mo) (T := T_Mo) (N := 22) hx hb hts (fun w h => List.mem_cons_of_mem _ (iw_Mo w h)) ty_Mo tyok_Mo nm_Mo hown hK hP hD hS 0 rfl rfl 0 (by decide) (hts _ (List.mem_cons_of_mem _ k_545)) (fun _ h9 => h9) rfl (by decide +kernel) (rfl) (rfl) (Nat.le_of_ble_eq_true rfl) d_Mo_board_41 (fun H locs hP hD hS => ?_)
        have hP : va_P D vwCl [(mo, .inr (6, [.int (nI 2), .int (nI M.side), .int (nI M.kf), .ref m1, .ref m2, .int (nI M.cn), .ref m3, .ref m4, .ref m5, .ref m6, .ref m7, .ref m8, .ref m9, .ref m10, .ref m11, .ref m12, .int (pI M.sw), .int (nI M.tn), .int (nI M.tot), .int (nI M.psl), .int (nI M.pc_), .ref m13])), (m1, .inl (cZ, 800, .inl (fun j => pI (M.IN j)))), (m2, .inl (cI, 400, .inl (fun j => nI (M.LO j)))), (m3, .inl (cI, 8, .inl (fun j => nI (M.th j)))), (m4, .inl (cI, 8, .inl (fun j => nI (M.wi j)))), (m5, .inl (cI, 8, .inl (fun j => nI (M.wo j)))), (m6, .inl (cI, 8, .inl (fun j => nI (M.wn j)))), (m7, .inl (cI, 441, .inl (fun j => nI (M.F3 j)))), (m8, .inl (cI, 441, .inl (fun j => nI (M.F4 j)))), (m9, .inl (cI, 9702, .inl (fun j => nI (M.SW j)))), (m10, .inl (cI, 9702, .inl (fun j => nI (M.SN j)))), (m11, .inl (cI, 21, .inl (fun j => nI (M.RW j)))), (m12, .inl (cI, 21, .inl (fun j => nI (M.RN j)))), (m13, .inl (cI, 2400, .inl (fun j => nI (M.AT j))))] H := hP
        have hD : va_D A [(mo, .inr (6, [.int (nI 2), .int (nI M.side), .int (nI M.kf), .ref m1, .ref m2, .int (nI M.cn), .ref m3, .ref m4, .ref m5, .ref m6, .ref m7, .ref m8, .ref m9, .ref m10, .ref m11, .ref m12, .int (pI M.sw), .int (nI M.tn), .int (nI M.tot), .int (nI M.psl), .int (nI M.pc_), .ref m13])), (m1, .inl (cZ, 800, .inl (fun j => pI (M.IN j)))), (m2, .inl (cI, 400, .inl (fun j => nI (M.LO j)))), (m3, .inl (cI, 8, .inl (fun j => nI (M.th j)))), (m4, .inl (cI, 8, .inl (fun j => nI (M.wi j)))), (m5, .inl (cI, 8, .inl (fun j => nI (M.wo j)))), (m6, .inl (cI, 8, .inl (fun j => nI (M.wn j)))), (m7, .inl (cI, 441, .inl (fun j => nI (M.F3 j)))), (m8, .inl (cI, 441, .inl (fun j => nI (M.F4 j)))), (m9, .inl (cI, 9702, .inl (fun j => nI (M.SW j)))), (m10, .inl (cI, 9702, .inl (fun j => nI (M.SN j)))), (m11, .inl (cI, 21, .inl (fun j => nI (M.RW j)))), (m12, .inl (cI, 21, .inl (fun j => nI (M.RN j)))), (m13, .inl (cI, 2400, .inl (fun j => nI (M.AT j))))] := hD
        refine lv_aload_n hx hb d_Mo_board_44 rfl (lv_at hl 0 rfl) ?_
        refine va_get (D := D) (ci := 6) (v := .int (nI 2)) (C := R_Mo) (T := T_Mo) (N := 22) hx hb hts (fun w h => List.mem_cons_of_mem _ (iw_Mo w h)) hown hK hP 0 rfl rfl 0 (by decide) (hts _ (List.mem_cons_of_mem _ k_545)) (fun _ h9 => h9) rfl d_Mo_board_45 ?_
        refine kb_le (tgt := 55) (nI_t (by omega)) hx hb d_Mo_board_48 (by decide) (fun c_48 => ?_) (fun c_48 => ?_)
        · exfalso; omega
        · refine lv_iconst (v := nI 0) hx hb d_Mo_board_51 (by decide +kernel) ?_
          refine lv_goto (tgt := 80) hx hb d_Mo_board_52 (by decide) ?_
          exact kreti (u := moThr M 2) hx hb hr hP hD hS hlocks rfl (⟨moI_thr hI 2, 2, rfl⟩) d_Mo_board_80
      · refine lv_iconst (v := nI 0) hx hb d_Mo_board_36 (by decide +kernel) ?_
        refine lv_goto (tgt := 41) hx hb d_Mo_board_37 (by decide) ?_
        refine va_put (D := D) (ci := 6) (v := .int (nI 0)) (ty := .int) (C := R_Mo) (T := T_Mo) (N := 22) hx hb hts (fun w h => List.mem_cons_of_mem _ (iw_Mo w h)) ty_Mo tyok_Mo nm_Mo hown hK hP hD hS 0 rfl rfl 0 (by decide) (hts _ (List.mem_cons_of_mem _ k_545)) (fun _ h9 => h9) rfl (by decide +kernel) (rfl) (rfl) (Nat.le_of_ble_eq_true rfl) d_Mo_board_41 (fun H locs hP hD hS => ?_)
        have hP : va_P D vwCl [(mo, .inr (6, [.int (nI 0), .int (nI M.side), .int (nI M.kf), .ref m1, .ref m2, .int (nI M.cn), .ref m3, .ref m4, .ref m5, .ref m6, .ref m7, .ref m8, .ref m9, .ref m10, .ref m11, .ref m12, .int (pI M.sw), .int (nI M.tn), .int (nI M.tot), .int (nI M.psl), .int (nI M.pc_), .ref m13])), (m1, .inl (cZ, 800, .inl (fun j => pI (M.IN j)))), (m2, .inl (cI, 400, .inl (fun j => nI (M.LO j)))), (m3, .inl (cI, 8, .inl (fun j => nI (M.th j)))), (m4, .inl (cI, 8, .inl (fun j => nI (M.wi j)))), (m5, .inl (cI, 8, .inl (fun j => nI (M.wo j)))), (m6, .inl (cI, 8, .inl (fun j => nI (M.wn j)))), (m7, .inl (cI, 441, .inl (fun j => nI (M.F3 j)))), (m8, .inl (cI, 441, .inl (fun j => nI (M.F4 j)))), (m9, .inl (cI, 9702, .inl (fun j => nI (M.SW j)))), (m10, .inl (cI, 9702, .inl (fun j => nI (M.SN j)))), (m11, .inl (cI, 21, .inl (fun j => nI (M.RW j)))), (m12, .inl (cI, 21, .inl (fun j => nI (M.RN j)))), (m13, .inl (cI, 2400, .inl (fun j => nI (M.AT j))))] H := hP
        have hD : va_D A [(mo, .inr (6, [.int (nI 0), .int (nI M.side), .int (nI M.kf), .ref m1, .ref m2, .int (nI M.cn), .ref m3, .ref m4, .ref m5, .ref m6, .ref m7, .ref m8, .ref m9, .ref m10, .ref m11, .ref m12, .int (pI M.sw), .int (nI M.tn), .int (nI M.tot), .int (nI M.psl), .int (nI M.pc_), .ref m13])), (m1, .inl (cZ, 800, .inl (fun j => pI (M.IN j)))), (m2, .inl (cI, 400, .inl (fun j => nI (M.LO j)))), (m3, .inl (cI, 8, .inl (fun j => nI (M.th j)))), (m4, .inl (cI, 8, .inl (fun j => nI (M.wi j)))), (m5, .inl (cI, 8, .inl (fun j => nI (M.wo j)))), (m6, .inl (cI, 8, .inl (fun j => nI (M.wn j)))), (m7, .inl (cI, 441, .inl (fun j => nI (M.F3 j)))), (m8, .inl (cI, 441, .inl (fun j => nI (M.F4 j)))), (m9, .inl (cI, 9702, .inl (fun j => nI (M.SW j)))), (m10, .inl (cI, 9702, .inl (fun j => nI (M.SN j)))), (m11, .inl (cI, 21, .inl (fun j => nI (M.RW j)))), (m12, .inl (cI, 21, .inl (fun j => nI (M.RN j)))), (m13, .inl (cI, 2400, .inl (fun j => nI (M.AT j))))] := hD
        refine lv_aload_n hx hb d_Mo_board_44 rfl (lv_at hl 0 rfl) ?_
        refine va_get (D := D) (ci := 6) (v := .int (nI 0)) (C := R_Mo) (T := T_Mo) (N := 22) hx hb hts (fun w h => List.mem_cons_of_mem _ (iw_Mo w h)) hown hK hP 0 rfl rfl 0 (by decide) (hts _ (List.mem_cons_of_mem _ k_545)) (fun _ h9 => h9) rfl d_Mo_board_45 ?_
        refine kb_le (tgt := 55) (nI_t (by omega)) hx hb d_Mo_board_48 (by decide) (fun c_48 => ?_) (fun c_48 => ?_)
        · refine lv_iload_n hx hb d_Mo_board_55 rfl (lv_at hl 2 rfl) ?_
          refine lv_bipush (v := nI 6) hx hb d_Mo_board_56 (by decide +kernel) ?_
          refine kb_cge (tgt := 75) rfl (nI_t (by omega)) hx hb d_Mo_board_58 (by decide) (fun c3 => ?_) (fun c3 => ?_)
          · obtain ⟨e_x, n_x⟩ := zN_eq (x := x) (by omega)
            have hl : lv_has ls 3 [(0, .ref mo), (1, .int (nI (zN x))), (2, .int y)] := by rw [← e_x]; exact hl
            have ha := hat (zN x) (by omega)
            refine lv_aload_n hx hb d_Mo_board_75 rfl (lv_at hl 0 rfl) ?_
            refine lv_iload_n hx hb d_Mo_board_76 rfl (lv_at hl 1 rfl) ?_
            refine kcallR (r := .int (iI (((M.F3 (21 * ((M.AT (6 * (zN x) + 2)) + (M.AT (6 * (zN x) + 4))) + (M.AT (6 * (zN x) + 1)) + (M.AT (6 * (zN x) + 3))) : Nat) : Int) - ((M.F3 (21 * ((M.AT (6 * (zN x) + 2)) + (M.AT (6 * (zN x) + 4))) + (M.AT (6 * (zN x) + 1))) : Nat) : Int) - ((M.F3 (21 * (M.AT (6 * (zN x) + 2)) + (M.AT (6 * (zN x) + 1)) + (M.AT (6 * (zN x) + 3))) : Nat) : Int) + ((M.F3 (21 * (M.AT (6 * (zN x) + 2)) + (M.AT (6 * (zN x) + 1))) : Nat) : Int)))) (va_runV (As := [.int (nI (zN x))]) (rest := []) ⟨hx, hb, hml, hown, hts⟩ (m_bareOf l D cI cJ cZ mo 0 M.side M.kf m1 m2 M.cn m3 m4 m5 m6 m7 m8 m9 m10 m11 m12 M.sw M.tn M.tot M.psl M.pc_ m13 M.F3 M.AT (zN x) (by omega) ha.1 ha.2) ⟨callB_of 1 hts (gd kc_Mo_bareOf) rfl rfl rfl (hts _ (List.mem_cons_of_mem _ k_8)) (hts _ (List.mem_cons_of_mem _ k_726)) (by decide +kernel) ⟨Nat.le_of_ble_eq_true rfl, Nat.le_of_ble_eq_true rfl⟩, hts _ (List.mem_cons_of_mem _ k_728), hts _ (List.mem_cons_of_mem _ ks_31)⟩ ⟨kR_blind, va_recv hK hP (ci := 6) (q0 := 0) rfl rfl, kR_at hP hK hZ [0, 7, 13] rfl⟩ rfl rfl hl.1 rfl (lv_room (Nat.le_of_ble_eq_true rfl)) d_Mo_board_77 ⟨Nat.zero_le _, Nat.zero_le _⟩) ?_
            exact kreti (u := moThr M 0) hx hb hr hP hD hS hlocks rfl (⟨moI_thr hI 0, 0, rfl⟩) d_Mo_board_80
          · obtain ⟨e_x, n_x⟩ := zN_eq (x := x) (by omega)
            obtain ⟨e_y, n_y⟩ := zN_eq (x := y) (by omega)
            have hl : lv_has ls 3 [(0, .ref mo), (1, .int (nI (zN x))), (2, .int (nI (zN y)))] := by rw [← e_x, ← e_y]; exact hl
            refine lv_aload_n hx hb d_Mo_board_61 rfl (lv_at hl 0 rfl) ?_
            refine va_get (D := D) (ci := 6) (v := .ref m13) (C := R_Mo) (T := T_Mo) (N := 22) hx hb hts (fun w h => List.mem_cons_of_mem _ (iw_Mo w h)) hown hK hP 0 rfl rfl 21 (by decide) (hts _ (List.mem_cons_of_mem _ k_566)) (fun _ h9 => h9) rfl d_Mo_board_62 ?_
            refine lv_bipush (v := nI 6) hx hb d_Mo_board_65 (by decide +kernel) ?_
            refine lv_iload_n hx hb d_Mo_board_67 rfl (lv_at hl 1 rfl) ?_
            refine lv_imul hx hb d_Mo_board_68 ?_
            refine ka_i (y := nI (6 * (zN x))) (pk_mul _ _) ?_
            refine lv_iload_n hx hb d_Mo_board_69 rfl (lv_at hl 2 rfl) ?_
            refine lv_iadd hx hb d_Mo_board_70 ?_
            refine ka_i (y := nI ((6 * (zN x)) + (zN y))) (nI_add _ _) ?_
            refine ka_iald (k := ((6 * (zN x)) + (zN y))) (n := 2400) (f := fun j => nI (M.AT j)) (nI_t (by omega)) (by omega) hx hb hK hP 13 0 rfl rfl d_Mo_board_71 ?_
            refine lv_goto (tgt := 80) hx hb d_Mo_board_72 (by decide) ?_
            exact kreti (u := moThr M 0) hx hb hr hP hD hS hlocks rfl (⟨moI_thr hI 0, 0, rfl⟩) d_Mo_board_80
        · exfalso; omega
  · refine lv_iconst (v := nI 1) hx hb d_Mo_board_8 (by decide +kernel) ?_
    refine lv_goto (tgt := 41) hx hb d_Mo_board_9 (by decide) ?_
    refine va_put (D := D) (ci := 6) (v := .int (nI 1)) (ty := .int) (C := R_Mo) (T := T_Mo) (N := 22) hx hb hts (fun w h => List.mem_cons_of_mem _ (iw_Mo w h)) ty_Mo tyok_Mo nm_Mo hown hK hP hD hS 0 rfl rfl 0 (by decide) (hts _ (List.mem_cons_of_mem _ k_545)) (fun _ h9 => h9) rfl (by decide +kernel) (rfl) (rfl) (Nat.le_of_ble_eq_true rfl) d_Mo_board_41 (fun H locs hP hD hS => ?_)
    have hP : va_P D vwCl [(mo, .inr (6, [.int (nI 1), .int (nI M.side), .int (nI M.kf), .ref m1, .ref m2, .int (nI M.cn), .ref m3, .ref m4, .ref m5, .ref m6, .ref m7, .ref m8, .ref m9, .ref m10, .ref m11, .ref m12, .int (pI M.sw), .int (nI M.tn), .int (nI M.tot), .int (nI M.psl), .int (nI M.pc_), .ref m13])), (m1, .inl (cZ, 800, .inl (fun j => pI (M.IN j)))), (m2, .inl (cI, 400, .inl (fun j => nI (M.LO j)))), (m3, .inl (cI, 8, .inl (fun j => nI (M.th j)))), (m4, .inl (cI, 8, .inl (fun j => nI (M.wi j)))), (m5, .inl (cI, 8, .inl (fun j => nI (M.wo j)))), (m6, .inl (cI, 8, .inl (fun j => nI (M.wn j)))), (m7, .inl (cI, 441, .inl (fun j => nI (M.F3 j)))), (m8, .inl (cI, 441, .inl (fun j => nI (M.F4 j)))), (m9, .inl (cI, 9702, .inl (fun j => nI (M.SW j)))), (m10, .inl (cI, 9702, .inl (fun j => nI (M.SN j)))), (m11, .inl (cI, 21, .inl (fun j => nI (M.RW j)))), (m12, .inl (cI, 21, .inl (fun j => nI (M.RN j)))), (m13, .inl (cI, 2400, .inl (fun j => nI (M.AT j))))] H := hP
    have hD : va_D A [(mo, .inr (6, [.int (nI 1), .int (nI M.side), .int (nI M.kf), .ref m1, .ref m2, .int (nI M.cn), .ref m3, .ref m4, .ref m5, .ref m6, .ref m7, .ref m8, .ref m9, .ref m10, .ref m11, .ref m12, .int (pI M.sw), .int (nI M.tn), .int (nI M.tot), .int (nI M.psl), .int (nI M.pc_), .ref m13])), (m1, .inl (cZ, 800, .inl (fun j => pI (M.IN j)))), (m2, .inl (cI, 400, .inl (fun j => nI (M.LO j)))), (m3, .inl (cI, 8, .inl (fun j => nI (M.th j)))), (m4, .inl (cI, 8, .inl (fun j => nI (M.wi j)))), (m5, .inl (cI, 8, .inl (fun j => nI (M.wo j)))), (m6, .inl (cI, 8, .inl (fun j => nI (M.wn j)))), (m7, .inl (cI, 441, .inl (fun j => nI (M.F3 j)))), (m8, .inl (cI, 441, .inl (fun j => nI (M.F4 j)))), (m9, .inl (cI, 9702, .inl (fun j => nI (M.SW j)))), (m10, .inl (cI, 9702, .inl (fun j => nI (M.SN j)))), (m11, .inl (cI, 21, .inl (fun j => nI (M.RW j)))), (m12, .inl (cI, 21, .inl (fun j => nI (M.RN j)))), (m13, .inl (cI, 2400, .inl (fun j => nI (M.AT j))))] := hD
    refine lv_aload_n hx hb d_Mo_board_44 rfl (lv_at hl 0 rfl) ?_
    refine va_get (D := D) (ci := 6) (v := .int (nI 1)) (C := R_Mo) (T := T_Mo) (N := 22) hx hb hts (fun w h => List.mem_cons_of_mem _ (iw_Mo w h)) hown hK hP 0 rfl rfl 0 (by decide) (hts _ (List.mem_cons_of_mem _ k_545)) (fun _ h9 => h9) rfl d_Mo_board_45 ?_
    refine kb_le (tgt := 55) (nI_t (by omega)) hx hb d_Mo_board_48 (by decide) (fun c_48 => ?_) (fun c_48 => ?_)
    · exfalso; omega
    · refine lv_iconst (v := nI 0) hx hb d_Mo_board_51 (by decide +kernel) ?_
      refine lv_goto (tgt := 80) hx hb d_Mo_board_52 (by decide) ?_
      exact kreti (u := moThr M 1) hx hb hr hP hD hS hlocks rfl (⟨moI_thr hI 1, 1, rfl⟩) d_Mo_board_80
set_option maxHeartbeats 4000000 in
set_option maxRecDepth 100000 in
theorem m_all (l : Launch) (D : va_G) (cI cJ cZ : ClassId) (sz : Nat) (mo : Nat) (m1 : Nat) (m2 : Nat) (m3 : Nat) (m4 : Nat) (m5 : Nat) (m6 : Nat) (m7 : Nat) (m8 : Nat) (m9 : Nat) (m10 : Nat) (m11 : Nat) (m12 : Nat) (m13 : Nat) (M : MoS) (x : Int32) (hI : moI M) : Met l y_Mo_all w_Mo_all ({ frames := 1, cells := 0, slots := 0, locals := 22 }) (va_Pc [.ref mo, .int x] (kB D vwCl (tyL cI cJ cZ) sz [(mo, .inr (6, [.int (nI M.thr), .int (nI M.side), .int (nI M.kf), .ref m1, .ref m2, .int (nI M.cn), .ref m3, .ref m4, .ref m5, .ref m6, .ref m7, .ref m8, .ref m9, .ref m10, .ref m11, .ref m12, .int (pI M.sw), .int (nI M.tn), .int (nI M.tot), .int (nI M.psl), .int (nI M.pc_), .ref m13])), (m1, .inl (cZ, 800, .inl (fun j => pI (M.IN j)))), (m2, .inl (cI, 400, .inl (fun j => nI (M.LO j)))), (m3, .inl (cI, 8, .inl (fun j => nI (M.th j)))), (m4, .inl (cI, 8, .inl (fun j => nI (M.wi j)))), (m5, .inl (cI, 8, .inl (fun j => nI (M.wo j)))), (m6, .inl (cI, 8, .inl (fun j => nI (M.wn j)))), (m7, .inl (cI, 441, .inl (fun j => nI (M.F3 j)))), (m8, .inl (cI, 441, .inl (fun j => nI (M.F4 j)))), (m9, .inl (cI, 9702, .inl (fun j => nI (M.SW j)))), (m10, .inl (cI, 9702, .inl (fun j => nI (M.SN j)))), (m11, .inl (cI, 21, .inl (fun j => nI (M.RW j)))), (m12, .inl (cI, 21, .inl (fun j => nI (M.RN j)))), (m13, .inl (cI, 2400, .inl (fun j => nI (M.AT j))))])) (va_Qi (fun (r : Int32) (u : MoS) => moI u ∧ ∃ t_, u = moThr M t_) (fun (u : MoS) t => kE D vwCl (va_A [(mo, .inr (6, [.int (nI M.thr), .int (nI M.side), .int (nI M.kf), .ref m1, .ref m2, .int (nI M.cn), .ref m3, .ref m4, .ref m5, .ref m6, .ref m7, .ref m8, .ref m9, .ref m10, .ref m11, .ref m12, .int (pI M.sw), .int (nI M.tn), .int (nI M.tot), .int (nI M.psl), .int (nI M.pc_), .ref m13])), (m1, .inl (cZ, 800, .inl (fun j => pI (M.IN j)))), (m2, .inl (cI, 400, .inl (fun j => nI (M.LO j)))), (m3, .inl (cI, 8, .inl (fun j => nI (M.th j)))), (m4, .inl (cI, 8, .inl (fun j => nI (M.wi j)))), (m5, .inl (cI, 8, .inl (fun j => nI (M.wo j)))), (m6, .inl (cI, 8, .inl (fun j => nI (M.wn j)))), (m7, .inl (cI, 441, .inl (fun j => nI (M.F3 j)))), (m8, .inl (cI, 441, .inl (fun j => nI (M.F4 j)))), (m9, .inl (cI, 9702, .inl (fun j => nI (M.SW j)))), (m10, .inl (cI, 9702, .inl (fun j => nI (M.SN j)))), (m11, .inl (cI, 21, .inl (fun j => nI (M.RW j)))), (m12, .inl (cI, 21, .inl (fun j => nI (M.RN j)))), (m13, .inl (cI, 2400, .inl (fun j => nI (M.AT j))))] sz) [(mo, .inr (6, [.int (nI u.thr), .int (nI u.side), .int (nI u.kf), .ref m1, .ref m2, .int (nI u.cn), .ref m3, .ref m4, .ref m5, .ref m6, .ref m7, .ref m8, .ref m9, .ref m10, .ref m11, .ref m12, .int (pI u.sw), .int (nI u.tn), .int (nI u.tot), .int (nI u.psl), .int (nI u.pc_), .ref m13])), (m1, .inl (cZ, 800, .inl (fun j => pI (u.IN j)))), (m2, .inl (cI, 400, .inl (fun j => nI (u.LO j)))), (m3, .inl (cI, 8, .inl (fun j => nI (u.th j)))), (m4, .inl (cI, 8, .inl (fun j => nI (u.wi j)))), (m5, .inl (cI, 8, .inl (fun j => nI (u.wo j)))), (m6, .inl (cI, 8, .inl (fun j => nI (u.wn j)))), (m7, .inl (cI, 441, .inl (fun j => nI (u.F3 j)))), (m8, .inl (cI, 441, .inl (fun j => nI (u.F4 j)))), (m9, .inl (cI, 9702, .inl (fun j => nI (u.SW j)))), (m10, .inl (cI, 9702, .inl (fun j => nI (u.SN j)))), (m11, .inl (cI, 21, .inl (fun j => nI (u.RW j)))), (m12, .inl (cI, 21, .inl (fun j => nI (u.RN j)))), (m13, .inl (cI, 2400, .inl (fun j => nI (u.AT j))))] t) (va_A [(mo, .inr (6, [.int (nI M.thr), .int (nI M.side), .int (nI M.kf), .ref m1, .ref m2, .int (nI M.cn), .ref m3, .ref m4, .ref m5, .ref m6, .ref m7, .ref m8, .ref m9, .ref m10, .ref m11, .ref m12, .int (pI M.sw), .int (nI M.tn), .int (nI M.tot), .int (nI M.psl), .int (nI M.pc_), .ref m13])), (m1, .inl (cZ, 800, .inl (fun j => pI (M.IN j)))), (m2, .inl (cI, 400, .inl (fun j => nI (M.LO j)))), (m3, .inl (cI, 8, .inl (fun j => nI (M.th j)))), (m4, .inl (cI, 8, .inl (fun j => nI (M.wi j)))), (m5, .inl (cI, 8, .inl (fun j => nI (M.wo j)))), (m6, .inl (cI, 8, .inl (fun j => nI (M.wn j)))), (m7, .inl (cI, 441, .inl (fun j => nI (M.F3 j)))), (m8, .inl (cI, 441, .inl (fun j => nI (M.F4 j)))), (m9, .inl (cI, 9702, .inl (fun j => nI (M.SW j)))), (m10, .inl (cI, 9702, .inl (fun j => nI (M.SN j)))), (m11, .inl (cI, 21, .inl (fun j => nI (M.RW j)))), (m12, .inl (cI, 21, .inl (fun j => nI (M.RN j)))), (m13, .inl (cI, 2400, .inl (fun j => nI (M.AT j))))] sz)) 0 0 (va_A [(mo, .inr (6, [.int (nI M.thr), .int (nI M.side), .int (nI M.kf), .ref m1, .ref m2, .int (nI M.cn), .ref m3, .ref m4, .ref m5, .ref m6, .ref m7, .ref m8, .ref m9, .ref m10, .ref m11, .ref m12, .int (pI M.sw), .int (nI M.tn), .int (nI M.tot), .int (nI M.psl), .int (nI M.pc_), .ref m13])), (m1, .inl (cZ, 800, .inl (fun j => pI (M.IN j)))), (m2, .inl (cI, 400, .inl (fun j => nI (M.LO j)))), (m3, .inl (cI, 8, .inl (fun j => nI (M.th j)))), (m4, .inl (cI, 8, .inl (fun j => nI (M.wi j)))), (m5, .inl (cI, 8, .inl (fun j => nI (M.wo j)))), (m6, .inl (cI, 8, .inl (fun j => nI (M.wn j)))), (m7, .inl (cI, 441, .inl (fun j => nI (M.F3 j)))), (m8, .inl (cI, 441, .inl (fun j => nI (M.F4 j)))), (m9, .inl (cI, 9702, .inl (fun j => nI (M.SW j)))), (m10, .inl (cI, 9702, .inl (fun j => nI (M.SN j)))), (m11, .inl (cI, 21, .inl (fun j => nI (M.RW j)))), (m12, .inl (cI, 21, .inl (fun j => nI (M.RN j)))), (m13, .inl (cI, 2400, .inl (fun j => nI (M.AT j))))] sz) := by
  refine Met.ofW (cc := b_Mo_all) (maxL := 2) (ret := (some (.int))) (by decide) rfl ?_
  intro p e s m args below meth c s₁ B hml hv
  obtain ⟨rfl, hsz, hP, hK, hD0, hZ⟩ := hv
  have hx := B.exec
  have hb := B.bytes
  have hr := B.returns
  have hts := atoms_spec (ws := w_Mo_all) B.pre
  have hown : s.vm.findClass R_Mo = some m.cls := findClass_of_methodNamed B.named
  have hlocks := B.notSynchronized
  subst hsz
  have hD := hD0.self (sz := s.heap.size)
  generalize hAe : va_A [(mo, .inr (6, [.int (nI M.thr), .int (nI M.side), .int (nI M.kf), .ref m1, .ref m2, .int (nI M.cn), .ref m3, .ref m4, .ref m5, .ref m6, .ref m7, .ref m8, .ref m9, .ref m10, .ref m11, .ref m12, .int (pI M.sw), .int (nI M.tn), .int (nI M.tot), .int (nI M.psl), .int (nI M.pc_), .ref m13])), (m1, .inl (cZ, 800, .inl (fun j => pI (M.IN j)))), (m2, .inl (cI, 400, .inl (fun j => nI (M.LO j)))), (m3, .inl (cI, 8, .inl (fun j => nI (M.th j)))), (m4, .inl (cI, 8, .inl (fun j => nI (M.wi j)))), (m5, .inl (cI, 8, .inl (fun j => nI (M.wo j)))), (m6, .inl (cI, 8, .inl (fun j => nI (M.wn j)))), (m7, .inl (cI, 441, .inl (fun j => nI (M.F3 j)))), (m8, .inl (cI, 441, .inl (fun j => nI (M.F4 j)))), (m9, .inl (cI, 9702, .inl (fun j => nI (M.SW j)))), (m10, .inl (cI, 9702, .inl (fun j => nI (M.SN j)))), (m11, .inl (cI, 21, .inl (fun j => nI (M.RW j)))), (m12, .inl (cI, 21, .inl (fun j => nI (M.RN j)))), (m13, .inl (cI, 2400, .inl (fun j => nI (M.AT j))))] s.heap.size = A at hD ⊢
  have hA : ∀ q : Nat, s.heap.size ≤ q → A q := fun q h => by rw [← hAe]; exact Or.inr h
  have hS : va_S A s.heap s.heap [] := va_S.rf
  have hP : va_P D vwCl [(mo, .inr (6, [.int (nI M.thr), .int (nI M.side), .int (nI M.kf), .ref m1, .ref m2, .int (nI M.cn), .ref m3, .ref m4, .ref m5, .ref m6, .ref m7, .ref m8, .ref m9, .ref m10, .ref m11, .ref m12, .int (pI M.sw), .int (nI M.tn), .int (nI M.tot), .int (nI M.psl), .int (nI M.pc_), .ref m13])), (m1, .inl (cZ, 800, .inl (fun j => pI (M.IN j)))), (m2, .inl (cI, 400, .inl (fun j => nI (M.LO j)))), (m3, .inl (cI, 8, .inl (fun j => nI (M.th j)))), (m4, .inl (cI, 8, .inl (fun j => nI (M.wi j)))), (m5, .inl (cI, 8, .inl (fun j => nI (M.wo j)))), (m6, .inl (cI, 8, .inl (fun j => nI (M.wn j)))), (m7, .inl (cI, 441, .inl (fun j => nI (M.F3 j)))), (m8, .inl (cI, 441, .inl (fun j => nI (M.F4 j)))), (m9, .inl (cI, 9702, .inl (fun j => nI (M.SW j)))), (m10, .inl (cI, 9702, .inl (fun j => nI (M.SN j)))), (m11, .inl (cI, 21, .inl (fun j => nI (M.RW j)))), (m12, .inl (cI, 21, .inl (fun j => nI (M.RN j)))), (m13, .inl (cI, 2400, .inl (fun j => nI (M.AT j))))] s.heap := hP
  have hl := lv_entry ([.ref mo, .int x]) (n := 2) (Nat.le_of_ble_eq_true rfl)
  rw [lg_entry_eq]
  generalize (lg_sl ([.ref mo, .int x]) ++ List.replicate (2 - (lg_sl ([.ref mo, .int x])).length) Slot.unset).toArray = ls at hl ⊢
  have hl : lv_has ls 2 [(0, .ref mo), (1, .int x)] := hl
  have s1 := hI.s1
  have s2 := hI.s2
  have k4 := hI.k4
  have n8 := hI.n8
  have ht := hI.ht
  have hw := hI.hw
  have hw1 := hI.hw1
  have ho := hI.ho
  have hn := hI.hn
  have hL := hI.hL
  have e3 := hI.e3
  have e4 := hI.e4
  have bW := hI.bW
  have bN := hI.bN
  have cW := hI.cW
  have cN := hI.cN
  have tn1 := hI.tn1
  have hpc := hI.hpc
  have hat := hI.hat
  have qq := (sq20 s2).2
  refine lv_aload_n hx hb d_Mo_all_0 rfl (lv_at hl 0 rfl) ?_
  refine lv_aload_n hx hb d_Mo_all_1 rfl (lv_at hl 0 rfl) ?_
  refine va_get (D := D) (ci := 6) (v := .int (pI M.sw)) (C := R_Mo) (T := T_Mo) (N := 22) hx hb hts (fun w h => List.mem_cons_of_mem _ (iw_Mo w h)) hown hK hP 0 rfl rfl 16 (by decide) (hts _ (List.mem_cons_of_mem _ k_561)) (fun _ h9 => h9) rfl d_Mo_all_2 ?_
  refine kb_neP (tgt := 12) hx hb d_Mo_all_5 (by decide) (fun cs => ?_) (fun cs => ?_)
  · refine lv_iload_n hx hb d_Mo_all_12 rfl (lv_at hl 1 rfl) ?_
    refine lv_iconst (v := nI 0) hx hb d_Mo_all_13 (by decide +kernel) ?_
    refine lv_iconst (v := nI 3) hx hb d_Mo_all_14 (by decide +kernel) ?_
    refine kcallR (r := .int (pI (((0 : Nat) : Int) ≤ x.toInt ∧ x.toInt ≤ ((3 : Nat) : Int)))) (va_runS (As := [.int x, .int (nI 0), .int (nI 3)]) (rest := [.ref mo]) ⟨hx, hb, hml, hown, hts⟩ (m_isIn l D cI cJ cZ x (nI 0) (nI 3) x.toInt ((0 : Nat) : Int) ((3 : Nat) : Int) rfl (nI_t (by omega)) (nI_t (by omega))) ⟨callB_of 3 hts (gd kc_Mo_isIn) rfl rfl rfl (hts _ (List.mem_cons_of_mem _ k_8)) (hts _ (List.mem_cons_of_mem _ k_620)) (by decide +kernel) ⟨Nat.le_of_ble_eq_true rfl, Nat.le_of_ble_eq_true rfl⟩, hts _ (List.mem_cons_of_mem _ k_621)⟩ ⟨kR_blind, kR_at hP hK hZ [] rfl⟩ rfl rfl hl.1 rfl (lv_room (Nat.le_of_ble_eq_true rfl)) d_Mo_all_15 ⟨Nat.zero_le _, Nat.zero_le _⟩) ?_
    refine kb_eqP (tgt := 25) hx hb d_Mo_all_18 (by decide) (fun c1 => ?_) (fun c1 => ?_)
    · refine lv_iconst (v := nI 2) hx hb d_Mo_all_25 (by decide +kernel) ?_
      refine va_put (D := D) (ci := 6) (v := .int (nI 2)) (ty := .int) (C := R_Mo) (T := T_Mo) (N := 22) hx hb hts (fun w h => List.mem_cons_of_mem _ (iw_Mo w h)) ty_Mo tyok_Mo nm_Mo hown hK hP hD hS 0 rfl rfl 0 (by decide) (hts _ (List.mem_cons_of_mem _ k_545)) (fun _ h9 => h9) rfl (by decide +kernel) (rfl) (rfl) (Nat.le_of_ble_eq_true rfl) d_Mo_all_26 (fun H locs hP hD hS => ?_)
      have hP : va_P D vwCl [(mo, .inr (6, [.int (nI 2), .int (nI M.side), .int (nI M.kf), .ref m1, .ref m2, .int (nI M.cn), .ref m3, .ref m4, .ref m5, .ref m6, .ref m7, .ref m8, .ref m9, .ref m10, .ref m11, .ref m12, .int (pI M.sw), .int (nI M.tn), .int (nI M.tot), .int (nI M.psl), .int (nI M.pc_), .ref m13])), (m1, .inl (cZ, 800, .inl (fun j => pI (M.IN j)))), (m2, .inl (cI, 400, .inl (fun j => nI (M.LO j)))), (m3, .inl (cI, 8, .inl (fun j => nI (M.th j)))), (m4, .inl (cI, 8, .inl (fun j => nI (M.wi j)))), (m5, .inl (cI, 8, .inl (fun j => nI (M.wo j)))), (m6, .inl (cI, 8, .inl (fun j => nI (M.wn j)))), (m7, .inl (cI, 441, .inl (fun j => nI (M.F3 j)))), (m8, .inl (cI, 441, .inl (fun j => nI (M.F4 j)))), (m9, .inl (cI, 9702, .inl (fun j => nI (M.SW j)))), (m10, .inl (cI, 9702, .inl (fun j => nI (M.SN j)))), (m11, .inl (cI, 21, .inl (fun j => nI (M.RW j)))), (m12, .inl (cI, 21, .inl (fun j => nI (M.RN j)))), (m13, .inl (cI, 2400, .inl (fun j => nI (M.AT j))))] H := hP
      have hD : va_D A [(mo, .inr (6, [.int (nI 2), .int (nI M.side), .int (nI M.kf), .ref m1, .ref m2, .int (nI M.cn), .ref m3, .ref m4, .ref m5, .ref m6, .ref m7, .ref m8, .ref m9, .ref m10, .ref m11, .ref m12, .int (pI M.sw), .int (nI M.tn), .int (nI M.tot), .int (nI M.psl), .int (nI M.pc_), .ref m13])), (m1, .inl (cZ, 800, .inl (fun j => pI (M.IN j)))), (m2, .inl (cI, 400, .inl (fun j => nI (M.LO j)))), (m3, .inl (cI, 8, .inl (fun j => nI (M.th j)))), (m4, .inl (cI, 8, .inl (fun j => nI (M.wi j)))), (m5, .inl (cI, 8, .inl (fun j => nI (M.wo j)))), (m6, .inl (cI, 8, .inl (fun j => nI (M.wn j)))), (m7, .inl (cI, 441, .inl (fun j => nI (M.F3 j)))), (m8, .inl (cI, 441, .inl (fun j => nI (M.F4 j)))), (m9, .inl (cI, 9702, .inl (fun j => nI (M.SW j)))), (m10, .inl (cI, 9702, .inl (fun j => nI (M.SN j)))), (m11, .inl (cI, 21, .inl (fun j => nI (M.RW j)))), (m12, .inl (cI, 21, .inl (fun j => nI (M.RN j)))), (m13, .inl (cI, 2400, .inl (fun j => nI (M.AT j))))] := hD
      refine lv_aload_n hx hb d_Mo_all_29 rfl (lv_at hl 0 rfl) ?_
      refine va_get (D := D) (ci := 6) (v := .int (nI 2)) (C := R_Mo) (T := T_Mo) (N := 22) hx hb hts (fun w h => List.mem_cons_of_mem _ (iw_Mo w h)) hown hK hP 0 rfl rfl 0 (by decide) (hts _ (List.mem_cons_of_mem _ k_545)) (fun _ h9 => h9) rfl d_Mo_all_30 ?_
      refine kb_le (tgt := 38) (nI_t (by omega)) hx hb d_Mo_all_33 (by decide) (fun c_33 => ?_) (fun c_33 => ?_)
      · exfalso; omega
      · refine lv_iconst (v := nI 0) hx hb d_Mo_all_36 (by decide +kernel) ?_
        exact kreti (u := moThr M 2) hx hb hr hP hD hS hlocks rfl (⟨moI_thr hI 2, 2, rfl⟩) d_Mo_all_37
    · refine lv_iconst (v := nI 0) hx hb d_Mo_all_21 (by decide +kernel) ?_
      refine lv_goto (tgt := 26) hx hb d_Mo_all_22 (by decide) ?_
      refine va_put (D := D) (ci := 6) (v := .int (nI 0)) (ty := .int) (C := R_Mo) (T := T_Mo) (N := 22) hx hb hts (fun w h => List.mem_cons_of_mem _ (iw_Mo w h)) ty_Mo tyok_Mo nm_Mo hown hK hP hD hS 0 rfl rfl 0 (by decide) (hts _ (List.mem_cons_of_mem _ k_545)) (fun _ h9 => h9) rfl (by decide +kernel) (rfl) (rfl) (Nat.le_of_ble_eq_true rfl) d_Mo_all_26 (fun H locs hP hD hS => ?_)
      have hP : va_P D vwCl [(mo, .inr (6, [.int (nI 0), .int (nI M.side), .int (nI M.kf), .ref m1, .ref m2, .int (nI M.cn), .ref m3, .ref m4, .ref m5, .ref m6, .ref m7, .ref m8, .ref m9, .ref m10, .ref m11, .ref m12, .int (pI M.sw), .int (nI M.tn), .int (nI M.tot), .int (nI M.psl), .int (nI M.pc_), .ref m13])), (m1, .inl (cZ, 800, .inl (fun j => pI (M.IN j)))), (m2, .inl (cI, 400, .inl (fun j => nI (M.LO j)))), (m3, .inl (cI, 8, .inl (fun j => nI (M.th j)))), (m4, .inl (cI, 8, .inl (fun j => nI (M.wi j)))), (m5, .inl (cI, 8, .inl (fun j => nI (M.wo j)))), (m6, .inl (cI, 8, .inl (fun j => nI (M.wn j)))), (m7, .inl (cI, 441, .inl (fun j => nI (M.F3 j)))), (m8, .inl (cI, 441, .inl (fun j => nI (M.F4 j)))), (m9, .inl (cI, 9702, .inl (fun j => nI (M.SW j)))), (m10, .inl (cI, 9702, .inl (fun j => nI (M.SN j)))), (m11, .inl (cI, 21, .inl (fun j => nI (M.RW j)))), (m12, .inl (cI, 21, .inl (fun j => nI (M.RN j)))), (m13, .inl (cI, 2400, .inl (fun j => nI (M.AT j))))] H := hP
      have hD : va_D A [(mo, .inr (6, [.int (nI 0), .int (nI M.side), .int (nI M.kf), .ref m1, .ref m2, .int (nI M.cn), .ref m3, .ref m4, .ref m5, .ref m6, .ref m7, .ref m8, .ref m9, .ref m10, .ref m11, .ref m12, .int (pI M.sw), .int (nI M.tn), .int (nI M.tot), .int (nI M.psl), .int (nI M.pc_), .ref m13])), (m1, .inl (cZ, 800, .inl (fun j => pI (M.IN j)))), (m2, .inl (cI, 400, .inl (fun j => nI (M.LO j)))), (m3, .inl (cI, 8, .inl (fun j => nI (M.th j)))), (m4, .inl (cI, 8, .inl (fun j => nI (M.wi j)))), (m5, .inl (cI, 8, .inl (fun j => nI (M.wo j)))), (m6, .inl (cI, 8, .inl (fun j => nI (M.wn j)))), (m7, .inl (cI, 441, .inl (fun j => nI (M.F3 j)))), (m8, .inl (cI, 441, .inl (fun j => nI (M.F4 j)))), (m9, .inl (cI, 9702, .inl (fun j => nI (M.SW j)))), (m10, .inl (cI, 9702, .inl (fun j => nI (M.SN j)))), (m11, .inl (cI, 21, .inl (fun j => nI (M.RW j)))), (m12, .inl (cI, 21, .inl (fun j => nI (M.RN j)))), (m13, .inl (cI, 2400, .inl (fun j => nI (M.AT j))))] := hD
      refine lv_aload_n hx hb d_Mo_all_29 rfl (lv_at hl 0 rfl) ?_
      refine va_get (D := D) (ci := 6) (v := .int (nI 0)) (C := R_Mo) (T := T_Mo) (N := 22) hx hb hts (fun w h => List.mem_cons_of_mem _ (iw_Mo w h)) hown hK hP 0 rfl rfl 0 (by decide) (hts _ (List.mem_cons_of_mem _ k_545)) (fun _ h9 => h9) rfl d_Mo_all_30 ?_
      refine kb_le (tgt := 38) (nI_t (by omega)) hx hb d_Mo_all_33 (by decide) (fun c_33 => ?_) (fun c_33 => ?_)
      · refine lv_iload_n hx hb d_Mo_all_38 rfl (lv_at hl 1 rfl) ?_
        refine kb_ne (tgt := 49) rfl hx hb d_Mo_all_39 (by decide) (fun c_39 => ?_) (fun c_39 => ?_)
        · refine lv_iload_n hx hb d_Mo_all_49 rfl (lv_at hl 1 rfl) ?_
          refine lv_iconst (v := nI 1) hx hb d_Mo_all_50 (by decide +kernel) ?_
          refine kb_cne (tgt := 61) rfl (nI_t (by omega)) hx hb d_Mo_all_51 (by decide) (fun c_51 => ?_) (fun c_51 => ?_)
          · refine lv_iload_n hx hb d_Mo_all_61 rfl (lv_at hl 1 rfl) ?_
            refine lv_iconst (v := nI 2) hx hb d_Mo_all_62 (by decide +kernel) ?_
            refine kb_cne (tgt := 73) rfl (nI_t (by omega)) hx hb d_Mo_all_63 (by decide) (fun c_63 => ?_) (fun c_63 => ?_)
            · refine lv_aload_n hx hb d_Mo_all_73 rfl (lv_at hl 0 rfl) ?_
              refine va_get (D := D) (ci := 6) (v := .int (nI M.pc_)) (C := R_Mo) (T := T_Mo) (N := 22) hx hb hts (fun w h => List.mem_cons_of_mem _ (iw_Mo w h)) hown hK hP 0 rfl rfl 20 (by decide) (hts _ (List.mem_cons_of_mem _ k_565)) (fun _ h9 => h9) rfl d_Mo_all_74 ?_
              exact kreti (u := moThr M 0) hx hb hr hP hD hS hlocks rfl (⟨moI_thr hI 0, 0, rfl⟩) d_Mo_all_77
            · refine lv_aload_n hx hb d_Mo_all_66 rfl (lv_at hl 0 rfl) ?_
              refine va_get (D := D) (ci := 6) (v := .int (nI M.psl)) (C := R_Mo) (T := T_Mo) (N := 22) hx hb hts (fun w h => List.mem_cons_of_mem _ (iw_Mo w h)) hown hK hP 0 rfl rfl 19 (by decide) (hts _ (List.mem_cons_of_mem _ k_564)) (fun _ h9 => h9) rfl d_Mo_all_67 ?_
              refine lv_goto (tgt := 77) hx hb d_Mo_all_70 (by decide) ?_
              exact kreti (u := moThr M 0) hx hb hr hP hD hS hlocks rfl (⟨moI_thr hI 0, 0, rfl⟩) d_Mo_all_77
          · refine lv_aload_n hx hb d_Mo_all_54 rfl (lv_at hl 0 rfl) ?_
            refine va_get (D := D) (ci := 6) (v := .int (nI M.tn)) (C := R_Mo) (T := T_Mo) (N := 22) hx hb hts (fun w h => List.mem_cons_of_mem _ (iw_Mo w h)) hown hK hP 0 rfl rfl 17 (by decide) (hts _ (List.mem_cons_of_mem _ k_562)) (fun _ h9 => h9) rfl d_Mo_all_55 ?_
            refine lv_goto (tgt := 77) hx hb d_Mo_all_58 (by decide) ?_
            exact kreti (u := moThr M 0) hx hb hr hP hD hS hlocks rfl (⟨moI_thr hI 0, 0, rfl⟩) d_Mo_all_77
        · refine lv_aload_n hx hb d_Mo_all_42 rfl (lv_at hl 0 rfl) ?_
          refine va_get (D := D) (ci := 6) (v := .int (nI M.tot)) (C := R_Mo) (T := T_Mo) (N := 22) hx hb hts (fun w h => List.mem_cons_of_mem _ (iw_Mo w h)) hown hK hP 0 rfl rfl 18 (by decide) (hts _ (List.mem_cons_of_mem _ k_563)) (fun _ h9 => h9) rfl d_Mo_all_43 ?_
          refine lv_goto (tgt := 77) hx hb d_Mo_all_46 (by decide) ?_
          exact kreti (u := moThr M 0) hx hb hr hP hD hS hlocks rfl (⟨moI_thr hI 0, 0, rfl⟩) d_Mo_all_77
      · exfalso; omega
  · refine lv_iconst (v := nI 1) hx hb d_Mo_all_8 (by decide +kernel) ?_
    refine lv_goto (tgt := 26) hx hb d_Mo_all_9 (by decide) ?_
    refine va_put (D := D) (ci := 6) (v := .int (nI 1)) (ty := .int) (C := R_Mo) (T := T_Mo) (N := 22) hx hb hts (fun w h => List.mem_cons_of_mem _ (iw_Mo w h)) ty_Mo tyok_Mo nm_Mo hown hK hP hD hS 0 rfl rfl 0 (by decide) (hts _ (List.mem_cons_of_mem _ k_545)) (fun _ h9 => h9) rfl (by decide +kernel) (rfl) (rfl) (Nat.le_of_ble_eq_true rfl) d_Mo_all_26 (fun H locs hP hD hS => ?_)
    have hP : va_P D vwCl [(mo, .inr (6, [.int (nI 1), .int (nI M.side), .int (nI M.kf), .ref m1, .ref m2, .int (nI M.cn), .ref m3, .ref m4, .ref m5, .ref m6, .ref m7, .ref m8, .ref m9, .ref m10, .ref m11, .ref m12, .int (pI M.sw), .int (nI M.tn), .int (nI M.tot), .int (nI M.psl), .int (nI M.pc_), .ref m13])), (m1, .inl (cZ, 800, .inl (fun j => pI (M.IN j)))), (m2, .inl (cI, 400, .inl (fun j => nI (M.LO j)))), (m3, .inl (cI, 8, .inl (fun j => nI (M.th j)))), (m4, .inl (cI, 8, .inl (fun j => nI (M.wi j)))), (m5, .inl (cI, 8, .inl (fun j => nI (M.wo j)))), (m6, .inl (cI, 8, .inl (fun j => nI (M.wn j)))), (m7, .inl (cI, 441, .inl (fun j => nI (M.F3 j)))), (m8, .inl (cI, 441, .inl (fun j => nI (M.F4 j)))), (m9, .inl (cI, 9702, .inl (fun j => nI (M.SW j)))), (m10, .inl (cI, 9702, .inl (fun j => nI (M.SN j)))), (m11, .inl (cI, 21, .inl (fun j => nI (M.RW j)))), (m12, .inl (cI, 21, .inl (fun j => nI (M.RN j)))), (m13, .inl (cI, 2400, .inl (fun j => nI (M.AT j))))] H := hP
    have hD : va_D A [(mo, .inr (6, [.int (nI 1), .int (nI M.side), .int (nI M.kf), .ref m1, .ref m2, .int (nI M.cn), .ref m3, .ref m4, .ref m5, .ref m6, .ref m7, .ref m8, .ref m9, .ref m10, .ref m11, .ref m12, .int (pI M.sw), .int (nI M.tn), .int (nI M.tot), .int (nI M.psl), .int (nI M.pc_), .ref m13])), (m1, .inl (cZ, 800, .inl (fun j => pI (M.IN j)))), (m2, .inl (cI, 400, .inl (fun j => nI (M.LO j)))), (m3, .inl (cI, 8, .inl (fun j => nI (M.th j)))), (m4, .inl (cI, 8, .inl (fun j => nI (M.wi j)))), (m5, .inl (cI, 8, .inl (fun j => nI (M.wo j)))), (m6, .inl (cI, 8, .inl (fun j => nI (M.wn j)))), (m7, .inl (cI, 441, .inl (fun j => nI (M.F3 j)))), (m8, .inl (cI, 441, .inl (fun j => nI (M.F4 j)))), (m9, .inl (cI, 9702, .inl (fun j => nI (M.SW j)))), (m10, .inl (cI, 9702, .inl (fun j => nI (M.SN j)))), (m11, .inl (cI, 21, .inl (fun j => nI (M.RW j)))), (m12, .inl (cI, 21, .inl (fun j => nI (M.RN j)))), (m13, .inl (cI, 2400, .inl (fun j => nI (M.AT j))))] := hD
    refine lv_aload_n hx hb d_Mo_all_29 rfl (lv_at hl 0 rfl) ?_
    refine va_get (D := D) (ci := 6) (v := .int (nI 1)) (C := R_Mo) (T := T_Mo) (N := 22) hx hb hts (fun w h => List.mem_cons_of_mem _ (iw_Mo w h)) hown hK hP 0 rfl rfl 0 (by decide) (hts _ (List.mem_cons_of_mem _ k_545)) (fun _ h9 => h9) rfl d_Mo_all_30 ?_
    refine kb_le (tgt := 38) (nI_t (by omega)) hx hb d_Mo_all_33 (by decide) (fun c_33 => ?_) (fun c_33 => ?_)
    · exfalso; omega
    · refine lv_iconst (v := nI 0) hx hb d_Mo_all_36 (by decide +kernel) ?_
      exact kreti (u := moThr M 1) hx hb hr hP hD hS hlocks rfl (⟨moI_thr hI 1, 1, rfl⟩) d_Mo_all_37
set_option maxHeartbeats 4000000 in
set_option maxRecDepth 100000 in
theorem m_isApart (l : Launch) (D : va_G) (cI cJ cZ : ClassId) (mo : Nat) (thr : Nat) (side : Nat) (kf : Nat) (m1 : Nat) (m2 : Nat) (cn : Nat) (m3 : Nat) (m4 : Nat) (m5 : Nat) (m6 : Nat) (m7 : Nat) (m8 : Nat) (m9 : Nat) (m10 : Nat) (m11 : Nat) (m12 : Nat) (sw : Prop) (tn : Nat) (tot : Nat) (psl : Nat) (pc_ : Nat) (m13 : Nat) (AT : Nat → Nat) (a_ : Nat) (b_ : Nat) (ax : Nat) (k4 : kf ≤ 4) (ab : a_ < 400) (bb : b_ < 400) (ax1 : ax ≤ 1) (ha : AT (6 * a_ + 1) + AT (6 * a_ + 3) ≤ 20 ∧ AT (6 * a_ + 2) + AT (6 * a_ + 4) ≤ 20) (hb_ : AT (6 * b_ + 1) + AT (6 * b_ + 3) ≤ 20 ∧ AT (6 * b_ + 2) + AT (6 * b_ + 4) ≤ 20) : kRead l y_Mo_isApart w_Mo_isApart ({ frames := 0, cells := 0, slots := 0, locals := 0 }) D vwCl (tyL cI cJ cZ) [(mo, .inr (6, [.int (nI thr), .int (nI side), .int (nI kf), .ref m1, .ref m2, .int (nI cn), .ref m3, .ref m4, .ref m5, .ref m6, .ref m7, .ref m8, .ref m9, .ref m10, .ref m11, .ref m12, .int (pI sw), .int (nI tn), .int (nI tot), .int (nI psl), .int (nI pc_), .ref m13])), (m13, .inl (cI, 2400, .inl (fun j => nI (AT j))))] [.ref mo, .int (nI a_), .int (nI b_), .int (nI ax)] (.int (pI (AT (6 * a_ + 1 + ax) + AT (6 * a_ + 3 + ax) + kf ≤ AT (6 * b_ + 1 + ax) ∨ AT (6 * b_ + 1 + ax) + AT (6 * b_ + 3 + ax) + kf ≤ AT (6 * a_ + 1 + ax)))) := by
  refine Met.ofW (cc := b_Mo_isApart) (maxL := 6) (ret := (some (.boolean))) (by decide) rfl ?_
  intro p e s m args below meth c s₁ B hml hv
  obtain ⟨rfl, hP, hK, hZ⟩ := hv
  have hx := B.exec
  have hb := B.bytes
  have hr := B.returns
  have hts := atoms_spec (ws := w_Mo_isApart) B.pre
  have hown : s.vm.findClass R_Mo = some m.cls := findClass_of_methodNamed B.named
  have hlocks := B.notSynchronized
  have hP : va_P D vwCl [(mo, .inr (6, [.int (nI thr), .int (nI side), .int (nI kf), .ref m1, .ref m2, .int (nI cn), .ref m3, .ref m4, .ref m5, .ref m6, .ref m7, .ref m8, .ref m9, .ref m10, .ref m11, .ref m12, .int (pI sw), .int (nI tn), .int (nI tot), .int (nI psl), .int (nI pc_), .ref m13])), (m13, .inl (cI, 2400, .inl (fun j => nI (AT j))))] s.heap := hP
  have hl := lv_entry ([.ref mo, .int (nI a_), .int (nI b_), .int (nI ax)]) (n := 6) (Nat.le_of_ble_eq_true rfl)
  rw [lg_entry_eq]
  generalize (lg_sl ([.ref mo, .int (nI a_), .int (nI b_), .int (nI ax)]) ++ List.replicate (6 - (lg_sl ([.ref mo, .int (nI a_), .int (nI b_), .int (nI ax)])).length) Slot.unset).toArray = ls at hl ⊢
  have hl : lv_has ls 6 [(0, .ref mo), (1, .int (nI a_)), (2, .int (nI b_)), (3, .int (nI ax))] := hl
  have qa_ : AT (6 * a_ + 1 + ax) + AT (6 * a_ + 3 + ax) ≤ 20 := by
    rcases (show ax = 0 ∨ ax = 1 by omega) with rfl | rfl
    · exact ha.1
    · exact ha.2
  have qb_ : AT (6 * b_ + 1 + ax) + AT (6 * b_ + 3 + ax) ≤ 20 := by
    rcases (show ax = 0 ∨ ax = 1 by omega) with rfl | rfl
    · exact hb_.1
    · exact hb_.2
  refine lv_aload_n hx hb d_Mo_isApart_0 rfl (lv_at hl 0 rfl) ?_
  refine va_get (D := D) (ci := 6) (v := .ref m13) (C := R_Mo) (T := T_Mo) (N := 22) hx hb hts (fun w h => List.mem_cons_of_mem _ (iw_Mo w h)) hown hK hP 0 rfl rfl 21 (by decide) (hts _ (List.mem_cons_of_mem _ k_566)) (fun _ h9 => h9) rfl d_Mo_isApart_1 ?_
  refine lv_bipush (v := nI 6) hx hb d_Mo_isApart_4 (by decide +kernel) ?_
  refine lv_iload_n hx hb d_Mo_isApart_6 rfl (lv_at hl 1 rfl) ?_
  refine lv_imul hx hb d_Mo_isApart_7 ?_
  refine ka_i (y := nI (6 * a_)) (pk_mul _ _) ?_
  refine lv_iconst (v := nI 1) hx hb d_Mo_isApart_8 (by decide +kernel) ?_
  refine lv_iadd hx hb d_Mo_isApart_9 ?_
  refine ka_i (y := nI ((6 * a_) + 1)) (nI_add _ _) ?_
  refine lv_iload_n hx hb d_Mo_isApart_10 rfl (lv_at hl 3 rfl) ?_
  refine lv_iadd hx hb d_Mo_isApart_11 ?_
  refine ka_i (y := nI (((6 * a_) + 1) + ax)) (nI_add _ _) ?_
  refine ka_iald (k := (((6 * a_) + 1) + ax)) (n := 2400) (f := fun j => nI (AT j)) (nI_t (by omega)) (by omega) hx hb hK hP 1 0 rfl rfl d_Mo_isApart_12 ?_
  refine lv_istore (lv' := [(4, .int (nI (AT (((6 * a_) + 1) + ax)))), (0, .ref mo), (1, .int (nI a_)), (2, .int (nI b_)), (3, .int (nI ax))]) hx hb d_Mo_isApart_13 hl (by decide) rfl (fun ls hl => ?_)
  refine lv_aload_n hx hb d_Mo_isApart_15 rfl (lv_at hl 1 rfl) ?_
  refine va_get (D := D) (ci := 6) (v := .ref m13) (C := R_Mo) (T := T_Mo) (N := 22) hx hb hts (fun w h => List.mem_cons_of_mem _ (iw_Mo w h)) hown hK hP 0 rfl rfl 21 (by decide) (hts _ (List.mem_cons_of_mem _ k_566)) (fun _ h9 => h9) rfl d_Mo_isApart_16 ?_
  refine lv_bipush (v := nI 6) hx hb d_Mo_isApart_19 (by decide +kernel) ?_
  refine lv_iload_n hx hb d_Mo_isApart_21 rfl (lv_at hl 3 rfl) ?_
  refine lv_imul hx hb d_Mo_isApart_22 ?_
  refine ka_i (y := nI (6 * b_)) (pk_mul _ _) ?_
  refine lv_iconst (v := nI 1) hx hb d_Mo_isApart_23 (by decide +kernel) ?_
  refine lv_iadd hx hb d_Mo_isApart_24 ?_
  refine ka_i (y := nI ((6 * b_) + 1)) (nI_add _ _) ?_
  refine lv_iload_n hx hb d_Mo_isApart_25 rfl (lv_at hl 4 rfl) ?_
  refine lv_iadd hx hb d_Mo_isApart_26 ?_
  refine ka_i (y := nI (((6 * b_) + 1) + ax)) (nI_add _ _) ?_
  refine ka_iald (k := (((6 * b_) + 1) + ax)) (n := 2400) (f := fun j => nI (AT j)) (nI_t (by omega)) (by omega) hx hb hK hP 1 0 rfl rfl d_Mo_isApart_27 ?_
  refine lv_istore (lv' := [(5, .int (nI (AT (((6 * b_) + 1) + ax)))), (4, .int (nI (AT (((6 * a_) + 1) + ax)))), (0, .ref mo), (1, .int (nI a_)), (2, .int (nI b_)), (3, .int (nI ax))]) hx hb d_Mo_isApart_28 hl (by decide) rfl (fun ls hl => ?_)
  refine lv_iload hx hb d_Mo_isApart_30 (lv_at hl 1 rfl) ?_
  refine lv_aload_n hx hb d_Mo_isApart_32 rfl (lv_at hl 2 rfl) ?_
  refine va_get (D := D) (ci := 6) (v := .ref m13) (C := R_Mo) (T := T_Mo) (N := 22) hx hb hts (fun w h => List.mem_cons_of_mem _ (iw_Mo w h)) hown hK hP 0 rfl rfl 21 (by decide) (hts _ (List.mem_cons_of_mem _ k_566)) (fun _ h9 => h9) rfl d_Mo_isApart_33 ?_
  refine lv_bipush (v := nI 6) hx hb d_Mo_isApart_36 (by decide +kernel) ?_
  refine lv_iload_n hx hb d_Mo_isApart_38 rfl (lv_at hl 3 rfl) ?_
  refine lv_imul hx hb d_Mo_isApart_39 ?_
  refine ka_i (y := nI (6 * a_)) (pk_mul _ _) ?_
  refine lv_iconst (v := nI 3) hx hb d_Mo_isApart_40 (by decide +kernel) ?_
  refine lv_iadd hx hb d_Mo_isApart_41 ?_
  refine ka_i (y := nI ((6 * a_) + 3)) (nI_add _ _) ?_
  refine lv_iload_n hx hb d_Mo_isApart_42 rfl (lv_at hl 5 rfl) ?_
  refine lv_iadd hx hb d_Mo_isApart_43 ?_
  refine ka_i (y := nI (((6 * a_) + 3) + ax)) (nI_add _ _) ?_
  refine ka_iald (k := (((6 * a_) + 3) + ax)) (n := 2400) (f := fun j => nI (AT j)) (nI_t (by omega)) (by omega) hx hb hK hP 1 0 rfl rfl d_Mo_isApart_44 ?_
  refine lv_iadd hx hb d_Mo_isApart_45 ?_
  refine ka_i (y := nI ((AT (((6 * a_) + 1) + ax)) + (AT (((6 * a_) + 3) + ax)))) (nI_add _ _) ?_
  refine lv_aload_n hx hb d_Mo_isApart_46 rfl (lv_at hl 2 rfl) ?_
  refine va_get (D := D) (ci := 6) (v := .int (nI kf)) (C := R_Mo) (T := T_Mo) (N := 22) hx hb hts (fun w h => List.mem_cons_of_mem _ (iw_Mo w h)) hown hK hP 0 rfl rfl 2 (by decide) (hts _ (List.mem_cons_of_mem _ k_547)) (fun _ h9 => h9) rfl d_Mo_isApart_47 ?_
  refine lv_iadd hx hb d_Mo_isApart_50 ?_
  refine ka_i (y := nI (((AT (((6 * a_) + 1) + ax)) + (AT (((6 * a_) + 3) + ax))) + kf)) (nI_add _ _) ?_
  refine lv_iload hx hb d_Mo_isApart_51 (lv_at hl 0 rfl) ?_
  refine kb_cle (tgt := 82) (nI_t (by omega)) (nI_t (by omega)) hx hb d_Mo_isApart_53 (by decide) (fun c1 => ?_) (fun c1 => ?_)
  · refine lv_iconst (v := nI 1) hx hb d_Mo_isApart_82 (by decide +kernel) ?_
    refine lv_goto (tgt := 87) hx hb d_Mo_isApart_83 (by decide) ?_
    refine ka_i (y := pI (AT (6 * a_ + 1 + ax) + AT (6 * a_ + 3 + ax) + kf ≤ AT (6 * b_ + 1 + ax) ∨ AT (6 * b_ + 1 + ax) + AT (6 * b_ + 3 + ax) + kf ≤ AT (6 * a_ + 1 + ax))) (pI_1 (by omega)) ?_
    exact krdz (pI_narrow _) hx hb hr hlocks d_Mo_isApart_87
  · refine lv_iload hx hb d_Mo_isApart_56 (lv_at hl 0 rfl) ?_
    refine lv_aload_n hx hb d_Mo_isApart_58 rfl (lv_at hl 2 rfl) ?_
    refine va_get (D := D) (ci := 6) (v := .ref m13) (C := R_Mo) (T := T_Mo) (N := 22) hx hb hts (fun w h => List.mem_cons_of_mem _ (iw_Mo w h)) hown hK hP 0 rfl rfl 21 (by decide) (hts _ (List.mem_cons_of_mem _ k_566)) (fun _ h9 => h9) rfl d_Mo_isApart_59 ?_
    refine lv_bipush (v := nI 6) hx hb d_Mo_isApart_62 (by decide +kernel) ?_
    refine lv_iload_n hx hb d_Mo_isApart_64 rfl (lv_at hl 4 rfl) ?_
    refine lv_imul hx hb d_Mo_isApart_65 ?_
    refine ka_i (y := nI (6 * b_)) (pk_mul _ _) ?_
    refine lv_iconst (v := nI 3) hx hb d_Mo_isApart_66 (by decide +kernel) ?_
    refine lv_iadd hx hb d_Mo_isApart_67 ?_
    refine ka_i (y := nI ((6 * b_) + 3)) (nI_add _ _) ?_
    refine lv_iload_n hx hb d_Mo_isApart_68 rfl (lv_at hl 5 rfl) ?_
    refine lv_iadd hx hb d_Mo_isApart_69 ?_
    refine ka_i (y := nI (((6 * b_) + 3) + ax)) (nI_add _ _) ?_
    refine ka_iald (k := (((6 * b_) + 3) + ax)) (n := 2400) (f := fun j => nI (AT j)) (nI_t (by omega)) (by omega) hx hb hK hP 1 0 rfl rfl d_Mo_isApart_70 ?_
    refine lv_iadd hx hb d_Mo_isApart_71 ?_
    refine ka_i (y := nI ((AT (((6 * b_) + 1) + ax)) + (AT (((6 * b_) + 3) + ax)))) (nI_add _ _) ?_
    refine lv_aload_n hx hb d_Mo_isApart_72 rfl (lv_at hl 2 rfl) ?_
    refine va_get (D := D) (ci := 6) (v := .int (nI kf)) (C := R_Mo) (T := T_Mo) (N := 22) hx hb hts (fun w h => List.mem_cons_of_mem _ (iw_Mo w h)) hown hK hP 0 rfl rfl 2 (by decide) (hts _ (List.mem_cons_of_mem _ k_547)) (fun _ h9 => h9) rfl d_Mo_isApart_73 ?_
    refine lv_iadd hx hb d_Mo_isApart_76 ?_
    refine ka_i (y := nI (((AT (((6 * b_) + 1) + ax)) + (AT (((6 * b_) + 3) + ax))) + kf)) (nI_add _ _) ?_
    refine lv_iload hx hb d_Mo_isApart_77 (lv_at hl 1 rfl) ?_
    refine kb_cgt (tgt := 86) (nI_t (by omega)) (nI_t (by omega)) hx hb d_Mo_isApart_79 (by decide) (fun c2 => ?_) (fun c2 => ?_)
    · refine lv_iconst (v := nI 0) hx hb d_Mo_isApart_86 (by decide +kernel) ?_
      refine ka_i (y := pI (AT (6 * a_ + 1 + ax) + AT (6 * a_ + 3 + ax) + kf ≤ AT (6 * b_ + 1 + ax) ∨ AT (6 * b_ + 1 + ax) + AT (6 * b_ + 3 + ax) + kf ≤ AT (6 * a_ + 1 + ax))) (pI_z (fun h => by omega)) ?_
      exact krdz (pI_narrow _) hx hb hr hlocks d_Mo_isApart_87
    · refine lv_iconst (v := nI 1) hx hb d_Mo_isApart_82 (by decide +kernel) ?_
      refine lv_goto (tgt := 87) hx hb d_Mo_isApart_83 (by decide) ?_
      refine ka_i (y := pI (AT (6 * a_ + 1 + ax) + AT (6 * a_ + 3 + ax) + kf ≤ AT (6 * b_ + 1 + ax) ∨ AT (6 * b_ + 1 + ax) + AT (6 * b_ + 3 + ax) + kf ≤ AT (6 * a_ + 1 + ax))) (pI_1 (by omega)) ?_
      exact krdz (pI_narrow _) hx hb hr hlocks d_Mo_isApart_87
set_option maxHeartbeats 4000000 in
set_option maxRecDepth 100000 in
theorem m_apart (l : Launch) (D : va_G) (cI cJ cZ : ClassId) (sz : Nat) (mo : Nat) (m1 : Nat) (m2 : Nat) (m3 : Nat) (m4 : Nat) (m5 : Nat) (m6 : Nat) (m7 : Nat) (m8 : Nat) (m9 : Nat) (m10 : Nat) (m11 : Nat) (m12 : Nat) (m13 : Nat) (M : MoS) (x : Int32) (y : Int32) (hI : moI M) : Met l y_Mo_apart w_Mo_apart ({ frames := 1, cells := 0, slots := 0, locals := 25 }) (va_Pc [.ref mo, .int x, .int y] (kB D vwCl (tyL cI cJ cZ) sz [(mo, .inr (6, [.int (nI M.thr), .int (nI M.side), .int (nI M.kf), .ref m1, .ref m2, .int (nI M.cn), .ref m3, .ref m4, .ref m5, .ref m6, .ref m7, .ref m8, .ref m9, .ref m10, .ref m11, .ref m12, .int (pI M.sw), .int (nI M.tn), .int (nI M.tot), .int (nI M.psl), .int (nI M.pc_), .ref m13])), (m1, .inl (cZ, 800, .inl (fun j => pI (M.IN j)))), (m2, .inl (cI, 400, .inl (fun j => nI (M.LO j)))), (m3, .inl (cI, 8, .inl (fun j => nI (M.th j)))), (m4, .inl (cI, 8, .inl (fun j => nI (M.wi j)))), (m5, .inl (cI, 8, .inl (fun j => nI (M.wo j)))), (m6, .inl (cI, 8, .inl (fun j => nI (M.wn j)))), (m7, .inl (cI, 441, .inl (fun j => nI (M.F3 j)))), (m8, .inl (cI, 441, .inl (fun j => nI (M.F4 j)))), (m9, .inl (cI, 9702, .inl (fun j => nI (M.SW j)))), (m10, .inl (cI, 9702, .inl (fun j => nI (M.SN j)))), (m11, .inl (cI, 21, .inl (fun j => nI (M.RW j)))), (m12, .inl (cI, 21, .inl (fun j => nI (M.RN j)))), (m13, .inl (cI, 2400, .inl (fun j => nI (M.AT j))))])) (va_Qi (fun (r : Int32) (u : MoS) => moI u ∧ ∃ t_, u = moThr M t_) (fun (u : MoS) t => kE D vwCl (va_A [(mo, .inr (6, [.int (nI M.thr), .int (nI M.side), .int (nI M.kf), .ref m1, .ref m2, .int (nI M.cn), .ref m3, .ref m4, .ref m5, .ref m6, .ref m7, .ref m8, .ref m9, .ref m10, .ref m11, .ref m12, .int (pI M.sw), .int (nI M.tn), .int (nI M.tot), .int (nI M.psl), .int (nI M.pc_), .ref m13])), (m1, .inl (cZ, 800, .inl (fun j => pI (M.IN j)))), (m2, .inl (cI, 400, .inl (fun j => nI (M.LO j)))), (m3, .inl (cI, 8, .inl (fun j => nI (M.th j)))), (m4, .inl (cI, 8, .inl (fun j => nI (M.wi j)))), (m5, .inl (cI, 8, .inl (fun j => nI (M.wo j)))), (m6, .inl (cI, 8, .inl (fun j => nI (M.wn j)))), (m7, .inl (cI, 441, .inl (fun j => nI (M.F3 j)))), (m8, .inl (cI, 441, .inl (fun j => nI (M.F4 j)))), (m9, .inl (cI, 9702, .inl (fun j => nI (M.SW j)))), (m10, .inl (cI, 9702, .inl (fun j => nI (M.SN j)))), (m11, .inl (cI, 21, .inl (fun j => nI (M.RW j)))), (m12, .inl (cI, 21, .inl (fun j => nI (M.RN j)))), (m13, .inl (cI, 2400, .inl (fun j => nI (M.AT j))))] sz) [(mo, .inr (6, [.int (nI u.thr), .int (nI u.side), .int (nI u.kf), .ref m1, .ref m2, .int (nI u.cn), .ref m3, .ref m4, .ref m5, .ref m6, .ref m7, .ref m8, .ref m9, .ref m10, .ref m11, .ref m12, .int (pI u.sw), .int (nI u.tn), .int (nI u.tot), .int (nI u.psl), .int (nI u.pc_), .ref m13])), (m1, .inl (cZ, 800, .inl (fun j => pI (u.IN j)))), (m2, .inl (cI, 400, .inl (fun j => nI (u.LO j)))), (m3, .inl (cI, 8, .inl (fun j => nI (u.th j)))), (m4, .inl (cI, 8, .inl (fun j => nI (u.wi j)))), (m5, .inl (cI, 8, .inl (fun j => nI (u.wo j)))), (m6, .inl (cI, 8, .inl (fun j => nI (u.wn j)))), (m7, .inl (cI, 441, .inl (fun j => nI (u.F3 j)))), (m8, .inl (cI, 441, .inl (fun j => nI (u.F4 j)))), (m9, .inl (cI, 9702, .inl (fun j => nI (u.SW j)))), (m10, .inl (cI, 9702, .inl (fun j => nI (u.SN j)))), (m11, .inl (cI, 21, .inl (fun j => nI (u.RW j)))), (m12, .inl (cI, 21, .inl (fun j => nI (u.RN j)))), (m13, .inl (cI, 2400, .inl (fun j => nI (u.AT j))))] t) (va_A [(mo, .inr (6, [.int (nI M.thr), .int (nI M.side), .int (nI M.kf), .ref m1, .ref m2, .int (nI M.cn), .ref m3, .ref m4, .ref m5, .ref m6, .ref m7, .ref m8, .ref m9, .ref m10, .ref m11, .ref m12, .int (pI M.sw), .int (nI M.tn), .int (nI M.tot), .int (nI M.psl), .int (nI M.pc_), .ref m13])), (m1, .inl (cZ, 800, .inl (fun j => pI (M.IN j)))), (m2, .inl (cI, 400, .inl (fun j => nI (M.LO j)))), (m3, .inl (cI, 8, .inl (fun j => nI (M.th j)))), (m4, .inl (cI, 8, .inl (fun j => nI (M.wi j)))), (m5, .inl (cI, 8, .inl (fun j => nI (M.wo j)))), (m6, .inl (cI, 8, .inl (fun j => nI (M.wn j)))), (m7, .inl (cI, 441, .inl (fun j => nI (M.F3 j)))), (m8, .inl (cI, 441, .inl (fun j => nI (M.F4 j)))), (m9, .inl (cI, 9702, .inl (fun j => nI (M.SW j)))), (m10, .inl (cI, 9702, .inl (fun j => nI (M.SN j)))), (m11, .inl (cI, 21, .inl (fun j => nI (M.RW j)))), (m12, .inl (cI, 21, .inl (fun j => nI (M.RN j)))), (m13, .inl (cI, 2400, .inl (fun j => nI (M.AT j))))] sz)) 0 0 (va_A [(mo, .inr (6, [.int (nI M.thr), .int (nI M.side), .int (nI M.kf), .ref m1, .ref m2, .int (nI M.cn), .ref m3, .ref m4, .ref m5, .ref m6, .ref m7, .ref m8, .ref m9, .ref m10, .ref m11, .ref m12, .int (pI M.sw), .int (nI M.tn), .int (nI M.tot), .int (nI M.psl), .int (nI M.pc_), .ref m13])), (m1, .inl (cZ, 800, .inl (fun j => pI (M.IN j)))), (m2, .inl (cI, 400, .inl (fun j => nI (M.LO j)))), (m3, .inl (cI, 8, .inl (fun j => nI (M.th j)))), (m4, .inl (cI, 8, .inl (fun j => nI (M.wi j)))), (m5, .inl (cI, 8, .inl (fun j => nI (M.wo j)))), (m6, .inl (cI, 8, .inl (fun j => nI (M.wn j)))), (m7, .inl (cI, 441, .inl (fun j => nI (M.F3 j)))), (m8, .inl (cI, 441, .inl (fun j => nI (M.F4 j)))), (m9, .inl (cI, 9702, .inl (fun j => nI (M.SW j)))), (m10, .inl (cI, 9702, .inl (fun j => nI (M.SN j)))), (m11, .inl (cI, 21, .inl (fun j => nI (M.RW j)))), (m12, .inl (cI, 21, .inl (fun j => nI (M.RN j)))), (m13, .inl (cI, 2400, .inl (fun j => nI (M.AT j))))] sz) := by
  refine Met.ofW (cc := b_Mo_apart) (maxL := 3) (ret := (some (.boolean))) (by decide) rfl ?_
  intro p e s m args below meth c s₁ B hml hv
  obtain ⟨rfl, hsz, hP, hK, hD0, hZ⟩ := hv
  have hx := B.exec
  have hb := B.bytes
  have hr := B.returns
  have hts := atoms_spec (ws := w_Mo_apart) B.pre
  have hown : s.vm.findClass R_Mo = some m.cls := findClass_of_methodNamed B.named
  have hlocks := B.notSynchronized
  subst hsz
  have hD := hD0.self (sz := s.heap.size)
  generalize hAe : va_A [(mo, .inr (6, [.int (nI M.thr), .int (nI M.side), .int (nI M.kf), .ref m1, .ref m2, .int (nI M.cn), .ref m3, .ref m4, .ref m5, .ref m6, .ref m7, .ref m8, .ref m9, .ref m10, .ref m11, .ref m12, .int (pI M.sw), .int (nI M.tn), .int (nI M.tot), .int (nI M.psl), .int (nI M.pc_), .ref m13])), (m1, .inl (cZ, 800, .inl (fun j => pI (M.IN j)))), (m2, .inl (cI, 400, .inl (fun j => nI (M.LO j)))), (m3, .inl (cI, 8, .inl (fun j => nI (M.th j)))), (m4, .inl (cI, 8, .inl (fun j => nI (M.wi j)))), (m5, .inl (cI, 8, .inl (fun j => nI (M.wo j)))), (m6, .inl (cI, 8, .inl (fun j => nI (M.wn j)))), (m7, .inl (cI, 441, .inl (fun j => nI (M.F3 j)))), (m8, .inl (cI, 441, .inl (fun j => nI (M.F4 j)))), (m9, .inl (cI, 9702, .inl (fun j => nI (M.SW j)))), (m10, .inl (cI, 9702, .inl (fun j => nI (M.SN j)))), (m11, .inl (cI, 21, .inl (fun j => nI (M.RW j)))), (m12, .inl (cI, 21, .inl (fun j => nI (M.RN j)))), (m13, .inl (cI, 2400, .inl (fun j => nI (M.AT j))))] s.heap.size = A at hD ⊢
  have hA : ∀ q : Nat, s.heap.size ≤ q → A q := fun q h => by rw [← hAe]; exact Or.inr h
  have hS : va_S A s.heap s.heap [] := va_S.rf
  have hP : va_P D vwCl [(mo, .inr (6, [.int (nI M.thr), .int (nI M.side), .int (nI M.kf), .ref m1, .ref m2, .int (nI M.cn), .ref m3, .ref m4, .ref m5, .ref m6, .ref m7, .ref m8, .ref m9, .ref m10, .ref m11, .ref m12, .int (pI M.sw), .int (nI M.tn), .int (nI M.tot), .int (nI M.psl), .int (nI M.pc_), .ref m13])), (m1, .inl (cZ, 800, .inl (fun j => pI (M.IN j)))), (m2, .inl (cI, 400, .inl (fun j => nI (M.LO j)))), (m3, .inl (cI, 8, .inl (fun j => nI (M.th j)))), (m4, .inl (cI, 8, .inl (fun j => nI (M.wi j)))), (m5, .inl (cI, 8, .inl (fun j => nI (M.wo j)))), (m6, .inl (cI, 8, .inl (fun j => nI (M.wn j)))), (m7, .inl (cI, 441, .inl (fun j => nI (M.F3 j)))), (m8, .inl (cI, 441, .inl (fun j => nI (M.F4 j)))), (m9, .inl (cI, 9702, .inl (fun j => nI (M.SW j)))), (m10, .inl (cI, 9702, .inl (fun j => nI (M.SN j)))), (m11, .inl (cI, 21, .inl (fun j => nI (M.RW j)))), (m12, .inl (cI, 21, .inl (fun j => nI (M.RN j)))), (m13, .inl (cI, 2400, .inl (fun j => nI (M.AT j))))] s.heap := hP
  have hl := lv_entry ([.ref mo, .int x, .int y]) (n := 3) (Nat.le_of_ble_eq_true rfl)
  rw [lg_entry_eq]
  generalize (lg_sl ([.ref mo, .int x, .int y]) ++ List.replicate (3 - (lg_sl ([.ref mo, .int x, .int y])).length) Slot.unset).toArray = ls at hl ⊢
  have hl : lv_has ls 3 [(0, .ref mo), (1, .int x), (2, .int y)] := hl
  have s1 := hI.s1
  have s2 := hI.s2
  have k4 := hI.k4
  have n8 := hI.n8
  have ht := hI.ht
  have hw := hI.hw
  have hw1 := hI.hw1
  have ho := hI.ho
  have hn := hI.hn
  have hL := hI.hL
  have e3 := hI.e3
  have e4 := hI.e4
  have bW := hI.bW
  have bN := hI.bN
  have cW := hI.cW
  have cN := hI.cN
  have tn1 := hI.tn1
  have hpc := hI.hpc
  have hat := hI.hat
  have qq := (sq20 s2).2
  refine lv_aload_n hx hb d_Mo_apart_0 rfl (lv_at hl 0 rfl) ?_
  refine lv_aload_n hx hb d_Mo_apart_1 rfl (lv_at hl 0 rfl) ?_
  refine va_get (D := D) (ci := 6) (v := .int (pI M.sw)) (C := R_Mo) (T := T_Mo) (N := 22) hx hb hts (fun w h => List.mem_cons_of_mem _ (iw_Mo w h)) hown hK hP 0 rfl rfl 16 (by decide) (hts _ (List.mem_cons_of_mem _ k_561)) (fun _ h9 => h9) rfl d_Mo_apart_2 ?_
  refine kb_neP (tgt := 12) hx hb d_Mo_apart_5 (by decide) (fun cs => ?_) (fun cs => ?_)
  · refine lv_iload_n hx hb d_Mo_apart_12 rfl (lv_at hl 1 rfl) ?_
    refine lv_iconst (v := nI 0) hx hb d_Mo_apart_13 (by decide +kernel) ?_
    refine lv_aload_n hx hb d_Mo_apart_14 rfl (lv_at hl 0 rfl) ?_
    refine va_get (D := D) (ci := 6) (v := .int (nI M.pc_)) (C := R_Mo) (T := T_Mo) (N := 22) hx hb hts (fun w h => List.mem_cons_of_mem _ (iw_Mo w h)) hown hK hP 0 rfl rfl 20 (by decide) (hts _ (List.mem_cons_of_mem _ k_565)) (fun _ h9 => h9) rfl d_Mo_apart_15 ?_
    refine lv_iconst (v := nI 1) hx hb d_Mo_apart_18 (by decide +kernel) ?_
    refine lv_isub hx hb d_Mo_apart_19 ?_
    refine ka_i (y := iI (((M.pc_ : Nat) : Int) - ((1 : Nat) : Int))) (by rw [iI_of M.pc_, iI_of 1]; exact iI_sub _ _) ?_
    refine kcallR (r := .int (pI (((0 : Nat) : Int) ≤ x.toInt ∧ x.toInt ≤ (((M.pc_ : Nat) : Int) - ((1 : Nat) : Int))))) (va_runS (As := [.int x, .int (nI 0), .int (iI (((M.pc_ : Nat) : Int) - ((1 : Nat) : Int)))]) (rest := [.ref mo]) ⟨hx, hb, hml, hown, hts⟩ (m_isIn l D cI cJ cZ x (nI 0) (iI (((M.pc_ : Nat) : Int) - ((1 : Nat) : Int))) x.toInt ((0 : Nat) : Int) (((M.pc_ : Nat) : Int) - ((1 : Nat) : Int)) rfl (nI_t (by omega)) (iI_t (by omega) (by omega))) ⟨callB_of 3 hts (gd kc_Mo_isIn) rfl rfl rfl (hts _ (List.mem_cons_of_mem _ k_8)) (hts _ (List.mem_cons_of_mem _ k_620)) (by decide +kernel) ⟨Nat.le_of_ble_eq_true rfl, Nat.le_of_ble_eq_true rfl⟩, hts _ (List.mem_cons_of_mem _ k_621)⟩ ⟨kR_blind, kR_at hP hK hZ [] rfl⟩ rfl rfl hl.1 rfl (lv_room (Nat.le_of_ble_eq_true rfl)) d_Mo_apart_20 ⟨Nat.zero_le _, Nat.zero_le _⟩) ?_
    refine kb_eqP (tgt := 44) hx hb d_Mo_apart_23 (by decide) (fun c1 => ?_) (fun c1 => ?_)
    · refine lv_iconst (v := nI 2) hx hb d_Mo_apart_44 (by decide +kernel) ?_
      refine va_put (D := D) (ci := 6) (v := .int (nI 2)) (ty := .int) (C := R_Mo) (T := T_Mo) (N := 22) hx hb hts (fun w h => List.mem_cons_of_mem _ (iw_Mo w h)) ty_Mo tyok_Mo nm_Mo hown hK hP hD hS 0 rfl rfl 0 (by decide) (hts _ (List.mem_cons_of_mem _ k_545)) (fun _ h9 => h9) rfl (by decide +kernel) (rfl) (rfl) (Nat.le_of_ble_eq_true rfl) d_Mo_apart_45 (fun H locs hP hD hS => ?_)
      have hP : va_P D vwCl [(mo, .inr (6, [.int (nI 2), .int (nI M.side), .int (nI M.kf), .ref m1, .ref m2, .int (nI M.cn), .ref m3, .ref m4, .ref m5, .ref m6, .ref m7, .ref m8, .ref m9, .ref m10, .ref m11, .ref m12, .int (pI M.sw), .int (nI M.tn), .int (nI M.tot), .int (nI M.psl), .int (nI M.pc_), .ref m13])), (m1, .inl (cZ, 800, .inl (fun j => pI (M.IN j)))), (m2, .inl (cI, 400, .inl (fun j => nI (M.LO j)))), (m3, .inl (cI, 8, .inl (fun j => nI (M.th j)))), (m4, .inl (cI, 8, .inl (fun j => nI (M.wi j)))), (m5, .inl (cI, 8, .inl (fun j => nI (M.wo j)))), (m6, .inl (cI, 8, .inl (fun j => nI (M.wn j)))), (m7, .inl (cI, 441, .inl (fun j => nI (M.F3 j)))), (m8, .inl (cI, 441, .inl (fun j => nI (M.F4 j)))), (m9, .inl (cI, 9702, .inl (fun j => nI (M.SW j)))), (m10, .inl (cI, 9702, .inl (fun j => nI (M.SN j)))), (m11, .inl (cI, 21, .inl (fun j => nI (M.RW j)))), (m12, .inl (cI, 21, .inl (fun j => nI (M.RN j)))), (m13, .inl (cI, 2400, .inl (fun j => nI (M.AT j))))] H := hP
      have hD : va_D A [(mo, .inr (6, [.int (nI 2), .int (nI M.side), .int (nI M.kf), .ref m1, .ref m2, .int (nI M.cn), .ref m3, .ref m4, .ref m5, .ref m6, .ref m7, .ref m8, .ref m9, .ref m10, .ref m11, .ref m12, .int (pI M.sw), .int (nI M.tn), .int (nI M.tot), .int (nI M.psl), .int (nI M.pc_), .ref m13])), (m1, .inl (cZ, 800, .inl (fun j => pI (M.IN j)))), (m2, .inl (cI, 400, .inl (fun j => nI (M.LO j)))), (m3, .inl (cI, 8, .inl (fun j => nI (M.th j)))), (m4, .inl (cI, 8, .inl (fun j => nI (M.wi j)))), (m5, .inl (cI, 8, .inl (fun j => nI (M.wo j)))), (m6, .inl (cI, 8, .inl (fun j => nI (M.wn j)))), (m7, .inl (cI, 441, .inl (fun j => nI (M.F3 j)))), (m8, .inl (cI, 441, .inl (fun j => nI (M.F4 j)))), (m9, .inl (cI, 9702, .inl (fun j => nI (M.SW j)))), (m10, .inl (cI, 9702, .inl (fun j => nI (M.SN j)))), (m11, .inl (cI, 21, .inl (fun j => nI (M.RW j)))), (m12, .inl (cI, 21, .inl (fun j => nI (M.RN j)))), (m13, .inl (cI, 2400, .inl (fun j => nI (M.AT j))))] := hD
      refine lv_aload_n hx hb d_Mo_apart_48 rfl (lv_at hl 0 rfl) ?_
      refine va_get (D := D) (ci := 6) (v := .int (nI 2)) (C := R_Mo) (T := T_Mo) (N := 22) hx hb hts (fun w h => List.mem_cons_of_mem _ (iw_Mo w h)) hown hK hP 0 rfl rfl 0 (by decide) (hts _ (List.mem_cons_of_mem _ k_545)) (fun _ h9 => h9) rfl d_Mo_apart_49 ?_
      refine kb_ne (tgt := 79) (nI_t (by omega)) hx hb d_Mo_apart_52 (by decide) (fun c_52 => ?_) (fun c_52 => ?_)
      · refine lv_iconst (v := nI 0) hx hb d_Mo_apart_79 (by decide +kernel) ?_
        exact kretz (u := moThr M 2) (rfl) hx hb hr hP hD hS hlocks rfl (⟨moI_thr hI 2, 2, rfl⟩) d_Mo_apart_80
      · exfalso; omega
    · refine lv_iload_n hx hb d_Mo_apart_26 rfl (lv_at hl 2 rfl) ?_
      refine lv_iconst (v := nI 0) hx hb d_Mo_apart_27 (by decide +kernel) ?_
      refine lv_aload_n hx hb d_Mo_apart_28 rfl (lv_at hl 0 rfl) ?_
      refine va_get (D := D) (ci := 6) (v := .int (nI M.pc_)) (C := R_Mo) (T := T_Mo) (N := 22) hx hb hts (fun w h => List.mem_cons_of_mem _ (iw_Mo w h)) hown hK hP 0 rfl rfl 20 (by decide) (hts _ (List.mem_cons_of_mem _ k_565)) (fun _ h9 => h9) rfl d_Mo_apart_29 ?_
      refine lv_iconst (v := nI 1) hx hb d_Mo_apart_32 (by decide +kernel) ?_
      refine lv_isub hx hb d_Mo_apart_33 ?_
      refine ka_i (y := iI (((M.pc_ : Nat) : Int) - ((1 : Nat) : Int))) (by rw [iI_of M.pc_, iI_of 1]; exact iI_sub _ _) ?_
      refine kcallR (r := .int (pI (((0 : Nat) : Int) ≤ y.toInt ∧ y.toInt ≤ (((M.pc_ : Nat) : Int) - ((1 : Nat) : Int))))) (va_runS (As := [.int y, .int (nI 0), .int (iI (((M.pc_ : Nat) : Int) - ((1 : Nat) : Int)))]) (rest := [.ref mo]) ⟨hx, hb, hml, hown, hts⟩ (m_isIn l D cI cJ cZ y (nI 0) (iI (((M.pc_ : Nat) : Int) - ((1 : Nat) : Int))) y.toInt ((0 : Nat) : Int) (((M.pc_ : Nat) : Int) - ((1 : Nat) : Int)) rfl (nI_t (by omega)) (iI_t (by omega) (by omega))) ⟨callB_of 3 hts (gd kc_Mo_isIn) rfl rfl rfl (hts _ (List.mem_cons_of_mem _ k_8)) (hts _ (List.mem_cons_of_mem _ k_620)) (by decide +kernel) ⟨Nat.le_of_ble_eq_true rfl, Nat.le_of_ble_eq_true rfl⟩, hts _ (List.mem_cons_of_mem _ k_621)⟩ ⟨kR_blind, kR_at hP hK hZ [] rfl⟩ rfl rfl hl.1 rfl (lv_room (Nat.le_of_ble_eq_true rfl)) d_Mo_apart_34 ⟨Nat.zero_le _, Nat.zero_le _⟩) ?_
      refine kb_eqP (tgt := 44) hx hb d_Mo_apart_37 (by decide) (fun c2 => ?_) (fun c2 => ?_)
      · refine lv_iconst (v := nI 2) hx hb d_Mo_apart_44 (by decide +kernel) ?_
        refine va_put (D := D) (ci := 6) (v := .int (nI 2)) (ty := .int) (C := R_Mo) (T := T_Mo) (N := 22) hx hb hts (fun w h => List.mem_cons_of_mem _ (iw_Mo w h)) ty_Mo tyok_Mo nm_Mo hown hK hP hD hS 0 rfl rfl 0 (by decide) (hts _ (List.mem_cons_of_mem _ k_545)) (fun _ h9 => h9) rfl (by decide +kernel) (rfl) (rfl) (Nat.le_of_ble_eq_true rfl) d_Mo_apart_45 (fun H locs hP hD hS => ?_)
        have hP : va_P D vwCl [(mo, .inr (6, [.int (nI 2), .int (nI M.side), .int (nI M.kf), .ref m1, .ref m2, .int (nI M.cn), .ref m3, .ref m4, .ref m5, .ref m6, .ref m7, .ref m8, .ref m9, .ref m10, .ref m11, .ref m12, .int (pI M.sw), .int (nI M.tn), .int (nI M.tot), .int (nI M.psl), .int (nI M.pc_), .ref m13])), (m1, .inl (cZ, 800, .inl (fun j => pI (M.IN j)))), (m2, .inl (cI, 400, .inl (fun j => nI (M.LO j)))), (m3, .inl (cI, 8, .inl (fun j => nI (M.th j)))), (m4, .inl (cI, 8, .inl (fun j => nI (M.wi j)))), (m5, .inl (cI, 8, .inl (fun j => nI (M.wo j)))), (m6, .inl (cI, 8, .inl (fun j => nI (M.wn j)))), (m7, .inl (cI, 441, .inl (fun j => nI (M.F3 j)))), (m8, .inl (cI, 441, .inl (fun j => nI (M.F4 j)))), (m9, .inl (cI, 9702, .inl (fun j => nI (M.SW j)))), (m10, .inl (cI, 9702, .inl (fun j => nI (M.SN j)))), (m11, .inl (cI, 21, .inl (fun j => nI (M.RW j)))), (m12, .inl (cI, 21, .inl (fun j => nI (M.RN j)))), (m13, .inl (cI, 2400, .inl (fun j => nI (M.AT j))))] H := hP
        have hD : va_D A [(mo, .inr (6, [.int (nI 2), .int (nI M.side), .int (nI M.kf), .ref m1, .ref m2, .int (nI M.cn), .ref m3, .ref m4, .ref m5, .ref m6, .ref m7, .ref m8, .ref m9, .ref m10, .ref m11, .ref m12, .int (pI M.sw), .int (nI M.tn), .int (nI M.tot), .int (nI M.psl), .int (nI M.pc_), .ref m13])), (m1, .inl (cZ, 800, .inl (fun j => pI (M.IN j)))), (m2, .inl (cI, 400, .inl (fun j => nI (M.LO j)))), (m3, .inl (cI, 8, .inl (fun j => nI (M.th j)))), (m4, .inl (cI, 8, .inl (fun j => nI (M.wi j)))), (m5, .inl (cI, 8, .inl (fun j => nI (M.wo j)))), (m6, .inl (cI, 8, .inl (fun j => nI (M.wn j)))), (m7, .inl (cI, 441, .inl (fun j => nI (M.F3 j)))), (m8, .inl (cI, 441, .inl (fun j => nI (M.F4 j)))), (m9, .inl (cI, 9702, .inl (fun j => nI (M.SW j)))), (m10, .inl (cI, 9702, .inl (fun j => nI (M.SN j)))), (m11, .inl (cI, 21, .inl (fun j => nI (M.RW j)))), (m12, .inl (cI, 21, .inl (fun j => nI (M.RN j)))), (m13, .inl (cI, 2400, .inl (fun j => nI (M.AT j))))] := hD
        refine lv_aload_n hx hb d_Mo_apart_48 rfl (lv_at hl 0 rfl) ?_
        refine va_get (D := D) (ci := 6) (v := .int (nI 2)) (C := R_Mo) (T := T_Mo) (N := 22) hx hb hts (fun w h => List.mem_cons_of_mem _ (iw_Mo w h)) hown hK hP 0 rfl rfl 0 (by decide) (hts _ (List.mem_cons_of_mem _ k_545)) (fun _ h9 => h9) rfl d_Mo_apart_49 ?_
        refine kb_ne (tgt := 79) (nI_t (by omega)) hx hb d_Mo_apart_52 (by decide) (fun c_52 => ?_) (fun c_52 => ?_)
        · refine lv_iconst (v := nI 0) hx hb d_Mo_apart_79 (by decide +kernel) ?_
          exact kretz (u := moThr M 2) (rfl) hx hb hr hP hD hS hlocks rfl (⟨moI_thr hI 2, 2, rfl⟩) d_Mo_apart_80
        · exfalso; omega
      · refine lv_iconst (v := nI 0) hx hb d_Mo_apart_40 (by decide +kernel) ?_
        refine lv_goto (tgt := 45) hx hb d_Mo_apart_41 (by decide) ?_
        refine va_put (D := D) (ci := 6) (v := .int (nI 0)) (ty := .int) (C := R_Mo) (T := T_Mo) (N := 22) hx hb hts (fun w h => List.mem_cons_of_mem _ (iw_Mo w h)) ty_Mo tyok_Mo nm_Mo hown hK hP hD hS 0 rfl rfl 0 (by decide) (hts _ (List.mem_cons_of_mem _ k_545)) (fun _ h9 => h9) rfl (by decide +kernel) (rfl) (rfl) (Nat.le_of_ble_eq_true rfl) d_Mo_apart_45 (fun H locs hP hD hS => ?_)
        have hP : va_P D vwCl [(mo, .inr (6, [.int (nI 0), .int (nI M.side), .int (nI M.kf), .ref m1, .ref m2, .int (nI M.cn), .ref m3, .ref m4, .ref m5, .ref m6, .ref m7, .ref m8, .ref m9, .ref m10, .ref m11, .ref m12, .int (pI M.sw), .int (nI M.tn), .int (nI M.tot), .int (nI M.psl), .int (nI M.pc_), .ref m13])), (m1, .inl (cZ, 800, .inl (fun j => pI (M.IN j)))), (m2, .inl (cI, 400, .inl (fun j => nI (M.LO j)))), (m3, .inl (cI, 8, .inl (fun j => nI (M.th j)))), (m4, .inl (cI, 8, .inl (fun j => nI (M.wi j)))), (m5, .inl (cI, 8, .inl (fun j => nI (M.wo j)))), (m6, .inl (cI, 8, .inl (fun j => nI (M.wn j)))), (m7, .inl (cI, 441, .inl (fun j => nI (M.F3 j)))), (m8, .inl (cI, 441, .inl (fun j => nI (M.F4 j)))), (m9, .inl (cI, 9702, .inl (fun j => nI (M.SW j)))), (m10, .inl (cI, 9702, .inl (fun j => nI (M.SN j)))), (m11, .inl (cI, 21, .inl (fun j => nI (M.RW j)))), (m12, .inl (cI, 21, .inl (fun j => nI (M.RN j)))), (m13, .inl (cI, 2400, .inl (fun j => nI (M.AT j))))] H := hP
        have hD : va_D A [(mo, .inr (6, [.int (nI 0), .int (nI M.side), .int (nI M.kf), .ref m1, .ref m2, .int (nI M.cn), .ref m3, .ref m4, .ref m5, .ref m6, .ref m7, .ref m8, .ref m9, .ref m10, .ref m11, .ref m12, .int (pI M.sw), .int (nI M.tn), .int (nI M.tot), .int (nI M.psl), .int (nI M.pc_), .ref m13])), (m1, .inl (cZ, 800, .inl (fun j => pI (M.IN j)))), (m2, .inl (cI, 400, .inl (fun j => nI (M.LO j)))), (m3, .inl (cI, 8, .inl (fun j => nI (M.th j)))), (m4, .inl (cI, 8, .inl (fun j => nI (M.wi j)))), (m5, .inl (cI, 8, .inl (fun j => nI (M.wo j)))), (m6, .inl (cI, 8, .inl (fun j => nI (M.wn j)))), (m7, .inl (cI, 441, .inl (fun j => nI (M.F3 j)))), (m8, .inl (cI, 441, .inl (fun j => nI (M.F4 j)))), (m9, .inl (cI, 9702, .inl (fun j => nI (M.SW j)))), (m10, .inl (cI, 9702, .inl (fun j => nI (M.SN j)))), (m11, .inl (cI, 21, .inl (fun j => nI (M.RW j)))), (m12, .inl (cI, 21, .inl (fun j => nI (M.RN j)))), (m13, .inl (cI, 2400, .inl (fun j => nI (M.AT j))))] := hD
        refine lv_aload_n hx hb d_Mo_apart_48 rfl (lv_at hl 0 rfl) ?_
        refine va_get (D := D) (ci := 6) (v := .int (nI 0)) (C := R_Mo) (T := T_Mo) (N := 22) hx hb hts (fun w h => List.mem_cons_of_mem _ (iw_Mo w h)) hown hK hP 0 rfl rfl 0 (by decide) (hts _ (List.mem_cons_of_mem _ k_545)) (fun _ h9 => h9) rfl d_Mo_apart_49 ?_
        refine kb_ne (tgt := 79) (nI_t (by omega)) hx hb d_Mo_apart_52 (by decide) (fun c_52 => ?_) (fun c_52 => ?_)
        · exfalso; omega
        · obtain ⟨e_x, n_x⟩ := zN_eq (x := x) (by omega)
          obtain ⟨e_y, n_y⟩ := zN_eq (x := y) (by omega)
          have hl : lv_has ls 3 [(0, .ref mo), (1, .int (nI (zN x))), (2, .int (nI (zN y)))] := by rw [← e_x, ← e_y]; exact hl
          have hx9 := hat (zN x) (by omega)
          have hy9 := hat (zN y) (by omega)
          refine lv_aload_n hx hb d_Mo_apart_55 rfl (lv_at hl 0 rfl) ?_
          refine lv_iload_n hx hb d_Mo_apart_56 rfl (lv_at hl 1 rfl) ?_
          refine lv_iload_n hx hb d_Mo_apart_57 rfl (lv_at hl 2 rfl) ?_
          refine lv_iconst (v := nI 0) hx hb d_Mo_apart_58 (by decide +kernel) ?_
          refine kcallR (r := .int (pI (M.AT (6 * (zN x) + 1 + 0) + M.AT (6 * (zN x) + 3 + 0) + M.kf ≤ M.AT (6 * (zN y) + 1 + 0) ∨ M.AT (6 * (zN y) + 1 + 0) + M.AT (6 * (zN y) + 3 + 0) + M.kf ≤ M.AT (6 * (zN x) + 1 + 0)))) (va_runV (As := [.int (nI (zN x)), .int (nI (zN y)), .int (nI 0)]) (rest := []) ⟨hx, hb, hml, hown, hts⟩ (m_isApart l D cI cJ cZ mo 0 M.side M.kf m1 m2 M.cn m3 m4 m5 m6 m7 m8 m9 m10 m11 m12 M.sw M.tn M.tot M.psl M.pc_ m13 M.AT (zN x) (zN y) 0 (by omega) (by omega) (by omega) (by omega) hx9 hy9) ⟨callB_of 3 hts (gd kc_Mo_isApart) rfl rfl rfl (hts _ (List.mem_cons_of_mem _ k_8)) (hts _ (List.mem_cons_of_mem _ k_754)) (by decide +kernel) ⟨Nat.le_of_ble_eq_true rfl, Nat.le_of_ble_eq_true rfl⟩, hts _ (List.mem_cons_of_mem _ k_756), hts _ (List.mem_cons_of_mem _ ks_33)⟩ ⟨kR_blind, va_recv hK hP (ci := 6) (q0 := 0) rfl rfl, kR_at hP hK hZ [0, 13] rfl⟩ rfl rfl hl.1 rfl (lv_room (Nat.le_of_ble_eq_true rfl)) d_Mo_apart_59 ⟨Nat.zero_le _, Nat.zero_le _⟩) ?_
          refine kb_neP (tgt := 75) hx hb d_Mo_apart_62 (by decide) (fun c3 => ?_) (fun c3 => ?_)
          · refine lv_iconst (v := nI 1) hx hb d_Mo_apart_75 (by decide +kernel) ?_
            refine lv_goto (tgt := 80) hx hb d_Mo_apart_76 (by decide) ?_
            exact kretz (u := moThr M 0) (rfl) hx hb hr hP hD hS hlocks rfl (⟨moI_thr hI 0, 0, rfl⟩) d_Mo_apart_80
          · refine lv_aload_n hx hb d_Mo_apart_65 rfl (lv_at hl 0 rfl) ?_
            refine lv_iload_n hx hb d_Mo_apart_66 rfl (lv_at hl 1 rfl) ?_
            refine lv_iload_n hx hb d_Mo_apart_67 rfl (lv_at hl 2 rfl) ?_
            refine lv_iconst (v := nI 1) hx hb d_Mo_apart_68 (by decide +kernel) ?_
            refine kcallR (r := .int (pI (M.AT (6 * (zN x) + 1 + 1) + M.AT (6 * (zN x) + 3 + 1) + M.kf ≤ M.AT (6 * (zN y) + 1 + 1) ∨ M.AT (6 * (zN y) + 1 + 1) + M.AT (6 * (zN y) + 3 + 1) + M.kf ≤ M.AT (6 * (zN x) + 1 + 1)))) (va_runV (As := [.int (nI (zN x)), .int (nI (zN y)), .int (nI 1)]) (rest := []) ⟨hx, hb, hml, hown, hts⟩ (m_isApart l D cI cJ cZ mo 0 M.side M.kf m1 m2 M.cn m3 m4 m5 m6 m7 m8 m9 m10 m11 m12 M.sw M.tn M.tot M.psl M.pc_ m13 M.AT (zN x) (zN y) 1 (by omega) (by omega) (by omega) (by omega) hx9 hy9) ⟨callB_of 3 hts (gd kc_Mo_isApart) rfl rfl rfl (hts _ (List.mem_cons_of_mem _ k_8)) (hts _ (List.mem_cons_of_mem _ k_754)) (by decide +kernel) ⟨Nat.le_of_ble_eq_true rfl, Nat.le_of_ble_eq_true rfl⟩, hts _ (List.mem_cons_of_mem _ k_756), hts _ (List.mem_cons_of_mem _ ks_33)⟩ ⟨kR_blind, va_recv hK hP (ci := 6) (q0 := 0) rfl rfl, kR_at hP hK hZ [0, 13] rfl⟩ rfl rfl hl.1 rfl (lv_room (Nat.le_of_ble_eq_true rfl)) d_Mo_apart_69 ⟨Nat.zero_le _, Nat.zero_le _⟩) ?_
            refine kb_eqP (tgt := 79) hx hb d_Mo_apart_72 (by decide) (fun c4 => ?_) (fun c4 => ?_)
            · refine lv_iconst (v := nI 0) hx hb d_Mo_apart_79 (by decide +kernel) ?_
              exact kretz (u := moThr M 0) (rfl) hx hb hr hP hD hS hlocks rfl (⟨moI_thr hI 0, 0, rfl⟩) d_Mo_apart_80
            · refine lv_iconst (v := nI 1) hx hb d_Mo_apart_75 (by decide +kernel) ?_
              refine lv_goto (tgt := 80) hx hb d_Mo_apart_76 (by decide) ?_
              exact kretz (u := moThr M 0) (rfl) hx hb hr hP hD hS hlocks rfl (⟨moI_thr hI 0, 0, rfl⟩) d_Mo_apart_80
  · refine lv_iconst (v := nI 1) hx hb d_Mo_apart_8 (by decide +kernel) ?_
    refine lv_goto (tgt := 45) hx hb d_Mo_apart_9 (by decide) ?_
    refine va_put (D := D) (ci := 6) (v := .int (nI 1)) (ty := .int) (C := R_Mo) (T := T_Mo) (N := 22) hx hb hts (fun w h => List.mem_cons_of_mem _ (iw_Mo w h)) ty_Mo tyok_Mo nm_Mo hown hK hP hD hS 0 rfl rfl 0 (by decide) (hts _ (List.mem_cons_of_mem _ k_545)) (fun _ h9 => h9) rfl (by decide +kernel) (rfl) (rfl) (Nat.le_of_ble_eq_true rfl) d_Mo_apart_45 (fun H locs hP hD hS => ?_)
    have hP : va_P D vwCl [(mo, .inr (6, [.int (nI 1), .int (nI M.side), .int (nI M.kf), .ref m1, .ref m2, .int (nI M.cn), .ref m3, .ref m4, .ref m5, .ref m6, .ref m7, .ref m8, .ref m9, .ref m10, .ref m11, .ref m12, .int (pI M.sw), .int (nI M.tn), .int (nI M.tot), .int (nI M.psl), .int (nI M.pc_), .ref m13])), (m1, .inl (cZ, 800, .inl (fun j => pI (M.IN j)))), (m2, .inl (cI, 400, .inl (fun j => nI (M.LO j)))), (m3, .inl (cI, 8, .inl (fun j => nI (M.th j)))), (m4, .inl (cI, 8, .inl (fun j => nI (M.wi j)))), (m5, .inl (cI, 8, .inl (fun j => nI (M.wo j)))), (m6, .inl (cI, 8, .inl (fun j => nI (M.wn j)))), (m7, .inl (cI, 441, .inl (fun j => nI (M.F3 j)))), (m8, .inl (cI, 441, .inl (fun j => nI (M.F4 j)))), (m9, .inl (cI, 9702, .inl (fun j => nI (M.SW j)))), (m10, .inl (cI, 9702, .inl (fun j => nI (M.SN j)))), (m11, .inl (cI, 21, .inl (fun j => nI (M.RW j)))), (m12, .inl (cI, 21, .inl (fun j => nI (M.RN j)))), (m13, .inl (cI, 2400, .inl (fun j => nI (M.AT j))))] H := hP
    have hD : va_D A [(mo, .inr (6, [.int (nI 1), .int (nI M.side), .int (nI M.kf), .ref m1, .ref m2, .int (nI M.cn), .ref m3, .ref m4, .ref m5, .ref m6, .ref m7, .ref m8, .ref m9, .ref m10, .ref m11, .ref m12, .int (pI M.sw), .int (nI M.tn), .int (nI M.tot), .int (nI M.psl), .int (nI M.pc_), .ref m13])), (m1, .inl (cZ, 800, .inl (fun j => pI (M.IN j)))), (m2, .inl (cI, 400, .inl (fun j => nI (M.LO j)))), (m3, .inl (cI, 8, .inl (fun j => nI (M.th j)))), (m4, .inl (cI, 8, .inl (fun j => nI (M.wi j)))), (m5, .inl (cI, 8, .inl (fun j => nI (M.wo j)))), (m6, .inl (cI, 8, .inl (fun j => nI (M.wn j)))), (m7, .inl (cI, 441, .inl (fun j => nI (M.F3 j)))), (m8, .inl (cI, 441, .inl (fun j => nI (M.F4 j)))), (m9, .inl (cI, 9702, .inl (fun j => nI (M.SW j)))), (m10, .inl (cI, 9702, .inl (fun j => nI (M.SN j)))), (m11, .inl (cI, 21, .inl (fun j => nI (M.RW j)))), (m12, .inl (cI, 21, .inl (fun j => nI (M.RN j)))), (m13, .inl (cI, 2400, .inl (fun j => nI (M.AT j))))] := hD
    refine lv_aload_n hx hb d_Mo_apart_48 rfl (lv_at hl 0 rfl) ?_
    refine va_get (D := D) (ci := 6) (v := .int (nI 1)) (C := R_Mo) (T := T_Mo) (N := 22) hx hb hts (fun w h => List.mem_cons_of_mem _ (iw_Mo w h)) hown hK hP 0 rfl rfl 0 (by decide) (hts _ (List.mem_cons_of_mem _ k_545)) (fun _ h9 => h9) rfl d_Mo_apart_49 ?_
    refine kb_ne (tgt := 79) (nI_t (by omega)) hx hb d_Mo_apart_52 (by decide) (fun c_52 => ?_) (fun c_52 => ?_)
    · refine lv_iconst (v := nI 0) hx hb d_Mo_apart_79 (by decide +kernel) ?_
      exact kretz (u := moThr M 1) (rfl) hx hb hr hP hD hS hlocks rfl (⟨moI_thr hI 1, 1, rfl⟩) d_Mo_apart_80
    · exfalso; omega
theorem wdN_le (P : Prop) : wdN P ≤ 1 := by
  rcases Classical.em P with h | h
  · rw [wdN_t h]; omega
  · rw [wdN_f h]; omega
theorem mwd_le (side : Nat) (IN : Nat → Prop) : sN (mwr side IN) side ≤ side * side := sN_le (fun j _ => by
  have h := sN_le (f := fun i_ => wdN (IN (20 * j + i_) ∧ IN (400 + 20 * j + i_))) (n := side) (M := 1) (fun i _ => wdN_le _)
  rw [Nat.mul_one] at h
  exact h)
set_option maxHeartbeats 4000000 in
set_option maxRecDepth 100000 in
theorem m_yields (l : Launch) (D : va_G) (cI cJ cZ : ClassId) (sz : Nat) (mo : Nat) (m1 : Nat) (m2 : Nat) (m3 : Nat) (m4 : Nat) (m5 : Nat) (m6 : Nat) (m7 : Nat) (m8 : Nat) (m9 : Nat) (m10 : Nat) (m11 : Nat) (m12 : Nat) (m13 : Nat) (M : MoS) (x : Int32) (hI : moI M) : Met l y_Mo_yields w_Mo_yields ({ frames := 2, cells := 0, slots := 0, locals := 45 }) (va_Pc [.ref mo, .int x] (kB D vwCl (tyL cI cJ cZ) sz [(mo, .inr (6, [.int (nI M.thr), .int (nI M.side), .int (nI M.kf), .ref m1, .ref m2, .int (nI M.cn), .ref m3, .ref m4, .ref m5, .ref m6, .ref m7, .ref m8, .ref m9, .ref m10, .ref m11, .ref m12, .int (pI M.sw), .int (nI M.tn), .int (nI M.tot), .int (nI M.psl), .int (nI M.pc_), .ref m13])), (m1, .inl (cZ, 800, .inl (fun j => pI (M.IN j)))), (m2, .inl (cI, 400, .inl (fun j => nI (M.LO j)))), (m3, .inl (cI, 8, .inl (fun j => nI (M.th j)))), (m4, .inl (cI, 8, .inl (fun j => nI (M.wi j)))), (m5, .inl (cI, 8, .inl (fun j => nI (M.wo j)))), (m6, .inl (cI, 8, .inl (fun j => nI (M.wn j)))), (m7, .inl (cI, 441, .inl (fun j => nI (M.F3 j)))), (m8, .inl (cI, 441, .inl (fun j => nI (M.F4 j)))), (m9, .inl (cI, 9702, .inl (fun j => nI (M.SW j)))), (m10, .inl (cI, 9702, .inl (fun j => nI (M.SN j)))), (m11, .inl (cI, 21, .inl (fun j => nI (M.RW j)))), (m12, .inl (cI, 21, .inl (fun j => nI (M.RN j)))), (m13, .inl (cI, 2400, .inl (fun j => nI (M.AT j))))])) (va_Qi (fun (r : Int32) (u : MoS) => moI u ∧ ∃ t_, u = moThr M t_) (fun (u : MoS) t => kE D vwCl (va_A [(mo, .inr (6, [.int (nI M.thr), .int (nI M.side), .int (nI M.kf), .ref m1, .ref m2, .int (nI M.cn), .ref m3, .ref m4, .ref m5, .ref m6, .ref m7, .ref m8, .ref m9, .ref m10, .ref m11, .ref m12, .int (pI M.sw), .int (nI M.tn), .int (nI M.tot), .int (nI M.psl), .int (nI M.pc_), .ref m13])), (m1, .inl (cZ, 800, .inl (fun j => pI (M.IN j)))), (m2, .inl (cI, 400, .inl (fun j => nI (M.LO j)))), (m3, .inl (cI, 8, .inl (fun j => nI (M.th j)))), (m4, .inl (cI, 8, .inl (fun j => nI (M.wi j)))), (m5, .inl (cI, 8, .inl (fun j => nI (M.wo j)))), (m6, .inl (cI, 8, .inl (fun j => nI (M.wn j)))), (m7, .inl (cI, 441, .inl (fun j => nI (M.F3 j)))), (m8, .inl (cI, 441, .inl (fun j => nI (M.F4 j)))), (m9, .inl (cI, 9702, .inl (fun j => nI (M.SW j)))), (m10, .inl (cI, 9702, .inl (fun j => nI (M.SN j)))), (m11, .inl (cI, 21, .inl (fun j => nI (M.RW j)))), (m12, .inl (cI, 21, .inl (fun j => nI (M.RN j)))), (m13, .inl (cI, 2400, .inl (fun j => nI (M.AT j))))] sz) [(mo, .inr (6, [.int (nI u.thr), .int (nI u.side), .int (nI u.kf), .ref m1, .ref m2, .int (nI u.cn), .ref m3, .ref m4, .ref m5, .ref m6, .ref m7, .ref m8, .ref m9, .ref m10, .ref m11, .ref m12, .int (pI u.sw), .int (nI u.tn), .int (nI u.tot), .int (nI u.psl), .int (nI u.pc_), .ref m13])), (m1, .inl (cZ, 800, .inl (fun j => pI (u.IN j)))), (m2, .inl (cI, 400, .inl (fun j => nI (u.LO j)))), (m3, .inl (cI, 8, .inl (fun j => nI (u.th j)))), (m4, .inl (cI, 8, .inl (fun j => nI (u.wi j)))), (m5, .inl (cI, 8, .inl (fun j => nI (u.wo j)))), (m6, .inl (cI, 8, .inl (fun j => nI (u.wn j)))), (m7, .inl (cI, 441, .inl (fun j => nI (u.F3 j)))), (m8, .inl (cI, 441, .inl (fun j => nI (u.F4 j)))), (m9, .inl (cI, 9702, .inl (fun j => nI (u.SW j)))), (m10, .inl (cI, 9702, .inl (fun j => nI (u.SN j)))), (m11, .inl (cI, 21, .inl (fun j => nI (u.RW j)))), (m12, .inl (cI, 21, .inl (fun j => nI (u.RN j)))), (m13, .inl (cI, 2400, .inl (fun j => nI (u.AT j))))] t) (va_A [(mo, .inr (6, [.int (nI M.thr), .int (nI M.side), .int (nI M.kf), .ref m1, .ref m2, .int (nI M.cn), .ref m3, .ref m4, .ref m5, .ref m6, .ref m7, .ref m8, .ref m9, .ref m10, .ref m11, .ref m12, .int (pI M.sw), .int (nI M.tn), .int (nI M.tot), .int (nI M.psl), .int (nI M.pc_), .ref m13])), (m1, .inl (cZ, 800, .inl (fun j => pI (M.IN j)))), (m2, .inl (cI, 400, .inl (fun j => nI (M.LO j)))), (m3, .inl (cI, 8, .inl (fun j => nI (M.th j)))), (m4, .inl (cI, 8, .inl (fun j => nI (M.wi j)))), (m5, .inl (cI, 8, .inl (fun j => nI (M.wo j)))), (m6, .inl (cI, 8, .inl (fun j => nI (M.wn j)))), (m7, .inl (cI, 441, .inl (fun j => nI (M.F3 j)))), (m8, .inl (cI, 441, .inl (fun j => nI (M.F4 j)))), (m9, .inl (cI, 9702, .inl (fun j => nI (M.SW j)))), (m10, .inl (cI, 9702, .inl (fun j => nI (M.SN j)))), (m11, .inl (cI, 21, .inl (fun j => nI (M.RW j)))), (m12, .inl (cI, 21, .inl (fun j => nI (M.RN j)))), (m13, .inl (cI, 2400, .inl (fun j => nI (M.AT j))))] sz)) 0 0 (va_A [(mo, .inr (6, [.int (nI M.thr), .int (nI M.side), .int (nI M.kf), .ref m1, .ref m2, .int (nI M.cn), .ref m3, .ref m4, .ref m5, .ref m6, .ref m7, .ref m8, .ref m9, .ref m10, .ref m11, .ref m12, .int (pI M.sw), .int (nI M.tn), .int (nI M.tot), .int (nI M.psl), .int (nI M.pc_), .ref m13])), (m1, .inl (cZ, 800, .inl (fun j => pI (M.IN j)))), (m2, .inl (cI, 400, .inl (fun j => nI (M.LO j)))), (m3, .inl (cI, 8, .inl (fun j => nI (M.th j)))), (m4, .inl (cI, 8, .inl (fun j => nI (M.wi j)))), (m5, .inl (cI, 8, .inl (fun j => nI (M.wo j)))), (m6, .inl (cI, 8, .inl (fun j => nI (M.wn j)))), (m7, .inl (cI, 441, .inl (fun j => nI (M.F3 j)))), (m8, .inl (cI, 441, .inl (fun j => nI (M.F4 j)))), (m9, .inl (cI, 9702, .inl (fun j => nI (M.SW j)))), (m10, .inl (cI, 9702, .inl (fun j => nI (M.SN j)))), (m11, .inl (cI, 21, .inl (fun j => nI (M.RW j)))), (m12, .inl (cI, 21, .inl (fun j => nI (M.RN j)))), (m13, .inl (cI, 2400, .inl (fun j => nI (M.AT j))))] sz) := by
  refine Met.ofW (cc := b_Mo_yields) (maxL := 7) (ret := (some (.int))) (by decide) rfl ?_
  intro p e s m args below meth c s₁ B hml hv
  obtain ⟨rfl, hsz, hP, hK, hD0, hZ⟩ := hv
  have hx := B.exec
  have hb := B.bytes
  have hr := B.returns
  have hts := atoms_spec (ws := w_Mo_yields) B.pre
  have hown : s.vm.findClass R_Mo = some m.cls := findClass_of_methodNamed B.named
  have hlocks := B.notSynchronized
  subst hsz
  have hD := hD0.self (sz := s.heap.size)
  generalize hAe : va_A [(mo, .inr (6, [.int (nI M.thr), .int (nI M.side), .int (nI M.kf), .ref m1, .ref m2, .int (nI M.cn), .ref m3, .ref m4, .ref m5, .ref m6, .ref m7, .ref m8, .ref m9, .ref m10, .ref m11, .ref m12, .int (pI M.sw), .int (nI M.tn), .int (nI M.tot), .int (nI M.psl), .int (nI M.pc_), .ref m13])), (m1, .inl (cZ, 800, .inl (fun j => pI (M.IN j)))), (m2, .inl (cI, 400, .inl (fun j => nI (M.LO j)))), (m3, .inl (cI, 8, .inl (fun j => nI (M.th j)))), (m4, .inl (cI, 8, .inl (fun j => nI (M.wi j)))), (m5, .inl (cI, 8, .inl (fun j => nI (M.wo j)))), (m6, .inl (cI, 8, .inl (fun j => nI (M.wn j)))), (m7, .inl (cI, 441, .inl (fun j => nI (M.F3 j)))), (m8, .inl (cI, 441, .inl (fun j => nI (M.F4 j)))), (m9, .inl (cI, 9702, .inl (fun j => nI (M.SW j)))), (m10, .inl (cI, 9702, .inl (fun j => nI (M.SN j)))), (m11, .inl (cI, 21, .inl (fun j => nI (M.RW j)))), (m12, .inl (cI, 21, .inl (fun j => nI (M.RN j)))), (m13, .inl (cI, 2400, .inl (fun j => nI (M.AT j))))] s.heap.size = A at hD ⊢
  have hA : ∀ q : Nat, s.heap.size ≤ q → A q := fun q h => by rw [← hAe]; exact Or.inr h
  have hS : va_S A s.heap s.heap [] := va_S.rf
  have hP : va_P D vwCl [(mo, .inr (6, [.int (nI M.thr), .int (nI M.side), .int (nI M.kf), .ref m1, .ref m2, .int (nI M.cn), .ref m3, .ref m4, .ref m5, .ref m6, .ref m7, .ref m8, .ref m9, .ref m10, .ref m11, .ref m12, .int (pI M.sw), .int (nI M.tn), .int (nI M.tot), .int (nI M.psl), .int (nI M.pc_), .ref m13])), (m1, .inl (cZ, 800, .inl (fun j => pI (M.IN j)))), (m2, .inl (cI, 400, .inl (fun j => nI (M.LO j)))), (m3, .inl (cI, 8, .inl (fun j => nI (M.th j)))), (m4, .inl (cI, 8, .inl (fun j => nI (M.wi j)))), (m5, .inl (cI, 8, .inl (fun j => nI (M.wo j)))), (m6, .inl (cI, 8, .inl (fun j => nI (M.wn j)))), (m7, .inl (cI, 441, .inl (fun j => nI (M.F3 j)))), (m8, .inl (cI, 441, .inl (fun j => nI (M.F4 j)))), (m9, .inl (cI, 9702, .inl (fun j => nI (M.SW j)))), (m10, .inl (cI, 9702, .inl (fun j => nI (M.SN j)))), (m11, .inl (cI, 21, .inl (fun j => nI (M.RW j)))), (m12, .inl (cI, 21, .inl (fun j => nI (M.RN j)))), (m13, .inl (cI, 2400, .inl (fun j => nI (M.AT j))))] s.heap := hP
  have hl := lv_entry ([.ref mo, .int x]) (n := 7) (Nat.le_of_ble_eq_true rfl)
  rw [lg_entry_eq]
  generalize (lg_sl ([.ref mo, .int x]) ++ List.replicate (7 - (lg_sl ([.ref mo, .int x])).length) Slot.unset).toArray = ls at hl ⊢
  have hl : lv_has ls 7 [(0, .ref mo), (1, .int x)] := hl
  have s1 := hI.s1
  have s2 := hI.s2
  have k4 := hI.k4
  have n8 := hI.n8
  have ht := hI.ht
  have hw := hI.hw
  have hw1 := hI.hw1
  have ho := hI.ho
  have hn := hI.hn
  have hL := hI.hL
  have e3 := hI.e3
  have e4 := hI.e4
  have bW := hI.bW
  have bN := hI.bN
  have cW := hI.cW
  have cN := hI.cN
  have tn1 := hI.tn1
  have hpc := hI.hpc
  have hat := hI.hat
  have qq := (sq20 s2).2
  refine lv_aload_n hx hb d_Mo_yields_0 rfl (lv_at hl 0 rfl) ?_
  refine lv_aload_n hx hb d_Mo_yields_1 rfl (lv_at hl 0 rfl) ?_
  refine va_get (D := D) (ci := 6) (v := .int (pI M.sw)) (C := R_Mo) (T := T_Mo) (N := 22) hx hb hts (fun w h => List.mem_cons_of_mem _ (iw_Mo w h)) hown hK hP 0 rfl rfl 16 (by decide) (hts _ (List.mem_cons_of_mem _ k_561)) (fun _ h9 => h9) rfl d_Mo_yields_2 ?_
  refine kb_neP (tgt := 12) hx hb d_Mo_yields_5 (by decide) (fun cs => ?_) (fun cs => ?_)
  · refine lv_iload_n hx hb d_Mo_yields_12 rfl (lv_at hl 1 rfl) ?_
    refine lv_iconst (v := nI 0) hx hb d_Mo_yields_13 (by decide +kernel) ?_
    refine lv_iconst (v := nI 1) hx hb d_Mo_yields_14 (by decide +kernel) ?_
    refine kcallR (r := .int (pI (((0 : Nat) : Int) ≤ x.toInt ∧ x.toInt ≤ ((1 : Nat) : Int)))) (va_runS (As := [.int x, .int (nI 0), .int (nI 1)]) (rest := [.ref mo]) ⟨hx, hb, hml, hown, hts⟩ (m_isIn l D cI cJ cZ x (nI 0) (nI 1) x.toInt ((0 : Nat) : Int) ((1 : Nat) : Int) rfl (nI_t (by omega)) (nI_t (by omega))) ⟨callB_of 3 hts (gd kc_Mo_isIn) rfl rfl rfl (hts _ (List.mem_cons_of_mem _ k_8)) (hts _ (List.mem_cons_of_mem _ k_620)) (by decide +kernel) ⟨Nat.le_of_ble_eq_true rfl, Nat.le_of_ble_eq_true rfl⟩, hts _ (List.mem_cons_of_mem _ k_621)⟩ ⟨kR_blind, kR_at hP hK hZ [] rfl⟩ rfl rfl hl.1 rfl (lv_room (Nat.le_of_ble_eq_true rfl)) d_Mo_yields_15 ⟨Nat.zero_le _, Nat.zero_le _⟩) ?_
    refine kb_eqP (tgt := 25) hx hb d_Mo_yields_18 (by decide) (fun c1 => ?_) (fun c1 => ?_)
    · refine lv_iconst (v := nI 2) hx hb d_Mo_yields_25 (by decide +kernel) ?_
      refine va_put (D := D) (ci := 6) (v := .int (nI 2)) (ty := .int) (C := R_Mo) (T := T_Mo) (N := 22) hx hb hts (fun w h => List.mem_cons_of_mem _ (iw_Mo w h)) ty_Mo tyok_Mo nm_Mo hown hK hP hD hS 0 rfl rfl 0 (by decide) (hts _ (List.mem_cons_of_mem _ k_545)) (fun _ h9 => h9) rfl (by decide +kernel) (rfl) (rfl) (Nat.le_of_ble_eq_true rfl) d_Mo_yields_26 (fun H locs hP hD hS => ?_)
      have hP : va_P D vwCl [(mo, .inr (6, [.int (nI 2), .int (nI M.side), .int (nI M.kf), .ref m1, .ref m2, .int (nI M.cn), .ref m3, .ref m4, .ref m5, .ref m6, .ref m7, .ref m8, .ref m9, .ref m10, .ref m11, .ref m12, .int (pI M.sw), .int (nI M.tn), .int (nI M.tot), .int (nI M.psl), .int (nI M.pc_), .ref m13])), (m1, .inl (cZ, 800, .inl (fun j => pI (M.IN j)))), (m2, .inl (cI, 400, .inl (fun j => nI (M.LO j)))), (m3, .inl (cI, 8, .inl (fun j => nI (M.th j)))), (m4, .inl (cI, 8, .inl (fun j => nI (M.wi j)))), (m5, .inl (cI, 8, .inl (fun j => nI (M.wo j)))), (m6, .inl (cI, 8, .inl (fun j => nI (M.wn j)))), (m7, .inl (cI, 441, .inl (fun j => nI (M.F3 j)))), (m8, .inl (cI, 441, .inl (fun j => nI (M.F4 j)))), (m9, .inl (cI, 9702, .inl (fun j => nI (M.SW j)))), (m10, .inl (cI, 9702, .inl (fun j => nI (M.SN j)))), (m11, .inl (cI, 21, .inl (fun j => nI (M.RW j)))), (m12, .inl (cI, 21, .inl (fun j => nI (M.RN j)))), (m13, .inl (cI, 2400, .inl (fun j => nI (M.AT j))))] H := hP
      have hD : va_D A [(mo, .inr (6, [.int (nI 2), .int (nI M.side), .int (nI M.kf), .ref m1, .ref m2, .int (nI M.cn), .ref m3, .ref m4, .ref m5, .ref m6, .ref m7, .ref m8, .ref m9, .ref m10, .ref m11, .ref m12, .int (pI M.sw), .int (nI M.tn), .int (nI M.tot), .int (nI M.psl), .int (nI M.pc_), .ref m13])), (m1, .inl (cZ, 800, .inl (fun j => pI (M.IN j)))), (m2, .inl (cI, 400, .inl (fun j => nI (M.LO j)))), (m3, .inl (cI, 8, .inl (fun j => nI (M.th j)))), (m4, .inl (cI, 8, .inl (fun j => nI (M.wi j)))), (m5, .inl (cI, 8, .inl (fun j => nI (M.wo j)))), (m6, .inl (cI, 8, .inl (fun j => nI (M.wn j)))), (m7, .inl (cI, 441, .inl (fun j => nI (M.F3 j)))), (m8, .inl (cI, 441, .inl (fun j => nI (M.F4 j)))), (m9, .inl (cI, 9702, .inl (fun j => nI (M.SW j)))), (m10, .inl (cI, 9702, .inl (fun j => nI (M.SN j)))), (m11, .inl (cI, 21, .inl (fun j => nI (M.RW j)))), (m12, .inl (cI, 21, .inl (fun j => nI (M.RN j)))), (m13, .inl (cI, 2400, .inl (fun j => nI (M.AT j))))] := hD
      refine lv_aload_n hx hb d_Mo_yields_29 rfl (lv_at hl 0 rfl) ?_
      refine va_get (D := D) (ci := 6) (v := .int (nI 2)) (C := R_Mo) (T := T_Mo) (N := 22) hx hb hts (fun w h => List.mem_cons_of_mem _ (iw_Mo w h)) hown hK hP 0 rfl rfl 0 (by decide) (hts _ (List.mem_cons_of_mem _ k_545)) (fun _ h9 => h9) rfl d_Mo_yields_30 ?_
      refine kb_le (tgt := 38) (nI_t (by omega)) hx hb d_Mo_yields_33 (by decide) (fun c_33 => ?_) (fun c_33 => ?_)
      · exfalso; omega
      · refine lv_iconst (v := nI 0) hx hb d_Mo_yields_36 (by decide +kernel) ?_
        exact kreti (u := moThr M 2) hx hb hr hP hD hS hlocks rfl (⟨moI_thr hI 2, 2, rfl⟩) d_Mo_yields_37
    · refine lv_iconst (v := nI 0) hx hb d_Mo_yields_21 (by decide +kernel) ?_
      refine lv_goto (tgt := 26) hx hb d_Mo_yields_22 (by decide) ?_
      refine va_put (D := D) (ci := 6) (v := .int (nI 0)) (ty := .int) (C := R_Mo) (T := T_Mo) (N := 22) hx hb hts (fun w h => List.mem_cons_of_mem _ (iw_Mo w h)) ty_Mo tyok_Mo nm_Mo hown hK hP hD hS 0 rfl rfl 0 (by decide) (hts _ (List.mem_cons_of_mem _ k_545)) (fun _ h9 => h9) rfl (by decide +kernel) (rfl) (rfl) (Nat.le_of_ble_eq_true rfl) d_Mo_yields_26 (fun H locs hP hD hS => ?_)
      have hP : va_P D vwCl [(mo, .inr (6, [.int (nI 0), .int (nI M.side), .int (nI M.kf), .ref m1, .ref m2, .int (nI M.cn), .ref m3, .ref m4, .ref m5, .ref m6, .ref m7, .ref m8, .ref m9, .ref m10, .ref m11, .ref m12, .int (pI M.sw), .int (nI M.tn), .int (nI M.tot), .int (nI M.psl), .int (nI M.pc_), .ref m13])), (m1, .inl (cZ, 800, .inl (fun j => pI (M.IN j)))), (m2, .inl (cI, 400, .inl (fun j => nI (M.LO j)))), (m3, .inl (cI, 8, .inl (fun j => nI (M.th j)))), (m4, .inl (cI, 8, .inl (fun j => nI (M.wi j)))), (m5, .inl (cI, 8, .inl (fun j => nI (M.wo j)))), (m6, .inl (cI, 8, .inl (fun j => nI (M.wn j)))), (m7, .inl (cI, 441, .inl (fun j => nI (M.F3 j)))), (m8, .inl (cI, 441, .inl (fun j => nI (M.F4 j)))), (m9, .inl (cI, 9702, .inl (fun j => nI (M.SW j)))), (m10, .inl (cI, 9702, .inl (fun j => nI (M.SN j)))), (m11, .inl (cI, 21, .inl (fun j => nI (M.RW j)))), (m12, .inl (cI, 21, .inl (fun j => nI (M.RN j)))), (m13, .inl (cI, 2400, .inl (fun j => nI (M.AT j))))] H := hP
      have hD : va_D A [(mo, .inr (6, [.int (nI 0), .int (nI M.side), .int (nI M.kf), .ref m1, .ref m2, .int (nI M.cn), .ref m3, .ref m4, .ref m5, .ref m6, .ref m7, .ref m8, .ref m9, .ref m10, .ref m11, .ref m12, .int (pI M.sw), .int (nI M.tn), .int (nI M.tot), .int (nI M.psl), .int (nI M.pc_), .ref m13])), (m1, .inl (cZ, 800, .inl (fun j => pI (M.IN j)))), (m2, .inl (cI, 400, .inl (fun j => nI (M.LO j)))), (m3, .inl (cI, 8, .inl (fun j => nI (M.th j)))), (m4, .inl (cI, 8, .inl (fun j => nI (M.wi j)))), (m5, .inl (cI, 8, .inl (fun j => nI (M.wo j)))), (m6, .inl (cI, 8, .inl (fun j => nI (M.wn j)))), (m7, .inl (cI, 441, .inl (fun j => nI (M.F3 j)))), (m8, .inl (cI, 441, .inl (fun j => nI (M.F4 j)))), (m9, .inl (cI, 9702, .inl (fun j => nI (M.SW j)))), (m10, .inl (cI, 9702, .inl (fun j => nI (M.SN j)))), (m11, .inl (cI, 21, .inl (fun j => nI (M.RW j)))), (m12, .inl (cI, 21, .inl (fun j => nI (M.RN j)))), (m13, .inl (cI, 2400, .inl (fun j => nI (M.AT j))))] := hD
      refine lv_aload_n hx hb d_Mo_yields_29 rfl (lv_at hl 0 rfl) ?_
      refine va_get (D := D) (ci := 6) (v := .int (nI 0)) (C := R_Mo) (T := T_Mo) (N := 22) hx hb hts (fun w h => List.mem_cons_of_mem _ (iw_Mo w h)) hown hK hP 0 rfl rfl 0 (by decide) (hts _ (List.mem_cons_of_mem _ k_545)) (fun _ h9 => h9) rfl d_Mo_yields_30 ?_
      refine kb_le (tgt := 38) (nI_t (by omega)) hx hb d_Mo_yields_33 (by decide) (fun c_33 => ?_) (fun c_33 => ?_)
      · refine lv_aload_n hx hb d_Mo_yields_38 rfl (lv_at hl 0 rfl) ?_
        refine kcallR (r := .int (nI (sN (mwr M.side M.IN) M.side))) (va_runV (As := []) (rest := []) ⟨hx, hb, hml, hown, hts⟩ (m_woodCells l D cI cJ cZ mo 0 M.side M.kf m1 m2 M.cn m3 m4 m5 m6 m7 m8 m9 m10 m11 m12 M.sw M.tn M.tot M.psl M.pc_ m13 M.IN (by omega)) ⟨callB_of 0 hts (gd kc_Mo_woodCells) rfl rfl rfl (hts _ (List.mem_cons_of_mem _ k_8)) (hts _ (List.mem_cons_of_mem _ k_742)) (by decide +kernel) ⟨Nat.le_of_ble_eq_true rfl, Nat.le_of_ble_eq_true rfl⟩, hts _ (List.mem_cons_of_mem _ k_744), hts _ (List.mem_cons_of_mem _ ks_32)⟩ ⟨kR_blind, va_recv hK hP (ci := 6) (q0 := 0) rfl rfl, kR_at hP hK hZ [0, 1] rfl⟩ rfl rfl hl.1 rfl (lv_room (Nat.le_of_ble_eq_true rfl)) d_Mo_yields_39 ⟨Nat.zero_le _, Nat.zero_le _⟩) ?_
        have wb : sN (mwr M.side M.IN) M.side ≤ 400 := Nat.le_trans (mwd_le M.side M.IN) qq
        refine lv_istore_n (lv' := [(2, .int (nI (sN (mwr M.side M.IN) M.side))), (0, .ref mo), (1, .int x)]) hx hb d_Mo_yields_42 rfl hl (by decide) rfl (fun ls hl => ?_)
        refine lv_iconst (v := nI 0) hx hb d_Mo_yields_43 (by decide +kernel) ?_
        refine lv_istore_n (lv' := [(3, .int (nI 0)), (2, .int (nI (sN (mwr M.side M.IN) M.side))), (0, .ref mo), (1, .int x)]) hx hb d_Mo_yields_44 rfl hl (by decide) rfl (fun ls hl => ?_)
        refine lv_iconst (v := nI 0) hx hb d_Mo_yields_45 (by decide +kernel) ?_
        refine lv_istore (lv' := [(4, .int (nI 0)), (3, .int (nI 0)), (2, .int (nI (sN (mwr M.side M.IN) M.side))), (0, .ref mo), (1, .int x)]) hx hb d_Mo_yields_46 hl (by decide) rfl (fun ls hl => ?_)
        have lp : ∀ (n : Nat) (k : Nat) (sm_ : Nat), (k + n = M.pc_) → (sm_ ≤ 400 * k) → ∀ (H : Heap) (locs : List Loc), va_P D vwCl [(mo, .inr (6, [.int (nI 0), .int (nI M.side), .int (nI M.kf), .ref m1, .ref m2, .int (nI M.cn), .ref m3, .ref m4, .ref m5, .ref m6, .ref m7, .ref m8, .ref m9, .ref m10, .ref m11, .ref m12, .int (pI M.sw), .int (nI M.tn), .int (nI M.tot), .int (nI M.psl), .int (nI M.pc_), .ref m13])), (m1, .inl (cZ, 800, .inl (fun j => pI (M.IN j)))), (m2, .inl (cI, 400, .inl (fun j => nI (M.LO j)))), (m3, .inl (cI, 8, .inl (fun j => nI (M.th j)))), (m4, .inl (cI, 8, .inl (fun j => nI (M.wi j)))), (m5, .inl (cI, 8, .inl (fun j => nI (M.wo j)))), (m6, .inl (cI, 8, .inl (fun j => nI (M.wn j)))), (m7, .inl (cI, 441, .inl (fun j => nI (M.F3 j)))), (m8, .inl (cI, 441, .inl (fun j => nI (M.F4 j)))), (m9, .inl (cI, 9702, .inl (fun j => nI (M.SW j)))), (m10, .inl (cI, 9702, .inl (fun j => nI (M.SN j)))), (m11, .inl (cI, 21, .inl (fun j => nI (M.RW j)))), (m12, .inl (cI, 21, .inl (fun j => nI (M.RN j)))), (m13, .inl (cI, 2400, .inl (fun j => nI (M.AT j))))] H → va_D A [(mo, .inr (6, [.int (nI 0), .int (nI M.side), .int (nI M.kf), .ref m1, .ref m2, .int (nI M.cn), .ref m3, .ref m4, .ref m5, .ref m6, .ref m7, .ref m8, .ref m9, .ref m10, .ref m11, .ref m12, .int (pI M.sw), .int (nI M.tn), .int (nI M.tot), .int (nI M.psl), .int (nI M.pc_), .ref m13])), (m1, .inl (cZ, 800, .inl (fun j => pI (M.IN j)))), (m2, .inl (cI, 400, .inl (fun j => nI (M.LO j)))), (m3, .inl (cI, 8, .inl (fun j => nI (M.th j)))), (m4, .inl (cI, 8, .inl (fun j => nI (M.wi j)))), (m5, .inl (cI, 8, .inl (fun j => nI (M.wo j)))), (m6, .inl (cI, 8, .inl (fun j => nI (M.wn j)))), (m7, .inl (cI, 441, .inl (fun j => nI (M.F3 j)))), (m8, .inl (cI, 441, .inl (fun j => nI (M.F4 j)))), (m9, .inl (cI, 9702, .inl (fun j => nI (M.SW j)))), (m10, .inl (cI, 9702, .inl (fun j => nI (M.SN j)))), (m11, .inl (cI, 21, .inl (fun j => nI (M.RW j)))), (m12, .inl (cI, 21, .inl (fun j => nI (M.RN j)))), (m13, .inl (cI, 2400, .inl (fun j => nI (M.AT j))))] → va_S A s.heap H locs → ∀ ls : Array Slot, lv_has ls 7 [(4, .int (nI k)), (3, .int (nI sm_)), (2, .int (nI (sN (mwr M.side M.IN) M.side))), (1, .int x), (0, .ref mo)] → W p l e (headSpec w_Mo_yields ({ frames := 2, cells := 0, slots := 0, locals := 45 })).room s m ([.ref mo, .int x]).toArray below meth c H locs 0 0 (MQ below (va_Qi (fun (r : Int32) (u : MoS) => moI u ∧ ∃ t_, u = moThr M t_) (fun (u : MoS) t => kE D vwCl A [(mo, .inr (6, [.int (nI u.thr), .int (nI u.side), .int (nI u.kf), .ref m1, .ref m2, .int (nI u.cn), .ref m3, .ref m4, .ref m5, .ref m6, .ref m7, .ref m8, .ref m9, .ref m10, .ref m11, .ref m12, .int (pI u.sw), .int (nI u.tn), .int (nI u.tot), .int (nI u.psl), .int (nI u.pc_), .ref m13])), (m1, .inl (cZ, 800, .inl (fun j => pI (u.IN j)))), (m2, .inl (cI, 400, .inl (fun j => nI (u.LO j)))), (m3, .inl (cI, 8, .inl (fun j => nI (u.th j)))), (m4, .inl (cI, 8, .inl (fun j => nI (u.wi j)))), (m5, .inl (cI, 8, .inl (fun j => nI (u.wo j)))), (m6, .inl (cI, 8, .inl (fun j => nI (u.wn j)))), (m7, .inl (cI, 441, .inl (fun j => nI (u.F3 j)))), (m8, .inl (cI, 441, .inl (fun j => nI (u.F4 j)))), (m9, .inl (cI, 9702, .inl (fun j => nI (u.SW j)))), (m10, .inl (cI, 9702, .inl (fun j => nI (u.SN j)))), (m11, .inl (cI, 21, .inl (fun j => nI (u.RW j)))), (m12, .inl (cI, 21, .inl (fun j => nI (u.RN j)))), (m13, .inl (cI, 2400, .inl (fun j => nI (u.AT j))))] t) A) ([.ref mo, .int x]).toArray s 0 0 A) (F0 m 48 ls []) := by
          intro n
          induction n with
          | zero =>
            intro k sm_ hi hs_ H locs hP hD hS ls hl
            refine lv_iload hx hb d_Mo_yields_48 (lv_at hl 0 rfl) ?_
            refine lv_aload_n hx hb d_Mo_yields_50 rfl (lv_at hl 4 rfl) ?_
            refine va_get (D := D) (ci := 6) (v := .int (nI M.pc_)) (C := R_Mo) (T := T_Mo) (N := 22) hx hb hts (fun w h => List.mem_cons_of_mem _ (iw_Mo w h)) hown hK hP 0 rfl rfl 20 (by decide) (hts _ (List.mem_cons_of_mem _ k_565)) (fun _ h9 => h9) rfl d_Mo_yields_51 ?_
            refine kb_cge (tgt := 91) (nI_t (by omega)) (nI_t (by omega)) hx hb d_Mo_yields_54 (by decide) (fun c_54 => ?_) (fun c_54 => ?_)
            · refine lv_iload_n hx hb d_Mo_yields_91 rfl (lv_at hl 2 rfl) ?_
              refine kb_ne (tgt := 97) (nI_t (by omega)) hx hb d_Mo_yields_92 (by decide) (fun cz => ?_) (fun cz => ?_)
              · refine lv_iload_n hx hb d_Mo_yields_97 rfl (lv_at hl 1 rfl) ?_
                refine lv_istore (lv' := [(4, .int (nI sm_)), (3, .int (nI sm_)), (2, .int (nI (sN (mwr M.side M.IN) M.side))), (1, .int x), (0, .ref mo)]) hx hb d_Mo_yields_98 hl (by decide) rfl (fun ls hl => ?_)
                refine lv_iload_n hx hb d_Mo_yields_100 rfl (lv_at hl 2 rfl) ?_
                refine lv_istore (lv' := [(5, .int (nI (sN (mwr M.side M.IN) M.side))), (4, .int (nI sm_)), (3, .int (nI sm_)), (2, .int (nI (sN (mwr M.side M.IN) M.side))), (1, .int x), (0, .ref mo)]) hx hb d_Mo_yields_101 hl (by decide) rfl (fun ls hl => ?_)
                have lq : ∀ (k_ : Nat) (x_ : Nat) (y_ : Nat), (y_ ≤ k_) → (0 < x_ + y_) → (x_ ≤ 1000000) → (y_ ≤ 1000000) → ∀ (H : Heap) (locs : List Loc), va_P D vwCl [(mo, .inr (6, [.int (nI 0), .int (nI M.side), .int (nI M.kf), .ref m1, .ref m2, .int (nI M.cn), .ref m3, .ref m4, .ref m5, .ref m6, .ref m7, .ref m8, .ref m9, .ref m10, .ref m11, .ref m12, .int (pI M.sw), .int (nI M.tn), .int (nI M.tot), .int (nI M.psl), .int (nI M.pc_), .ref m13])), (m1, .inl (cZ, 800, .inl (fun j => pI (M.IN j)))), (m2, .inl (cI, 400, .inl (fun j => nI (M.LO j)))), (m3, .inl (cI, 8, .inl (fun j => nI (M.th j)))), (m4, .inl (cI, 8, .inl (fun j => nI (M.wi j)))), (m5, .inl (cI, 8, .inl (fun j => nI (M.wo j)))), (m6, .inl (cI, 8, .inl (fun j => nI (M.wn j)))), (m7, .inl (cI, 441, .inl (fun j => nI (M.F3 j)))), (m8, .inl (cI, 441, .inl (fun j => nI (M.F4 j)))), (m9, .inl (cI, 9702, .inl (fun j => nI (M.SW j)))), (m10, .inl (cI, 9702, .inl (fun j => nI (M.SN j)))), (m11, .inl (cI, 21, .inl (fun j => nI (M.RW j)))), (m12, .inl (cI, 21, .inl (fun j => nI (M.RN j)))), (m13, .inl (cI, 2400, .inl (fun j => nI (M.AT j))))] H → va_D A [(mo, .inr (6, [.int (nI 0), .int (nI M.side), .int (nI M.kf), .ref m1, .ref m2, .int (nI M.cn), .ref m3, .ref m4, .ref m5, .ref m6, .ref m7, .ref m8, .ref m9, .ref m10, .ref m11, .ref m12, .int (pI M.sw), .int (nI M.tn), .int (nI M.tot), .int (nI M.psl), .int (nI M.pc_), .ref m13])), (m1, .inl (cZ, 800, .inl (fun j => pI (M.IN j)))), (m2, .inl (cI, 400, .inl (fun j => nI (M.LO j)))), (m3, .inl (cI, 8, .inl (fun j => nI (M.th j)))), (m4, .inl (cI, 8, .inl (fun j => nI (M.wi j)))), (m5, .inl (cI, 8, .inl (fun j => nI (M.wo j)))), (m6, .inl (cI, 8, .inl (fun j => nI (M.wn j)))), (m7, .inl (cI, 441, .inl (fun j => nI (M.F3 j)))), (m8, .inl (cI, 441, .inl (fun j => nI (M.F4 j)))), (m9, .inl (cI, 9702, .inl (fun j => nI (M.SW j)))), (m10, .inl (cI, 9702, .inl (fun j => nI (M.SN j)))), (m11, .inl (cI, 21, .inl (fun j => nI (M.RW j)))), (m12, .inl (cI, 21, .inl (fun j => nI (M.RN j)))), (m13, .inl (cI, 2400, .inl (fun j => nI (M.AT j))))] → va_S A s.heap H locs → ∀ ls : Array Slot, lv_has ls 7 [(5, .int (nI y_)), (4, .int (nI x_)), (3, .int (nI sm_)), (2, .int (nI (sN (mwr M.side M.IN) M.side))), (1, .int x), (0, .ref mo)] → W p l e (headSpec w_Mo_yields ({ frames := 2, cells := 0, slots := 0, locals := 45 })).room s m ([.ref mo, .int x]).toArray below meth c H locs 0 0 (MQ below (va_Qi (fun (r : Int32) (u : MoS) => moI u ∧ ∃ t_, u = moThr M t_) (fun (u : MoS) t => kE D vwCl A [(mo, .inr (6, [.int (nI u.thr), .int (nI u.side), .int (nI u.kf), .ref m1, .ref m2, .int (nI u.cn), .ref m3, .ref m4, .ref m5, .ref m6, .ref m7, .ref m8, .ref m9, .ref m10, .ref m11, .ref m12, .int (pI u.sw), .int (nI u.tn), .int (nI u.tot), .int (nI u.psl), .int (nI u.pc_), .ref m13])), (m1, .inl (cZ, 800, .inl (fun j => pI (u.IN j)))), (m2, .inl (cI, 400, .inl (fun j => nI (u.LO j)))), (m3, .inl (cI, 8, .inl (fun j => nI (u.th j)))), (m4, .inl (cI, 8, .inl (fun j => nI (u.wi j)))), (m5, .inl (cI, 8, .inl (fun j => nI (u.wo j)))), (m6, .inl (cI, 8, .inl (fun j => nI (u.wn j)))), (m7, .inl (cI, 441, .inl (fun j => nI (u.F3 j)))), (m8, .inl (cI, 441, .inl (fun j => nI (u.F4 j)))), (m9, .inl (cI, 9702, .inl (fun j => nI (u.SW j)))), (m10, .inl (cI, 9702, .inl (fun j => nI (u.SN j)))), (m11, .inl (cI, 21, .inl (fun j => nI (u.RW j)))), (m12, .inl (cI, 21, .inl (fun j => nI (u.RN j)))), (m13, .inl (cI, 2400, .inl (fun j => nI (u.AT j))))] t) A) ([.ref mo, .int x]).toArray s 0 0 A) (F0 m 103 ls []) := by
                  intro k_
                  induction k_ with
                  | zero =>
                    intro x_ y_ hy hp g1 g2 H locs hP hD hS ls hl
                    refine lv_iload hx hb d_Mo_yields_103 (lv_at hl 0 rfl) ?_
                    refine kb_eq (tgt := 126) (nI_t (by omega)) hx hb d_Mo_yields_105 (by decide) (fun c_105 => ?_) (fun c_105 => ?_)
                    · refine lv_iload_n hx hb d_Mo_yields_126 rfl (lv_at hl 4 rfl) ?_
                      refine kb_ne (tgt := 137) rfl hx hb d_Mo_yields_127 (by decide) (fun cp => ?_) (fun cp => ?_)
                      · refine lv_iload_n hx hb d_Mo_yields_137 rfl (lv_at hl 3 rfl) ?_
                        refine lv_iload hx hb d_Mo_yields_138 (lv_at hl 1 rfl) ?_
                        refine lv_idiv hx hb d_Mo_yields_140 (nI_ne0 (by omega) (by omega)) ?_
                        exact kreti (u := moThr M 0) hx hb hr hP hD hS hlocks rfl (⟨moI_thr hI 0, 0, rfl⟩) d_Mo_yields_141
                      · refine lv_iload_n hx hb d_Mo_yields_130 rfl (lv_at hl 2 rfl) ?_
                        refine lv_iload hx hb d_Mo_yields_131 (lv_at hl 1 rfl) ?_
                        refine lv_idiv hx hb d_Mo_yields_133 (nI_ne0 (by omega) (by omega)) ?_
                        refine lv_goto (tgt := 141) hx hb d_Mo_yields_134 (by decide) ?_
                        exact kreti (u := moThr M 0) hx hb hr hP hD hS hlocks rfl (⟨moI_thr hI 0, 0, rfl⟩) d_Mo_yields_141
                    · exfalso; omega
                  | succ k_ ih =>
                    intro x_ y_ hy hp g1 g2 H locs hP hD hS ls hl
                    refine lv_iload hx hb d_Mo_yields_103 (lv_at hl 0 rfl) ?_
                    refine kb_eq (tgt := 126) (nI_t (by omega)) hx hb d_Mo_yields_105 (by decide) (fun ce => ?_) (fun ce => ?_)
                    · refine lv_iload_n hx hb d_Mo_yields_126 rfl (lv_at hl 4 rfl) ?_
                      refine kb_ne (tgt := 137) rfl hx hb d_Mo_yields_127 (by decide) (fun cp => ?_) (fun cp => ?_)
                      · refine lv_iload_n hx hb d_Mo_yields_137 rfl (lv_at hl 3 rfl) ?_
                        refine lv_iload hx hb d_Mo_yields_138 (lv_at hl 1 rfl) ?_
                        refine lv_idiv hx hb d_Mo_yields_140 (nI_ne0 (by omega) (by omega)) ?_
                        exact kreti (u := moThr M 0) hx hb hr hP hD hS hlocks rfl (⟨moI_thr hI 0, 0, rfl⟩) d_Mo_yields_141
                      · refine lv_iload_n hx hb d_Mo_yields_130 rfl (lv_at hl 2 rfl) ?_
                        refine lv_iload hx hb d_Mo_yields_131 (lv_at hl 1 rfl) ?_
                        refine lv_idiv hx hb d_Mo_yields_133 (nI_ne0 (by omega) (by omega)) ?_
                        refine lv_goto (tgt := 141) hx hb d_Mo_yields_134 (by decide) ?_
                        exact kreti (u := moThr M 0) hx hb hr hP hD hS hlocks rfl (⟨moI_thr hI 0, 0, rfl⟩) d_Mo_yields_141
                    · refine lv_iload hx hb d_Mo_yields_108 (lv_at hl 1 rfl) ?_
                      refine lv_iload hx hb d_Mo_yields_110 (lv_at hl 0 rfl) ?_
                      refine lv_irem hx hb d_Mo_yields_112 (nI_ne0 (by omega) (by omega)) ?_
                      refine ka_i (y := nI (x_ % y_)) (pk_rem (by omega) (by omega) (by omega)) ?_
                      have q1 := Nat.mod_lt x_ (show 0 < y_ by omega)
                      refine lv_istore (lv' := [(6, .int (nI (x_ % y_))), (5, .int (nI y_)), (4, .int (nI x_)), (3, .int (nI sm_)), (2, .int (nI (sN (mwr M.side M.IN) M.side))), (1, .int x), (0, .ref mo)]) hx hb d_Mo_yields_113 hl (by decide) rfl (fun ls hl => ?_)
                      refine lv_iload hx hb d_Mo_yields_115 (lv_at hl 1 rfl) ?_
                      refine lv_istore (lv' := [(4, .int (nI y_)), (6, .int (nI (x_ % y_))), (5, .int (nI y_)), (3, .int (nI sm_)), (2, .int (nI (sN (mwr M.side M.IN) M.side))), (1, .int x), (0, .ref mo)]) hx hb d_Mo_yields_117 hl (by decide) rfl (fun ls hl => ?_)
                      refine lv_iload hx hb d_Mo_yields_119 (lv_at hl 1 rfl) ?_
                      refine lv_istore (lv' := [(5, .int (nI (x_ % y_))), (4, .int (nI y_)), (6, .int (nI (x_ % y_))), (3, .int (nI sm_)), (2, .int (nI (sN (mwr M.side M.IN) M.side))), (1, .int x), (0, .ref mo)]) hx hb d_Mo_yields_121 hl (by decide) rfl (fun ls hl => ?_)
                      refine lv_goto (tgt := 103) hx hb d_Mo_yields_123 (by decide) ?_
                      exact ih y_ (x_ % y_) (by omega) (by omega) (by omega) (by omega) _ _ hP hD hS ls (lv_sub hl [0, 1, 3, 4, 5, 6] rfl)
                exact lq (sN (mwr M.side M.IN) M.side) sm_ (sN (mwr M.side M.IN) M.side) (by omega) (by omega) (by omega) (by omega) _ _ hP hD hS ls (lv_sub hl [0, 1, 2, 3, 4, 5] rfl)
              · refine lv_iload_n hx hb d_Mo_yields_95 rfl (lv_at hl 3 rfl) ?_
                exact kreti (u := moThr M 0) hx hb hr hP hD hS hlocks rfl (⟨moI_thr hI 0, 0, rfl⟩) d_Mo_yields_96
            · exfalso; omega
          | succ n ih =>
            intro k sm_ hi hs_ H locs hP hD hS ls hl
            refine lv_iload hx hb d_Mo_yields_48 (lv_at hl 0 rfl) ?_
            refine lv_aload_n hx hb d_Mo_yields_50 rfl (lv_at hl 4 rfl) ?_
            refine va_get (D := D) (ci := 6) (v := .int (nI M.pc_)) (C := R_Mo) (T := T_Mo) (N := 22) hx hb hts (fun w h => List.mem_cons_of_mem _ (iw_Mo w h)) hown hK hP 0 rfl rfl 20 (by decide) (hts _ (List.mem_cons_of_mem _ k_565)) (fun _ h9 => h9) rfl d_Mo_yields_51 ?_
            refine kb_cge (tgt := 91) (nI_t (by omega)) (nI_t (by omega)) hx hb d_Mo_yields_54 (by decide) (fun c_54 => ?_) (fun c_54 => ?_)
            · exfalso; omega
            · have hk9 := hat k (by omega)
              have mk : M.AT (6 * k + 3) * M.AT (6 * k + 4) ≤ 400 := by exact Nat.le_trans (Nat.mul_le_mul (show M.AT (6 * k + 3) ≤ 20 by omega) (show M.AT (6 * k + 4) ≤ 20 by omega)) (by decide)
              refine lv_iload_n hx hb d_Mo_yields_57 rfl (lv_at hl 1 rfl) ?_
              refine lv_aload_n hx hb d_Mo_yields_58 rfl (lv_at hl 4 rfl) ?_
              refine va_get (D := D) (ci := 6) (v := .ref m13) (C := R_Mo) (T := T_Mo) (N := 22) hx hb hts (fun w h => List.mem_cons_of_mem _ (iw_Mo w h)) hown hK hP 0 rfl rfl 21 (by decide) (hts _ (List.mem_cons_of_mem _ k_566)) (fun _ h9 => h9) rfl d_Mo_yields_59 ?_
              refine lv_bipush (v := nI 6) hx hb d_Mo_yields_62 (by decide +kernel) ?_
              refine lv_iload hx hb d_Mo_yields_64 (lv_at hl 0 rfl) ?_
              refine lv_imul hx hb d_Mo_yields_66 ?_
              refine ka_i (y := nI (6 * k)) (pk_mul _ _) ?_
              refine lv_iconst (v := nI 3) hx hb d_Mo_yields_67 (by decide +kernel) ?_
              refine lv_iadd hx hb d_Mo_yields_68 ?_
              refine ka_i (y := nI ((6 * k) + 3)) (nI_add _ _) ?_
              refine ka_iald (k := ((6 * k) + 3)) (n := 2400) (f := fun j => nI (M.AT j)) (nI_t (by omega)) (by omega) hx hb hK hP 13 0 rfl rfl d_Mo_yields_69 ?_
              refine lv_aload_n hx hb d_Mo_yields_70 rfl (lv_at hl 4 rfl) ?_
              refine va_get (D := D) (ci := 6) (v := .ref m13) (C := R_Mo) (T := T_Mo) (N := 22) hx hb hts (fun w h => List.mem_cons_of_mem _ (iw_Mo w h)) hown hK hP 0 rfl rfl 21 (by decide) (hts _ (List.mem_cons_of_mem _ k_566)) (fun _ h9 => h9) rfl d_Mo_yields_71 ?_
              refine lv_bipush (v := nI 6) hx hb d_Mo_yields_74 (by decide +kernel) ?_
              refine lv_iload hx hb d_Mo_yields_76 (lv_at hl 0 rfl) ?_
              refine lv_imul hx hb d_Mo_yields_78 ?_
              refine ka_i (y := nI (6 * k)) (pk_mul _ _) ?_
              refine lv_iconst (v := nI 4) hx hb d_Mo_yields_79 (by decide +kernel) ?_
              refine lv_iadd hx hb d_Mo_yields_80 ?_
              refine ka_i (y := nI ((6 * k) + 4)) (nI_add _ _) ?_
              refine ka_iald (k := ((6 * k) + 4)) (n := 2400) (f := fun j => nI (M.AT j)) (nI_t (by omega)) (by omega) hx hb hK hP 13 0 rfl rfl d_Mo_yields_81 ?_
              refine lv_imul hx hb d_Mo_yields_82 ?_
              refine ka_i (y := nI ((M.AT ((6 * k) + 3)) * (M.AT ((6 * k) + 4)))) (pk_mul _ _) ?_
              refine lv_iadd hx hb d_Mo_yields_83 ?_
              refine ka_i (y := nI (sm_ + ((M.AT ((6 * k) + 3)) * (M.AT ((6 * k) + 4))))) (nI_add _ _) ?_
              refine lv_istore_n (lv' := [(3, .int (nI (sm_ + ((M.AT ((6 * k) + 3)) * (M.AT ((6 * k) + 4)))))), (4, .int (nI k)), (2, .int (nI (sN (mwr M.side M.IN) M.side))), (1, .int x), (0, .ref mo)]) hx hb d_Mo_yields_84 rfl hl (by decide) rfl (fun ls hl => ?_)
              refine lv_iinc (v := nI (k + 1)) (lv' := [(4, .int (nI (k + 1))), (3, .int (nI (sm_ + ((M.AT ((6 * k) + 3)) * (M.AT ((6 * k) + 4)))))), (2, .int (nI (sN (mwr M.side M.IN) M.side))), (1, .int x), (0, .ref mo)]) hx hb d_Mo_yields_85 hl (k := 1) rfl (nI_add _ 1) (by decide) rfl (fun ls hl => ?_)
              refine lv_goto (tgt := 48) hx hb d_Mo_yields_88 (by decide) ?_
              exact ih (k + 1) (sm_ + M.AT (6 * k + 3) * M.AT (6 * k + 4)) (by omega) (by omega) _ _ hP hD hS ls (lv_sub hl [0, 1, 2, 3, 4] rfl)
        exact lp M.pc_ 0 0 (by omega) (by omega) _ _ hP hD hS ls (lv_sub hl [0, 1, 2, 4, 3] rfl)
      · exfalso; omega
  · refine lv_iconst (v := nI 1) hx hb d_Mo_yields_8 (by decide +kernel) ?_
    refine lv_goto (tgt := 26) hx hb d_Mo_yields_9 (by decide) ?_
    refine va_put (D := D) (ci := 6) (v := .int (nI 1)) (ty := .int) (C := R_Mo) (T := T_Mo) (N := 22) hx hb hts (fun w h => List.mem_cons_of_mem _ (iw_Mo w h)) ty_Mo tyok_Mo nm_Mo hown hK hP hD hS 0 rfl rfl 0 (by decide) (hts _ (List.mem_cons_of_mem _ k_545)) (fun _ h9 => h9) rfl (by decide +kernel) (rfl) (rfl) (Nat.le_of_ble_eq_true rfl) d_Mo_yields_26 (fun H locs hP hD hS => ?_)
    have hP : va_P D vwCl [(mo, .inr (6, [.int (nI 1), .int (nI M.side), .int (nI M.kf), .ref m1, .ref m2, .int (nI M.cn), .ref m3, .ref m4, .ref m5, .ref m6, .ref m7, .ref m8, .ref m9, .ref m10, .ref m11, .ref m12, .int (pI M.sw), .int (nI M.tn), .int (nI M.tot), .int (nI M.psl), .int (nI M.pc_), .ref m13])), (m1, .inl (cZ, 800, .inl (fun j => pI (M.IN j)))), (m2, .inl (cI, 400, .inl (fun j => nI (M.LO j)))), (m3, .inl (cI, 8, .inl (fun j => nI (M.th j)))), (m4, .inl (cI, 8, .inl (fun j => nI (M.wi j)))), (m5, .inl (cI, 8, .inl (fun j => nI (M.wo j)))), (m6, .inl (cI, 8, .inl (fun j => nI (M.wn j)))), (m7, .inl (cI, 441, .inl (fun j => nI (M.F3 j)))), (m8, .inl (cI, 441, .inl (fun j => nI (M.F4 j)))), (m9, .inl (cI, 9702, .inl (fun j => nI (M.SW j)))), (m10, .inl (cI, 9702, .inl (fun j => nI (M.SN j)))), (m11, .inl (cI, 21, .inl (fun j => nI (M.RW j)))), (m12, .inl (cI, 21, .inl (fun j => nI (M.RN j)))), (m13, .inl (cI, 2400, .inl (fun j => nI (M.AT j))))] H := hP
    have hD : va_D A [(mo, .inr (6, [.int (nI 1), .int (nI M.side), .int (nI M.kf), .ref m1, .ref m2, .int (nI M.cn), .ref m3, .ref m4, .ref m5, .ref m6, .ref m7, .ref m8, .ref m9, .ref m10, .ref m11, .ref m12, .int (pI M.sw), .int (nI M.tn), .int (nI M.tot), .int (nI M.psl), .int (nI M.pc_), .ref m13])), (m1, .inl (cZ, 800, .inl (fun j => pI (M.IN j)))), (m2, .inl (cI, 400, .inl (fun j => nI (M.LO j)))), (m3, .inl (cI, 8, .inl (fun j => nI (M.th j)))), (m4, .inl (cI, 8, .inl (fun j => nI (M.wi j)))), (m5, .inl (cI, 8, .inl (fun j => nI (M.wo j)))), (m6, .inl (cI, 8, .inl (fun j => nI (M.wn j)))), (m7, .inl (cI, 441, .inl (fun j => nI (M.F3 j)))), (m8, .inl (cI, 441, .inl (fun j => nI (M.F4 j)))), (m9, .inl (cI, 9702, .inl (fun j => nI (M.SW j)))), (m10, .inl (cI, 9702, .inl (fun j => nI (M.SN j)))), (m11, .inl (cI, 21, .inl (fun j => nI (M.RW j)))), (m12, .inl (cI, 21, .inl (fun j => nI (M.RN j)))), (m13, .inl (cI, 2400, .inl (fun j => nI (M.AT j))))] := hD
    refine lv_aload_n hx hb d_Mo_yields_29 rfl (lv_at hl 0 rfl) ?_
    refine va_get (D := D) (ci := 6) (v := .int (nI 1)) (C := R_Mo) (T := T_Mo) (N := 22) hx hb hts (fun w h => List.mem_cons_of_mem _ (iw_Mo w h)) hown hK hP 0 rfl rfl 0 (by decide) (hts _ (List.mem_cons_of_mem _ k_545)) (fun _ h9 => h9) rfl d_Mo_yields_30 ?_
    refine kb_le (tgt := 38) (nI_t (by omega)) hx hb d_Mo_yields_33 (by decide) (fun c_33 => ?_) (fun c_33 => ?_)
    · exfalso; omega
    · refine lv_iconst (v := nI 0) hx hb d_Mo_yields_36 (by decide +kernel) ?_
      exact kreti (u := moThr M 1) hx hb hr hP hD hS hlocks rfl (⟨moI_thr hI 1, 1, rfl⟩) d_Mo_yields_37

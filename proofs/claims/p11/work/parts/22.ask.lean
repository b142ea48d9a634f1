theorem d_SG_refuseUnsawn_0 : decode b_SG_refuseUnsawn 0 = .ok (.aload_n 0, 1) := by decide +kernel
theorem d_SG_refuseUnsawn_1 : decode b_SG_refuseUnsawn 1 = .ok (.getfield 78, 3) := by decide +kernel
theorem d_SG_refuseUnsawn_4 : decode b_SG_refuseUnsawn 4 = .ok (.ifCond .ne 13, 3) := by decide +kernel
theorem d_SG_refuseUnsawn_7 : decode b_SG_refuseUnsawn 7 = .ok (.new 115, 3) := by decide +kernel
theorem d_SG_refuseUnsawn_10 : decode b_SG_refuseUnsawn 10 = .ok (.dup, 1) := by decide +kernel
theorem d_SG_refuseUnsawn_11 : decode b_SG_refuseUnsawn 11 = .ok (.ldc 210, 2) := by decide +kernel
theorem d_SG_refuseUnsawn_13 : decode b_SG_refuseUnsawn 13 = .ok (.invokespecial 119, 3) := by decide +kernel
theorem d_SG_refuseUnsawn_16 : decode b_SG_refuseUnsawn 16 = .ok (.athrow, 1) := by decide +kernel
theorem d_SG_refuseUnsawn_17 : decode b_SG_refuseUnsawn 17 = .ok (.return_, 1) := by decide +kernel
theorem d_SG_refuseNoBoard_0 : decode b_SG_refuseNoBoard 0 = .ok (.iload_n 1, 1) := by decide +kernel
theorem d_SG_refuseNoBoard_1 : decode b_SG_refuseNoBoard 1 = .ok (.iconst 0, 1) := by decide +kernel
theorem d_SG_refuseNoBoard_2 : decode b_SG_refuseNoBoard 2 = .ok (.aload_n 0, 1) := by decide +kernel
theorem d_SG_refuseNoBoard_3 : decode b_SG_refuseNoBoard 3 = .ok (.getfield 59, 3) := by decide +kernel
theorem d_SG_refuseNoBoard_6 : decode b_SG_refuseNoBoard 6 = .ok (.getfield 135, 3) := by decide +kernel
theorem d_SG_refuseNoBoard_9 : decode b_SG_refuseNoBoard 9 = .ok (.iconst 1, 1) := by decide +kernel
theorem d_SG_refuseNoBoard_10 : decode b_SG_refuseNoBoard 10 = .ok (.isub, 1) := by decide +kernel
theorem d_SG_refuseNoBoard_11 : decode b_SG_refuseNoBoard 11 = .ok (.invokestatic 91, 3) := by decide +kernel
theorem d_SG_refuseNoBoard_14 : decode b_SG_refuseNoBoard 14 = .ok (.ifCond .ne 13, 3) := by decide +kernel
theorem d_SG_refuseNoBoard_17 : decode b_SG_refuseNoBoard 17 = .ok (.new 71, 3) := by decide +kernel
theorem d_SG_refuseNoBoard_20 : decode b_SG_refuseNoBoard 20 = .ok (.dup, 1) := by decide +kernel
theorem d_SG_refuseNoBoard_21 : decode b_SG_refuseNoBoard 21 = .ok (.ldc 212, 2) := by decide +kernel
theorem d_SG_refuseNoBoard_23 : decode b_SG_refuseNoBoard 23 = .ok (.invokespecial 75, 3) := by decide +kernel
theorem d_SG_refuseNoBoard_26 : decode b_SG_refuseNoBoard 26 = .ok (.athrow, 1) := by decide +kernel
theorem d_SG_refuseNoBoard_27 : decode b_SG_refuseNoBoard 27 = .ok (.return_, 1) := by decide +kernel
theorem d_SG_all_0 : decode b_SG_all 0 = .ok (.aload_n 0, 1) := by decide +kernel
theorem d_SG_all_1 : decode b_SG_all 1 = .ok (.invokevirtual 136, 3) := by decide +kernel
theorem d_SG_all_4 : decode b_SG_all 4 = .ok (.iload_n 1, 1) := by decide +kernel
theorem d_SG_all_5 : decode b_SG_all 5 = .ok (.tableswitch 63 0 3 #[31, 39, 47, 55], 31) := by decide +kernel
theorem d_SG_all_36 : decode b_SG_all 36 = .ok (.aload_n 0, 1) := by decide +kernel
theorem d_SG_all_37 : decode b_SG_all 37 = .ok (.getfield 59, 3) := by decide +kernel
theorem d_SG_all_40 : decode b_SG_all 40 = .ok (.getfield 169, 3) := by decide +kernel
theorem d_SG_all_43 : decode b_SG_all 43 = .ok (.ireturn, 1) := by decide +kernel
theorem d_SG_all_44 : decode b_SG_all 44 = .ok (.aload_n 0, 1) := by decide +kernel
theorem d_SG_all_45 : decode b_SG_all 45 = .ok (.getfield 59, 3) := by decide +kernel
theorem d_SG_all_48 : decode b_SG_all 48 = .ok (.getfield 152, 3) := by decide +kernel
theorem d_SG_all_51 : decode b_SG_all 51 = .ok (.ireturn, 1) := by decide +kernel
theorem d_SG_all_52 : decode b_SG_all 52 = .ok (.aload_n 0, 1) := by decide +kernel
theorem d_SG_all_53 : decode b_SG_all 53 = .ok (.getfield 59, 3) := by decide +kernel
theorem d_SG_all_56 : decode b_SG_all 56 = .ok (.getfield 172, 3) := by decide +kernel
theorem d_SG_all_59 : decode b_SG_all 59 = .ok (.ireturn, 1) := by decide +kernel
theorem d_SG_all_60 : decode b_SG_all 60 = .ok (.aload_n 0, 1) := by decide +kernel
theorem d_SG_all_61 : decode b_SG_all 61 = .ok (.getfield 59, 3) := by decide +kernel
theorem d_SG_all_64 : decode b_SG_all 64 = .ok (.getfield 135, 3) := by decide +kernel
theorem d_SG_all_67 : decode b_SG_all 67 = .ok (.ireturn, 1) := by decide +kernel
theorem d_SG_all_68 : decode b_SG_all 68 = .ok (.new 71, 3) := by decide +kernel
theorem d_SG_all_71 : decode b_SG_all 71 = .ok (.dup, 1) := by decide +kernel
theorem d_SG_all_72 : decode b_SG_all 72 = .ok (.ldc 175, 2) := by decide +kernel
theorem d_SG_all_74 : decode b_SG_all 74 = .ok (.invokespecial 75, 3) := by decide +kernel
theorem d_SG_all_77 : decode b_SG_all 77 = .ok (.athrow, 1) := by decide +kernel
theorem d_SG_board_0 : decode b_SG_board 0 = .ok (.aload_n 0, 1) := by decide +kernel
theorem d_SG_board_1 : decode b_SG_board 1 = .ok (.invokevirtual 136, 3) := by decide +kernel
theorem d_SG_board_4 : decode b_SG_board 4 = .ok (.aload_n 0, 1) := by decide +kernel
theorem d_SG_board_5 : decode b_SG_board 5 = .ok (.iload_n 1, 1) := by decide +kernel
theorem d_SG_board_6 : decode b_SG_board 6 = .ok (.invokevirtual 139, 3) := by decide +kernel
theorem d_SG_board_9 : decode b_SG_board 9 = .ok (.aload_n 0, 1) := by decide +kernel
theorem d_SG_board_10 : decode b_SG_board 10 = .ok (.getfield 59, 3) := by decide +kernel
theorem d_SG_board_13 : decode b_SG_board 13 = .ok (.getfield 142, 3) := by decide +kernel
theorem d_SG_board_16 : decode b_SG_board 16 = .ok (.iload_n 1, 1) := by decide +kernel
theorem d_SG_board_17 : decode b_SG_board 17 = .ok (.iaload, 1) := by decide +kernel
theorem d_SG_board_18 : decode b_SG_board 18 = .ok (.istore_n 3, 1) := by decide +kernel
theorem d_SG_board_19 : decode b_SG_board 19 = .ok (.aload_n 0, 1) := by decide +kernel
theorem d_SG_board_20 : decode b_SG_board 20 = .ok (.getfield 59, 3) := by decide +kernel
theorem d_SG_board_23 : decode b_SG_board 23 = .ok (.getfield 146, 3) := by decide +kernel
theorem d_SG_board_26 : decode b_SG_board 26 = .ok (.iload_n 1, 1) := by decide +kernel
theorem d_SG_board_27 : decode b_SG_board 27 = .ok (.iaload, 1) := by decide +kernel
theorem d_SG_board_28 : decode b_SG_board 28 = .ok (.istore 4, 2) := by decide +kernel
theorem d_SG_board_30 : decode b_SG_board 30 = .ok (.aload_n 0, 1) := by decide +kernel
theorem d_SG_board_31 : decode b_SG_board 31 = .ok (.getfield 59, 3) := by decide +kernel
theorem d_SG_board_34 : decode b_SG_board 34 = .ok (.getfield 149, 3) := by decide +kernel
theorem d_SG_board_37 : decode b_SG_board 37 = .ok (.iload_n 1, 1) := by decide +kernel
theorem d_SG_board_38 : decode b_SG_board 38 = .ok (.iaload, 1) := by decide +kernel
theorem d_SG_board_39 : decode b_SG_board 39 = .ok (.istore 5, 2) := by decide +kernel
theorem d_SG_board_41 : decode b_SG_board 41 = .ok (.iload_n 2, 1) := by decide +kernel
theorem d_SG_board_42 : decode b_SG_board 42 = .ok (.tableswitch 122 0 6 #[42, 44, 47, 50, 66, 82, 102], 42) := by decide +kernel
theorem d_SG_board_84 : decode b_SG_board 84 = .ok (.iload_n 3, 1) := by decide +kernel
theorem d_SG_board_85 : decode b_SG_board 85 = .ok (.ireturn, 1) := by decide +kernel
theorem d_SG_board_86 : decode b_SG_board 86 = .ok (.iload 4, 2) := by decide +kernel
theorem d_SG_board_88 : decode b_SG_board 88 = .ok (.ireturn, 1) := by decide +kernel
theorem d_SG_board_89 : decode b_SG_board 89 = .ok (.iload 5, 2) := by decide +kernel
theorem d_SG_board_91 : decode b_SG_board 91 = .ok (.ireturn, 1) := by decide +kernel
theorem d_SG_board_92 : decode b_SG_board 92 = .ok (.aload_n 0, 1) := by decide +kernel
theorem d_SG_board_93 : decode b_SG_board 93 = .ok (.getfield 34, 3) := by decide +kernel
theorem d_SG_board_96 : decode b_SG_board 96 = .ok (.iload_n 3, 1) := by decide +kernel
theorem d_SG_board_97 : decode b_SG_board 97 = .ok (.aload_n 0, 1) := by decide +kernel
theorem d_SG_board_98 : decode b_SG_board 98 = .ok (.getfield 59, 3) := by decide +kernel
theorem d_SG_board_101 : decode b_SG_board 101 = .ok (.getfield 152, 3) := by decide +kernel
theorem d_SG_board_104 : decode b_SG_board 104 = .ok (.invokevirtual 155, 3) := by decide +kernel
theorem d_SG_board_107 : decode b_SG_board 107 = .ok (.ireturn, 1) := by decide +kernel
theorem d_SG_board_108 : decode b_SG_board 108 = .ok (.aload_n 0, 1) := by decide +kernel
theorem d_SG_board_109 : decode b_SG_board 109 = .ok (.getfield 34, 3) := by decide +kernel
theorem d_SG_board_112 : decode b_SG_board 112 = .ok (.iload_n 3, 1) := by decide +kernel
theorem d_SG_board_113 : decode b_SG_board 113 = .ok (.aload_n 0, 1) := by decide +kernel
theorem d_SG_board_114 : decode b_SG_board 114 = .ok (.getfield 59, 3) := by decide +kernel
theorem d_SG_board_117 : decode b_SG_board 117 = .ok (.getfield 152, 3) := by decide +kernel
theorem d_SG_board_120 : decode b_SG_board 120 = .ok (.invokevirtual 158, 3) := by decide +kernel
theorem d_SG_board_123 : decode b_SG_board 123 = .ok (.ireturn, 1) := by decide +kernel
theorem d_SG_board_124 : decode b_SG_board 124 = .ok (.aload_n 0, 1) := by decide +kernel
theorem d_SG_board_125 : decode b_SG_board 125 = .ok (.getfield 43, 3) := by decide +kernel
theorem d_SG_board_128 : decode b_SG_board 128 = .ok (.iload_n 3, 1) := by decide +kernel
theorem d_SG_board_129 : decode b_SG_board 129 = .ok (.iload 4, 2) := by decide +kernel
theorem d_SG_board_131 : decode b_SG_board 131 = .ok (.iload 5, 2) := by decide +kernel
theorem d_SG_board_133 : decode b_SG_board 133 = .ok (.aload_n 0, 1) := by decide +kernel
theorem d_SG_board_134 : decode b_SG_board 134 = .ok (.getfield 59, 3) := by decide +kernel
theorem d_SG_board_137 : decode b_SG_board 137 = .ok (.getfield 152, 3) := by decide +kernel
theorem d_SG_board_140 : decode b_SG_board 140 = .ok (.invokevirtual 161, 3) := by decide +kernel
theorem d_SG_board_143 : decode b_SG_board 143 = .ok (.ireturn, 1) := by decide +kernel
theorem d_SG_board_144 : decode b_SG_board 144 = .ok (.aload_n 0, 1) := by decide +kernel
theorem d_SG_board_145 : decode b_SG_board 145 = .ok (.getfield 43, 3) := by decide +kernel
theorem d_SG_board_148 : decode b_SG_board 148 = .ok (.iload_n 3, 1) := by decide +kernel
theorem d_SG_board_149 : decode b_SG_board 149 = .ok (.iload 4, 2) := by decide +kernel
theorem d_SG_board_151 : decode b_SG_board 151 = .ok (.iload 5, 2) := by decide +kernel
theorem d_SG_board_153 : decode b_SG_board 153 = .ok (.aload_n 0, 1) := by decide +kernel
theorem d_SG_board_154 : decode b_SG_board 154 = .ok (.getfield 59, 3) := by decide +kernel
theorem d_SG_board_157 : decode b_SG_board 157 = .ok (.getfield 152, 3) := by decide +kernel
theorem d_SG_board_160 : decode b_SG_board 160 = .ok (.invokevirtual 164, 3) := by decide +kernel
theorem d_SG_board_163 : decode b_SG_board 163 = .ok (.ireturn, 1) := by decide +kernel
theorem d_SG_board_164 : decode b_SG_board 164 = .ok (.new 71, 3) := by decide +kernel
theorem d_SG_board_167 : decode b_SG_board 167 = .ok (.dup, 1) := by decide +kernel
theorem d_SG_board_168 : decode b_SG_board 168 = .ok (.ldc 167, 2) := by decide +kernel
theorem d_SG_board_170 : decode b_SG_board 170 = .ok (.invokespecial 75, 3) := by decide +kernel
theorem d_SG_board_173 : decode b_SG_board 173 = .ok (.athrow, 1) := by decide +kernel
theorem d_SG_commonDivisor_0 : decode b_SG_commonDivisor 0 = .ok (.iload_n 0, 1) := by decide +kernel
theorem d_SG_commonDivisor_1 : decode b_SG_commonDivisor 1 = .ok (.istore_n 2, 1) := by decide +kernel
theorem d_SG_commonDivisor_2 : decode b_SG_commonDivisor 2 = .ok (.iload_n 1, 1) := by decide +kernel
theorem d_SG_commonDivisor_3 : decode b_SG_commonDivisor 3 = .ok (.istore_n 3, 1) := by decide +kernel
theorem d_SG_commonDivisor_4 : decode b_SG_commonDivisor 4 = .ok (.iconst 0, 1) := by decide +kernel
theorem d_SG_commonDivisor_5 : decode b_SG_commonDivisor 5 = .ok (.istore 4, 2) := by decide +kernel
theorem d_SG_commonDivisor_7 : decode b_SG_commonDivisor 7 = .ok (.iload 4, 2) := by decide +kernel
theorem d_SG_commonDivisor_9 : decode b_SG_commonDivisor 9 = .ok (.sipush 1000, 3) := by decide +kernel
theorem d_SG_commonDivisor_12 : decode b_SG_commonDivisor 12 = .ok (.if_icmp .ge 23, 3) := by decide +kernel
theorem d_SG_commonDivisor_15 : decode b_SG_commonDivisor 15 = .ok (.iload_n 3, 1) := by decide +kernel
theorem d_SG_commonDivisor_16 : decode b_SG_commonDivisor 16 = .ok (.ifCond .eq 19, 3) := by decide +kernel
theorem d_SG_commonDivisor_19 : decode b_SG_commonDivisor 19 = .ok (.iload_n 2, 1) := by decide +kernel
theorem d_SG_commonDivisor_20 : decode b_SG_commonDivisor 20 = .ok (.iload_n 3, 1) := by decide +kernel
theorem d_SG_commonDivisor_21 : decode b_SG_commonDivisor 21 = .ok (.irem, 1) := by decide +kernel
theorem d_SG_commonDivisor_22 : decode b_SG_commonDivisor 22 = .ok (.istore 5, 2) := by decide +kernel
theorem d_SG_commonDivisor_24 : decode b_SG_commonDivisor 24 = .ok (.iload_n 3, 1) := by decide +kernel
theorem d_SG_commonDivisor_25 : decode b_SG_commonDivisor 25 = .ok (.istore_n 2, 1) := by decide +kernel
theorem d_SG_commonDivisor_26 : decode b_SG_commonDivisor 26 = .ok (.iload 5, 2) := by decide +kernel
theorem d_SG_commonDivisor_28 : decode b_SG_commonDivisor 28 = .ok (.istore_n 3, 1) := by decide +kernel
theorem d_SG_commonDivisor_29 : decode b_SG_commonDivisor 29 = .ok (.iinc 4 1, 3) := by decide +kernel
theorem d_SG_commonDivisor_32 : decode b_SG_commonDivisor 32 = .ok (.goto (-25), 3) := by decide +kernel
theorem d_SG_commonDivisor_35 : decode b_SG_commonDivisor 35 = .ok (.iload_n 2, 1) := by decide +kernel
theorem d_SG_commonDivisor_36 : decode b_SG_commonDivisor 36 = .ok (.ireturn, 1) := by decide +kernel
theorem d_SG_apart_0 : decode b_SG_apart 0 = .ok (.aload_n 0, 1) := by decide +kernel
theorem d_SG_apart_1 : decode b_SG_apart 1 = .ok (.invokevirtual 136, 3) := by decide +kernel
theorem d_SG_apart_4 : decode b_SG_apart 4 = .ok (.aload_n 0, 1) := by decide +kernel
theorem d_SG_apart_5 : decode b_SG_apart 5 = .ok (.iload_n 1, 1) := by decide +kernel
theorem d_SG_apart_6 : decode b_SG_apart 6 = .ok (.invokevirtual 139, 3) := by decide +kernel
theorem d_SG_apart_9 : decode b_SG_apart 9 = .ok (.aload_n 0, 1) := by decide +kernel
theorem d_SG_apart_10 : decode b_SG_apart 10 = .ok (.iload_n 2, 1) := by decide +kernel
theorem d_SG_apart_11 : decode b_SG_apart 11 = .ok (.invokevirtual 139, 3) := by decide +kernel
theorem d_SG_apart_14 : decode b_SG_apart 14 = .ok (.aload_n 0, 1) := by decide +kernel
theorem d_SG_apart_15 : decode b_SG_apart 15 = .ok (.getfield 59, 3) := by decide +kernel
theorem d_SG_apart_18 : decode b_SG_apart 18 = .ok (.getfield 142, 3) := by decide +kernel
theorem d_SG_apart_21 : decode b_SG_apart 21 = .ok (.iload_n 1, 1) := by decide +kernel
theorem d_SG_apart_22 : decode b_SG_apart 22 = .ok (.iaload, 1) := by decide +kernel
theorem d_SG_apart_23 : decode b_SG_apart 23 = .ok (.istore_n 3, 1) := by decide +kernel
theorem d_SG_apart_24 : decode b_SG_apart 24 = .ok (.aload_n 0, 1) := by decide +kernel
theorem d_SG_apart_25 : decode b_SG_apart 25 = .ok (.getfield 59, 3) := by decide +kernel
theorem d_SG_apart_28 : decode b_SG_apart 28 = .ok (.getfield 142, 3) := by decide +kernel
theorem d_SG_apart_31 : decode b_SG_apart 31 = .ok (.iload_n 2, 1) := by decide +kernel
theorem d_SG_apart_32 : decode b_SG_apart 32 = .ok (.iaload, 1) := by decide +kernel
theorem d_SG_apart_33 : decode b_SG_apart 33 = .ok (.istore 4, 2) := by decide +kernel
theorem d_SG_apart_35 : decode b_SG_apart 35 = .ok (.aload_n 0, 1) := by decide +kernel
theorem d_SG_apart_36 : decode b_SG_apart 36 = .ok (.aload_n 0, 1) := by decide +kernel
theorem d_SG_apart_37 : decode b_SG_apart 37 = .ok (.getfield 59, 3) := by decide +kernel
theorem d_SG_apart_40 : decode b_SG_apart 40 = .ok (.getfield 146, 3) := by decide +kernel
theorem d_SG_apart_43 : decode b_SG_apart 43 = .ok (.iload_n 1, 1) := by decide +kernel
theorem d_SG_apart_44 : decode b_SG_apart 44 = .ok (.iaload, 1) := by decide +kernel
theorem d_SG_apart_45 : decode b_SG_apart 45 = .ok (.aload_n 0, 1) := by decide +kernel
theorem d_SG_apart_46 : decode b_SG_apart 46 = .ok (.getfield 34, 3) := by decide +kernel
theorem d_SG_apart_49 : decode b_SG_apart 49 = .ok (.iload_n 3, 1) := by decide +kernel
theorem d_SG_apart_50 : decode b_SG_apart 50 = .ok (.aload_n 0, 1) := by decide +kernel
theorem d_SG_apart_51 : decode b_SG_apart 51 = .ok (.getfield 59, 3) := by decide +kernel
theorem d_SG_apart_54 : decode b_SG_apart 54 = .ok (.getfield 152, 3) := by decide +kernel
theorem d_SG_apart_57 : decode b_SG_apart 57 = .ok (.invokevirtual 155, 3) := by decide +kernel
theorem d_SG_apart_60 : decode b_SG_apart 60 = .ok (.aload_n 0, 1) := by decide +kernel
theorem d_SG_apart_61 : decode b_SG_apart 61 = .ok (.getfield 59, 3) := by decide +kernel
theorem d_SG_apart_64 : decode b_SG_apart 64 = .ok (.getfield 146, 3) := by decide +kernel
theorem d_SG_apart_67 : decode b_SG_apart 67 = .ok (.iload_n 2, 1) := by decide +kernel
theorem d_SG_apart_68 : decode b_SG_apart 68 = .ok (.iaload, 1) := by decide +kernel
theorem d_SG_apart_69 : decode b_SG_apart 69 = .ok (.aload_n 0, 1) := by decide +kernel
theorem d_SG_apart_70 : decode b_SG_apart 70 = .ok (.getfield 34, 3) := by decide +kernel
theorem d_SG_apart_73 : decode b_SG_apart 73 = .ok (.iload 4, 2) := by decide +kernel
theorem d_SG_apart_75 : decode b_SG_apart 75 = .ok (.aload_n 0, 1) := by decide +kernel
theorem d_SG_apart_76 : decode b_SG_apart 76 = .ok (.getfield 59, 3) := by decide +kernel
theorem d_SG_apart_79 : decode b_SG_apart 79 = .ok (.getfield 152, 3) := by decide +kernel
theorem d_SG_apart_82 : decode b_SG_apart 82 = .ok (.invokevirtual 155, 3) := by decide +kernel
theorem d_SG_apart_85 : decode b_SG_apart 85 = .ok (.invokevirtual 207, 3) := by decide +kernel
theorem d_SG_apart_88 : decode b_SG_apart 88 = .ok (.ifCond .ne 59, 3) := by decide +kernel
theorem d_SG_apart_91 : decode b_SG_apart 91 = .ok (.aload_n 0, 1) := by decide +kernel
theorem d_SG_apart_92 : decode b_SG_apart 92 = .ok (.aload_n 0, 1) := by decide +kernel
theorem d_SG_apart_93 : decode b_SG_apart 93 = .ok (.getfield 59, 3) := by decide +kernel
theorem d_SG_apart_96 : decode b_SG_apart 96 = .ok (.getfield 149, 3) := by decide +kernel
theorem d_SG_apart_99 : decode b_SG_apart 99 = .ok (.iload_n 1, 1) := by decide +kernel
theorem d_SG_apart_100 : decode b_SG_apart 100 = .ok (.iaload, 1) := by decide +kernel
theorem d_SG_apart_101 : decode b_SG_apart 101 = .ok (.aload_n 0, 1) := by decide +kernel
theorem d_SG_apart_102 : decode b_SG_apart 102 = .ok (.getfield 34, 3) := by decide +kernel
theorem d_SG_apart_105 : decode b_SG_apart 105 = .ok (.iload_n 3, 1) := by decide +kernel
theorem d_SG_apart_106 : decode b_SG_apart 106 = .ok (.aload_n 0, 1) := by decide +kernel
theorem d_SG_apart_107 : decode b_SG_apart 107 = .ok (.getfield 59, 3) := by decide +kernel
theorem d_SG_apart_110 : decode b_SG_apart 110 = .ok (.getfield 152, 3) := by decide +kernel
theorem d_SG_apart_113 : decode b_SG_apart 113 = .ok (.invokevirtual 158, 3) := by decide +kernel
theorem d_SG_apart_116 : decode b_SG_apart 116 = .ok (.aload_n 0, 1) := by decide +kernel
theorem d_SG_apart_117 : decode b_SG_apart 117 = .ok (.getfield 59, 3) := by decide +kernel
theorem d_SG_apart_120 : decode b_SG_apart 120 = .ok (.getfield 149, 3) := by decide +kernel
theorem d_SG_apart_123 : decode b_SG_apart 123 = .ok (.iload_n 2, 1) := by decide +kernel
theorem d_SG_apart_124 : decode b_SG_apart 124 = .ok (.iaload, 1) := by decide +kernel
theorem d_SG_apart_125 : decode b_SG_apart 125 = .ok (.aload_n 0, 1) := by decide +kernel
theorem d_SG_apart_126 : decode b_SG_apart 126 = .ok (.getfield 34, 3) := by decide +kernel
theorem d_SG_apart_129 : decode b_SG_apart 129 = .ok (.iload 4, 2) := by decide +kernel
theorem d_SG_apart_131 : decode b_SG_apart 131 = .ok (.aload_n 0, 1) := by decide +kernel
theorem d_SG_apart_132 : decode b_SG_apart 132 = .ok (.getfield 59, 3) := by decide +kernel
theorem d_SG_apart_135 : decode b_SG_apart 135 = .ok (.getfield 152, 3) := by decide +kernel
theorem d_SG_apart_138 : decode b_SG_apart 138 = .ok (.invokevirtual 158, 3) := by decide +kernel
theorem d_SG_apart_141 : decode b_SG_apart 141 = .ok (.invokevirtual 207, 3) := by decide +kernel
theorem d_SG_apart_144 : decode b_SG_apart 144 = .ok (.ifCond .eq 7, 3) := by decide +kernel
theorem d_SG_apart_147 : decode b_SG_apart 147 = .ok (.iconst 1, 1) := by decide +kernel
theorem d_SG_apart_148 : decode b_SG_apart 148 = .ok (.goto 4, 3) := by decide +kernel
theorem d_SG_apart_151 : decode b_SG_apart 151 = .ok (.iconst 0, 1) := by decide +kernel
theorem d_SG_apart_152 : decode b_SG_apart 152 = .ok (.ireturn, 1) := by decide +kernel
theorem d_SG_yields_0 : decode b_SG_yields 0 = .ok (.aload_n 0, 1) := by decide +kernel
theorem d_SG_yields_1 : decode b_SG_yields 1 = .ok (.invokevirtual 136, 3) := by decide +kernel
theorem d_SG_yields_4 : decode b_SG_yields 4 = .ok (.iload_n 1, 1) := by decide +kernel
theorem d_SG_yields_5 : decode b_SG_yields 5 = .ok (.iconst 0, 1) := by decide +kernel
theorem d_SG_yields_6 : decode b_SG_yields 6 = .ok (.iconst 1, 1) := by decide +kernel
theorem d_SG_yields_7 : decode b_SG_yields 7 = .ok (.invokestatic 91, 3) := by decide +kernel
theorem d_SG_yields_10 : decode b_SG_yields 10 = .ok (.ifCond .ne 13, 3) := by decide +kernel
theorem d_SG_yields_13 : decode b_SG_yields 13 = .ok (.new 71, 3) := by decide +kernel
theorem d_SG_yields_16 : decode b_SG_yields 16 = .ok (.dup, 1) := by decide +kernel
theorem d_SG_yields_17 : decode b_SG_yields 17 = .ok (.ldc 186, 2) := by decide +kernel
theorem d_SG_yields_19 : decode b_SG_yields 19 = .ok (.invokespecial 75, 3) := by decide +kernel
theorem d_SG_yields_22 : decode b_SG_yields 22 = .ok (.athrow, 1) := by decide +kernel
theorem d_SG_yields_23 : decode b_SG_yields 23 = .ok (.aload_n 0, 1) := by decide +kernel
theorem d_SG_yields_24 : decode b_SG_yields 24 = .ok (.getfield 27, 3) := by decide +kernel
theorem d_SG_yields_27 : decode b_SG_yields 27 = .ok (.invokevirtual 188, 3) := by decide +kernel
theorem d_SG_yields_30 : decode b_SG_yields 30 = .ok (.istore_n 2, 1) := by decide +kernel
theorem d_SG_yields_31 : decode b_SG_yields 31 = .ok (.iload_n 2, 1) := by decide +kernel
theorem d_SG_yields_32 : decode b_SG_yields 32 = .ok (.ifCond .ne 13, 3) := by decide +kernel
theorem d_SG_yields_35 : decode b_SG_yields 35 = .ok (.iload_n 1, 1) := by decide +kernel
theorem d_SG_yields_36 : decode b_SG_yields 36 = .ok (.ifCond .ne 7, 3) := by decide +kernel
theorem d_SG_yields_39 : decode b_SG_yields 39 = .ok (.iconst 0, 1) := by decide +kernel
theorem d_SG_yields_40 : decode b_SG_yields 40 = .ok (.goto 4, 3) := by decide +kernel
theorem d_SG_yields_43 : decode b_SG_yields 43 = .ok (.iconst 1, 1) := by decide +kernel
theorem d_SG_yields_44 : decode b_SG_yields 44 = .ok (.ireturn, 1) := by decide +kernel
theorem d_SG_yields_45 : decode b_SG_yields 45 = .ok (.iconst 1, 1) := by decide +kernel
theorem d_SG_yields_46 : decode b_SG_yields 46 = .ok (.aload_n 0, 1) := by decide +kernel
theorem d_SG_yields_47 : decode b_SG_yields 47 = .ok (.getfield 59, 3) := by decide +kernel
theorem d_SG_yields_50 : decode b_SG_yields 50 = .ok (.getfield 192, 3) := by decide +kernel
theorem d_SG_yields_53 : decode b_SG_yields 53 = .ok (.iload_n 2, 1) := by decide +kernel
theorem d_SG_yields_54 : decode b_SG_yields 54 = .ok (.invokestatic 195, 3) := by decide +kernel
theorem d_SG_yields_57 : decode b_SG_yields 57 = .ok (.invokestatic 15, 3) := by decide +kernel
theorem d_SG_yields_60 : decode b_SG_yields 60 = .ok (.istore_n 3, 1) := by decide +kernel
theorem d_SG_yields_61 : decode b_SG_yields 61 = .ok (.iload_n 1, 1) := by decide +kernel
theorem d_SG_yields_62 : decode b_SG_yields 62 = .ok (.ifCond .ne 13, 3) := by decide +kernel
theorem d_SG_yields_65 : decode b_SG_yields 65 = .ok (.aload_n 0, 1) := by decide +kernel
theorem d_SG_yields_66 : decode b_SG_yields 66 = .ok (.getfield 59, 3) := by decide +kernel
theorem d_SG_yields_69 : decode b_SG_yields 69 = .ok (.getfield 192, 3) := by decide +kernel
theorem d_SG_yields_72 : decode b_SG_yields 72 = .ok (.goto 4, 3) := by decide +kernel
theorem d_SG_yields_75 : decode b_SG_yields 75 = .ok (.iload_n 2, 1) := by decide +kernel
theorem d_SG_yields_76 : decode b_SG_yields 76 = .ok (.iload_n 3, 1) := by decide +kernel
theorem d_SG_yields_77 : decode b_SG_yields 77 = .ok (.idiv, 1) := by decide +kernel
theorem d_SG_yields_78 : decode b_SG_yields 78 = .ok (.ireturn, 1) := by decide +kernel
set_option maxHeartbeats 4000000 in
set_option maxRecDepth 100000 in
theorem c_refuseUnsawn (l : Launch) (D : va_G) (cI cJ cZ : ClassId) (hs : Nat) (kf : Nat) (h0 : Nat) (hz : Nat) (bo : Nat) (hb_ : Nat) (hp : Nat) (sw : Prop) (hsw : sw) : kReadV l y_SG_refuseUnsawn w_SG_refuseUnsawn ({ frames := 0, cells := 0, slots := 0, locals := 0 }) D vwCl (tyL cI cJ cZ) [(hs, .inr (0, [.int (nI kf), .ref h0, .ref hz, .ref bo, .ref hb_, .ref hp, .int (pI sw)]))] [.ref hs] := by
  refine Met.ofW (cc := b_SG_refuseUnsawn) (maxL := 1) (ret := none) (by decide) rfl ?_
  intro p e s m args below meth c s₁ B hml hv
  obtain ⟨rfl, hP, hK, hZ⟩ := hv
  have hx := B.exec
  have hb := B.bytes
  have hr := B.returns
  have hts := atoms_spec (ws := w_SG_refuseUnsawn) B.pre
  have hown : s.vm.findClass R_SG = some m.cls := findClass_of_methodNamed B.named
  have hlocks := B.notSynchronized
  have hP : va_P D vwCl [(hs, .inr (0, [.int (nI kf), .ref h0, .ref hz, .ref bo, .ref hb_, .ref hp, .int (pI sw)]))] s.heap := hP
  have hl := lv_entry ([.ref hs]) (n := 1) (Nat.le_of_ble_eq_true rfl)
  rw [lg_entry_eq]
  generalize (lg_sl ([.ref hs]) ++ List.replicate (1 - (lg_sl ([.ref hs])).length) Slot.unset).toArray = ls at hl ⊢
  have hl : lv_has ls 1 [(0, .ref hs)] := hl
  refine lv_aload_n hx hb d_SG_refuseUnsawn_0 rfl (lv_at hl 0 rfl) ?_
  refine va_get (D := D) (ci := 0) (v := .int (pI sw)) (C := R_SG) (T := T_SG) (N := 7) hx hb hts (fun w h => List.mem_cons_of_mem _ (iw_SG w h)) hown hK hP 0 rfl rfl 6 (by decide) (hts _ (List.mem_cons_of_mem _ k_184)) (fun _ h9 => h9) rfl d_SG_refuseUnsawn_1 ?_
  refine kb_neP (tgt := 17) hx hb d_SG_refuseUnsawn_4 (by decide) (fun c => ?_) (fun c => ?_)
  · exact krdv hx hb hr hlocks d_SG_refuseUnsawn_17
  · exact absurd hsw c
set_option maxHeartbeats 4000000 in
set_option maxRecDepth 100000 in
theorem c_refuseNoBoard (l : Launch) (D : va_G) (cI cJ cZ : ClassId) (hs : Nat) (kf : Nat) (h0 : Nat) (hz : Nat) (bo : Nat) (hb_ : Nat) (hp : Nat) (sw : Prop) (p1 : Nat) (p2 : Nat) (p3 : Nat) (pt : Nat) (psl : Nat) (pc_ : Nat) (pv : Int) (pce : Nat) (k : Nat) (hk : k < pc_) (hc : pc_ ≤ 400) : kReadV l y_SG_refuseNoBoard w_SG_refuseNoBoard ({ frames := 1, cells := 0, slots := 0, locals := 22 }) D vwCl (tyL cI cJ cZ) [(hs, .inr (0, [.int (nI kf), .ref h0, .ref hz, .ref bo, .ref hb_, .ref hp, .int (pI sw)])), (hp, .inr (4, [.ref p1, .ref p2, .ref p3, .int (nI pt), .int (nI psl), .int (nI pc_), .int (iI pv), .int (nI pce)]))] [.ref hs, .int (nI k)] := by
  refine Met.ofW (cc := b_SG_refuseNoBoard) (maxL := 2) (ret := none) (by decide) rfl ?_
  intro p e s m args below meth c s₁ B hml hv
  obtain ⟨rfl, hP, hK, hZ⟩ := hv
  have hx := B.exec
  have hb := B.bytes
  have hr := B.returns
  have hts := atoms_spec (ws := w_SG_refuseNoBoard) B.pre
  have hown : s.vm.findClass R_SG = some m.cls := findClass_of_methodNamed B.named
  have hlocks := B.notSynchronized
  have hP : va_P D vwCl [(hs, .inr (0, [.int (nI kf), .ref h0, .ref hz, .ref bo, .ref hb_, .ref hp, .int (pI sw)])), (hp, .inr (4, [.ref p1, .ref p2, .ref p3, .int (nI pt), .int (nI psl), .int (nI pc_), .int (iI pv), .int (nI pce)]))] s.heap := hP
  have hl := lv_entry ([.ref hs, .int (nI k)]) (n := 2) (Nat.le_of_ble_eq_true rfl)
  rw [lg_entry_eq]
  generalize (lg_sl ([.ref hs, .int (nI k)]) ++ List.replicate (2 - (lg_sl ([.ref hs, .int (nI k)])).length) Slot.unset).toArray = ls at hl ⊢
  have hl : lv_has ls 2 [(0, .ref hs), (1, .int (nI k))] := hl
  refine lv_iload_n hx hb d_SG_refuseNoBoard_0 rfl (lv_at hl 1 rfl) ?_
  refine lv_iconst (v := nI 0) hx hb d_SG_refuseNoBoard_1 (by decide +kernel) ?_
  refine lv_aload_n hx hb d_SG_refuseNoBoard_2 rfl (lv_at hl 0 rfl) ?_
  refine va_get (D := D) (ci := 0) (v := .ref hp) (C := R_SG) (T := T_SG) (N := 7) hx hb hts (fun w h => List.mem_cons_of_mem _ (iw_SG w h)) hown hK hP 0 rfl rfl 5 (by decide) (hts _ (List.mem_cons_of_mem _ k_183)) (fun _ h9 => h9) rfl d_SG_refuseNoBoard_3 ?_
  refine va_get (D := D) (ci := 4) (v := .int (nI pc_)) (C := R_Pa) (T := T_Pa) (N := 8) hx hb hts (fun w h => List.mem_cons_of_mem _ (iw_Pa w h)) hown hK hP 1 rfl rfl 5 (by decide) (hts _ (List.mem_cons_of_mem _ k_154)) (fun _ h9 => h9) rfl d_SG_refuseNoBoard_6 ?_
  refine lv_iconst (v := nI 1) hx hb d_SG_refuseNoBoard_9 (by decide +kernel) ?_
  refine lv_isub hx hb d_SG_refuseNoBoard_10 ?_
  refine ka_i (y := iI (((pc_ : Nat) : Int) - ((1 : Nat) : Int))) (by rw [iI_of pc_, iI_of 1]; exact iI_sub _ _) ?_
  refine kcallR (r := .int (pI (((0 : Nat) : Int) ≤ ((k : Nat) : Int) ∧ ((k : Nat) : Int) ≤ (((pc_ : Nat) : Int) - ((1 : Nat) : Int))))) (va_runS (As := [.int (nI k), .int (nI 0), .int (iI (((pc_ : Nat) : Int) - ((1 : Nat) : Int)))]) (rest := []) ⟨hx, hb, hml, hown, hts⟩ (c_isWithin l D cI cJ cZ (nI k) (nI 0) (iI (((pc_ : Nat) : Int) - ((1 : Nat) : Int))) ((k : Nat) : Int) ((0 : Nat) : Int) (((pc_ : Nat) : Int) - ((1 : Nat) : Int)) (nI_t (by omega)) (nI_t (by omega)) (iI_t (by omega) (by omega))) ⟨callB_of 3 hts (gd kc_SG_isWithin) rfl rfl rfl (hts _ (List.mem_cons_of_mem _ k_1)) (hts _ (List.mem_cons_of_mem _ k_313)) (by decide +kernel) ⟨Nat.le_of_ble_eq_true rfl, Nat.le_of_ble_eq_true rfl⟩, hts _ (List.mem_cons_of_mem _ k_280)⟩ ⟨kR_blind, kR_at hP hK hZ [] rfl⟩ rfl rfl hl.1 rfl (lv_room (Nat.le_of_ble_eq_true rfl)) d_SG_refuseNoBoard_11 ⟨Nat.zero_le _, Nat.zero_le _⟩) ?_
  refine kb_neP (tgt := 27) hx hb d_SG_refuseNoBoard_14 (by decide) (fun c_14 => ?_) (fun c_14 => ?_)
  · exact krdv hx hb hr hlocks d_SG_refuseNoBoard_27
  · exfalso; omega
set_option maxHeartbeats 4000000 in
set_option maxRecDepth 100000 in
theorem c_all (l : Launch) (D : va_G) (cI cJ cZ : ClassId) (hs : Nat) (kf : Nat) (h0 : Nat) (hz : Nat) (bo : Nat) (hb_ : Nat) (hp : Nat) (sw : Prop) (p1 : Nat) (p2 : Nat) (p3 : Nat) (pt : Nat) (psl : Nat) (pc_ : Nat) (pv : Int) (pce : Nat) (q : Nat) (hsw : sw) (hq : q ≤ 3) : kRead l y_SG_all w_SG_all ({ frames := 1, cells := 0, slots := 0, locals := 20 }) D vwCl (tyL cI cJ cZ) [(hs, .inr (0, [.int (nI kf), .ref h0, .ref hz, .ref bo, .ref hb_, .ref hp, .int (pI sw)])), (hp, .inr (4, [.ref p1, .ref p2, .ref p3, .int (nI pt), .int (nI psl), .int (nI pc_), .int (iI pv), .int (nI pce)]))] [.ref hs, .int (nI q)] (.int (iI (if q = 0 then pv else if q = 1 then (pt : Int) else if q = 2 then (psl : Int) else (pc_ : Int)))) := by
  refine Met.ofW (cc := b_SG_all) (maxL := 2) (ret := (some (.int))) (by decide) rfl ?_
  intro p e s m args below meth c s₁ B hml hv
  obtain ⟨rfl, hP, hK, hZ⟩ := hv
  have hx := B.exec
  have hb := B.bytes
  have hr := B.returns
  have hts := atoms_spec (ws := w_SG_all) B.pre
  have hown : s.vm.findClass R_SG = some m.cls := findClass_of_methodNamed B.named
  have hlocks := B.notSynchronized
  have hP : va_P D vwCl [(hs, .inr (0, [.int (nI kf), .ref h0, .ref hz, .ref bo, .ref hb_, .ref hp, .int (pI sw)])), (hp, .inr (4, [.ref p1, .ref p2, .ref p3, .int (nI pt), .int (nI psl), .int (nI pc_), .int (iI pv), .int (nI pce)]))] s.heap := hP
  have hl := lv_entry ([.ref hs, .int (nI q)]) (n := 2) (Nat.le_of_ble_eq_true rfl)
  rw [lg_entry_eq]
  generalize (lg_sl ([.ref hs, .int (nI q)]) ++ List.replicate (2 - (lg_sl ([.ref hs, .int (nI q)])).length) Slot.unset).toArray = ls at hl ⊢
  have hl : lv_has ls 2 [(0, .ref hs), (1, .int (nI q))] := hl
  refine lv_aload_n hx hb d_SG_all_0 rfl (lv_at hl 0 rfl) ?_
  refine kcallRV (va_runV (As := []) (rest := []) ⟨hx, hb, hml, hown, hts⟩ (c_refuseUnsawn l D cI cJ cZ hs kf h0 hz bo hb_ hp sw hsw) ⟨callB_of 0 hts (gd kc_SG_refuseUnsawn) rfl rfl rfl (hts _ (List.mem_cons_of_mem _ k_1)) (hts _ (List.mem_cons_of_mem _ k_467)) (by decide +kernel) ⟨Nat.le_of_ble_eq_true rfl, Nat.le_of_ble_eq_true rfl⟩, hts _ (List.mem_cons_of_mem _ k_469), hts _ (List.mem_cons_of_mem _ ks_9)⟩ ⟨kR_blind, va_recv hK hP (ci := 0) (q0 := 0) rfl rfl, kR_at hP hK hZ [0] rfl⟩ rfl rfl hl.1 rfl (lv_room (Nat.le_of_ble_eq_true rfl)) d_SG_all_1 ⟨Nat.zero_le _, Nat.zero_le _⟩) ?_
  refine lv_iload_n hx hb d_SG_all_4 rfl (lv_at hl 1 rfl) ?_
  rcases (show q = 0 ∨ q = 1 ∨ q = 2 ∨ q = 3 by omega) with rfl | rfl | rfl | rfl
  · refine lv_tableIn (off := 31) (tgt := 36) hx hb d_SG_all_5 (by decide +kernel) (by decide +kernel) (by decide +kernel) (by decide) ?_
    refine lv_aload_n hx hb d_SG_all_36 rfl (lv_at hl 0 rfl) ?_
    refine va_get (D := D) (ci := 0) (v := .ref hp) (C := R_SG) (T := T_SG) (N := 7) hx hb hts (fun w h => List.mem_cons_of_mem _ (iw_SG w h)) hown hK hP 0 rfl rfl 5 (by decide) (hts _ (List.mem_cons_of_mem _ k_183)) (fun _ h9 => h9) rfl d_SG_all_37 ?_
    refine va_get (D := D) (ci := 4) (v := .int (iI pv)) (C := R_Pa) (T := T_Pa) (N := 8) hx hb hts (fun w h => List.mem_cons_of_mem _ (iw_Pa w h)) hown hK hP 1 rfl rfl 6 (by decide) (hts _ (List.mem_cons_of_mem _ k_156)) (fun _ h9 => h9) rfl d_SG_all_40 ?_
    refine ka_i (y := iI (if 0 = 0 then pv else if 0 = 1 then (pt : Int) else if 0 = 2 then (psl : Int) else (pc_ : Int))) (rfl) ?_
    exact krdi hx hb hr hlocks d_SG_all_43
  · refine lv_tableIn (off := 39) (tgt := 44) hx hb d_SG_all_5 (by decide +kernel) (by decide +kernel) (by decide +kernel) (by decide) ?_
    refine lv_aload_n hx hb d_SG_all_44 rfl (lv_at hl 0 rfl) ?_
    refine va_get (D := D) (ci := 0) (v := .ref hp) (C := R_SG) (T := T_SG) (N := 7) hx hb hts (fun w h => List.mem_cons_of_mem _ (iw_SG w h)) hown hK hP 0 rfl rfl 5 (by decide) (hts _ (List.mem_cons_of_mem _ k_183)) (fun _ h9 => h9) rfl d_SG_all_45 ?_
    refine va_get (D := D) (ci := 4) (v := .int (nI pt)) (C := R_Pa) (T := T_Pa) (N := 8) hx hb hts (fun w h => List.mem_cons_of_mem _ (iw_Pa w h)) hown hK hP 1 rfl rfl 3 (by decide) (hts _ (List.mem_cons_of_mem _ k_149)) (fun _ h9 => h9) rfl d_SG_all_48 ?_
    refine ka_i (y := iI (if 1 = 0 then pv else if 1 = 1 then (pt : Int) else if 1 = 2 then (psl : Int) else (pc_ : Int))) (iI_of _) ?_
    exact krdi hx hb hr hlocks d_SG_all_51
  · refine lv_tableIn (off := 47) (tgt := 52) hx hb d_SG_all_5 (by decide +kernel) (by decide +kernel) (by decide +kernel) (by decide) ?_
    refine lv_aload_n hx hb d_SG_all_52 rfl (lv_at hl 0 rfl) ?_
    refine va_get (D := D) (ci := 0) (v := .ref hp) (C := R_SG) (T := T_SG) (N := 7) hx hb hts (fun w h => List.mem_cons_of_mem _ (iw_SG w h)) hown hK hP 0 rfl rfl 5 (by decide) (hts _ (List.mem_cons_of_mem _ k_183)) (fun _ h9 => h9) rfl d_SG_all_53 ?_
    refine va_get (D := D) (ci := 4) (v := .int (nI psl)) (C := R_Pa) (T := T_Pa) (N := 8) hx hb hts (fun w h => List.mem_cons_of_mem _ (iw_Pa w h)) hown hK hP 1 rfl rfl 4 (by decide) (hts _ (List.mem_cons_of_mem _ k_151)) (fun _ h9 => h9) rfl d_SG_all_56 ?_
    refine ka_i (y := iI (if 2 = 0 then pv else if 2 = 1 then (pt : Int) else if 2 = 2 then (psl : Int) else (pc_ : Int))) (iI_of _) ?_
    exact krdi hx hb hr hlocks d_SG_all_59
  · refine lv_tableIn (off := 55) (tgt := 60) hx hb d_SG_all_5 (by decide +kernel) (by decide +kernel) (by decide +kernel) (by decide) ?_
    refine lv_aload_n hx hb d_SG_all_60 rfl (lv_at hl 0 rfl) ?_
    refine va_get (D := D) (ci := 0) (v := .ref hp) (C := R_SG) (T := T_SG) (N := 7) hx hb hts (fun w h => List.mem_cons_of_mem _ (iw_SG w h)) hown hK hP 0 rfl rfl 5 (by decide) (hts _ (List.mem_cons_of_mem _ k_183)) (fun _ h9 => h9) rfl d_SG_all_61 ?_
    refine va_get (D := D) (ci := 4) (v := .int (nI pc_)) (C := R_Pa) (T := T_Pa) (N := 8) hx hb hts (fun w h => List.mem_cons_of_mem _ (iw_Pa w h)) hown hK hP 1 rfl rfl 5 (by decide) (hts _ (List.mem_cons_of_mem _ k_154)) (fun _ h9 => h9) rfl d_SG_all_64 ?_
    refine ka_i (y := iI (if 3 = 0 then pv else if 3 = 1 then (pt : Int) else if 3 = 2 then (psl : Int) else (pc_ : Int))) (iI_of _) ?_
    exact krdi hx hb hr hlocks d_SG_all_67
set_option maxHeartbeats 4000000 in
set_option maxRecDepth 100000 in
theorem c_board (l : Launch) (D : va_G) (cI cJ cZ : ClassId) (hs : Nat) (kf : Nat) (h0 : Nat) (hz : Nat) (bo : Nat) (hb_ : Nat) (hp : Nat) (sw : Prop) (p1 : Nat) (p2 : Nat) (p3 : Nat) (pt : Nat) (psl : Nat) (pc_ : Nat) (pv : Int) (pce : Nat) (pn : Nat) (g1 : Nat → Nat) (g2 : Nat → Nat) (g3 : Nat → Nat) (t1 : Nat) (t2 : Nat) (t3 : Nat) (t4 : Nat) (cn : Nat) (th : Nat → Nat) (wi : Nat → Nat) (wo : Nat → Nat) (side : Nat) (a1 : Nat) (a2 : Nat) (a3 : Nat) (a4 : Nat) (sm : Prop) (F3 : Nat → Nat) (F4 : Nat → Nat) (fb : Nat → Nat → Nat) (fl : Nat → Nat → Nat) (k : Nat) (q : Nat) (hsw : sw) (hk : k < pc_) (hpc : pc_ ≤ pn) (hpn : pn ≤ 400) (hq : q ≤ 6) (i8 : g1 k < 8) (hx_ : g2 k ≤ 20) (hy_ : g3 k ≤ 20) (hpt : pt ≤ 1) (s2 : side ≤ 20) (ht : ∀ k, k < 8 → th k ≤ 20) (hw : ∀ k, k < 8 → wi k ≤ 20) (ho : ∀ k, k < 8 → wo k ≤ 100000) (m3 : ∀ X Y, X ≤ side → Y ≤ side → F3 (Y * (side + 1) + X) = psm fb X Y) (m4 : ∀ X Y, X ≤ side → Y ≤ side → F4 (Y * (side + 1) + X) = psm fl X Y) (hfb : ∀ i j, i < side → j < side → fb i j ≤ 10000) (hfl : ∀ i j, i < side → j < side → fl i j ≤ 10000) : kRead l y_SG_board w_SG_board ({ frames := 2, cells := 0, slots := 0, locals := 52 }) D vwCl (tyL cI cJ cZ) [(hs, .inr (0, [.int (nI kf), .ref h0, .ref hz, .ref bo, .ref hb_, .ref hp, .int (pI sw)])), (hp, .inr (4, [.ref p1, .ref p2, .ref p3, .int (nI pt), .int (nI psl), .int (nI pc_), .int (iI pv), .int (nI pce)])), (p1, .inl (cI, pn, .inl (fun j => nI (g1 j)))), (p2, .inl (cI, pn, .inl (fun j => nI (g2 j)))), (p3, .inl (cI, pn, .inl (fun j => nI (g3 j)))), (hz, .inr (5, [.ref t1, .ref t2, .ref t3, .ref t4, .int (nI cn)])), (t1, .inl (cI, 8, .inl (fun j => nI (th j)))), (t2, .inl (cI, 8, .inl (fun j => nI (wi j)))), (t3, .inl (cI, 8, .inl (fun j => nI (wo j)))), (bo, .inr (2, [.ref hz, .ref h0])), (h0, .inr (3, [.int (nI side), .ref a1, .ref a2, .ref a3, .ref a4, .int (pI sm)])), (a3, .inl (cI, ((side + 1) * (side + 1)), .inl (fun j => nI (F3 j)))), (a4, .inl (cI, ((side + 1) * (side + 1)), .inl (fun j => nI (F4 j))))] [.ref hs, .int (nI k), .int (nI q)] (.int (iI (if q = 0 then (g1 k : Int) else if q = 1 then (g2 k : Int) else if q = 2 then (g3 k : Int) else if q = 3 then (((if ((pt : Nat) : Int) = 0 then wi (g1 k) else th (g1 k)) : Nat) : Int) else if q = 4 then (((if ((pt : Nat) : Int) = 0 then th (g1 k) else wi (g1 k)) : Nat) : Int) else if q = 5 then max 0 ((wo (g1 k) : Int) - sumZ fl side ((g2 k : Nat) : Int) ((g3 k : Nat) : Int) (if ((pt : Nat) : Int) = 0 then wi (g1 k) else th (g1 k)) (if ((pt : Nat) : Int) = 0 then th (g1 k) else wi (g1 k))) else sumZ fb side ((g2 k : Nat) : Int) ((g3 k : Nat) : Int) (if ((pt : Nat) : Int) = 0 then wi (g1 k) else th (g1 k)) (if ((pt : Nat) : Int) = 0 then th (g1 k) else wi (g1 k))))) := by
  refine Met.ofW (cc := b_SG_board) (maxL := 6) (ret := (some (.int))) (by decide) rfl ?_
  intro p e s m args below meth c s₁ B hml hv
  obtain ⟨rfl, hP, hK, hZ⟩ := hv
  have hx := B.exec
  have hb := B.bytes
  have hr := B.returns
  have hts := atoms_spec (ws := w_SG_board) B.pre
  have hown : s.vm.findClass R_SG = some m.cls := findClass_of_methodNamed B.named
  have hlocks := B.notSynchronized
  have hP : va_P D vwCl [(hs, .inr (0, [.int (nI kf), .ref h0, .ref hz, .ref bo, .ref hb_, .ref hp, .int (pI sw)])), (hp, .inr (4, [.ref p1, .ref p2, .ref p3, .int (nI pt), .int (nI psl), .int (nI pc_), .int (iI pv), .int (nI pce)])), (p1, .inl (cI, pn, .inl (fun j => nI (g1 j)))), (p2, .inl (cI, pn, .inl (fun j => nI (g2 j)))), (p3, .inl (cI, pn, .inl (fun j => nI (g3 j)))), (hz, .inr (5, [.ref t1, .ref t2, .ref t3, .ref t4, .int (nI cn)])), (t1, .inl (cI, 8, .inl (fun j => nI (th j)))), (t2, .inl (cI, 8, .inl (fun j => nI (wi j)))), (t3, .inl (cI, 8, .inl (fun j => nI (wo j)))), (bo, .inr (2, [.ref hz, .ref h0])), (h0, .inr (3, [.int (nI side), .ref a1, .ref a2, .ref a3, .ref a4, .int (pI sm)])), (a3, .inl (cI, ((side + 1) * (side + 1)), .inl (fun j => nI (F3 j)))), (a4, .inl (cI, ((side + 1) * (side + 1)), .inl (fun j => nI (F4 j))))] s.heap := hP
  have hl := lv_entry ([.ref hs, .int (nI k), .int (nI q)]) (n := 6) (Nat.le_of_ble_eq_true rfl)
  rw [lg_entry_eq]
  generalize (lg_sl ([.ref hs, .int (nI k), .int (nI q)]) ++ List.replicate (6 - (lg_sl ([.ref hs, .int (nI k), .int (nI q)])).length) Slot.unset).toArray = ls at hl ⊢
  have hl : lv_has ls 6 [(0, .ref hs), (1, .int (nI k)), (2, .int (nI q))] := hl
  refine lv_aload_n hx hb d_SG_board_0 rfl (lv_at hl 0 rfl) ?_
  refine kcallRV (va_runV (As := []) (rest := []) ⟨hx, hb, hml, hown, hts⟩ (c_refuseUnsawn l D cI cJ cZ hs kf h0 hz bo hb_ hp sw hsw) ⟨callB_of 0 hts (gd kc_SG_refuseUnsawn) rfl rfl rfl (hts _ (List.mem_cons_of_mem _ k_1)) (hts _ (List.mem_cons_of_mem _ k_467)) (by decide +kernel) ⟨Nat.le_of_ble_eq_true rfl, Nat.le_of_ble_eq_true rfl⟩, hts _ (List.mem_cons_of_mem _ k_469), hts _ (List.mem_cons_of_mem _ ks_9)⟩ ⟨kR_blind, va_recv hK hP (ci := 0) (q0 := 0) rfl rfl, kR_at hP hK hZ [0] rfl⟩ rfl rfl hl.1 rfl (lv_room (Nat.le_of_ble_eq_true rfl)) d_SG_board_1 ⟨Nat.zero_le _, Nat.zero_le _⟩) ?_
  refine lv_aload_n hx hb d_SG_board_4 rfl (lv_at hl 0 rfl) ?_
  refine lv_iload_n hx hb d_SG_board_5 rfl (lv_at hl 1 rfl) ?_
  refine kcallRV (va_runV (As := [.int (nI k)]) (rest := []) ⟨hx, hb, hml, hown, hts⟩ (c_refuseNoBoard l D cI cJ cZ hs kf h0 hz bo hb_ hp sw p1 p2 p3 pt psl pc_ pv pce k (by omega) (by omega)) ⟨callB_of 1 hts (gd kc_SG_refuseNoBoard) rfl rfl rfl (hts _ (List.mem_cons_of_mem _ k_1)) (hts _ (List.mem_cons_of_mem _ k_472)) (by decide +kernel) ⟨Nat.le_of_ble_eq_true rfl, Nat.le_of_ble_eq_true rfl⟩, hts _ (List.mem_cons_of_mem _ k_474), hts _ (List.mem_cons_of_mem _ ks_10)⟩ ⟨kR_blind, va_recv hK hP (ci := 0) (q0 := 0) rfl rfl, kR_at hP hK hZ [0, 1] rfl⟩ rfl rfl hl.1 rfl (lv_room (Nat.le_of_ble_eq_true rfl)) d_SG_board_6 ⟨Nat.zero_le _, Nat.zero_le _⟩) ?_
  refine lv_aload_n hx hb d_SG_board_9 rfl (lv_at hl 0 rfl) ?_
  refine va_get (D := D) (ci := 0) (v := .ref hp) (C := R_SG) (T := T_SG) (N := 7) hx hb hts (fun w h => List.mem_cons_of_mem _ (iw_SG w h)) hown hK hP 0 rfl rfl 5 (by decide) (hts _ (List.mem_cons_of_mem _ k_183)) (fun _ h9 => h9) rfl d_SG_board_10 ?_
  refine va_get (D := D) (ci := 4) (v := .ref p1) (C := R_Pa) (T := T_Pa) (N := 8) hx hb hts (fun w h => List.mem_cons_of_mem _ (iw_Pa w h)) hown hK hP 1 rfl rfl 0 (by decide) (hts _ (List.mem_cons_of_mem _ k_143)) (fun _ h9 => h9) rfl d_SG_board_13 ?_
  refine lv_iload_n hx hb d_SG_board_16 rfl (lv_at hl 1 rfl) ?_
  refine ka_iald (k := k) (n := pn) (f := fun j => nI (g1 j)) (nI_t (by omega)) (by omega) hx hb hK hP 2 0 rfl rfl d_SG_board_17 ?_
  refine lv_istore_n (lv' := [(3, .int (nI (g1 k))), (0, .ref hs), (1, .int (nI k)), (2, .int (nI q))]) hx hb d_SG_board_18 rfl hl (by decide) rfl (fun ls hl => ?_)
  refine lv_aload_n hx hb d_SG_board_19 rfl (lv_at hl 1 rfl) ?_
  refine va_get (D := D) (ci := 0) (v := .ref hp) (C := R_SG) (T := T_SG) (N := 7) hx hb hts (fun w h => List.mem_cons_of_mem _ (iw_SG w h)) hown hK hP 0 rfl rfl 5 (by decide) (hts _ (List.mem_cons_of_mem _ k_183)) (fun _ h9 => h9) rfl d_SG_board_20 ?_
  refine va_get (D := D) (ci := 4) (v := .ref p2) (C := R_Pa) (T := T_Pa) (N := 8) hx hb hts (fun w h => List.mem_cons_of_mem _ (iw_Pa w h)) hown hK hP 1 rfl rfl 1 (by decide) (hts _ (List.mem_cons_of_mem _ k_145)) (fun _ h9 => h9) rfl d_SG_board_23 ?_
  refine lv_iload_n hx hb d_SG_board_26 rfl (lv_at hl 2 rfl) ?_
  refine ka_iald (k := k) (n := pn) (f := fun j => nI (g2 j)) (nI_t (by omega)) (by omega) hx hb hK hP 3 0 rfl rfl d_SG_board_27 ?_
  refine lv_istore (lv' := [(4, .int (nI (g2 k))), (3, .int (nI (g1 k))), (0, .ref hs), (1, .int (nI k)), (2, .int (nI q))]) hx hb d_SG_board_28 hl (by decide) rfl (fun ls hl => ?_)
  refine lv_aload_n hx hb d_SG_board_30 rfl (lv_at hl 2 rfl) ?_
  refine va_get (D := D) (ci := 0) (v := .ref hp) (C := R_SG) (T := T_SG) (N := 7) hx hb hts (fun w h => List.mem_cons_of_mem _ (iw_SG w h)) hown hK hP 0 rfl rfl 5 (by decide) (hts _ (List.mem_cons_of_mem _ k_183)) (fun _ h9 => h9) rfl d_SG_board_31 ?_
  refine va_get (D := D) (ci := 4) (v := .ref p3) (C := R_Pa) (T := T_Pa) (N := 8) hx hb hts (fun w h => List.mem_cons_of_mem _ (iw_Pa w h)) hown hK hP 1 rfl rfl 2 (by decide) (hts _ (List.mem_cons_of_mem _ k_147)) (fun _ h9 => h9) rfl d_SG_board_34 ?_
  refine lv_iload_n hx hb d_SG_board_37 rfl (lv_at hl 3 rfl) ?_
  refine ka_iald (k := k) (n := pn) (f := fun j => nI (g3 j)) (nI_t (by omega)) (by omega) hx hb hK hP 4 0 rfl rfl d_SG_board_38 ?_
  refine lv_istore (lv' := [(5, .int (nI (g3 k))), (4, .int (nI (g2 k))), (3, .int (nI (g1 k))), (0, .ref hs), (1, .int (nI k)), (2, .int (nI q))]) hx hb d_SG_board_39 hl (by decide) rfl (fun ls hl => ?_)
  refine lv_iload_n hx hb d_SG_board_41 rfl (lv_at hl 5 rfl) ?_
  rcases (show q = 0 ∨ q = 1 ∨ q = 2 ∨ q = 3 ∨ q = 4 ∨ q = 5 ∨ q = 6 by omega) with rfl | rfl | rfl | rfl | rfl | rfl | rfl
  · refine lv_tableIn (off := 42) (tgt := 84) hx hb d_SG_board_42 (by decide +kernel) (by decide +kernel) (by decide +kernel) (by decide) ?_
    refine lv_iload_n hx hb d_SG_board_84 rfl (lv_at hl 2 rfl) ?_
    refine ka_i (y := iI (if 0 = 0 then (g1 k : Int) else if 0 = 1 then (g2 k : Int) else if 0 = 2 then (g3 k : Int) else if 0 = 3 then (((if ((pt : Nat) : Int) = 0 then wi (g1 k) else th (g1 k)) : Nat) : Int) else if 0 = 4 then (((if ((pt : Nat) : Int) = 0 then th (g1 k) else wi (g1 k)) : Nat) : Int) else if 0 = 5 then max 0 ((wo (g1 k) : Int) - sumZ fl side ((g2 k : Nat) : Int) ((g3 k : Nat) : Int) (if ((pt : Nat) : Int) = 0 then wi (g1 k) else th (g1 k)) (if ((pt : Nat) : Int) = 0 then th (g1 k) else wi (g1 k))) else sumZ fb side ((g2 k : Nat) : Int) ((g3 k : Nat) : Int) (if ((pt : Nat) : Int) = 0 then wi (g1 k) else th (g1 k)) (if ((pt : Nat) : Int) = 0 then th (g1 k) else wi (g1 k)))) (iI_of _) ?_
    exact krdi hx hb hr hlocks d_SG_board_85
  · refine lv_tableIn (off := 44) (tgt := 86) hx hb d_SG_board_42 (by decide +kernel) (by decide +kernel) (by decide +kernel) (by decide) ?_
    refine lv_iload hx hb d_SG_board_86 (lv_at hl 1 rfl) ?_
    refine ka_i (y := iI (if 1 = 0 then (g1 k : Int) else if 1 = 1 then (g2 k : Int) else if 1 = 2 then (g3 k : Int) else if 1 = 3 then (((if ((pt : Nat) : Int) = 0 then wi (g1 k) else th (g1 k)) : Nat) : Int) else if 1 = 4 then (((if ((pt : Nat) : Int) = 0 then th (g1 k) else wi (g1 k)) : Nat) : Int) else if 1 = 5 then max 0 ((wo (g1 k) : Int) - sumZ fl side ((g2 k : Nat) : Int) ((g3 k : Nat) : Int) (if ((pt : Nat) : Int) = 0 then wi (g1 k) else th (g1 k)) (if ((pt : Nat) : Int) = 0 then th (g1 k) else wi (g1 k))) else sumZ fb side ((g2 k : Nat) : Int) ((g3 k : Nat) : Int) (if ((pt : Nat) : Int) = 0 then wi (g1 k) else th (g1 k)) (if ((pt : Nat) : Int) = 0 then th (g1 k) else wi (g1 k)))) (iI_of _) ?_
    exact krdi hx hb hr hlocks d_SG_board_88
  · refine lv_tableIn (off := 47) (tgt := 89) hx hb d_SG_board_42 (by decide +kernel) (by decide +kernel) (by decide +kernel) (by decide) ?_
    refine lv_iload hx hb d_SG_board_89 (lv_at hl 0 rfl) ?_
    refine ka_i (y := iI (if 2 = 0 then (g1 k : Int) else if 2 = 1 then (g2 k : Int) else if 2 = 2 then (g3 k : Int) else if 2 = 3 then (((if ((pt : Nat) : Int) = 0 then wi (g1 k) else th (g1 k)) : Nat) : Int) else if 2 = 4 then (((if ((pt : Nat) : Int) = 0 then th (g1 k) else wi (g1 k)) : Nat) : Int) else if 2 = 5 then max 0 ((wo (g1 k) : Int) - sumZ fl side ((g2 k : Nat) : Int) ((g3 k : Nat) : Int) (if ((pt : Nat) : Int) = 0 then wi (g1 k) else th (g1 k)) (if ((pt : Nat) : Int) = 0 then th (g1 k) else wi (g1 k))) else sumZ fb side ((g2 k : Nat) : Int) ((g3 k : Nat) : Int) (if ((pt : Nat) : Int) = 0 then wi (g1 k) else th (g1 k)) (if ((pt : Nat) : Int) = 0 then th (g1 k) else wi (g1 k)))) (iI_of _) ?_
    exact krdi hx hb hr hlocks d_SG_board_91
  · refine lv_tableIn (off := 50) (tgt := 92) hx hb d_SG_board_42 (by decide +kernel) (by decide +kernel) (by decide +kernel) (by decide) ?_
    refine lv_aload_n hx hb d_SG_board_92 rfl (lv_at hl 3 rfl) ?_
    refine va_get (D := D) (ci := 0) (v := .ref hz) (C := R_SG) (T := T_SG) (N := 7) hx hb hts (fun w h => List.mem_cons_of_mem _ (iw_SG w h)) hown hK hP 0 rfl rfl 2 (by decide) (hts _ (List.mem_cons_of_mem _ k_180)) (fun _ h9 => h9) rfl d_SG_board_93 ?_
    refine lv_iload_n hx hb d_SG_board_96 rfl (lv_at hl 2 rfl) ?_
    refine lv_aload_n hx hb d_SG_board_97 rfl (lv_at hl 3 rfl) ?_
    refine va_get (D := D) (ci := 0) (v := .ref hp) (C := R_SG) (T := T_SG) (N := 7) hx hb hts (fun w h => List.mem_cons_of_mem _ (iw_SG w h)) hown hK hP 0 rfl rfl 5 (by decide) (hts _ (List.mem_cons_of_mem _ k_183)) (fun _ h9 => h9) rfl d_SG_board_98 ?_
    refine va_get (D := D) (ci := 4) (v := .int (nI pt)) (C := R_Pa) (T := T_Pa) (N := 8) hx hb hts (fun w h => List.mem_cons_of_mem _ (iw_Pa w h)) hown hK hP 1 rfl rfl 3 (by decide) (hts _ (List.mem_cons_of_mem _ k_149)) (fun _ h9 => h9) rfl d_SG_board_101 ?_
    refine kcallR (r := .int (nI (if ((pt : Nat) : Int) = 0 then wi (g1 k) else th (g1 k)))) (va_runV (As := [.int (nI (g1 k)), .int (nI pt)]) (rest := []) ⟨hx, hb, hml, hown, hts⟩ (c_alongX l D cI cJ cZ hz t1 t2 t3 t4 cn th wi (g1 k) (nI pt) ((pt : Nat) : Int) (by omega) (nI_t (by omega))) ⟨callB_of 2 hts (gd kc_Si_alongX) rfl rfl rfl (hts _ (List.mem_cons_of_mem _ k_4)) (hts _ (List.mem_cons_of_mem _ k_477)) (by decide +kernel) ⟨Nat.le_of_ble_eq_true rfl, Nat.le_of_ble_eq_true rfl⟩, hts _ (List.mem_cons_of_mem _ k_245), hts _ (List.mem_cons_of_mem _ k_246)⟩ ⟨kR_blind, va_recv hK hP (ci := 5) (q0 := 5) rfl rfl, kR_at hP hK hZ [5, 6, 7] rfl⟩ rfl rfl hl.1 rfl (lv_room (Nat.le_of_ble_eq_true rfl)) d_SG_board_104 ⟨Nat.zero_le _, Nat.zero_le _⟩) ?_
    refine ka_i (y := iI (if 3 = 0 then (g1 k : Int) else if 3 = 1 then (g2 k : Int) else if 3 = 2 then (g3 k : Int) else if 3 = 3 then (((if ((pt : Nat) : Int) = 0 then wi (g1 k) else th (g1 k)) : Nat) : Int) else if 3 = 4 then (((if ((pt : Nat) : Int) = 0 then th (g1 k) else wi (g1 k)) : Nat) : Int) else if 3 = 5 then max 0 ((wo (g1 k) : Int) - sumZ fl side ((g2 k : Nat) : Int) ((g3 k : Nat) : Int) (if ((pt : Nat) : Int) = 0 then wi (g1 k) else th (g1 k)) (if ((pt : Nat) : Int) = 0 then th (g1 k) else wi (g1 k))) else sumZ fb side ((g2 k : Nat) : Int) ((g3 k : Nat) : Int) (if ((pt : Nat) : Int) = 0 then wi (g1 k) else th (g1 k)) (if ((pt : Nat) : Int) = 0 then th (g1 k) else wi (g1 k)))) (iI_of _) ?_
    exact krdi hx hb hr hlocks d_SG_board_107
  · refine lv_tableIn (off := 66) (tgt := 108) hx hb d_SG_board_42 (by decide +kernel) (by decide +kernel) (by decide +kernel) (by decide) ?_
    refine lv_aload_n hx hb d_SG_board_108 rfl (lv_at hl 3 rfl) ?_
    refine va_get (D := D) (ci := 0) (v := .ref hz) (C := R_SG) (T := T_SG) (N := 7) hx hb hts (fun w h => List.mem_cons_of_mem _ (iw_SG w h)) hown hK hP 0 rfl rfl 2 (by decide) (hts _ (List.mem_cons_of_mem _ k_180)) (fun _ h9 => h9) rfl d_SG_board_109 ?_
    refine lv_iload_n hx hb d_SG_board_112 rfl (lv_at hl 2 rfl) ?_
    refine lv_aload_n hx hb d_SG_board_113 rfl (lv_at hl 3 rfl) ?_
    refine va_get (D := D) (ci := 0) (v := .ref hp) (C := R_SG) (T := T_SG) (N := 7) hx hb hts (fun w h => List.mem_cons_of_mem _ (iw_SG w h)) hown hK hP 0 rfl rfl 5 (by decide) (hts _ (List.mem_cons_of_mem _ k_183)) (fun _ h9 => h9) rfl d_SG_board_114 ?_
    refine va_get (D := D) (ci := 4) (v := .int (nI pt)) (C := R_Pa) (T := T_Pa) (N := 8) hx hb hts (fun w h => List.mem_cons_of_mem _ (iw_Pa w h)) hown hK hP 1 rfl rfl 3 (by decide) (hts _ (List.mem_cons_of_mem _ k_149)) (fun _ h9 => h9) rfl d_SG_board_117 ?_
    refine kcallR (r := .int (nI (if ((pt : Nat) : Int) = 0 then th (g1 k) else wi (g1 k)))) (va_runV (As := [.int (nI (g1 k)), .int (nI pt)]) (rest := []) ⟨hx, hb, hml, hown, hts⟩ (c_alongY l D cI cJ cZ hz t1 t2 t3 t4 cn th wi (g1 k) (nI pt) ((pt : Nat) : Int) (by omega) (nI_t (by omega))) ⟨callB_of 2 hts (gd kc_Si_alongY) rfl rfl rfl (hts _ (List.mem_cons_of_mem _ k_4)) (hts _ (List.mem_cons_of_mem _ k_478)) (by decide +kernel) ⟨Nat.le_of_ble_eq_true rfl, Nat.le_of_ble_eq_true rfl⟩, hts _ (List.mem_cons_of_mem _ k_249), hts _ (List.mem_cons_of_mem _ k_250)⟩ ⟨kR_blind, va_recv hK hP (ci := 5) (q0 := 5) rfl rfl, kR_at hP hK hZ [5, 6, 7] rfl⟩ rfl rfl hl.1 rfl (lv_room (Nat.le_of_ble_eq_true rfl)) d_SG_board_120 ⟨Nat.zero_le _, Nat.zero_le _⟩) ?_
    refine ka_i (y := iI (if 4 = 0 then (g1 k : Int) else if 4 = 1 then (g2 k : Int) else if 4 = 2 then (g3 k : Int) else if 4 = 3 then (((if ((pt : Nat) : Int) = 0 then wi (g1 k) else th (g1 k)) : Nat) : Int) else if 4 = 4 then (((if ((pt : Nat) : Int) = 0 then th (g1 k) else wi (g1 k)) : Nat) : Int) else if 4 = 5 then max 0 ((wo (g1 k) : Int) - sumZ fl side ((g2 k : Nat) : Int) ((g3 k : Nat) : Int) (if ((pt : Nat) : Int) = 0 then wi (g1 k) else th (g1 k)) (if ((pt : Nat) : Int) = 0 then th (g1 k) else wi (g1 k))) else sumZ fb side ((g2 k : Nat) : Int) ((g3 k : Nat) : Int) (if ((pt : Nat) : Int) = 0 then wi (g1 k) else th (g1 k)) (if ((pt : Nat) : Int) = 0 then th (g1 k) else wi (g1 k)))) (iI_of _) ?_
    exact krdi hx hb hr hlocks d_SG_board_123
  · refine lv_tableIn (off := 82) (tgt := 124) hx hb d_SG_board_42 (by decide +kernel) (by decide +kernel) (by decide +kernel) (by decide) ?_
    refine lv_aload_n hx hb d_SG_board_124 rfl (lv_at hl 3 rfl) ?_
    refine va_get (D := D) (ci := 0) (v := .ref bo) (C := R_SG) (T := T_SG) (N := 7) hx hb hts (fun w h => List.mem_cons_of_mem _ (iw_SG w h)) hown hK hP 0 rfl rfl 3 (by decide) (hts _ (List.mem_cons_of_mem _ k_181)) (fun _ h9 => h9) rfl d_SG_board_125 ?_
    refine lv_iload_n hx hb d_SG_board_128 rfl (lv_at hl 2 rfl) ?_
    refine lv_iload hx hb d_SG_board_129 (lv_at hl 1 rfl) ?_
    refine lv_iload hx hb d_SG_board_131 (lv_at hl 0 rfl) ?_
    refine lv_aload_n hx hb d_SG_board_133 rfl (lv_at hl 3 rfl) ?_
    refine va_get (D := D) (ci := 0) (v := .ref hp) (C := R_SG) (T := T_SG) (N := 7) hx hb hts (fun w h => List.mem_cons_of_mem _ (iw_SG w h)) hown hK hP 0 rfl rfl 5 (by decide) (hts _ (List.mem_cons_of_mem _ k_183)) (fun _ h9 => h9) rfl d_SG_board_134 ?_
    refine va_get (D := D) (ci := 4) (v := .int (nI pt)) (C := R_Pa) (T := T_Pa) (N := 8) hx hb hts (fun w h => List.mem_cons_of_mem _ (iw_Pa w h)) hown hK hP 1 rfl rfl 3 (by decide) (hts _ (List.mem_cons_of_mem _ k_149)) (fun _ h9 => h9) rfl d_SG_board_137 ?_
    refine kcallR (r := .int (iI (max 0 ((wo (g1 k) : Int) - sumZ fl side ((g2 k : Nat) : Int) ((g3 k : Nat) : Int) (if ((pt : Nat) : Int) = 0 then wi (g1 k) else th (g1 k)) (if ((pt : Nat) : Int) = 0 then th (g1 k) else wi (g1 k)))))) (va_runV (As := [.int (nI (g1 k)), .int (nI (g2 k)), .int (nI (g3 k)), .int (nI pt)]) (rest := []) ⟨hx, hb, hml, hown, hts⟩ (c_valueAt l D cI cJ cZ bo h0 side a1 a2 a3 a4 sm hz t1 t2 t3 t4 cn th wi wo F4 fl (g1 k) (nI (g2 k)) (nI (g3 k)) ((g2 k : Nat) : Int) ((g3 k : Nat) : Int) (nI pt) ((pt : Nat) : Int) (by omega) (by omega) ht hw (nI_t (by omega)) (nI_t (by omega)) (nI_t (by omega)) m4 hfl ho) ⟨callB_of 4 hts (gd kc_Bo_valueAt) rfl rfl rfl (hts _ (List.mem_cons_of_mem _ k_5)) (hts _ (List.mem_cons_of_mem _ k_479)) (by decide +kernel) ⟨Nat.le_of_ble_eq_true rfl, Nat.le_of_ble_eq_true rfl⟩, hts _ (List.mem_cons_of_mem _ k_257), hts _ (List.mem_cons_of_mem _ k_258)⟩ ⟨kR_blind, va_recv hK hP (ci := 2) (q0 := 9) rfl rfl, kR_at hP hK hZ [9, 10, 5, 6, 7, 8, 12] rfl⟩ rfl rfl hl.1 rfl (lv_room (Nat.le_of_ble_eq_true rfl)) d_SG_board_140 ⟨Nat.zero_le _, Nat.zero_le _⟩) ?_
    refine ka_i (y := iI (if 5 = 0 then (g1 k : Int) else if 5 = 1 then (g2 k : Int) else if 5 = 2 then (g3 k : Int) else if 5 = 3 then (((if ((pt : Nat) : Int) = 0 then wi (g1 k) else th (g1 k)) : Nat) : Int) else if 5 = 4 then (((if ((pt : Nat) : Int) = 0 then th (g1 k) else wi (g1 k)) : Nat) : Int) else if 5 = 5 then max 0 ((wo (g1 k) : Int) - sumZ fl side ((g2 k : Nat) : Int) ((g3 k : Nat) : Int) (if ((pt : Nat) : Int) = 0 then wi (g1 k) else th (g1 k)) (if ((pt : Nat) : Int) = 0 then th (g1 k) else wi (g1 k))) else sumZ fb side ((g2 k : Nat) : Int) ((g3 k : Nat) : Int) (if ((pt : Nat) : Int) = 0 then wi (g1 k) else th (g1 k)) (if ((pt : Nat) : Int) = 0 then th (g1 k) else wi (g1 k)))) (rfl) ?_
    exact krdi hx hb hr hlocks d_SG_board_143
  · refine lv_tableIn (off := 102) (tgt := 144) hx hb d_SG_board_42 (by decide +kernel) (by decide +kernel) (by decide +kernel) (by decide) ?_
    refine lv_aload_n hx hb d_SG_board_144 rfl (lv_at hl 3 rfl) ?_
    refine va_get (D := D) (ci := 0) (v := .ref bo) (C := R_SG) (T := T_SG) (N := 7) hx hb hts (fun w h => List.mem_cons_of_mem _ (iw_SG w h)) hown hK hP 0 rfl rfl 3 (by decide) (hts _ (List.mem_cons_of_mem _ k_181)) (fun _ h9 => h9) rfl d_SG_board_145 ?_
    refine lv_iload_n hx hb d_SG_board_148 rfl (lv_at hl 2 rfl) ?_
    refine lv_iload hx hb d_SG_board_149 (lv_at hl 1 rfl) ?_
    refine lv_iload hx hb d_SG_board_151 (lv_at hl 0 rfl) ?_
    refine lv_aload_n hx hb d_SG_board_153 rfl (lv_at hl 3 rfl) ?_
    refine va_get (D := D) (ci := 0) (v := .ref hp) (C := R_SG) (T := T_SG) (N := 7) hx hb hts (fun w h => List.mem_cons_of_mem _ (iw_SG w h)) hown hK hP 0 rfl rfl 5 (by decide) (hts _ (List.mem_cons_of_mem _ k_183)) (fun _ h9 => h9) rfl d_SG_board_154 ?_
    refine va_get (D := D) (ci := 4) (v := .int (nI pt)) (C := R_Pa) (T := T_Pa) (N := 8) hx hb hts (fun w h => List.mem_cons_of_mem _ (iw_Pa w h)) hown hK hP 1 rfl rfl 3 (by decide) (hts _ (List.mem_cons_of_mem _ k_149)) (fun _ h9 => h9) rfl d_SG_board_157 ?_
    refine kcallR (r := .int (iI (sumZ fb side ((g2 k : Nat) : Int) ((g3 k : Nat) : Int) (if ((pt : Nat) : Int) = 0 then wi (g1 k) else th (g1 k)) (if ((pt : Nat) : Int) = 0 then th (g1 k) else wi (g1 k))))) (va_runV (As := [.int (nI (g1 k)), .int (nI (g2 k)), .int (nI (g3 k)), .int (nI pt)]) (rest := []) ⟨hx, hb, hml, hown, hts⟩ (c_bareAt l D cI cJ cZ bo h0 side a1 a2 a3 a4 sm hz t1 t2 t3 t4 cn th wi F3 fb (g1 k) (nI (g2 k)) (nI (g3 k)) ((g2 k : Nat) : Int) ((g3 k : Nat) : Int) (nI pt) ((pt : Nat) : Int) (by omega) (by omega) ht hw (nI_t (by omega)) (nI_t (by omega)) (nI_t (by omega)) m3 hfb) ⟨callB_of 4 hts (gd kc_Bo_bareAt) rfl rfl rfl (hts _ (List.mem_cons_of_mem _ k_5)) (hts _ (List.mem_cons_of_mem _ k_480)) (by decide +kernel) ⟨Nat.le_of_ble_eq_true rfl, Nat.le_of_ble_eq_true rfl⟩, hts _ (List.mem_cons_of_mem _ k_481), hts _ (List.mem_cons_of_mem _ k_482)⟩ ⟨kR_blind, va_recv hK hP (ci := 2) (q0 := 9) rfl rfl, kR_at hP hK hZ [9, 10, 5, 6, 7, 11] rfl⟩ rfl rfl hl.1 rfl (lv_room (Nat.le_of_ble_eq_true rfl)) d_SG_board_160 ⟨Nat.zero_le _, Nat.zero_le _⟩) ?_
    refine ka_i (y := iI (if 6 = 0 then (g1 k : Int) else if 6 = 1 then (g2 k : Int) else if 6 = 2 then (g3 k : Int) else if 6 = 3 then (((if ((pt : Nat) : Int) = 0 then wi (g1 k) else th (g1 k)) : Nat) : Int) else if 6 = 4 then (((if ((pt : Nat) : Int) = 0 then th (g1 k) else wi (g1 k)) : Nat) : Int) else if 6 = 5 then max 0 ((wo (g1 k) : Int) - sumZ fl side ((g2 k : Nat) : Int) ((g3 k : Nat) : Int) (if ((pt : Nat) : Int) = 0 then wi (g1 k) else th (g1 k)) (if ((pt : Nat) : Int) = 0 then th (g1 k) else wi (g1 k))) else sumZ fb side ((g2 k : Nat) : Int) ((g3 k : Nat) : Int) (if ((pt : Nat) : Int) = 0 then wi (g1 k) else th (g1 k)) (if ((pt : Nat) : Int) = 0 then th (g1 k) else wi (g1 k)))) (rfl) ?_
    exact krdi hx hb hr hlocks d_SG_board_163
/-- Euclid's steps -/
def euc : Nat → Nat → Nat → Nat
  | 0, a, _ => a
  | n + 1, a, b => if b = 0 then a else euc n b (a % b)
set_option maxHeartbeats 4000000 in
set_option maxRecDepth 100000 in
theorem c_gcd (l : Launch) (D : va_G) (cI cJ cZ : ClassId) (a0 : Nat) (b0 : Nat) (ha : a0 ≤ 1000000) (hb__ : b0 ≤ 1000000) : kRead l y_SG_commonDivisor w_SG_commonDivisor ({ frames := 0, cells := 0, slots := 0, locals := 0 }) D vwCl (tyL cI cJ cZ) [] [.int (nI a0), .int (nI b0)] (.int (nI (euc 1000 a0 b0))) := by
  refine Met.ofW (cc := b_SG_commonDivisor) (maxL := 6) (ret := (some (.int))) (by decide) rfl ?_
  intro p e s m args below meth c s₁ B hml hv
  obtain ⟨rfl, hP, hK, hZ⟩ := hv
  have hx := B.exec
  have hb := B.bytes
  have hr := B.returns
  have hts := atoms_spec (ws := w_SG_commonDivisor) B.pre
  have hown : s.vm.findClass R_SG = some m.cls := findClass_of_methodNamed B.named
  have hlocks := B.notSynchronized
  have hP : va_P D vwCl [] s.heap := hP
  have hl := lv_entry ([.int (nI a0), .int (nI b0)]) (n := 6) (Nat.le_of_ble_eq_true rfl)
  rw [lg_entry_eq]
  generalize (lg_sl ([.int (nI a0), .int (nI b0)]) ++ List.replicate (6 - (lg_sl ([.int (nI a0), .int (nI b0)])).length) Slot.unset).toArray = ls at hl ⊢
  have hl : lv_has ls 6 [(0, .int (nI a0)), (1, .int (nI b0))] := hl
  refine lv_iload_n hx hb d_SG_commonDivisor_0 rfl (lv_at hl 0 rfl) ?_
  refine lv_istore_n (lv' := [(2, .int (nI a0)), (0, .int (nI a0)), (1, .int (nI b0))]) hx hb d_SG_commonDivisor_1 rfl hl (by decide) rfl (fun ls hl => ?_)
  refine lv_iload_n hx hb d_SG_commonDivisor_2 rfl (lv_at hl 2 rfl) ?_
  refine lv_istore_n (lv' := [(3, .int (nI b0)), (2, .int (nI a0)), (0, .int (nI a0)), (1, .int (nI b0))]) hx hb d_SG_commonDivisor_3 rfl hl (by decide) rfl (fun ls hl => ?_)
  refine lv_iconst (v := nI 0) hx hb d_SG_commonDivisor_4 (by decide +kernel) ?_
  refine lv_istore (lv' := [(4, .int (nI 0)), (3, .int (nI b0)), (2, .int (nI a0)), (0, .int (nI a0)), (1, .int (nI b0))]) hx hb d_SG_commonDivisor_5 hl (by decide) rfl (fun ls hl => ?_)
  have lp : ∀ (n : Nat) (k : Nat) (a_ : Nat) (b_ : Nat), (k + n = 1000) → (euc n a_ b_ = euc 1000 a0 b0) → (a_ ≤ 1000000) → (b_ ≤ 1000000) → ∀ ls : Array Slot, lv_has ls 6 [(4, .int (nI k)), (3, .int (nI b_)), (2, .int (nI a_)), (0, .int (nI a0)), (1, .int (nI b0))] → W p l e (headSpec w_SG_commonDivisor ({ frames := 0, cells := 0, slots := 0, locals := 0 })).room s m ([.int (nI a0), .int (nI b0)]).toArray below meth c s.heap [] 0 0 (MQ below (k2_QcV (.int (nI (euc 1000 a0 b0)))) ([.int (nI a0), .int (nI b0)]).toArray s 0 0 (fun _ => False)) (F0 m 7 ls []) := by
    intro n
    induction n with
    | zero =>
      intro k a_ b_ hi ee h1 h2 ls hl
      refine lv_iload hx hb d_SG_commonDivisor_7 (lv_at hl 0 rfl) ?_
      refine lv_sipush (v := nI 1000) hx hb d_SG_commonDivisor_9 (by decide +kernel) ?_
      refine kb_cge (tgt := 35) (nI_t (by omega)) (nI_t (by omega)) hx hb d_SG_commonDivisor_12 (by decide) (fun c_12 => ?_) (fun c_12 => ?_)
      · refine lv_iload_n hx hb d_SG_commonDivisor_35 rfl (lv_at hl 2 rfl) ?_
        refine ka_i (y := nI (euc 1000 a0 b0)) (congrArg nI ee) ?_
        exact krdi hx hb hr hlocks d_SG_commonDivisor_36
      · exfalso; omega
    | succ n ih =>
      intro k a_ b_ hi ee h1 h2 ls hl
      refine lv_iload hx hb d_SG_commonDivisor_7 (lv_at hl 0 rfl) ?_
      refine lv_sipush (v := nI 1000) hx hb d_SG_commonDivisor_9 (by decide +kernel) ?_
      refine kb_cge (tgt := 35) (nI_t (by omega)) (nI_t (by omega)) hx hb d_SG_commonDivisor_12 (by decide) (fun c_12 => ?_) (fun c_12 => ?_)
      · exfalso; omega
      · refine lv_iload_n hx hb d_SG_commonDivisor_15 rfl (lv_at hl 1 rfl) ?_
        refine kb_eq (tgt := 35) (nI_t (by omega)) hx hb d_SG_commonDivisor_16 (by decide) (fun c0 => ?_) (fun c0 => ?_)
        · have eb : b_ = 0 := by omega
          subst eb
          refine lv_iload_n hx hb d_SG_commonDivisor_35 rfl (lv_at hl 2 rfl) ?_
          refine ka_i (y := nI (euc 1000 a0 b0)) (congrArg nI (by rw [← ee]; show a_ = if (0 : Nat) = 0 then a_ else _; rw [if_pos rfl])) ?_
          exact krdi hx hb hr hlocks d_SG_commonDivisor_36
        · refine lv_iload_n hx hb d_SG_commonDivisor_19 rfl (lv_at hl 2 rfl) ?_
          refine lv_iload_n hx hb d_SG_commonDivisor_20 rfl (lv_at hl 1 rfl) ?_
          refine lv_irem hx hb d_SG_commonDivisor_21 (nI_ne0 (by omega) (by omega)) ?_
          refine ka_i (y := nI (a_ % b_)) (pk_rem (by omega) (by omega) (by omega)) ?_
          have q1 := Nat.mod_lt a_ (show 0 < b_ by omega)
          refine lv_istore (lv' := [(5, .int (nI (a_ % b_))), (4, .int (nI k)), (3, .int (nI b_)), (2, .int (nI a_)), (0, .int (nI a0)), (1, .int (nI b0))]) hx hb d_SG_commonDivisor_22 hl (by decide) rfl (fun ls hl => ?_)
          refine lv_iload_n hx hb d_SG_commonDivisor_24 rfl (lv_at hl 2 rfl) ?_
          refine lv_istore_n (lv' := [(2, .int (nI b_)), (5, .int (nI (a_ % b_))), (4, .int (nI k)), (3, .int (nI b_)), (0, .int (nI a0)), (1, .int (nI b0))]) hx hb d_SG_commonDivisor_25 rfl hl (by decide) rfl (fun ls hl => ?_)
          refine lv_iload hx hb d_SG_commonDivisor_26 (lv_at hl 1 rfl) ?_
          refine lv_istore_n (lv' := [(3, .int (nI (a_ % b_))), (2, .int (nI b_)), (5, .int (nI (a_ % b_))), (4, .int (nI k)), (0, .int (nI a0)), (1, .int (nI b0))]) hx hb d_SG_commonDivisor_28 rfl hl (by decide) rfl (fun ls hl => ?_)
          refine lv_iinc (v := nI (k + 1)) (lv' := [(4, .int (nI (k + 1))), (3, .int (nI (a_ % b_))), (2, .int (nI b_)), (5, .int (nI (a_ % b_))), (0, .int (nI a0)), (1, .int (nI b0))]) hx hb d_SG_commonDivisor_29 hl (k := 3) rfl (nI_add _ 1) (by decide) rfl (fun ls hl => ?_)
          refine lv_goto (tgt := 7) hx hb d_SG_commonDivisor_32 (by decide) ?_
          exact ih (k + 1) b_ (a_ % b_) (by omega) (by rw [← ee]; show _ = if b_ = 0 then a_ else _; rw [if_neg (by omega)]) (by omega) (by omega) ls (lv_sub hl [0, 1, 2, 4, 5] rfl)
  exact lp 1000 0 a0 b0 (by omega) rfl ha hb__ ls (lv_sub hl [0, 1, 2, 3, 4] rfl)
set_option maxHeartbeats 4000000 in
set_option maxRecDepth 100000 in
theorem c_apart (l : Launch) (D : va_G) (cI cJ cZ : ClassId) (hs : Nat) (kf : Nat) (h0 : Nat) (hz : Nat) (bo : Nat) (hb_ : Nat) (hp : Nat) (sw : Prop) (p1 : Nat) (p2 : Nat) (p3 : Nat) (pt : Nat) (psl : Nat) (pc_ : Nat) (pv : Int) (pce : Nat) (pn : Nat) (g1 : Nat → Nat) (g2 : Nat → Nat) (g3 : Nat → Nat) (t1 : Nat) (t2 : Nat) (t3 : Nat) (t4 : Nat) (cn : Nat) (th : Nat → Nat) (wi : Nat → Nat) (j : Nat) (k : Nat) (hsw : sw) (hj : j < pc_) (hk : k < pc_) (hpc : pc_ ≤ pn) (hpn : pn ≤ 400) (j8 : g1 j < 8) (k8 : g1 k < 8) (x1 : g2 j ≤ 20) (x2 : g2 k ≤ 20) (y1 : g3 j ≤ 20) (y2 : g3 k ≤ 20) (hpt : pt ≤ 1) (kf4 : kf ≤ 4) (ht : ∀ k, k < 8 → th k ≤ 20) (hw : ∀ k, k < 8 → wi k ≤ 20) : kRead l y_SG_apart w_SG_apart ({ frames := 2, cells := 0, slots := 0, locals := 43 }) D vwCl (tyL cI cJ cZ) [(hs, .inr (0, [.int (nI kf), .ref h0, .ref hz, .ref bo, .ref hb_, .ref hp, .int (pI sw)])), (hp, .inr (4, [.ref p1, .ref p2, .ref p3, .int (nI pt), .int (nI psl), .int (nI pc_), .int (iI pv), .int (nI pce)])), (p1, .inl (cI, pn, .inl (fun j => nI (g1 j)))), (p2, .inl (cI, pn, .inl (fun j => nI (g2 j)))), (p3, .inl (cI, pn, .inl (fun j => nI (g3 j)))), (hz, .inr (5, [.ref t1, .ref t2, .ref t3, .ref t4, .int (nI cn)])), (t1, .inl (cI, 8, .inl (fun j => nI (th j)))), (t2, .inl (cI, 8, .inl (fun j => nI (wi j))))] [.ref hs, .int (nI j), .int (nI k)] (.int (pI ((g2 j + (if ((pt : Nat) : Int) = 0 then wi (g1 j) else th (g1 j)) + kf ≤ g2 k ∨ g2 k + (if ((pt : Nat) : Int) = 0 then wi (g1 k) else th (g1 k)) + kf ≤ g2 j) ∨ (g3 j + (if ((pt : Nat) : Int) = 0 then th (g1 j) else wi (g1 j)) + kf ≤ g3 k ∨ g3 k + (if ((pt : Nat) : Int) = 0 then th (g1 k) else wi (g1 k)) + kf ≤ g3 j)))) := by
  refine Met.ofW (cc := b_SG_apart) (maxL := 5) (ret := (some (.boolean))) (by decide) rfl ?_
  intro p e s m args below meth c s₁ B hml hv
  obtain ⟨rfl, hP, hK, hZ⟩ := hv
  have hx := B.exec
  have hb := B.bytes
  have hr := B.returns
  have hts := atoms_spec (ws := w_SG_apart) B.pre
  have hown : s.vm.findClass R_SG = some m.cls := findClass_of_methodNamed B.named
  have hlocks := B.notSynchronized
  have hP : va_P D vwCl [(hs, .inr (0, [.int (nI kf), .ref h0, .ref hz, .ref bo, .ref hb_, .ref hp, .int (pI sw)])), (hp, .inr (4, [.ref p1, .ref p2, .ref p3, .int (nI pt), .int (nI psl), .int (nI pc_), .int (iI pv), .int (nI pce)])), (p1, .inl (cI, pn, .inl (fun j => nI (g1 j)))), (p2, .inl (cI, pn, .inl (fun j => nI (g2 j)))), (p3, .inl (cI, pn, .inl (fun j => nI (g3 j)))), (hz, .inr (5, [.ref t1, .ref t2, .ref t3, .ref t4, .int (nI cn)])), (t1, .inl (cI, 8, .inl (fun j => nI (th j)))), (t2, .inl (cI, 8, .inl (fun j => nI (wi j))))] s.heap := hP
  have hl := lv_entry ([.ref hs, .int (nI j), .int (nI k)]) (n := 5) (Nat.le_of_ble_eq_true rfl)
  rw [lg_entry_eq]
  generalize (lg_sl ([.ref hs, .int (nI j), .int (nI k)]) ++ List.replicate (5 - (lg_sl ([.ref hs, .int (nI j), .int (nI k)])).length) Slot.unset).toArray = ls at hl ⊢
  have hl : lv_has ls 5 [(0, .ref hs), (1, .int (nI j)), (2, .int (nI k))] := hl
  have l1 : (if ((pt : Nat) : Int) = 0 then wi (g1 j) else th (g1 j)) ≤ 20 := by
    have h1 := ht (g1 j) (by omega)
    have h2 := hw (g1 j) (by omega)
    split <;> omega
  have l2 : (if ((pt : Nat) : Int) = 0 then wi (g1 k) else th (g1 k)) ≤ 20 := by
    have h1 := ht (g1 k) (by omega)
    have h2 := hw (g1 k) (by omega)
    split <;> omega
  have l3 : (if ((pt : Nat) : Int) = 0 then th (g1 j) else wi (g1 j)) ≤ 20 := by
    have h1 := ht (g1 j) (by omega)
    have h2 := hw (g1 j) (by omega)
    split <;> omega
  have l4 : (if ((pt : Nat) : Int) = 0 then th (g1 k) else wi (g1 k)) ≤ 20 := by
    have h1 := ht (g1 k) (by omega)
    have h2 := hw (g1 k) (by omega)
    split <;> omega
  refine lv_aload_n hx hb d_SG_apart_0 rfl (lv_at hl 0 rfl) ?_
  refine kcallRV (va_runV (As := []) (rest := []) ⟨hx, hb, hml, hown, hts⟩ (c_refuseUnsawn l D cI cJ cZ hs kf h0 hz bo hb_ hp sw hsw) ⟨callB_of 0 hts (gd kc_SG_refuseUnsawn) rfl rfl rfl (hts _ (List.mem_cons_of_mem _ k_1)) (hts _ (List.mem_cons_of_mem _ k_467)) (by decide +kernel) ⟨Nat.le_of_ble_eq_true rfl, Nat.le_of_ble_eq_true rfl⟩, hts _ (List.mem_cons_of_mem _ k_469), hts _ (List.mem_cons_of_mem _ ks_9)⟩ ⟨kR_blind, va_recv hK hP (ci := 0) (q0 := 0) rfl rfl, kR_at hP hK hZ [0] rfl⟩ rfl rfl hl.1 rfl (lv_room (Nat.le_of_ble_eq_true rfl)) d_SG_apart_1 ⟨Nat.zero_le _, Nat.zero_le _⟩) ?_
  refine lv_aload_n hx hb d_SG_apart_4 rfl (lv_at hl 0 rfl) ?_
  refine lv_iload_n hx hb d_SG_apart_5 rfl (lv_at hl 1 rfl) ?_
  refine kcallRV (va_runV (As := [.int (nI j)]) (rest := []) ⟨hx, hb, hml, hown, hts⟩ (c_refuseNoBoard l D cI cJ cZ hs kf h0 hz bo hb_ hp sw p1 p2 p3 pt psl pc_ pv pce j (by omega) (by omega)) ⟨callB_of 1 hts (gd kc_SG_refuseNoBoard) rfl rfl rfl (hts _ (List.mem_cons_of_mem _ k_1)) (hts _ (List.mem_cons_of_mem _ k_472)) (by decide +kernel) ⟨Nat.le_of_ble_eq_true rfl, Nat.le_of_ble_eq_true rfl⟩, hts _ (List.mem_cons_of_mem _ k_474), hts _ (List.mem_cons_of_mem _ ks_10)⟩ ⟨kR_blind, va_recv hK hP (ci := 0) (q0 := 0) rfl rfl, kR_at hP hK hZ [0, 1] rfl⟩ rfl rfl hl.1 rfl (lv_room (Nat.le_of_ble_eq_true rfl)) d_SG_apart_6 ⟨Nat.zero_le _, Nat.zero_le _⟩) ?_
  refine lv_aload_n hx hb d_SG_apart_9 rfl (lv_at hl 0 rfl) ?_
  refine lv_iload_n hx hb d_SG_apart_10 rfl (lv_at hl 2 rfl) ?_
  refine kcallRV (va_runV (As := [.int (nI k)]) (rest := []) ⟨hx, hb, hml, hown, hts⟩ (c_refuseNoBoard l D cI cJ cZ hs kf h0 hz bo hb_ hp sw p1 p2 p3 pt psl pc_ pv pce k (by omega) (by omega)) ⟨callB_of 1 hts (gd kc_SG_refuseNoBoard) rfl rfl rfl (hts _ (List.mem_cons_of_mem _ k_1)) (hts _ (List.mem_cons_of_mem _ k_472)) (by decide +kernel) ⟨Nat.le_of_ble_eq_true rfl, Nat.le_of_ble_eq_true rfl⟩, hts _ (List.mem_cons_of_mem _ k_474), hts _ (List.mem_cons_of_mem _ ks_10)⟩ ⟨kR_blind, va_recv hK hP (ci := 0) (q0 := 0) rfl rfl, kR_at hP hK hZ [0, 1] rfl⟩ rfl rfl hl.1 rfl (lv_room (Nat.le_of_ble_eq_true rfl)) d_SG_apart_11 ⟨Nat.zero_le _, Nat.zero_le _⟩) ?_
  refine lv_aload_n hx hb d_SG_apart_14 rfl (lv_at hl 0 rfl) ?_
  refine va_get (D := D) (ci := 0) (v := .ref hp) (C := R_SG) (T := T_SG) (N := 7) hx hb hts (fun w h => List.mem_cons_of_mem _ (iw_SG w h)) hown hK hP 0 rfl rfl 5 (by decide) (hts _ (List.mem_cons_of_mem _ k_183)) (fun _ h9 => h9) rfl d_SG_apart_15 ?_
  refine va_get (D := D) (ci := 4) (v := .ref p1) (C := R_Pa) (T := T_Pa) (N := 8) hx hb hts (fun w h => List.mem_cons_of_mem _ (iw_Pa w h)) hown hK hP 1 rfl rfl 0 (by decide) (hts _ (List.mem_cons_of_mem _ k_143)) (fun _ h9 => h9) rfl d_SG_apart_18 ?_
  refine lv_iload_n hx hb d_SG_apart_21 rfl (lv_at hl 1 rfl) ?_
  refine ka_iald (k := j) (n := pn) (f := fun j => nI (g1 j)) (nI_t (by omega)) (by omega) hx hb hK hP 2 0 rfl rfl d_SG_apart_22 ?_
  refine lv_istore_n (lv' := [(3, .int (nI (g1 j))), (0, .ref hs), (1, .int (nI j)), (2, .int (nI k))]) hx hb d_SG_apart_23 rfl hl (by decide) rfl (fun ls hl => ?_)
  refine lv_aload_n hx hb d_SG_apart_24 rfl (lv_at hl 1 rfl) ?_
  refine va_get (D := D) (ci := 0) (v := .ref hp) (C := R_SG) (T := T_SG) (N := 7) hx hb hts (fun w h => List.mem_cons_of_mem _ (iw_SG w h)) hown hK hP 0 rfl rfl 5 (by decide) (hts _ (List.mem_cons_of_mem _ k_183)) (fun _ h9 => h9) rfl d_SG_apart_25 ?_
  refine va_get (D := D) (ci := 4) (v := .ref p1) (C := R_Pa) (T := T_Pa) (N := 8) hx hb hts (fun w h => List.mem_cons_of_mem _ (iw_Pa w h)) hown hK hP 1 rfl rfl 0 (by decide) (hts _ (List.mem_cons_of_mem _ k_143)) (fun _ h9 => h9) rfl d_SG_apart_28 ?_
  refine lv_iload_n hx hb d_SG_apart_31 rfl (lv_at hl 3 rfl) ?_
  refine ka_iald (k := k) (n := pn) (f := fun j => nI (g1 j)) (nI_t (by omega)) (by omega) hx hb hK hP 2 0 rfl rfl d_SG_apart_32 ?_
  refine lv_istore (lv' := [(4, .int (nI (g1 k))), (3, .int (nI (g1 j))), (0, .ref hs), (1, .int (nI j)), (2, .int (nI k))]) hx hb d_SG_apart_33 hl (by decide) rfl (fun ls hl => ?_)
  refine lv_aload_n hx hb d_SG_apart_35 rfl (lv_at hl 2 rfl) ?_
  refine lv_aload_n hx hb d_SG_apart_36 rfl (lv_at hl 2 rfl) ?_
  refine va_get (D := D) (ci := 0) (v := .ref hp) (C := R_SG) (T := T_SG) (N := 7) hx hb hts (fun w h => List.mem_cons_of_mem _ (iw_SG w h)) hown hK hP 0 rfl rfl 5 (by decide) (hts _ (List.mem_cons_of_mem _ k_183)) (fun _ h9 => h9) rfl d_SG_apart_37 ?_
  refine va_get (D := D) (ci := 4) (v := .ref p2) (C := R_Pa) (T := T_Pa) (N := 8) hx hb hts (fun w h => List.mem_cons_of_mem _ (iw_Pa w h)) hown hK hP 1 rfl rfl 1 (by decide) (hts _ (List.mem_cons_of_mem _ k_145)) (fun _ h9 => h9) rfl d_SG_apart_40 ?_
  refine lv_iload_n hx hb d_SG_apart_43 rfl (lv_at hl 3 rfl) ?_
  refine ka_iald (k := j) (n := pn) (f := fun j => nI (g2 j)) (nI_t (by omega)) (by omega) hx hb hK hP 3 0 rfl rfl d_SG_apart_44 ?_
  refine lv_aload_n hx hb d_SG_apart_45 rfl (lv_at hl 2 rfl) ?_
  refine va_get (D := D) (ci := 0) (v := .ref hz) (C := R_SG) (T := T_SG) (N := 7) hx hb hts (fun w h => List.mem_cons_of_mem _ (iw_SG w h)) hown hK hP 0 rfl rfl 2 (by decide) (hts _ (List.mem_cons_of_mem _ k_180)) (fun _ h9 => h9) rfl d_SG_apart_46 ?_
  refine lv_iload_n hx hb d_SG_apart_49 rfl (lv_at hl 1 rfl) ?_
  refine lv_aload_n hx hb d_SG_apart_50 rfl (lv_at hl 2 rfl) ?_
  refine va_get (D := D) (ci := 0) (v := .ref hp) (C := R_SG) (T := T_SG) (N := 7) hx hb hts (fun w h => List.mem_cons_of_mem _ (iw_SG w h)) hown hK hP 0 rfl rfl 5 (by decide) (hts _ (List.mem_cons_of_mem _ k_183)) (fun _ h9 => h9) rfl d_SG_apart_51 ?_
  refine va_get (D := D) (ci := 4) (v := .int (nI pt)) (C := R_Pa) (T := T_Pa) (N := 8) hx hb hts (fun w h => List.mem_cons_of_mem _ (iw_Pa w h)) hown hK hP 1 rfl rfl 3 (by decide) (hts _ (List.mem_cons_of_mem _ k_149)) (fun _ h9 => h9) rfl d_SG_apart_54 ?_
  refine kcallR (r := .int (nI (if ((pt : Nat) : Int) = 0 then wi (g1 j) else th (g1 j)))) (va_runV (As := [.int (nI (g1 j)), .int (nI pt)]) (rest := [.int (nI (g2 j)), .ref hs]) ⟨hx, hb, hml, hown, hts⟩ (c_alongX l D cI cJ cZ hz t1 t2 t3 t4 cn th wi (g1 j) (nI pt) ((pt : Nat) : Int) (by omega) (nI_t (by omega))) ⟨callB_of 2 hts (gd kc_Si_alongX) rfl rfl rfl (hts _ (List.mem_cons_of_mem _ k_4)) (hts _ (List.mem_cons_of_mem _ k_477)) (by decide +kernel) ⟨Nat.le_of_ble_eq_true rfl, Nat.le_of_ble_eq_true rfl⟩, hts _ (List.mem_cons_of_mem _ k_245), hts _ (List.mem_cons_of_mem _ k_246)⟩ ⟨kR_blind, va_recv hK hP (ci := 5) (q0 := 5) rfl rfl, kR_at hP hK hZ [5, 6, 7] rfl⟩ rfl rfl hl.1 rfl (lv_room (Nat.le_of_ble_eq_true rfl)) d_SG_apart_57 ⟨Nat.zero_le _, Nat.zero_le _⟩) ?_
  refine lv_aload_n hx hb d_SG_apart_60 rfl (lv_at hl 2 rfl) ?_
  refine va_get (D := D) (ci := 0) (v := .ref hp) (C := R_SG) (T := T_SG) (N := 7) hx hb hts (fun w h => List.mem_cons_of_mem _ (iw_SG w h)) hown hK hP 0 rfl rfl 5 (by decide) (hts _ (List.mem_cons_of_mem _ k_183)) (fun _ h9 => h9) rfl d_SG_apart_61 ?_
  refine va_get (D := D) (ci := 4) (v := .ref p2) (C := R_Pa) (T := T_Pa) (N := 8) hx hb hts (fun w h => List.mem_cons_of_mem _ (iw_Pa w h)) hown hK hP 1 rfl rfl 1 (by decide) (hts _ (List.mem_cons_of_mem _ k_145)) (fun _ h9 => h9) rfl d_SG_apart_64 ?_
  refine lv_iload_n hx hb d_SG_apart_67 rfl (lv_at hl 4 rfl) ?_
  refine ka_iald (k := k) (n := pn) (f := fun j => nI (g2 j)) (nI_t (by omega)) (by omega) hx hb hK hP 3 0 rfl rfl d_SG_apart_68 ?_
  refine lv_aload_n hx hb d_SG_apart_69 rfl (lv_at hl 2 rfl) ?_
  refine va_get (D := D) (ci := 0) (v := .ref hz) (C := R_SG) (T := T_SG) (N := 7) hx hb hts (fun w h => List.mem_cons_of_mem _ (iw_SG w h)) hown hK hP 0 rfl rfl 2 (by decide) (hts _ (List.mem_cons_of_mem _ k_180)) (fun _ h9 => h9) rfl d_SG_apart_70 ?_
  refine lv_iload hx hb d_SG_apart_73 (lv_at hl 0 rfl) ?_
  refine lv_aload_n hx hb d_SG_apart_75 rfl (lv_at hl 2 rfl) ?_
  refine va_get (D := D) (ci := 0) (v := .ref hp) (C := R_SG) (T := T_SG) (N := 7) hx hb hts (fun w h => List.mem_cons_of_mem _ (iw_SG w h)) hown hK hP 0 rfl rfl 5 (by decide) (hts _ (List.mem_cons_of_mem _ k_183)) (fun _ h9 => h9) rfl d_SG_apart_76 ?_
  refine va_get (D := D) (ci := 4) (v := .int (nI pt)) (C := R_Pa) (T := T_Pa) (N := 8) hx hb hts (fun w h => List.mem_cons_of_mem _ (iw_Pa w h)) hown hK hP 1 rfl rfl 3 (by decide) (hts _ (List.mem_cons_of_mem _ k_149)) (fun _ h9 => h9) rfl d_SG_apart_79 ?_
  refine kcallR (r := .int (nI (if ((pt : Nat) : Int) = 0 then wi (g1 k) else th (g1 k)))) (va_runV (As := [.int (nI (g1 k)), .int (nI pt)]) (rest := [.int (nI (g2 k)), .int (nI (if ((pt : Nat) : Int) = 0 then wi (g1 j) else th (g1 j))), .int (nI (g2 j)), .ref hs]) ⟨hx, hb, hml, hown, hts⟩ (c_alongX l D cI cJ cZ hz t1 t2 t3 t4 cn th wi (g1 k) (nI pt) ((pt : Nat) : Int) (by omega) (nI_t (by omega))) ⟨callB_of 2 hts (gd kc_Si_alongX) rfl rfl rfl (hts _ (List.mem_cons_of_mem _ k_4)) (hts _ (List.mem_cons_of_mem _ k_477)) (by decide +kernel) ⟨Nat.le_of_ble_eq_true rfl, Nat.le_of_ble_eq_true rfl⟩, hts _ (List.mem_cons_of_mem _ k_245), hts _ (List.mem_cons_of_mem _ k_246)⟩ ⟨kR_blind, va_recv hK hP (ci := 5) (q0 := 5) rfl rfl, kR_at hP hK hZ [5, 6, 7] rfl⟩ rfl rfl hl.1 rfl (lv_room (Nat.le_of_ble_eq_true rfl)) d_SG_apart_82 ⟨Nat.zero_le _, Nat.zero_le _⟩) ?_
  refine kcallR (r := .int (pI ((g2 j) + (if ((pt : Nat) : Int) = 0 then wi (g1 j) else th (g1 j)) + kf ≤ (g2 k) ∨ (g2 k) + (if ((pt : Nat) : Int) = 0 then wi (g1 k) else th (g1 k)) + kf ≤ (g2 j)))) (va_runV (As := [.int (nI (g2 j)), .int (nI (if ((pt : Nat) : Int) = 0 then wi (g1 j) else th (g1 j))), .int (nI (g2 k)), .int (nI (if ((pt : Nat) : Int) = 0 then wi (g1 k) else th (g1 k)))]) (rest := []) ⟨hx, hb, hml, hown, hts⟩ (c_areApart l D cI cJ cZ hs kf h0 hz bo hb_ hp sw (g2 j) (if ((pt : Nat) : Int) = 0 then wi (g1 j) else th (g1 j)) (g2 k) (if ((pt : Nat) : Int) = 0 then wi (g1 k) else th (g1 k)) (by omega) l1 (by omega) l2 (by omega)) ⟨callB_of 4 hts (gd kc_SG_areApart) rfl rfl rfl (hts _ (List.mem_cons_of_mem _ k_1)) (hts _ (List.mem_cons_of_mem _ k_535)) (by decide +kernel) ⟨Nat.le_of_ble_eq_true rfl, Nat.le_of_ble_eq_true rfl⟩, hts _ (List.mem_cons_of_mem _ k_537), hts _ (List.mem_cons_of_mem _ ks_11)⟩ ⟨kR_blind, va_recv hK hP (ci := 0) (q0 := 0) rfl rfl, kR_at hP hK hZ [0] rfl⟩ rfl rfl hl.1 rfl (lv_room (Nat.le_of_ble_eq_true rfl)) d_SG_apart_85 ⟨Nat.zero_le _, Nat.zero_le _⟩) ?_
  refine kb_neP (tgt := 147) hx hb d_SG_apart_88 (by decide) (fun c1 => ?_) (fun c1 => ?_)
  · refine lv_iconst (v := nI 1) hx hb d_SG_apart_147 (by decide +kernel) ?_
    refine lv_goto (tgt := 152) hx hb d_SG_apart_148 (by decide) ?_
    refine ka_i (y := pI ((g2 j + (if ((pt : Nat) : Int) = 0 then wi (g1 j) else th (g1 j)) + kf ≤ g2 k ∨ g2 k + (if ((pt : Nat) : Int) = 0 then wi (g1 k) else th (g1 k)) + kf ≤ g2 j) ∨ (g3 j + (if ((pt : Nat) : Int) = 0 then th (g1 j) else wi (g1 j)) + kf ≤ g3 k ∨ g3 k + (if ((pt : Nat) : Int) = 0 then th (g1 k) else wi (g1 k)) + kf ≤ g3 j))) (pI_1 (Or.inl c1)) ?_
    exact krdz (pI_narrow _) hx hb hr hlocks d_SG_apart_152
  · refine lv_aload_n hx hb d_SG_apart_91 rfl (lv_at hl 2 rfl) ?_
    refine lv_aload_n hx hb d_SG_apart_92 rfl (lv_at hl 2 rfl) ?_
    refine va_get (D := D) (ci := 0) (v := .ref hp) (C := R_SG) (T := T_SG) (N := 7) hx hb hts (fun w h => List.mem_cons_of_mem _ (iw_SG w h)) hown hK hP 0 rfl rfl 5 (by decide) (hts _ (List.mem_cons_of_mem _ k_183)) (fun _ h9 => h9) rfl d_SG_apart_93 ?_
    refine va_get (D := D) (ci := 4) (v := .ref p3) (C := R_Pa) (T := T_Pa) (N := 8) hx hb hts (fun w h => List.mem_cons_of_mem _ (iw_Pa w h)) hown hK hP 1 rfl rfl 2 (by decide) (hts _ (List.mem_cons_of_mem _ k_147)) (fun _ h9 => h9) rfl d_SG_apart_96 ?_
    refine lv_iload_n hx hb d_SG_apart_99 rfl (lv_at hl 3 rfl) ?_
    refine ka_iald (k := j) (n := pn) (f := fun j => nI (g3 j)) (nI_t (by omega)) (by omega) hx hb hK hP 4 0 rfl rfl d_SG_apart_100 ?_
    refine lv_aload_n hx hb d_SG_apart_101 rfl (lv_at hl 2 rfl) ?_
    refine va_get (D := D) (ci := 0) (v := .ref hz) (C := R_SG) (T := T_SG) (N := 7) hx hb hts (fun w h => List.mem_cons_of_mem _ (iw_SG w h)) hown hK hP 0 rfl rfl 2 (by decide) (hts _ (List.mem_cons_of_mem _ k_180)) (fun _ h9 => h9) rfl d_SG_apart_102 ?_
    refine lv_iload_n hx hb d_SG_apart_105 rfl (lv_at hl 1 rfl) ?_
    refine lv_aload_n hx hb d_SG_apart_106 rfl (lv_at hl 2 rfl) ?_
    refine va_get (D := D) (ci := 0) (v := .ref hp) (C := R_SG) (T := T_SG) (N := 7) hx hb hts (fun w h => List.mem_cons_of_mem _ (iw_SG w h)) hown hK hP 0 rfl rfl 5 (by decide) (hts _ (List.mem_cons_of_mem _ k_183)) (fun _ h9 => h9) rfl d_SG_apart_107 ?_
    refine va_get (D := D) (ci := 4) (v := .int (nI pt)) (C := R_Pa) (T := T_Pa) (N := 8) hx hb hts (fun w h => List.mem_cons_of_mem _ (iw_Pa w h)) hown hK hP 1 rfl rfl 3 (by decide) (hts _ (List.mem_cons_of_mem _ k_149)) (fun _ h9 => h9) rfl d_SG_apart_110 ?_
    refine kcallR (r := .int (nI (if ((pt : Nat) : Int) = 0 then th (g1 j) else wi (g1 j)))) (va_runV (As := [.int (nI (g1 j)), .int (nI pt)]) (rest := [.int (nI (g3 j)), .ref hs]) ⟨hx, hb, hml, hown, hts⟩ (c_alongY l D cI cJ cZ hz t1 t2 t3 t4 cn th wi (g1 j) (nI pt) ((pt : Nat) : Int) (by omega) (nI_t (by omega))) ⟨callB_of 2 hts (gd kc_Si_alongY) rfl rfl rfl (hts _ (List.mem_cons_of_mem _ k_4)) (hts _ (List.mem_cons_of_mem _ k_478)) (by decide +kernel) ⟨Nat.le_of_ble_eq_true rfl, Nat.le_of_ble_eq_true rfl⟩, hts _ (List.mem_cons_of_mem _ k_249), hts _ (List.mem_cons_of_mem _ k_250)⟩ ⟨kR_blind, va_recv hK hP (ci := 5) (q0 := 5) rfl rfl, kR_at hP hK hZ [5, 6, 7] rfl⟩ rfl rfl hl.1 rfl (lv_room (Nat.le_of_ble_eq_true rfl)) d_SG_apart_113 ⟨Nat.zero_le _, Nat.zero_le _⟩) ?_
    refine lv_aload_n hx hb d_SG_apart_116 rfl (lv_at hl 2 rfl) ?_
    refine va_get (D := D) (ci := 0) (v := .ref hp) (C := R_SG) (T := T_SG) (N := 7) hx hb hts (fun w h => List.mem_cons_of_mem _ (iw_SG w h)) hown hK hP 0 rfl rfl 5 (by decide) (hts _ (List.mem_cons_of_mem _ k_183)) (fun _ h9 => h9) rfl d_SG_apart_117 ?_
    refine va_get (D := D) (ci := 4) (v := .ref p3) (C := R_Pa) (T := T_Pa) (N := 8) hx hb hts (fun w h => List.mem_cons_of_mem _ (iw_Pa w h)) hown hK hP 1 rfl rfl 2 (by decide) (hts _ (List.mem_cons_of_mem _ k_147)) (fun _ h9 => h9) rfl d_SG_apart_120 ?_
    refine lv_iload_n hx hb d_SG_apart_123 rfl (lv_at hl 4 rfl) ?_
    refine ka_iald (k := k) (n := pn) (f := fun j => nI (g3 j)) (nI_t (by omega)) (by omega) hx hb hK hP 4 0 rfl rfl d_SG_apart_124 ?_
    refine lv_aload_n hx hb d_SG_apart_125 rfl (lv_at hl 2 rfl) ?_
    refine va_get (D := D) (ci := 0) (v := .ref hz) (C := R_SG) (T := T_SG) (N := 7) hx hb hts (fun w h => List.mem_cons_of_mem _ (iw_SG w h)) hown hK hP 0 rfl rfl 2 (by decide) (hts _ (List.mem_cons_of_mem _ k_180)) (fun _ h9 => h9) rfl d_SG_apart_126 ?_
    refine lv_iload hx hb d_SG_apart_129 (lv_at hl 0 rfl) ?_
    refine lv_aload_n hx hb d_SG_apart_131 rfl (lv_at hl 2 rfl) ?_
    refine va_get (D := D) (ci := 0) (v := .ref hp) (C := R_SG) (T := T_SG) (N := 7) hx hb hts (fun w h => List.mem_cons_of_mem _ (iw_SG w h)) hown hK hP 0 rfl rfl 5 (by decide) (hts _ (List.mem_cons_of_mem _ k_183)) (fun _ h9 => h9) rfl d_SG_apart_132 ?_
    refine va_get (D := D) (ci := 4) (v := .int (nI pt)) (C := R_Pa) (T := T_Pa) (N := 8) hx hb hts (fun w h => List.mem_cons_of_mem _ (iw_Pa w h)) hown hK hP 1 rfl rfl 3 (by decide) (hts _ (List.mem_cons_of_mem _ k_149)) (fun _ h9 => h9) rfl d_SG_apart_135 ?_
    refine kcallR (r := .int (nI (if ((pt : Nat) : Int) = 0 then th (g1 k) else wi (g1 k)))) (va_runV (As := [.int (nI (g1 k)), .int (nI pt)]) (rest := [.int (nI (g3 k)), .int (nI (if ((pt : Nat) : Int) = 0 then th (g1 j) else wi (g1 j))), .int (nI (g3 j)), .ref hs]) ⟨hx, hb, hml, hown, hts⟩ (c_alongY l D cI cJ cZ hz t1 t2 t3 t4 cn th wi (g1 k) (nI pt) ((pt : Nat) : Int) (by omega) (nI_t (by omega))) ⟨callB_of 2 hts (gd kc_Si_alongY) rfl rfl rfl (hts _ (List.mem_cons_of_mem _ k_4)) (hts _ (List.mem_cons_of_mem _ k_478)) (by decide +kernel) ⟨Nat.le_of_ble_eq_true rfl, Nat.le_of_ble_eq_true rfl⟩, hts _ (List.mem_cons_of_mem _ k_249), hts _ (List.mem_cons_of_mem _ k_250)⟩ ⟨kR_blind, va_recv hK hP (ci := 5) (q0 := 5) rfl rfl, kR_at hP hK hZ [5, 6, 7] rfl⟩ rfl rfl hl.1 rfl (lv_room (Nat.le_of_ble_eq_true rfl)) d_SG_apart_138 ⟨Nat.zero_le _, Nat.zero_le _⟩) ?_
    refine kcallR (r := .int (pI ((g3 j) + (if ((pt : Nat) : Int) = 0 then th (g1 j) else wi (g1 j)) + kf ≤ (g3 k) ∨ (g3 k) + (if ((pt : Nat) : Int) = 0 then th (g1 k) else wi (g1 k)) + kf ≤ (g3 j)))) (va_runV (As := [.int (nI (g3 j)), .int (nI (if ((pt : Nat) : Int) = 0 then th (g1 j) else wi (g1 j))), .int (nI (g3 k)), .int (nI (if ((pt : Nat) : Int) = 0 then th (g1 k) else wi (g1 k)))]) (rest := []) ⟨hx, hb, hml, hown, hts⟩ (c_areApart l D cI cJ cZ hs kf h0 hz bo hb_ hp sw (g3 j) (if ((pt : Nat) : Int) = 0 then th (g1 j) else wi (g1 j)) (g3 k) (if ((pt : Nat) : Int) = 0 then th (g1 k) else wi (g1 k)) (by omega) l3 (by omega) l4 (by omega)) ⟨callB_of 4 hts (gd kc_SG_areApart) rfl rfl rfl (hts _ (List.mem_cons_of_mem _ k_1)) (hts _ (List.mem_cons_of_mem _ k_535)) (by decide +kernel) ⟨Nat.le_of_ble_eq_true rfl, Nat.le_of_ble_eq_true rfl⟩, hts _ (List.mem_cons_of_mem _ k_537), hts _ (List.mem_cons_of_mem _ ks_11)⟩ ⟨kR_blind, va_recv hK hP (ci := 0) (q0 := 0) rfl rfl, kR_at hP hK hZ [0] rfl⟩ rfl rfl hl.1 rfl (lv_room (Nat.le_of_ble_eq_true rfl)) d_SG_apart_141 ⟨Nat.zero_le _, Nat.zero_le _⟩) ?_
    refine kb_eqP (tgt := 151) hx hb d_SG_apart_144 (by decide) (fun c2 => ?_) (fun c2 => ?_)
    · refine lv_iconst (v := nI 0) hx hb d_SG_apart_151 (by decide +kernel) ?_
      refine ka_i (y := pI ((g2 j + (if ((pt : Nat) : Int) = 0 then wi (g1 j) else th (g1 j)) + kf ≤ g2 k ∨ g2 k + (if ((pt : Nat) : Int) = 0 then wi (g1 k) else th (g1 k)) + kf ≤ g2 j) ∨ (g3 j + (if ((pt : Nat) : Int) = 0 then th (g1 j) else wi (g1 j)) + kf ≤ g3 k ∨ g3 k + (if ((pt : Nat) : Int) = 0 then th (g1 k) else wi (g1 k)) + kf ≤ g3 j))) (pI_z (fun h => h.elim c1 c2)) ?_
      exact krdz (pI_narrow _) hx hb hr hlocks d_SG_apart_152
    · refine lv_iconst (v := nI 1) hx hb d_SG_apart_147 (by decide +kernel) ?_
      refine lv_goto (tgt := 152) hx hb d_SG_apart_148 (by decide) ?_
      refine ka_i (y := pI ((g2 j + (if ((pt : Nat) : Int) = 0 then wi (g1 j) else th (g1 j)) + kf ≤ g2 k ∨ g2 k + (if ((pt : Nat) : Int) = 0 then wi (g1 k) else th (g1 k)) + kf ≤ g2 j) ∨ (g3 j + (if ((pt : Nat) : Int) = 0 then th (g1 j) else wi (g1 j)) + kf ≤ g3 k ∨ g3 k + (if ((pt : Nat) : Int) = 0 then th (g1 k) else wi (g1 k)) + kf ≤ g3 j))) (pI_1 (Or.inr c2)) ?_
      exact krdz (pI_narrow _) hx hb hr hlocks d_SG_apart_152
theorem rcs_sq {f : Nat → Nat → Nat} {n : Nat} (h : ∀ i j, f i j ≤ 1) : rcs f 0 0 n n ≤ n * n := by
  have k : rcs f 0 0 n n ≤ n * (n * 1) := rcs_le (fun i j _ _ => h _ _)
  rw [Nat.mul_one] at k
  exact k
theorem fbare_le1 (side : Nat) (IN : Nat → Prop) : ∀ i j, fbare side IN i j ≤ 1 := fun _ _ => bareN_le _
theorem euc_le : ∀ (n a b M : Nat), a ≤ M → b ≤ M → euc n a b ≤ M := by
  intro n
  induction n with
  | zero => intro a b M ha _; exact ha
  | succ n ih =>
    intro a b M ha hb
    show (if b = 0 then a else euc n b (a % b)) ≤ M
    split
    · exact ha
    · exact ih _ _ _ hb (Nat.le_trans (Nat.le_of_lt (Nat.mod_lt _ (by omega))) hb)
set_option maxHeartbeats 4000000 in
set_option maxRecDepth 100000 in
theorem c_yields (l : Launch) (D : va_G) (cI cJ cZ : ClassId) (hs : Nat) (kf : Nat) (h0 : Nat) (hz : Nat) (bo : Nat) (hb_ : Nat) (hp : Nat) (sw : Prop) (p1 : Nat) (p2 : Nat) (p3 : Nat) (pt : Nat) (psl : Nat) (pc_ : Nat) (pv : Int) (pce : Nat) (side : Nat) (a1 : Nat) (a2 : Nat) (a3 : Nat) (a4 : Nat) (sm : Prop) (F3 : Nat → Nat) (IN : Nat → Prop) (q : Nat) (hsw : sw) (hq : q ≤ 1) (s2 : side ≤ 20) (hce : pce ≤ 400000) (m3 : ∀ X Y, X ≤ side → Y ≤ side → F3 (Y * (side + 1) + X) = psm (fbare side IN) X Y) : kRead l y_SG_yields w_SG_yields ({ frames := 2, cells := 0, slots := 0, locals := 47 }) D vwCl (tyL cI cJ cZ) [(hs, .inr (0, [.int (nI kf), .ref h0, .ref hz, .ref bo, .ref hb_, .ref hp, .int (pI sw)])), (hp, .inr (4, [.ref p1, .ref p2, .ref p3, .int (nI pt), .int (nI psl), .int (nI pc_), .int (iI pv), .int (nI pce)])), (h0, .inr (3, [.int (nI side), .ref a1, .ref a2, .ref a3, .ref a4, .int (pI sm)])), (a3, .inl (cI, ((side + 1) * (side + 1)), .inl (fun j => nI (F3 j))))] [.ref hs, .int (nI q)] (.int (nI (if (side * side - rcs (fbare side IN) 0 0 side side) = 0 then (if q = 0 then 0 else 1) else (if q = 0 then pce else (side * side - rcs (fbare side IN) 0 0 side side)) / max 1 (euc 1000 pce (side * side - rcs (fbare side IN) 0 0 side side))))) := by
  refine Met.ofW (cc := b_SG_yields) (maxL := 4) (ret := (some (.int))) (by decide) rfl ?_
  intro p e s m args below meth c s₁ B hml hv
  obtain ⟨rfl, hP, hK, hZ⟩ := hv
  have hx := B.exec
  have hb := B.bytes
  have hr := B.returns
  have hts := atoms_spec (ws := w_SG_yields) B.pre
  have hown : s.vm.findClass R_SG = some m.cls := findClass_of_methodNamed B.named
  have hlocks := B.notSynchronized
  have hP : va_P D vwCl [(hs, .inr (0, [.int (nI kf), .ref h0, .ref hz, .ref bo, .ref hb_, .ref hp, .int (pI sw)])), (hp, .inr (4, [.ref p1, .ref p2, .ref p3, .int (nI pt), .int (nI psl), .int (nI pc_), .int (iI pv), .int (nI pce)])), (h0, .inr (3, [.int (nI side), .ref a1, .ref a2, .ref a3, .ref a4, .int (pI sm)])), (a3, .inl (cI, ((side + 1) * (side + 1)), .inl (fun j => nI (F3 j))))] s.heap := hP
  have hl := lv_entry ([.ref hs, .int (nI q)]) (n := 4) (Nat.le_of_ble_eq_true rfl)
  rw [lg_entry_eq]
  generalize (lg_sl ([.ref hs, .int (nI q)]) ++ List.replicate (4 - (lg_sl ([.ref hs, .int (nI q)])).length) Slot.unset).toArray = ls at hl ⊢
  have hl : lv_has ls 4 [(0, .ref hs), (1, .int (nI q))] := hl
  have qs := (sq20 s2).2
  have qr := rcs_sq (n := side) (fbare_le1 side IN)
  have qe := euc_le 1000 pce (side * side - rcs (fbare side IN) 0 0 side side) 400000 (by omega) (by omega)
  refine lv_aload_n hx hb d_SG_yields_0 rfl (lv_at hl 0 rfl) ?_
  refine kcallRV (va_runV (As := []) (rest := []) ⟨hx, hb, hml, hown, hts⟩ (c_refuseUnsawn l D cI cJ cZ hs kf h0 hz bo hb_ hp sw hsw) ⟨callB_of 0 hts (gd kc_SG_refuseUnsawn) rfl rfl rfl (hts _ (List.mem_cons_of_mem _ k_1)) (hts _ (List.mem_cons_of_mem _ k_467)) (by decide +kernel) ⟨Nat.le_of_ble_eq_true rfl, Nat.le_of_ble_eq_true rfl⟩, hts _ (List.mem_cons_of_mem _ k_469), hts _ (List.mem_cons_of_mem _ ks_9)⟩ ⟨kR_blind, va_recv hK hP (ci := 0) (q0 := 0) rfl rfl, kR_at hP hK hZ [0] rfl⟩ rfl rfl hl.1 rfl (lv_room (Nat.le_of_ble_eq_true rfl)) d_SG_yields_1 ⟨Nat.zero_le _, Nat.zero_le _⟩) ?_
  refine lv_iload_n hx hb d_SG_yields_4 rfl (lv_at hl 1 rfl) ?_
  refine lv_iconst (v := nI 0) hx hb d_SG_yields_5 (by decide +kernel) ?_
  refine lv_iconst (v := nI 1) hx hb d_SG_yields_6 (by decide +kernel) ?_
  refine kcallR (r := .int (pI (((0 : Nat) : Int) ≤ ((q : Nat) : Int) ∧ ((q : Nat) : Int) ≤ ((1 : Nat) : Int)))) (va_runS (As := [.int (nI q), .int (nI 0), .int (nI 1)]) (rest := []) ⟨hx, hb, hml, hown, hts⟩ (c_isWithin l D cI cJ cZ (nI q) (nI 0) (nI 1) ((q : Nat) : Int) ((0 : Nat) : Int) ((1 : Nat) : Int) (nI_t (by omega)) (nI_t (by omega)) (nI_t (by omega))) ⟨callB_of 3 hts (gd kc_SG_isWithin) rfl rfl rfl (hts _ (List.mem_cons_of_mem _ k_1)) (hts _ (List.mem_cons_of_mem _ k_313)) (by decide +kernel) ⟨Nat.le_of_ble_eq_true rfl, Nat.le_of_ble_eq_true rfl⟩, hts _ (List.mem_cons_of_mem _ k_280)⟩ ⟨kR_blind, kR_at hP hK hZ [] rfl⟩ rfl rfl hl.1 rfl (lv_room (Nat.le_of_ble_eq_true rfl)) d_SG_yields_7 ⟨Nat.zero_le _, Nat.zero_le _⟩) ?_
  refine kb_neP (tgt := 23) hx hb d_SG_yields_10 (by decide) (fun c_10 => ?_) (fun c_10 => ?_)
  · refine lv_aload_n hx hb d_SG_yields_23 rfl (lv_at hl 0 rfl) ?_
    refine va_get (D := D) (ci := 0) (v := .ref h0) (C := R_SG) (T := T_SG) (N := 7) hx hb hts (fun w h => List.mem_cons_of_mem _ (iw_SG w h)) hown hK hP 0 rfl rfl 1 (by decide) (hts _ (List.mem_cons_of_mem _ k_179)) (fun _ h9 => h9) rfl d_SG_yields_24 ?_
    refine kcallR (r := .int (iI (((side * side : Nat) : Int) - (rcs (fbare side IN) 0 0 side side : Int)))) (va_runV (As := []) (rest := []) ⟨hx, hb, hml, hown, hts⟩ (c_woodCells l D cI cJ cZ h0 side a1 a2 a3 a4 sm F3 (fbare side IN) (by omega) m3 (fbare_le side IN)) ⟨callB_of 0 hts (gd kc_Lo_woodCells) rfl rfl rfl (hts _ (List.mem_cons_of_mem _ k_3)) (hts _ (List.mem_cons_of_mem _ k_294)) (by decide +kernel) ⟨Nat.le_of_ble_eq_true rfl, Nat.le_of_ble_eq_true rfl⟩, hts _ (List.mem_cons_of_mem _ k_295), hts _ (List.mem_cons_of_mem _ k_296)⟩ ⟨kR_blind, va_recv hK hP (ci := 3) (q0 := 2) rfl rfl, kR_at hP hK hZ [2, 3] rfl⟩ rfl rfl hl.1 rfl (lv_room (Nat.le_of_ble_eq_true rfl)) d_SG_yields_27 ⟨Nat.zero_le _, Nat.zero_le _⟩) ?_
    refine ka_i (y := nI (side * side - rcs (fbare side IN) 0 0 side side)) (iI_eqn (by omega)) ?_
    refine lv_istore_n (lv' := [(2, .int (nI (side * side - rcs (fbare side IN) 0 0 side side))), (0, .ref hs), (1, .int (nI q))]) hx hb d_SG_yields_30 rfl hl (by decide) rfl (fun ls hl => ?_)
    refine lv_iload_n hx hb d_SG_yields_31 rfl (lv_at hl 0 rfl) ?_
    refine kb_ne (tgt := 45) (nI_t (by omega)) hx hb d_SG_yields_32 (by decide) (fun cz => ?_) (fun cz => ?_)
    · refine lv_iconst (v := nI 1) hx hb d_SG_yields_45 (by decide +kernel) ?_
      refine lv_aload_n hx hb d_SG_yields_46 rfl (lv_at hl 1 rfl) ?_
      refine va_get (D := D) (ci := 0) (v := .ref hp) (C := R_SG) (T := T_SG) (N := 7) hx hb hts (fun w h => List.mem_cons_of_mem _ (iw_SG w h)) hown hK hP 0 rfl rfl 5 (by decide) (hts _ (List.mem_cons_of_mem _ k_183)) (fun _ h9 => h9) rfl d_SG_yields_47 ?_
      refine va_get (D := D) (ci := 4) (v := .int (nI pce)) (C := R_Pa) (T := T_Pa) (N := 8) hx hb hts (fun w h => List.mem_cons_of_mem _ (iw_Pa w h)) hown hK hP 1 rfl rfl 7 (by decide) (hts _ (List.mem_cons_of_mem _ k_159)) (fun _ h9 => h9) rfl d_SG_yields_50 ?_
      refine lv_iload_n hx hb d_SG_yields_53 rfl (lv_at hl 0 rfl) ?_
      refine kcallR (r := .int (nI (euc 1000 pce (side * side - rcs (fbare side IN) 0 0 side side)))) (va_runS (As := [.int (nI pce), .int (nI (side * side - rcs (fbare side IN) 0 0 side side))]) (rest := [.int (nI 1)]) ⟨hx, hb, hml, hown, hts⟩ (c_gcd l D cI cJ cZ pce (side * side - rcs (fbare side IN) 0 0 side side) (by omega) (by omega)) ⟨callB_of 2 hts (gd kc_SG_commonDivisor) rfl rfl rfl (hts _ (List.mem_cons_of_mem _ k_1)) (hts _ (List.mem_cons_of_mem _ k_515)) (by decide +kernel) ⟨Nat.le_of_ble_eq_true rfl, Nat.le_of_ble_eq_true rfl⟩, hts _ (List.mem_cons_of_mem _ k_516)⟩ ⟨kR_blind, kR_at hP hK hZ [] rfl⟩ rfl rfl hl.1 rfl (lv_room (Nat.le_of_ble_eq_true rfl)) d_SG_yields_54 ⟨Nat.zero_le _, Nat.zero_le _⟩) ?_
      refine va_mmax hx hb (hml.trans hl.1.symm) hown (hts _ (List.mem_cons_of_mem _ k_26)) (hts _ (List.mem_cons_of_mem _ k_27)) (hts _ (List.mem_cons_of_mem _ k_2)) (hts _ (List.mem_cons_of_mem _ k_28)) (Nat.le_of_ble_eq_true rfl) (Nat.le_of_ble_eq_true rfl) (Nat.zero_le _) (Nat.zero_le _) d_SG_yields_57 ?_
      refine ka_i (y := iI (max ((1 : Nat) : Int) ((euc 1000 pce (side * side - rcs (fbare side IN) 0 0 side side) : Nat) : Int))) (mmax32 (nI_t (by omega)) (nI_t (by omega))) ?_
      refine lv_istore_n (lv' := [(3, .int (iI (max ((1 : Nat) : Int) ((euc 1000 pce (side * side - rcs (fbare side IN) 0 0 side side) : Nat) : Int)))), (2, .int (nI (side * side - rcs (fbare side IN) 0 0 side side))), (0, .ref hs), (1, .int (nI q))]) hx hb d_SG_yields_60 rfl hl (by decide) rfl (fun ls hl => ?_)
      refine lv_iload_n hx hb d_SG_yields_61 rfl (lv_at hl 3 rfl) ?_
      refine kb_ne (tgt := 75) (nI_t (by omega)) hx hb d_SG_yields_62 (by decide) (fun cq => ?_) (fun cq => ?_)
      · refine lv_iload_n hx hb d_SG_yields_75 rfl (lv_at hl 1 rfl) ?_
        refine lv_iload_n hx hb d_SG_yields_76 rfl (lv_at hl 0 rfl) ?_
        refine ka_i (y := nI (max 1 (euc 1000 pce (side * side - rcs (fbare side IN) 0 0 side side)))) (iI_eqn (by omega)) ?_
        refine lv_idiv hx hb d_SG_yields_77 (nI_ne0 (by omega) (by omega)) ?_
        refine ka_i (y := nI (if (side * side - rcs (fbare side IN) 0 0 side side) = 0 then (if q = 0 then 0 else 1) else (if q = 0 then pce else (side * side - rcs (fbare side IN) 0 0 side side)) / max 1 (euc 1000 pce (side * side - rcs (fbare side IN) 0 0 side side)))) ((pk_div (by omega) (by omega) (by omega)).trans (congrArg nI (by rw [if_neg (show ¬ (side * side - rcs (fbare side IN) 0 0 side side) = 0 by omega), if_neg (show ¬ q = 0 by omega)]))) ?_
        exact krdi hx hb hr hlocks d_SG_yields_78
      · refine lv_aload_n hx hb d_SG_yields_65 rfl (lv_at hl 2 rfl) ?_
        refine va_get (D := D) (ci := 0) (v := .ref hp) (C := R_SG) (T := T_SG) (N := 7) hx hb hts (fun w h => List.mem_cons_of_mem _ (iw_SG w h)) hown hK hP 0 rfl rfl 5 (by decide) (hts _ (List.mem_cons_of_mem _ k_183)) (fun _ h9 => h9) rfl d_SG_yields_66 ?_
        refine va_get (D := D) (ci := 4) (v := .int (nI pce)) (C := R_Pa) (T := T_Pa) (N := 8) hx hb hts (fun w h => List.mem_cons_of_mem _ (iw_Pa w h)) hown hK hP 1 rfl rfl 7 (by decide) (hts _ (List.mem_cons_of_mem _ k_159)) (fun _ h9 => h9) rfl d_SG_yields_69 ?_
        refine lv_goto (tgt := 76) hx hb d_SG_yields_72 (by decide) ?_
        refine lv_iload_n hx hb d_SG_yields_76 rfl (lv_at hl 0 rfl) ?_
        refine ka_i (y := nI (max 1 (euc 1000 pce (side * side - rcs (fbare side IN) 0 0 side side)))) (iI_eqn (by omega)) ?_
        refine lv_idiv hx hb d_SG_yields_77 (nI_ne0 (by omega) (by omega)) ?_
        refine ka_i (y := nI (if (side * side - rcs (fbare side IN) 0 0 side side) = 0 then (if q = 0 then 0 else 1) else (if q = 0 then pce else (side * side - rcs (fbare side IN) 0 0 side side)) / max 1 (euc 1000 pce (side * side - rcs (fbare side IN) 0 0 side side)))) ((pk_div (by omega) (by omega) (by omega)).trans (congrArg nI (by rw [if_neg (show ¬ (side * side - rcs (fbare side IN) 0 0 side side) = 0 by omega), if_pos (show q = 0 by omega)]))) ?_
        exact krdi hx hb hr hlocks d_SG_yields_78
    · refine lv_iload_n hx hb d_SG_yields_35 rfl (lv_at hl 2 rfl) ?_
      refine kb_ne (tgt := 43) (nI_t (by omega)) hx hb d_SG_yields_36 (by decide) (fun cq => ?_) (fun cq => ?_)
      · refine lv_iconst (v := nI 1) hx hb d_SG_yields_43 (by decide +kernel) ?_
        refine ka_i (y := nI (if (side * side - rcs (fbare side IN) 0 0 side side) = 0 then (if q = 0 then 0 else 1) else (if q = 0 then pce else (side * side - rcs (fbare side IN) 0 0 side side)) / max 1 (euc 1000 pce (side * side - rcs (fbare side IN) 0 0 side side)))) (congrArg nI (by rw [if_pos (show (side * side - rcs (fbare side IN) 0 0 side side) = 0 by omega), if_neg (show ¬ q = 0 by omega)])) ?_
        exact krdi hx hb hr hlocks d_SG_yields_44
      · refine lv_iconst (v := nI 0) hx hb d_SG_yields_39 (by decide +kernel) ?_
        refine lv_goto (tgt := 44) hx hb d_SG_yields_40 (by decide) ?_
        refine ka_i (y := nI (if (side * side - rcs (fbare side IN) 0 0 side side) = 0 then (if q = 0 then 0 else 1) else (if q = 0 then pce else (side * side - rcs (fbare side IN) 0 0 side side)) / max 1 (euc 1000 pce (side * side - rcs (fbare side IN) 0 0 side side)))) (congrArg nI (by rw [if_pos (show (side * side - rcs (fbare side IN) 0 0 side side) = 0 by omega), if_pos (show q = 0 by omega)])) ?_
        exact krdi hx hb hr hlocks d_SG_yields_44
  · exfalso; omega

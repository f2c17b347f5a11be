theorem dX8_takes_3 : decode cX8_takes 3 = .ok (.istore_n 3, 1) := by decide +kernel
theorem dX8_takes_4 : decode cX8_takes 4 = .ok (.iload_n 3, 1) := by decide +kernel
theorem dX8_takes_5 : decode cX8_takes 5 = .ok (.aload_n 0, 1) := by decide +kernel
theorem dX8_takes_6 : decode cX8_takes 6 = .ok (.getfield 74, 3) := by decide +kernel
theorem dX8_takes_9 : decode cX8_takes 9 = .ok (.if_icmp .ge 35, 3) := by decide +kernel
theorem dX8_takes_12 : decode cX8_takes 12 = .ok (.iload_n 2, 1) := by decide +kernel
theorem dX8_takes_13 : decode cX8_takes 13 = .ok (.iload_n 1, 1) := by decide +kernel
theorem dX8_takes_14 : decode cX8_takes 14 = .ok (.iload_n 3, 1) := by decide +kernel
theorem dX8_takes_15 : decode cX8_takes 15 = .ok (.invokestatic 168, 3) := by decide +kernel
theorem dX8_takes_18 : decode cX8_takes 18 = .ok (.ifCond .eq 17, 3) := by decide +kernel
theorem dX8_takes_21 : decode cX8_takes 21 = .ok (.iconst 1, 1) := by decide +kernel
theorem dX8_takes_22 : decode cX8_takes 22 = .ok (.aload_n 0, 1) := by decide +kernel
theorem dX8_takes_23 : decode cX8_takes 23 = .ok (.iconst 1, 1) := by decide +kernel
theorem dX8_takes_24 : decode cX8_takes 24 = .ok (.iload_n 3, 1) := by decide +kernel
theorem dX8_takes_25 : decode cX8_takes 25 = .ok (.ishl, 1) := by decide +kernel
theorem dX8_takes_26 : decode cX8_takes 26 = .ok (.invokevirtual 191, 3) := by decide +kernel
theorem dX8_takes_29 : decode cX8_takes 29 = .ok (.iconst 4, 1) := by decide +kernel
theorem dX8_takes_30 : decode cX8_takes 30 = .ok (.idiv, 1) := by decide +kernel
theorem dX8_takes_31 : decode cX8_takes 31 = .ok (.iadd, 1) := by decide +kernel
theorem dX8_takes_32 : decode cX8_takes 32 = .ok (.goto 4, 3) := by decide +kernel
theorem dX8_takes_35 : decode cX8_takes 35 = .ok (.iconst 0, 1) := by decide +kernel
theorem dX8_takes_36 : decode cX8_takes 36 = .ok (.iadd, 1) := by decide +kernel
theorem dX8_takes_37 : decode cX8_takes 37 = .ok (.istore_n 2, 1) := by decide +kernel
theorem dX8_takes_38 : decode cX8_takes 38 = .ok (.iinc 3 1, 3) := by decide +kernel
theorem dX8_takes_41 : decode cX8_takes 41 = .ok (.goto (-37), 3) := by decide +kernel
theorem dX8_takes_44 : decode cX8_takes 44 = .ok (.iload_n 2, 1) := by decide +kernel
theorem dX8_takes_45 : decode cX8_takes 45 = .ok (.ireturn, 1) := by decide +kernel
theorem dX8_most_0 : decode cX8_most 0 = .ok (.iload_n 1, 1) := by decide +kernel
theorem dX8_most_1 : decode cX8_most 1 = .ok (.iconst 0, 1) := by decide +kernel
theorem dX8_most_2 : decode cX8_most 2 = .ok (.bipush 60, 2) := by decide +kernel
theorem dX8_most_4 : decode cX8_most 4 = .ok (.invokestatic 78, 3) := by decide +kernel
theorem dX8_most_7 : decode cX8_most 7 = .ok (.ifCond .eq 12, 3) := by decide +kernel
theorem dX8_most_10 : decode cX8_most 10 = .ok (.iload_n 2, 1) := by decide +kernel
theorem dX8_most_11 : decode cX8_most 11 = .ok (.iconst 0, 1) := by decide +kernel
theorem dX8_most_12 : decode cX8_most 12 = .ok (.iconst 1, 1) := by decide +kernel
theorem dX8_most_13 : decode cX8_most 13 = .ok (.invokestatic 78, 3) := by decide +kernel
theorem dX8_most_16 : decode cX8_most 16 = .ok (.ifCond .ne 5, 3) := by decide +kernel
theorem dX8_most_19 : decode cX8_most 19 = .ok (.iconst (-1), 1) := by decide +kernel
theorem dX8_most_20 : decode cX8_most 20 = .ok (.ireturn, 1) := by decide +kernel
theorem dX8_most_21 : decode cX8_most 21 = .ok (.iconst 0, 1) := by decide +kernel
theorem dX8_most_22 : decode cX8_most 22 = .ok (.istore_n 3, 1) := by decide +kernel
theorem dX8_most_23 : decode cX8_most 23 = .ok (.aload_n 0, 1) := by decide +kernel
theorem dX8_most_24 : decode cX8_most 24 = .ok (.invokevirtual 226, 3) := by decide +kernel
theorem dX8_most_27 : decode cX8_most 27 = .ok (.istore 4, 2) := by decide +kernel
theorem dX8_most_29 : decode cX8_most 29 = .ok (.iconst 1, 1) := by decide +kernel
theorem dX8_most_30 : decode cX8_most 30 = .ok (.istore 5, 2) := by decide +kernel
theorem dX8_most_32 : decode cX8_most 32 = .ok (.iload 5, 2) := by decide +kernel
theorem dX8_most_34 : decode cX8_most 34 = .ok (.aload_n 0, 1) := by decide +kernel
theorem dX8_most_35 : decode cX8_most 35 = .ok (.invokevirtual 194, 3) := by decide +kernel
theorem dX8_most_38 : decode cX8_most 38 = .ok (.if_icmp .gt 104, 3) := by decide +kernel
theorem dX8_most_41 : decode cX8_most 41 = .ok (.iload 5, 2) := by decide +kernel
theorem dX8_most_43 : decode cX8_most 43 = .ok (.aload_n 0, 1) := by decide +kernel
theorem dX8_most_44 : decode cX8_most 44 = .ok (.getfield 31, 3) := by decide +kernel
theorem dX8_most_47 : decode cX8_most 47 = .ok (.bipush 45, 2) := by decide +kernel
theorem dX8_most_49 : decode cX8_most 49 = .ok (.iaload, 1) := by decide +kernel
theorem dX8_most_50 : decode cX8_most 50 = .ok (.iand, 1) := by decide +kernel
theorem dX8_most_51 : decode cX8_most 51 = .ok (.ifCond .ne 85, 3) := by decide +kernel
theorem dX8_most_54 : decode cX8_most 54 = .ok (.aload_n 0, 1) := by decide +kernel
theorem dX8_most_55 : decode cX8_most 55 = .ok (.iload 5, 2) := by decide +kernel
theorem dX8_most_57 : decode cX8_most 57 = .ok (.invokevirtual 239, 3) := by decide +kernel
theorem dX8_most_60 : decode cX8_most 60 = .ok (.iload_n 1, 1) := by decide +kernel
theorem dX8_most_61 : decode cX8_most 61 = .ok (.if_icmp .gt 75, 3) := by decide +kernel
theorem dX8_most_64 : decode cX8_most 64 = .ok (.aload_n 0, 1) := by decide +kernel
theorem dX8_most_65 : decode cX8_most 65 = .ok (.iload 5, 2) := by decide +kernel
theorem dX8_most_67 : decode cX8_most 67 = .ok (.aload_n 0, 1) := by decide +kernel
theorem dX8_most_68 : decode cX8_most 68 = .ok (.getfield 31, 3) := by decide +kernel
theorem dX8_most_71 : decode cX8_most 71 = .ok (.bipush 45, 2) := by decide +kernel
theorem dX8_most_73 : decode cX8_most 73 = .ok (.iaload, 1) := by decide +kernel
theorem dX8_most_74 : decode cX8_most 74 = .ok (.ior, 1) := by decide +kernel
theorem dX8_most_75 : decode cX8_most 75 = .ok (.invokevirtual 191, 3) := by decide +kernel
theorem dX8_most_78 : decode cX8_most 78 = .ok (.istore 6, 2) := by decide +kernel
theorem dX8_most_80 : decode cX8_most 80 = .ok (.iload 6, 2) := by decide +kernel
theorem dX8_most_82 : decode cX8_most 82 = .ok (.iload 4, 2) := by decide +kernel
theorem dX8_most_84 : decode cX8_most 84 = .ok (.if_icmp .gt 19, 3) := by decide +kernel
theorem dX8_most_87 : decode cX8_most 87 = .ok (.iload 6, 2) := by decide +kernel
theorem dX8_most_89 : decode cX8_most 89 = .ok (.iload 4, 2) := by decide +kernel
theorem dX8_most_91 : decode cX8_most 91 = .ok (.if_icmp .ne 16, 3) := by decide +kernel
theorem dX8_most_94 : decode cX8_most 94 = .ok (.iload 5, 2) := by decide +kernel
theorem dX8_most_96 : decode cX8_most 96 = .ok (.iload_n 3, 1) := by decide +kernel
theorem dX8_most_97 : decode cX8_most 97 = .ok (.invokestatic 198, 3) := by decide +kernel
theorem dX8_most_100 : decode cX8_most 100 = .ok (.ifCond .eq 7, 3) := by decide +kernel
theorem dX8_most_103 : decode cX8_most 103 = .ok (.iconst 1, 1) := by decide +kernel
theorem dX8_most_104 : decode cX8_most 104 = .ok (.goto 4, 3) := by decide +kernel
theorem dX8_most_107 : decode cX8_most 107 = .ok (.iconst 0, 1) := by decide +kernel
theorem dX8_most_108 : decode cX8_most 108 = .ok (.istore 7, 2) := by decide +kernel
theorem dX8_most_110 : decode cX8_most 110 = .ok (.iload 7, 2) := by decide +kernel
theorem dX8_most_112 : decode cX8_most 112 = .ok (.ifCond .eq 8, 3) := by decide +kernel
theorem dX8_most_115 : decode cX8_most 115 = .ok (.iload 5, 2) := by decide +kernel
theorem dX8_most_117 : decode cX8_most 117 = .ok (.goto 4, 3) := by decide +kernel
theorem dX8_most_120 : decode cX8_most 120 = .ok (.iload_n 3, 1) := by decide +kernel
theorem dX8_most_121 : decode cX8_most 121 = .ok (.istore_n 3, 1) := by decide +kernel
theorem dX8_most_122 : decode cX8_most 122 = .ok (.iload 7, 2) := by decide +kernel
theorem dX8_most_124 : decode cX8_most 124 = .ok (.ifCond .eq 8, 3) := by decide +kernel
theorem dX8_most_127 : decode cX8_most 127 = .ok (.iload 6, 2) := by decide +kernel
theorem dX8_most_129 : decode cX8_most 129 = .ok (.goto 5, 3) := by decide +kernel
theorem dX8_most_132 : decode cX8_most 132 = .ok (.iload 4, 2) := by decide +kernel
theorem dX8_most_134 : decode cX8_most 134 = .ok (.istore 4, 2) := by decide +kernel
theorem dX8_most_136 : decode cX8_most 136 = .ok (.iinc 5 1, 3) := by decide +kernel
theorem dX8_most_139 : decode cX8_most 139 = .ok (.goto (-107), 3) := by decide +kernel
theorem dX8_most_142 : decode cX8_most 142 = .ok (.iload_n 2, 1) := by decide +kernel
theorem dX8_most_143 : decode cX8_most 143 = .ok (.ifCond .ne 7, 3) := by decide +kernel
theorem dX8_most_146 : decode cX8_most 146 = .ok (.iload_n 3, 1) := by decide +kernel
theorem dX8_most_147 : decode cX8_most 147 = .ok (.goto 5, 3) := by decide +kernel
theorem dX8_most_150 : decode cX8_most 150 = .ok (.iload 4, 2) := by decide +kernel
theorem dX8_most_152 : decode cX8_most 152 = .ok (.ireturn, 1) := by decide +kernel
theorem dX8_lowest_0 : decode cX8_lowest 0 = .ok (.iload_n 0, 1) := by decide +kernel
theorem dX8_lowest_1 : decode cX8_lowest 1 = .ok (.istore_n 3, 1) := by decide +kernel
theorem dX8_lowest_2 : decode cX8_lowest 2 = .ok (.iload_n 1, 1) := by decide +kernel
theorem dX8_lowest_3 : decode cX8_lowest 3 = .ok (.istore 4, 2) := by decide +kernel
theorem dX8_lowest_5 : decode cX8_lowest 5 = .ok (.iload 4, 2) := by decide +kernel
theorem dX8_lowest_7 : decode cX8_lowest 7 = .ok (.ifCond .le 19, 3) := by decide +kernel
theorem dX8_lowest_10 : decode cX8_lowest 10 = .ok (.iload_n 3, 1) := by decide +kernel
theorem dX8_lowest_11 : decode cX8_lowest 11 = .ok (.iload 4, 2) := by decide +kernel
theorem dX8_lowest_13 : decode cX8_lowest 13 = .ok (.irem, 1) := by decide +kernel
theorem dX8_lowest_14 : decode cX8_lowest 14 = .ok (.istore 5, 2) := by decide +kernel
theorem dX8_lowest_16 : decode cX8_lowest 16 = .ok (.iload 4, 2) := by decide +kernel
theorem dX8_lowest_18 : decode cX8_lowest 18 = .ok (.istore_n 3, 1) := by decide +kernel
theorem dX8_lowest_19 : decode cX8_lowest 19 = .ok (.iload 5, 2) := by decide +kernel
theorem dX8_lowest_21 : decode cX8_lowest 21 = .ok (.istore 4, 2) := by decide +kernel
theorem dX8_lowest_23 : decode cX8_lowest 23 = .ok (.goto (-18), 3) := by decide +kernel
theorem dX8_lowest_26 : decode cX8_lowest 26 = .ok (.iload_n 2, 1) := by decide +kernel
theorem dX8_lowest_27 : decode cX8_lowest 27 = .ok (.ifCond .ne 7, 3) := by decide +kernel
theorem dX8_lowest_30 : decode cX8_lowest 30 = .ok (.iload_n 0, 1) := by decide +kernel
theorem dX8_lowest_31 : decode cX8_lowest 31 = .ok (.goto 4, 3) := by decide +kernel
theorem dX8_lowest_34 : decode cX8_lowest 34 = .ok (.iload_n 1, 1) := by decide +kernel
theorem dX8_lowest_35 : decode cX8_lowest 35 = .ok (.iload_n 3, 1) := by decide +kernel
theorem dX8_lowest_36 : decode cX8_lowest 36 = .ok (.idiv, 1) := by decide +kernel
theorem dX8_lowest_37 : decode cX8_lowest 37 = .ok (.ireturn, 1) := by decide +kernel
theorem dX8_odds_0 : decode cX8_odds 0 = .ok (.aload_n 0, 1) := by decide +kernel
theorem dX8_odds_1 : decode cX8_odds 1 = .ok (.iload_n 1, 1) := by decide +kernel
theorem dX8_odds_2 : decode cX8_odds 2 = .ok (.invokevirtual 201, 3) := by decide +kernel
theorem dX8_odds_5 : decode cX8_odds 5 = .ok (.ifCond .eq 59, 3) := by decide +kernel
theorem dX8_odds_8 : decode cX8_odds 8 = .ok (.iload_n 2, 1) := by decide +kernel
theorem dX8_odds_9 : decode cX8_odds 9 = .ok (.invokestatic 182, 3) := by decide +kernel
theorem dX8_odds_12 : decode cX8_odds 12 = .ok (.ifCond .eq 52, 3) := by decide +kernel
theorem dX8_odds_15 : decode cX8_odds 15 = .ok (.iload_n 3, 1) := by decide +kernel
theorem dX8_odds_16 : decode cX8_odds 16 = .ok (.invokestatic 232, 3) := by decide +kernel
theorem dX8_odds_19 : decode cX8_odds 19 = .ok (.ifCond .eq 45, 3) := by decide +kernel
theorem dX8_odds_22 : decode cX8_odds 22 = .ok (.iload 4, 2) := by decide +kernel
theorem dX8_odds_24 : decode cX8_odds 24 = .ok (.invokestatic 232, 3) := by decide +kernel
theorem dX8_odds_27 : decode cX8_odds 27 = .ok (.ifCond .eq 37, 3) := by decide +kernel
theorem dX8_odds_30 : decode cX8_odds 30 = .ok (.iload 4, 2) := by decide +kernel
theorem dX8_odds_32 : decode cX8_odds 32 = .ok (.iload_n 3, 1) := by decide +kernel
theorem dX8_odds_33 : decode cX8_odds 33 = .ok (.isub, 1) := by decide +kernel
theorem dX8_odds_34 : decode cX8_odds 34 = .ok (.iconst 0, 1) := by decide +kernel
theorem dX8_odds_35 : decode cX8_odds 35 = .ok (.bipush 7, 2) := by decide +kernel
theorem dX8_odds_37 : decode cX8_odds 37 = .ok (.invokestatic 78, 3) := by decide +kernel
theorem dX8_odds_40 : decode cX8_odds 40 = .ok (.ifCond .eq 24, 3) := by decide +kernel
theorem dX8_odds_43 : decode cX8_odds 43 = .ok (.iload 5, 2) := by decide +kernel
theorem dX8_odds_45 : decode cX8_odds 45 = .ok (.iconst 0, 1) := by decide +kernel
theorem dX8_odds_46 : decode cX8_odds 46 = .ok (.bipush 10, 2) := by decide +kernel
theorem dX8_odds_48 : decode cX8_odds 48 = .ok (.invokestatic 78, 3) := by decide +kernel
theorem dX8_odds_51 : decode cX8_odds 51 = .ok (.ifCond .eq 13, 3) := by decide +kernel
theorem dX8_odds_54 : decode cX8_odds 54 = .ok (.iload 6, 2) := by decide +kernel
theorem dX8_odds_56 : decode cX8_odds 56 = .ok (.iconst 0, 1) := by decide +kernel
theorem dX8_odds_57 : decode cX8_odds 57 = .ok (.iconst 1, 1) := by decide +kernel
theorem dX8_odds_58 : decode cX8_odds 58 = .ok (.invokestatic 78, 3) := by decide +kernel
theorem dX8_odds_61 : decode cX8_odds 61 = .ok (.ifCond .ne 5, 3) := by decide +kernel
theorem dX8_odds_64 : decode cX8_odds 64 = .ok (.iconst (-1), 1) := by decide +kernel
theorem dX8_odds_65 : decode cX8_odds 65 = .ok (.ireturn, 1) := by decide +kernel
theorem dX8_odds_66 : decode cX8_odds 66 = .ok (.iconst 1, 1) := by decide +kernel
theorem dX8_odds_67 : decode cX8_odds 67 = .ok (.istore 7, 2) := by decide +kernel
theorem dX8_odds_69 : decode cX8_odds 69 = .ok (.iconst 1, 1) := by decide +kernel
theorem dX8_odds_70 : decode cX8_odds 70 = .ok (.istore 8, 2) := by decide +kernel
theorem dX8_odds_72 : decode cX8_odds 72 = .ok (.iload_n 3, 1) := by decide +kernel
theorem dX8_odds_73 : decode cX8_odds 73 = .ok (.istore 9, 2) := by decide +kernel
theorem dX8_odds_75 : decode cX8_odds 75 = .ok (.iload 9, 2) := by decide +kernel
theorem dX8_odds_77 : decode cX8_odds 77 = .ok (.iload 4, 2) := by decide +kernel
theorem dX8_odds_79 : decode cX8_odds 79 = .ok (.if_icmp .gt 51, 3) := by decide +kernel
theorem dX8_odds_82 : decode cX8_odds 82 = .ok (.aload_n 0, 1) := by decide +kernel
theorem dX8_odds_83 : decode cX8_odds 83 = .ok (.iload_n 1, 1) := by decide +kernel
theorem dX8_odds_84 : decode cX8_odds 84 = .ok (.iload_n 2, 1) := by decide +kernel
theorem dX8_odds_85 : decode cX8_odds 85 = .ok (.iload 9, 2) := by decide +kernel
theorem dX8_odds_87 : decode cX8_odds 87 = .ok (.invokevirtual 214, 3) := by decide +kernel
theorem dX8_odds_90 : decode cX8_odds 90 = .ok (.istore 10, 2) := by decide +kernel
theorem dX8_odds_92 : decode cX8_odds 92 = .ok (.iload 7, 2) := by decide +kernel
theorem dX8_odds_94 : decode cX8_odds 94 = .ok (.iload 10, 2) := by decide +kernel
theorem dX8_odds_96 : decode cX8_odds 96 = .ok (.ifCond .eq 8, 3) := by decide +kernel
theorem dX8_odds_99 : decode cX8_odds 99 = .ok (.bipush 10, 2) := by decide +kernel
theorem dX8_odds_101 : decode cX8_odds 101 = .ok (.goto 4, 3) := by decide +kernel
theorem dX8_odds_104 : decode cX8_odds 104 = .ok (.iconst 1, 1) := by decide +kernel
theorem dX8_odds_105 : decode cX8_odds 105 = .ok (.imul, 1) := by decide +kernel
theorem dX8_odds_106 : decode cX8_odds 106 = .ok (.istore 7, 2) := by decide +kernel
theorem dX8_odds_108 : decode cX8_odds 108 = .ok (.iload 8, 2) := by decide +kernel
theorem dX8_odds_110 : decode cX8_odds 110 = .ok (.iload 10, 2) := by decide +kernel
theorem dX8_odds_112 : decode cX8_odds 112 = .ok (.ifCond .eq 8, 3) := by decide +kernel
theorem dX8_odds_115 : decode cX8_odds 115 = .ok (.iload 5, 2) := by decide +kernel
theorem dX8_odds_117 : decode cX8_odds 117 = .ok (.goto 4, 3) := by decide +kernel
theorem dX8_odds_120 : decode cX8_odds 120 = .ok (.iconst 1, 1) := by decide +kernel
theorem dX8_odds_121 : decode cX8_odds 121 = .ok (.imul, 1) := by decide +kernel
theorem dX8_odds_122 : decode cX8_odds 122 = .ok (.istore 8, 2) := by decide +kernel
theorem dX8_odds_124 : decode cX8_odds 124 = .ok (.iinc 9 1, 3) := by decide +kernel
theorem dX8_odds_127 : decode cX8_odds 127 = .ok (.goto (-52), 3) := by decide +kernel
theorem dX8_odds_130 : decode cX8_odds 130 = .ok (.iload 7, 2) := by decide +kernel
theorem dX8_odds_132 : decode cX8_odds 132 = .ok (.iload 8, 2) := by decide +kernel
theorem dX8_odds_134 : decode cX8_odds 134 = .ok (.isub, 1) := by decide +kernel
theorem dX8_odds_135 : decode cX8_odds 135 = .ok (.iload 7, 2) := by decide +kernel
theorem dX8_odds_137 : decode cX8_odds 137 = .ok (.iload 6, 2) := by decide +kernel
theorem dX8_odds_139 : decode cX8_odds 139 = .ok (.invokestatic 242, 3) := by decide +kernel
theorem dX8_odds_142 : decode cX8_odds 142 = .ok (.ireturn, 1) := by decide +kernel
theorem dX8_faced_0 : decode cX8_faced 0 = .ok (.iload_n 1, 1) := by decide +kernel
theorem dX8_faced_1 : decode cX8_faced 1 = .ok (.invokestatic 232, 3) := by decide +kernel
theorem dX8_faced_4 : decode cX8_faced 4 = .ok (.ifCond .eq 12, 3) := by decide +kernel
theorem dX8_faced_7 : decode cX8_faced 7 = .ok (.iload_n 2, 1) := by decide +kernel
theorem dX8_faced_8 : decode cX8_faced 8 = .ok (.iconst 0, 1) := by decide +kernel
theorem dX8_faced_9 : decode cX8_faced 9 = .ok (.iconst 1, 1) := by decide +kernel
theorem dX8_faced_10 : decode cX8_faced 10 = .ok (.invokestatic 78, 3) := by decide +kernel
theorem dX8_faced_13 : decode cX8_faced 13 = .ok (.ifCond .ne 5, 3) := by decide +kernel
theorem dX8_faced_16 : decode cX8_faced 16 = .ok (.iconst (-1), 1) := by decide +kernel
theorem dX8_faced_17 : decode cX8_faced 17 = .ok (.ireturn, 1) := by decide +kernel
theorem dX8_faced_18 : decode cX8_faced 18 = .ok (.aload_n 0, 1) := by decide +kernel
theorem dX8_faced_19 : decode cX8_faced 19 = .ok (.getfield 162, 3) := by decide +kernel
theorem dX8_faced_22 : decode cX8_faced 22 = .ok (.bipush 6, 2) := by decide +kernel
theorem dX8_faced_24 : decode cX8_faced 24 = .ok (.if_icmp .ne 6, 3) := by decide +kernel
theorem dX8_faced_27 : decode cX8_faced 27 = .ok (.bipush (-3), 2) := by decide +kernel
theorem dX8_faced_29 : decode cX8_faced 29 = .ok (.ireturn, 1) := by decide +kernel
theorem dX8_faced_30 : decode cX8_faced 30 = .ok (.aload_n 0, 1) := by decide +kernel
theorem dX8_faced_31 : decode cX8_faced 31 = .ok (.getfield 41, 3) := by decide +kernel
theorem dX8_faced_34 : decode cX8_faced 34 = .ok (.iconst 2, 1) := by decide +kernel
theorem dX8_faced_35 : decode cX8_faced 35 = .ok (.aload_n 0, 1) := by decide +kernel
theorem dX8_faced_36 : decode cX8_faced 36 = .ok (.getfield 162, 3) := by decide +kernel
theorem dX8_faced_39 : decode cX8_faced 39 = .ok (.imul, 1) := by decide +kernel
theorem dX8_faced_40 : decode cX8_faced 40 = .ok (.iload_n 1, 1) := by decide +kernel
theorem dX8_faced_41 : decode cX8_faced 41 = .ok (.iastore, 1) := by decide +kernel
theorem dX8_faced_42 : decode cX8_faced 42 = .ok (.aload_n 0, 1) := by decide +kernel
theorem dX8_faced_43 : decode cX8_faced 43 = .ok (.getfield 41, 3) := by decide +kernel
theorem dX8_faced_46 : decode cX8_faced 46 = .ok (.iconst 2, 1) := by decide +kernel
theorem dX8_faced_47 : decode cX8_faced 47 = .ok (.aload_n 0, 1) := by decide +kernel
theorem dX8_faced_48 : decode cX8_faced 48 = .ok (.getfield 162, 3) := by decide +kernel
theorem dX8_faced_51 : decode cX8_faced 51 = .ok (.imul, 1) := by decide +kernel
theorem dX8_faced_52 : decode cX8_faced 52 = .ok (.iconst 1, 1) := by decide +kernel
theorem dX8_faced_53 : decode cX8_faced 53 = .ok (.iadd, 1) := by decide +kernel
theorem dX8_faced_54 : decode cX8_faced 54 = .ok (.iload_n 2, 1) := by decide +kernel
theorem dX8_faced_55 : decode cX8_faced 55 = .ok (.iastore, 1) := by decide +kernel
theorem dX8_faced_56 : decode cX8_faced 56 = .ok (.aload_n 0, 1) := by decide +kernel
theorem dX8_faced_57 : decode cX8_faced 57 = .ok (.dup, 1) := by decide +kernel
theorem dX8_faced_58 : decode cX8_faced 58 = .ok (.getfield 162, 3) := by decide +kernel
theorem dX8_faced_61 : decode cX8_faced 61 = .ok (.iconst 1, 1) := by decide +kernel
theorem dX8_faced_62 : decode cX8_faced 62 = .ok (.iadd, 1) := by decide +kernel
theorem dX8_faced_63 : decode cX8_faced 63 = .ok (.putfield 162, 3) := by decide +kernel
theorem dX8_faced_66 : decode cX8_faced 66 = .ok (.aload_n 0, 1) := by decide +kernel
theorem dX8_faced_67 : decode cX8_faced 67 = .ok (.getfield 162, 3) := by decide +kernel
theorem dX8_faced_70 : decode cX8_faced 70 = .ok (.ireturn, 1) := by decide +kernel
theorem dX8_isLaw_0 : decode cX8_isLaw 0 = .ok (.iconst 1, 1) := by decide +kernel
theorem dX8_isLaw_1 : decode cX8_isLaw 1 = .ok (.istore_n 2, 1) := by decide +kernel
theorem dX8_isLaw_2 : decode cX8_isLaw 2 = .ok (.iconst 0, 1) := by decide +kernel
theorem dX8_isLaw_3 : decode cX8_isLaw 3 = .ok (.istore_n 3, 1) := by decide +kernel
theorem dX8_isLaw_4 : decode cX8_isLaw 4 = .ok (.iload_n 3, 1) := by decide +kernel
theorem dX8_isLaw_5 : decode cX8_isLaw 5 = .ok (.aload_n 0, 1) := by decide +kernel
theorem dX8_isLaw_6 : decode cX8_isLaw 6 = .ok (.getfield 162, 3) := by decide +kernel
theorem dX8_isLaw_9 : decode cX8_isLaw 9 = .ok (.if_icmp .ge 51, 3) := by decide +kernel
theorem dX8_isLaw_12 : decode cX8_isLaw 12 = .ok (.iload_n 2, 1) := by decide +kernel
theorem dX8_isLaw_13 : decode cX8_isLaw 13 = .ok (.ifCond .eq 39, 3) := by decide +kernel
theorem dX8_isLaw_16 : decode cX8_isLaw 16 = .ok (.iload_n 1, 1) := by decide +kernel
theorem dX8_isLaw_17 : decode cX8_isLaw 17 = .ok (.bipush 10, 2) := by decide +kernel
theorem dX8_isLaw_19 : decode cX8_isLaw 19 = .ok (.idiv, 1) := by decide +kernel
theorem dX8_isLaw_20 : decode cX8_isLaw 20 = .ok (.iload_n 1, 1) := by decide +kernel
theorem dX8_isLaw_21 : decode cX8_isLaw 21 = .ok (.bipush 10, 2) := by decide +kernel
theorem dX8_isLaw_23 : decode cX8_isLaw 23 = .ok (.irem, 1) := by decide +kernel
theorem dX8_isLaw_24 : decode cX8_isLaw 24 = .ok (.aload_n 0, 1) := by decide +kernel
theorem dX8_isLaw_25 : decode cX8_isLaw 25 = .ok (.getfield 41, 3) := by decide +kernel
theorem dX8_isLaw_28 : decode cX8_isLaw 28 = .ok (.iconst 2, 1) := by decide +kernel
theorem dX8_isLaw_29 : decode cX8_isLaw 29 = .ok (.iload_n 3, 1) := by decide +kernel
theorem dX8_isLaw_30 : decode cX8_isLaw 30 = .ok (.imul, 1) := by decide +kernel
theorem dX8_isLaw_31 : decode cX8_isLaw 31 = .ok (.iaload, 1) := by decide +kernel
theorem dX8_isLaw_32 : decode cX8_isLaw 32 = .ok (.invokestatic 175, 3) := by decide +kernel
theorem dX8_isLaw_35 : decode cX8_isLaw 35 = .ok (.aload_n 0, 1) := by decide +kernel
theorem dX8_isLaw_36 : decode cX8_isLaw 36 = .ok (.getfield 41, 3) := by decide +kernel
theorem dX8_isLaw_39 : decode cX8_isLaw 39 = .ok (.iconst 2, 1) := by decide +kernel
theorem dX8_isLaw_40 : decode cX8_isLaw 40 = .ok (.iload_n 3, 1) := by decide +kernel
theorem dX8_isLaw_41 : decode cX8_isLaw 41 = .ok (.imul, 1) := by decide +kernel
theorem dX8_isLaw_42 : decode cX8_isLaw 42 = .ok (.iconst 1, 1) := by decide +kernel
theorem dX8_isLaw_43 : decode cX8_isLaw 43 = .ok (.iadd, 1) := by decide +kernel
theorem dX8_isLaw_44 : decode cX8_isLaw 44 = .ok (.iaload, 1) := by decide +kernel
theorem dX8_isLaw_45 : decode cX8_isLaw 45 = .ok (.if_icmp .ne 7, 3) := by decide +kernel
theorem dX8_isLaw_48 : decode cX8_isLaw 48 = .ok (.iconst 1, 1) := by decide +kernel
theorem dX8_isLaw_49 : decode cX8_isLaw 49 = .ok (.goto 4, 3) := by decide +kernel
theorem dX8_isLaw_52 : decode cX8_isLaw 52 = .ok (.iconst 0, 1) := by decide +kernel
theorem dX8_isLaw_53 : decode cX8_isLaw 53 = .ok (.istore_n 2, 1) := by decide +kernel
theorem dX8_isLaw_54 : decode cX8_isLaw 54 = .ok (.iinc 3 1, 3) := by decide +kernel
theorem dX8_isLaw_57 : decode cX8_isLaw 57 = .ok (.goto (-53), 3) := by decide +kernel
theorem dX8_isLaw_60 : decode cX8_isLaw 60 = .ok (.iload_n 2, 1) := by decide +kernel
theorem dX8_isLaw_61 : decode cX8_isLaw 61 = .ok (.ireturn, 1) := by decide +kernel
theorem dX8_laws_0 : decode cX8_laws 0 = .ok (.iload_n 1, 1) := by decide +kernel
theorem dX8_laws_1 : decode cX8_laws 1 = .ok (.iconst 0, 1) := by decide +kernel
theorem dX8_laws_2 : decode cX8_laws 2 = .ok (.iconst 1, 1) := by decide +kernel
theorem dX8_laws_3 : decode cX8_laws 3 = .ok (.invokestatic 78, 3) := by decide +kernel
theorem dX8_laws_6 : decode cX8_laws 6 = .ok (.ifCond .ne 5, 3) := by decide +kernel
theorem dX8_laws_9 : decode cX8_laws 9 = .ok (.iconst (-1), 1) := by decide +kernel
theorem dX8_laws_10 : decode cX8_laws 10 = .ok (.ireturn, 1) := by decide +kernel
theorem dX8_laws_11 : decode cX8_laws 11 = .ok (.iconst 0, 1) := by decide +kernel
theorem dX8_laws_12 : decode cX8_laws 12 = .ok (.istore_n 2, 1) := by decide +kernel
theorem dX8_laws_13 : decode cX8_laws 13 = .ok (.bipush (-9), 2) := by decide +kernel
theorem dX8_laws_15 : decode cX8_laws 15 = .ok (.istore_n 3, 1) := by decide +kernel
theorem dX8_laws_16 : decode cX8_laws 16 = .ok (.iconst 0, 1) := by decide +kernel
theorem dX8_laws_17 : decode cX8_laws 17 = .ok (.istore 4, 2) := by decide +kernel
theorem dX8_laws_19 : decode cX8_laws 19 = .ok (.iload 4, 2) := by decide +kernel
theorem dX8_laws_21 : decode cX8_laws 21 = .ok (.bipush 20, 2) := by decide +kernel
theorem dX8_laws_23 : decode cX8_laws 23 = .ok (.if_icmp .ge 32, 3) := by decide +kernel
theorem dX8_laws_26 : decode cX8_laws 26 = .ok (.aload_n 0, 1) := by decide +kernel
theorem dX8_laws_27 : decode cX8_laws 27 = .ok (.iload 4, 2) := by decide +kernel
theorem dX8_laws_29 : decode cX8_laws 29 = .ok (.invokevirtual 245, 3) := by decide +kernel
theorem dX8_laws_32 : decode cX8_laws 32 = .ok (.ifCond .eq 17, 3) := by decide +kernel
theorem dX8_laws_35 : decode cX8_laws 35 = .ok (.iload_n 2, 1) := by decide +kernel
theorem dX8_laws_36 : decode cX8_laws 36 = .ok (.ifCond .ne 8, 3) := by decide +kernel
theorem dX8_laws_39 : decode cX8_laws 39 = .ok (.iload 4, 2) := by decide +kernel
theorem dX8_laws_41 : decode cX8_laws 41 = .ok (.goto 4, 3) := by decide +kernel
theorem dX8_laws_44 : decode cX8_laws 44 = .ok (.iload_n 3, 1) := by decide +kernel
theorem dX8_laws_45 : decode cX8_laws 45 = .ok (.istore_n 3, 1) := by decide +kernel
theorem dX8_laws_46 : decode cX8_laws 46 = .ok (.iinc 2 1, 3) := by decide +kernel
theorem dX8_laws_49 : decode cX8_laws 49 = .ok (.iinc 4 1, 3) := by decide +kernel
theorem dX8_laws_52 : decode cX8_laws 52 = .ok (.goto (-33), 3) := by decide +kernel
theorem dX8_laws_55 : decode cX8_laws 55 = .ok (.iload_n 1, 1) := by decide +kernel
theorem dX8_laws_56 : decode cX8_laws 56 = .ok (.ifCond .ne 7, 3) := by decide +kernel
theorem dX8_laws_59 : decode cX8_laws 59 = .ok (.iload_n 2, 1) := by decide +kernel
theorem dX8_laws_60 : decode cX8_laws 60 = .ok (.goto 4, 3) := by decide +kernel
theorem dX8_laws_63 : decode cX8_laws 63 = .ok (.iload_n 3, 1) := by decide +kernel
theorem dX8_laws_64 : decode cX8_laws 64 = .ok (.ireturn, 1) := by decide +kernel
theorem dX8_tryNext_0 : decode cX8_tryNext 0 = .ok (.aload_n 0, 1) := by decide +kernel
theorem dX8_tryNext_1 : decode cX8_tryNext 1 = .ok (.iconst 0, 1) := by decide +kernel
theorem dX8_tryNext_2 : decode cX8_tryNext 2 = .ok (.invokevirtual 248, 3) := by decide +kernel
theorem dX8_tryNext_5 : decode cX8_tryNext 5 = .ok (.istore_n 1, 1) := by decide +kernel
theorem dX8_tryNext_6 : decode cX8_tryNext 6 = .ok (.bipush (-9), 2) := by decide +kernel
theorem dX8_tryNext_8 : decode cX8_tryNext 8 = .ok (.istore_n 2, 1) := by decide +kernel
theorem dX8_tryNext_9 : decode cX8_tryNext 9 = .ok (.iload_n 1, 1) := by decide +kernel
theorem dX8_tryNext_10 : decode cX8_tryNext 10 = .ok (.istore_n 3, 1) := by decide +kernel
theorem dX8_tryNext_11 : decode cX8_tryNext 11 = .ok (.iconst 0, 1) := by decide +kernel
theorem dX8_tryNext_12 : decode cX8_tryNext 12 = .ok (.istore 4, 2) := by decide +kernel
theorem dX8_tryNext_14 : decode cX8_tryNext 14 = .ok (.iload 4, 2) := by decide +kernel
theorem dX8_tryNext_16 : decode cX8_tryNext 16 = .ok (.bipush 30, 2) := by decide +kernel
theorem dX8_tryNext_18 : decode cX8_tryNext 18 = .ok (.if_icmp .ge 107, 3) := by decide +kernel
theorem dX8_tryNext_21 : decode cX8_tryNext 21 = .ok (.iconst 0, 1) := by decide +kernel
theorem dX8_tryNext_22 : decode cX8_tryNext 22 = .ok (.istore 5, 2) := by decide +kernel
theorem dX8_tryNext_24 : decode cX8_tryNext 24 = .ok (.iconst 0, 1) := by decide +kernel
theorem dX8_tryNext_25 : decode cX8_tryNext 25 = .ok (.istore 6, 2) := by decide +kernel
theorem dX8_tryNext_27 : decode cX8_tryNext 27 = .ok (.iload 6, 2) := by decide +kernel
theorem dX8_tryNext_29 : decode cX8_tryNext 29 = .ok (.bipush 20, 2) := by decide +kernel
theorem dX8_tryNext_31 : decode cX8_tryNext 31 = .ok (.if_icmp .ge 42, 3) := by decide +kernel
theorem dX8_tryNext_34 : decode cX8_tryNext 34 = .ok (.iload 5, 2) := by decide +kernel
theorem dX8_tryNext_36 : decode cX8_tryNext 36 = .ok (.aload_n 0, 1) := by decide +kernel
theorem dX8_tryNext_37 : decode cX8_tryNext 37 = .ok (.iload 6, 2) := by decide +kernel
theorem dX8_tryNext_39 : decode cX8_tryNext 39 = .ok (.invokevirtual 245, 3) := by decide +kernel
theorem dX8_tryNext_42 : decode cX8_tryNext 42 = .ok (.ifCond .eq 21, 3) := by decide +kernel
theorem dX8_tryNext_45 : decode cX8_tryNext 45 = .ok (.iload 6, 2) := by decide +kernel
theorem dX8_tryNext_47 : decode cX8_tryNext 47 = .ok (.bipush 10, 2) := by decide +kernel
theorem dX8_tryNext_49 : decode cX8_tryNext 49 = .ok (.idiv, 1) := by decide +kernel
theorem dX8_tryNext_50 : decode cX8_tryNext 50 = .ok (.iload 6, 2) := by decide +kernel
theorem dX8_tryNext_52 : decode cX8_tryNext 52 = .ok (.bipush 10, 2) := by decide +kernel
theorem dX8_tryNext_54 : decode cX8_tryNext 54 = .ok (.irem, 1) := by decide +kernel
theorem dX8_tryNext_55 : decode cX8_tryNext 55 = .ok (.iload 4, 2) := by decide +kernel
theorem dX8_tryNext_57 : decode cX8_tryNext 57 = .ok (.invokestatic 175, 3) := by decide +kernel
theorem dX8_tryNext_60 : decode cX8_tryNext 60 = .ok (.goto 4, 3) := by decide +kernel
theorem dX8_tryNext_63 : decode cX8_tryNext 63 = .ok (.iconst 0, 1) := by decide +kernel
theorem dX8_tryNext_64 : decode cX8_tryNext 64 = .ok (.iadd, 1) := by decide +kernel
theorem dX8_tryNext_65 : decode cX8_tryNext 65 = .ok (.istore 5, 2) := by decide +kernel
theorem dX8_tryNext_67 : decode cX8_tryNext 67 = .ok (.iinc 6 1, 3) := by decide +kernel
theorem dX8_tryNext_70 : decode cX8_tryNext 70 = .ok (.goto (-43), 3) := by decide +kernel
theorem dX8_tryNext_73 : decode cX8_tryNext 73 = .ok (.iload 5, 2) := by decide +kernel
theorem dX8_tryNext_75 : decode cX8_tryNext 75 = .ok (.iload_n 1, 1) := by decide +kernel
theorem dX8_tryNext_76 : decode cX8_tryNext 76 = .ok (.iload 5, 2) := by decide +kernel
theorem dX8_tryNext_78 : decode cX8_tryNext 78 = .ok (.isub, 1) := by decide +kernel
theorem dX8_tryNext_79 : decode cX8_tryNext 79 = .ok (.if_icmp .le 8, 3) := by decide +kernel
theorem dX8_tryNext_82 : decode cX8_tryNext 82 = .ok (.iload 5, 2) := by decide +kernel
theorem dX8_tryNext_84 : decode cX8_tryNext 84 = .ok (.goto 7, 3) := by decide +kernel
theorem dX8_tryNext_87 : decode cX8_tryNext 87 = .ok (.iload_n 1, 1) := by decide +kernel
theorem dX8_tryNext_88 : decode cX8_tryNext 88 = .ok (.iload 5, 2) := by decide +kernel
theorem dX8_tryNext_90 : decode cX8_tryNext 90 = .ok (.isub, 1) := by decide +kernel
theorem dX8_tryNext_91 : decode cX8_tryNext 91 = .ok (.istore 6, 2) := by decide +kernel
theorem dX8_tryNext_93 : decode cX8_tryNext 93 = .ok (.iload 6, 2) := by decide +kernel
theorem dX8_tryNext_95 : decode cX8_tryNext 95 = .ok (.iload_n 3, 1) := by decide +kernel
theorem dX8_tryNext_96 : decode cX8_tryNext 96 = .ok (.if_icmp .ge 8, 3) := by decide +kernel
theorem dX8_tryNext_99 : decode cX8_tryNext 99 = .ok (.iload 4, 2) := by decide +kernel
theorem dX8_tryNext_101 : decode cX8_tryNext 101 = .ok (.goto 4, 3) := by decide +kernel
theorem dX8_tryNext_104 : decode cX8_tryNext 104 = .ok (.iload_n 2, 1) := by decide +kernel
theorem dX8_tryNext_105 : decode cX8_tryNext 105 = .ok (.istore_n 2, 1) := by decide +kernel
theorem dX8_tryNext_106 : decode cX8_tryNext 106 = .ok (.iload 6, 2) := by decide +kernel
theorem dX8_tryNext_108 : decode cX8_tryNext 108 = .ok (.iload_n 3, 1) := by decide +kernel
theorem dX8_tryNext_109 : decode cX8_tryNext 109 = .ok (.if_icmp .ge 8, 3) := by decide +kernel
theorem dX8_tryNext_112 : decode cX8_tryNext 112 = .ok (.iload 6, 2) := by decide +kernel
theorem dX8_tryNext_114 : decode cX8_tryNext 114 = .ok (.goto 4, 3) := by decide +kernel
theorem dX8_tryNext_117 : decode cX8_tryNext 117 = .ok (.iload_n 3, 1) := by decide +kernel
theorem dX8_tryNext_118 : decode cX8_tryNext 118 = .ok (.istore_n 3, 1) := by decide +kernel
theorem dX8_tryNext_119 : decode cX8_tryNext 119 = .ok (.iinc 4 1, 3) := by decide +kernel
theorem dX8_tryNext_122 : decode cX8_tryNext 122 = .ok (.goto (-108), 3) := by decide +kernel
theorem dX8_tryNext_125 : decode cX8_tryNext 125 = .ok (.iload_n 2, 1) := by decide +kernel
theorem dX8_tryNext_126 : decode cX8_tryNext 126 = .ok (.ireturn, 1) := by decide +kernel
theorem dX8_met_0 : decode cX8_met 0 = .ok (.iload_n 1, 1) := by decide +kernel
theorem dX8_met_1 : decode cX8_met 1 = .ok (.invokestatic 182, 3) := by decide +kernel
theorem dX8_met_4 : decode cX8_met 4 = .ok (.ifCond .eq 10, 3) := by decide +kernel
theorem dX8_met_7 : decode cX8_met 7 = .ok (.iload_n 2, 1) := by decide +kernel
theorem dX8_met_8 : decode cX8_met 8 = .ok (.invokestatic 232, 3) := by decide +kernel
theorem dX8_met_11 : decode cX8_met 11 = .ok (.ifCond .ne 5, 3) := by decide +kernel
theorem dX8_met_14 : decode cX8_met 14 = .ok (.iconst (-1), 1) := by decide +kernel
theorem dX8_met_15 : decode cX8_met 15 = .ok (.ireturn, 1) := by decide +kernel
theorem dX8_met_16 : decode cX8_met 16 = .ok (.aload_n 0, 1) := by decide +kernel
theorem dX8_met_17 : decode cX8_met 17 = .ok (.getfield 165, 3) := by decide +kernel
theorem dX8_met_20 : decode cX8_met 20 = .ok (.bipush 6, 2) := by decide +kernel
theorem dX8_met_22 : decode cX8_met 22 = .ok (.if_icmp .ne 6, 3) := by decide +kernel
theorem dX8_met_25 : decode cX8_met 25 = .ok (.bipush (-3), 2) := by decide +kernel
theorem dX8_met_27 : decode cX8_met 27 = .ok (.ireturn, 1) := by decide +kernel
theorem dX8_met_28 : decode cX8_met 28 = .ok (.aload_n 0, 1) := by decide +kernel
theorem dX8_met_29 : decode cX8_met 29 = .ok (.getfield 44, 3) := by decide +kernel
theorem dX8_met_32 : decode cX8_met 32 = .ok (.iconst 2, 1) := by decide +kernel
theorem dX8_met_33 : decode cX8_met 33 = .ok (.aload_n 0, 1) := by decide +kernel
theorem dX8_met_34 : decode cX8_met 34 = .ok (.getfield 165, 3) := by decide +kernel
theorem dX8_met_37 : decode cX8_met 37 = .ok (.imul, 1) := by decide +kernel
theorem dX8_met_38 : decode cX8_met 38 = .ok (.iload_n 1, 1) := by decide +kernel
theorem dX8_met_39 : decode cX8_met 39 = .ok (.iastore, 1) := by decide +kernel
theorem dX8_met_40 : decode cX8_met 40 = .ok (.aload_n 0, 1) := by decide +kernel
theorem dX8_met_41 : decode cX8_met 41 = .ok (.getfield 44, 3) := by decide +kernel
theorem dX8_met_44 : decode cX8_met 44 = .ok (.iconst 2, 1) := by decide +kernel
theorem dX8_met_45 : decode cX8_met 45 = .ok (.aload_n 0, 1) := by decide +kernel
theorem dX8_met_46 : decode cX8_met 46 = .ok (.getfield 165, 3) := by decide +kernel
theorem dX8_met_49 : decode cX8_met 49 = .ok (.imul, 1) := by decide +kernel
theorem dX8_met_50 : decode cX8_met 50 = .ok (.iconst 1, 1) := by decide +kernel
theorem dX8_met_51 : decode cX8_met 51 = .ok (.iadd, 1) := by decide +kernel
theorem dX8_met_52 : decode cX8_met 52 = .ok (.iload_n 2, 1) := by decide +kernel
theorem dX8_met_53 : decode cX8_met 53 = .ok (.iastore, 1) := by decide +kernel
theorem dX8_met_54 : decode cX8_met 54 = .ok (.aload_n 0, 1) := by decide +kernel
theorem dX8_met_55 : decode cX8_met 55 = .ok (.dup, 1) := by decide +kernel
theorem dX8_met_56 : decode cX8_met 56 = .ok (.getfield 165, 3) := by decide +kernel
theorem dX8_met_59 : decode cX8_met 59 = .ok (.iconst 1, 1) := by decide +kernel
theorem dX8_met_60 : decode cX8_met 60 = .ok (.iadd, 1) := by decide +kernel
theorem dX8_met_61 : decode cX8_met 61 = .ok (.putfield 165, 3) := by decide +kernel
theorem dX8_met_64 : decode cX8_met 64 = .ok (.aload_n 0, 1) := by decide +kernel
theorem dX8_met_65 : decode cX8_met 65 = .ok (.getfield 165, 3) := by decide +kernel
theorem dX8_met_68 : decode cX8_met 68 = .ok (.ireturn, 1) := by decide +kernel
theorem dX8_wrong_0 : decode cX8_wrong 0 = .ok (.iconst 0, 1) := by decide +kernel
theorem dX8_wrong_1 : decode cX8_wrong 1 = .ok (.istore_n 2, 1) := by decide +kernel
theorem dX8_wrong_2 : decode cX8_wrong 2 = .ok (.iconst 0, 1) := by decide +kernel
theorem dX8_wrong_3 : decode cX8_wrong 3 = .ok (.istore_n 3, 1) := by decide +kernel
theorem dX8_wrong_4 : decode cX8_wrong 4 = .ok (.iload_n 3, 1) := by decide +kernel
theorem dX8_wrong_5 : decode cX8_wrong 5 = .ok (.aload_n 0, 1) := by decide +kernel
theorem dX8_wrong_6 : decode cX8_wrong 6 = .ok (.getfield 165, 3) := by decide +kernel
theorem dX8_wrong_9 : decode cX8_wrong 9 = .ok (.if_icmp .ge 50, 3) := by decide +kernel
theorem dX8_wrong_12 : decode cX8_wrong 12 = .ok (.iload_n 2, 1) := by decide +kernel
theorem dX8_wrong_13 : decode cX8_wrong 13 = .ok (.iload_n 1, 1) := by decide +kernel
theorem dX8_wrong_14 : decode cX8_wrong 14 = .ok (.bipush 7, 2) := by decide +kernel
theorem dX8_wrong_16 : decode cX8_wrong 16 = .ok (.idiv, 1) := by decide +kernel
theorem dX8_wrong_17 : decode cX8_wrong 17 = .ok (.aload_n 0, 1) := by decide +kernel
theorem dX8_wrong_18 : decode cX8_wrong 18 = .ok (.getfield 44, 3) := by decide +kernel
theorem dX8_wrong_21 : decode cX8_wrong 21 = .ok (.iconst 2, 1) := by decide +kernel
theorem dX8_wrong_22 : decode cX8_wrong 22 = .ok (.iload_n 3, 1) := by decide +kernel
theorem dX8_wrong_23 : decode cX8_wrong 23 = .ok (.imul, 1) := by decide +kernel
theorem dX8_wrong_24 : decode cX8_wrong 24 = .ok (.iconst 1, 1) := by decide +kernel
theorem dX8_wrong_25 : decode cX8_wrong 25 = .ok (.iadd, 1) := by decide +kernel
theorem dX8_wrong_26 : decode cX8_wrong 26 = .ok (.iaload, 1) := by decide +kernel
theorem dX8_wrong_27 : decode cX8_wrong 27 = .ok (.iload_n 1, 1) := by decide +kernel
theorem dX8_wrong_28 : decode cX8_wrong 28 = .ok (.bipush 7, 2) := by decide +kernel
theorem dX8_wrong_30 : decode cX8_wrong 30 = .ok (.irem, 1) := by decide +kernel
theorem dX8_wrong_31 : decode cX8_wrong 31 = .ok (.iconst 3, 1) := by decide +kernel
theorem dX8_wrong_32 : decode cX8_wrong 32 = .ok (.isub, 1) := by decide +kernel
theorem dX8_wrong_33 : decode cX8_wrong 33 = .ok (.imul, 1) := by decide +kernel
theorem dX8_wrong_34 : decode cX8_wrong 34 = .ok (.iadd, 1) := by decide +kernel
theorem dX8_wrong_35 : decode cX8_wrong 35 = .ok (.aload_n 0, 1) := by decide +kernel
theorem dX8_wrong_36 : decode cX8_wrong 36 = .ok (.getfield 44, 3) := by decide +kernel
theorem dX8_wrong_39 : decode cX8_wrong 39 = .ok (.iconst 2, 1) := by decide +kernel
theorem dX8_wrong_40 : decode cX8_wrong 40 = .ok (.iload_n 3, 1) := by decide +kernel
theorem dX8_wrong_41 : decode cX8_wrong 41 = .ok (.imul, 1) := by decide +kernel
theorem dX8_wrong_42 : decode cX8_wrong 42 = .ok (.iaload, 1) := by decide +kernel
theorem dX8_wrong_43 : decode cX8_wrong 43 = .ok (.if_icmp .ne 7, 3) := by decide +kernel
theorem dX8_wrong_46 : decode cX8_wrong 46 = .ok (.iconst 0, 1) := by decide +kernel
theorem dX8_wrong_47 : decode cX8_wrong 47 = .ok (.goto 4, 3) := by decide +kernel
theorem dX8_wrong_50 : decode cX8_wrong 50 = .ok (.iconst 1, 1) := by decide +kernel
theorem dX8_wrong_51 : decode cX8_wrong 51 = .ok (.iadd, 1) := by decide +kernel
theorem dX8_wrong_52 : decode cX8_wrong 52 = .ok (.istore_n 2, 1) := by decide +kernel
theorem dX8_wrong_53 : decode cX8_wrong 53 = .ok (.iinc 3 1, 3) := by decide +kernel
theorem dX8_wrong_56 : decode cX8_wrong 56 = .ok (.goto (-52), 3) := by decide +kernel
theorem dX8_wrong_59 : decode cX8_wrong 59 = .ok (.iload_n 2, 1) := by decide +kernel
theorem dX8_wrong_60 : decode cX8_wrong 60 = .ok (.ireturn, 1) := by decide +kernel
theorem dX8_told_0 : decode cX8_told 0 = .ok (.bipush 10, 2) := by decide +kernel
theorem dX8_told_2 : decode cX8_told 2 = .ok (.iload_n 0, 1) := by decide +kernel
theorem dX8_told_3 : decode cX8_told 3 = .ok (.bipush 7, 2) := by decide +kernel
theorem dX8_told_5 : decode cX8_told 5 = .ok (.idiv, 1) := by decide +kernel
theorem dX8_told_6 : decode cX8_told 6 = .ok (.imul, 1) := by decide +kernel
theorem dX8_told_7 : decode cX8_told 7 = .ok (.iload_n 0, 1) := by decide +kernel
theorem dX8_told_8 : decode cX8_told 8 = .ok (.bipush 7, 2) := by decide +kernel
theorem dX8_told_10 : decode cX8_told 10 = .ok (.irem, 1) := by decide +kernel
theorem dX8_told_11 : decode cX8_told 11 = .ok (.iadd, 1) := by decide +kernel
theorem dX8_told_12 : decode cX8_told 12 = .ok (.ireturn, 1) := by decide +kernel
theorem dX8_ways_0 : decode cX8_ways 0 = .ok (.iload_n 1, 1) := by decide +kernel
theorem dX8_ways_1 : decode cX8_ways 1 = .ok (.iconst 0, 1) := by decide +kernel
theorem dX8_ways_2 : decode cX8_ways 2 = .ok (.iconst 1, 1) := by decide +kernel
theorem dX8_ways_3 : decode cX8_ways 3 = .ok (.invokestatic 78, 3) := by decide +kernel
theorem dX8_ways_6 : decode cX8_ways 6 = .ok (.ifCond .ne 5, 3) := by decide +kernel
theorem dX8_ways_9 : decode cX8_ways 9 = .ok (.iconst (-1), 1) := by decide +kernel
theorem dX8_ways_10 : decode cX8_ways 10 = .ok (.ireturn, 1) := by decide +kernel
theorem dX8_ways_11 : decode cX8_ways 11 = .ok (.iconst 0, 1) := by decide +kernel
theorem dX8_ways_12 : decode cX8_ways 12 = .ok (.istore_n 2, 1) := by decide +kernel
theorem dX8_ways_13 : decode cX8_ways 13 = .ok (.bipush (-9), 2) := by decide +kernel
theorem dX8_ways_15 : decode cX8_ways 15 = .ok (.istore_n 3, 1) := by decide +kernel
theorem dX8_ways_16 : decode cX8_ways 16 = .ok (.iconst 0, 1) := by decide +kernel
theorem dX8_ways_17 : decode cX8_ways 17 = .ok (.istore 4, 2) := by decide +kernel
theorem dX8_ways_19 : decode cX8_ways 19 = .ok (.iload 4, 2) := by decide +kernel
theorem dX8_ways_21 : decode cX8_ways 21 = .ok (.sipush 168, 3) := by decide +kernel
theorem dX8_ways_24 : decode cX8_ways 24 = .ok (.if_icmp .ge 35, 3) := by decide +kernel
theorem dX8_ways_27 : decode cX8_ways 27 = .ok (.aload_n 0, 1) := by decide +kernel
theorem dX8_ways_28 : decode cX8_ways 28 = .ok (.iload 4, 2) := by decide +kernel
theorem dX8_ways_30 : decode cX8_ways 30 = .ok (.invokevirtual 251, 3) := by decide +kernel
theorem dX8_ways_33 : decode cX8_ways 33 = .ok (.ifCond .ne 20, 3) := by decide +kernel
theorem dX8_ways_36 : decode cX8_ways 36 = .ok (.iload_n 2, 1) := by decide +kernel
theorem dX8_ways_37 : decode cX8_ways 37 = .ok (.ifCond .ne 11, 3) := by decide +kernel
theorem dX8_ways_40 : decode cX8_ways 40 = .ok (.iload 4, 2) := by decide +kernel
theorem dX8_ways_42 : decode cX8_ways 42 = .ok (.invokestatic 254, 3) := by decide +kernel
theorem dX8_ways_45 : decode cX8_ways 45 = .ok (.goto 4, 3) := by decide +kernel
theorem dX8_ways_48 : decode cX8_ways 48 = .ok (.iload_n 3, 1) := by decide +kernel
theorem dX8_ways_49 : decode cX8_ways 49 = .ok (.istore_n 3, 1) := by decide +kernel
theorem dX8_ways_50 : decode cX8_ways 50 = .ok (.iinc 2 1, 3) := by decide +kernel
theorem dX8_ways_53 : decode cX8_ways 53 = .ok (.iinc 4 1, 3) := by decide +kernel
theorem dX8_ways_56 : decode cX8_ways 56 = .ok (.goto (-37), 3) := by decide +kernel
theorem dX8_ways_59 : decode cX8_ways 59 = .ok (.iload_n 1, 1) := by decide +kernel
theorem dX8_ways_60 : decode cX8_ways 60 = .ok (.ifCond .ne 7, 3) := by decide +kernel
theorem dX8_ways_63 : decode cX8_ways 63 = .ok (.iload_n 2, 1) := by decide +kernel
theorem dX8_ways_64 : decode cX8_ways 64 = .ok (.goto 4, 3) := by decide +kernel
theorem dX8_ways_67 : decode cX8_ways 67 = .ok (.iload_n 3, 1) := by decide +kernel
theorem dX8_ways_68 : decode cX8_ways 68 = .ok (.ireturn, 1) := by decide +kernel
theorem dX8_falses_0 : decode cX8_falses 0 = .ok (.iload_n 1, 1) := by decide +kernel
theorem dX8_falses_1 : decode cX8_falses 1 = .ok (.iconst 0, 1) := by decide +kernel
theorem dX8_falses_2 : decode cX8_falses 2 = .ok (.iconst 1, 1) := by decide +kernel
theorem dX8_falses_3 : decode cX8_falses 3 = .ok (.invokestatic 78, 3) := by decide +kernel
theorem dX8_falses_6 : decode cX8_falses 6 = .ok (.ifCond .ne 5, 3) := by decide +kernel
theorem dX8_falses_9 : decode cX8_falses 9 = .ok (.iconst (-1), 1) := by decide +kernel
theorem dX8_falses_10 : decode cX8_falses 10 = .ok (.ireturn, 1) := by decide +kernel
theorem dX8_falses_11 : decode cX8_falses 11 = .ok (.iconst 0, 1) := by decide +kernel
theorem dX8_falses_12 : decode cX8_falses 12 = .ok (.istore_n 2, 1) := by decide +kernel
theorem dX8_falses_13 : decode cX8_falses 13 = .ok (.iconst 1, 1) := by decide +kernel
theorem dX8_falses_14 : decode cX8_falses 14 = .ok (.istore_n 3, 1) := by decide +kernel
theorem dX8_falses_15 : decode cX8_falses 15 = .ok (.iload_n 3, 1) := by decide +kernel
theorem dX8_falses_16 : decode cX8_falses 16 = .ok (.sipush 168, 3) := by decide +kernel
theorem dX8_falses_19 : decode cX8_falses 19 = .ok (.if_icmp .ge 28, 3) := by decide +kernel
theorem dX8_falses_22 : decode cX8_falses 22 = .ok (.aload_n 0, 1) := by decide +kernel
theorem dX8_falses_23 : decode cX8_falses 23 = .ok (.iload_n 3, 1) := by decide +kernel
theorem dX8_falses_24 : decode cX8_falses 24 = .ok (.invokevirtual 251, 3) := by decide +kernel
theorem dX8_falses_27 : decode cX8_falses 27 = .ok (.aload_n 0, 1) := by decide +kernel
theorem dX8_falses_28 : decode cX8_falses 28 = .ok (.iload_n 2, 1) := by decide +kernel
theorem dX8_falses_29 : decode cX8_falses 29 = .ok (.invokevirtual 251, 3) := by decide +kernel
theorem dX8_falses_32 : decode cX8_falses 32 = .ok (.if_icmp .ge 7, 3) := by decide +kernel
theorem dX8_falses_35 : decode cX8_falses 35 = .ok (.iload_n 3, 1) := by decide +kernel
theorem dX8_falses_36 : decode cX8_falses 36 = .ok (.goto 4, 3) := by decide +kernel
theorem dX8_falses_39 : decode cX8_falses 39 = .ok (.iload_n 2, 1) := by decide +kernel
theorem dX8_falses_40 : decode cX8_falses 40 = .ok (.istore_n 2, 1) := by decide +kernel
theorem dX8_falses_41 : decode cX8_falses 41 = .ok (.iinc 3 1, 3) := by decide +kernel
theorem dX8_falses_44 : decode cX8_falses 44 = .ok (.goto (-29), 3) := by decide +kernel
theorem dX8_falses_47 : decode cX8_falses 47 = .ok (.iload_n 1, 1) := by decide +kernel
theorem dX8_falses_48 : decode cX8_falses 48 = .ok (.ifCond .ne 11, 3) := by decide +kernel
theorem dX8_falses_51 : decode cX8_falses 51 = .ok (.aload_n 0, 1) := by decide +kernel
theorem dX8_falses_52 : decode cX8_falses 52 = .ok (.iload_n 2, 1) := by decide +kernel
theorem dX8_falses_53 : decode cX8_falses 53 = .ok (.invokevirtual 251, 3) := by decide +kernel
theorem dX8_falses_56 : decode cX8_falses 56 = .ok (.goto 7, 3) := by decide +kernel
theorem dX8_falses_59 : decode cX8_falses 59 = .ok (.iload_n 2, 1) := by decide +kernel
theorem dX8_falses_60 : decode cX8_falses 60 = .ok (.invokestatic 254, 3) := by decide +kernel
theorem dX8_falses_63 : decode cX8_falses 63 = .ok (.ireturn, 1) := by decide +kernel
theorem dX8_forget_0 : decode cX8_forget 0 = .ok (.aload_n 0, 1) := by decide +kernel
theorem dX8_forget_1 : decode cX8_forget 1 = .ok (.getfield 162, 3) := by decide +kernel
theorem dX8_forget_4 : decode cX8_forget 4 = .ok (.aload_n 0, 1) := by decide +kernel
theorem dX8_forget_5 : decode cX8_forget 5 = .ok (.getfield 165, 3) := by decide +kernel
theorem dX8_forget_8 : decode cX8_forget 8 = .ok (.iadd, 1) := by decide +kernel
theorem dX8_forget_9 : decode cX8_forget 9 = .ok (.istore_n 1, 1) := by decide +kernel
theorem dX8_forget_10 : decode cX8_forget 10 = .ok (.aload_n 0, 1) := by decide +kernel
theorem dX8_forget_11 : decode cX8_forget 11 = .ok (.iconst 0, 1) := by decide +kernel
theorem dX8_forget_12 : decode cX8_forget 12 = .ok (.putfield 162, 3) := by decide +kernel
theorem dX8_forget_15 : decode cX8_forget 15 = .ok (.aload_n 0, 1) := by decide +kernel
theorem dX8_forget_16 : decode cX8_forget 16 = .ok (.iconst 0, 1) := by decide +kernel
theorem dX8_forget_17 : decode cX8_forget 17 = .ok (.putfield 165, 3) := by decide +kernel
theorem dX8_forget_20 : decode cX8_forget 20 = .ok (.iload_n 1, 1) := by decide +kernel
theorem dX8_forget_21 : decode cX8_forget 21 = .ok (.ireturn, 1) := by decide +kernel
theorem dX8_mark_0 : decode cX8_mark 0 = .ok (.iload_n 1, 1) := by decide +kernel
theorem dX8_mark_1 : decode cX8_mark 1 = .ok (.iconst 0, 1) := by decide +kernel
theorem dX8_mark_2 : decode cX8_mark 2 = .ok (.iconst 5, 1) := by decide +kernel
theorem dX8_mark_3 : decode cX8_mark 3 = .ok (.invokestatic 78, 3) := by decide +kernel
theorem dX8_mark_6 : decode cX8_mark 6 = .ok (.ifCond .eq 11, 3) := by decide +kernel
theorem dX8_mark_9 : decode cX8_mark 9 = .ok (.aload_n 0, 1) := by decide +kernel
theorem dX8_mark_10 : decode cX8_mark 10 = .ok (.iload_n 2, 1) := by decide +kernel
theorem dX8_mark_11 : decode cX8_mark 11 = .ok (.invokevirtual 201, 3) := by decide +kernel
theorem dX8_mark_14 : decode cX8_mark 14 = .ok (.ifCond .ne 6, 3) := by decide +kernel
theorem dX8_mark_17 : decode cX8_mark 17 = .ok (.ldc 210, 2) := by decide +kernel
theorem dX8_mark_19 : decode cX8_mark 19 = .ok (.ireturn, 1) := by decide +kernel
theorem dX8_mark_20 : decode cX8_mark 20 = .ok (.aload_n 0, 1) := by decide +kernel
theorem dX8_mark_21 : decode cX8_mark 21 = .ok (.iload_n 2, 1) := by decide +kernel
theorem dX8_mark_22 : decode cX8_mark 22 = .ok (.invokevirtual 172, 3) := by decide +kernel
theorem dX8_mark_25 : decode cX8_mark 25 = .ok (.istore_n 3, 1) := by decide +kernel
theorem dX8_mark_26 : decode cX8_mark 26 = .ok (.iload_n 3, 1) := by decide +kernel
theorem dX8_mark_27 : decode cX8_mark 27 = .ok (.aload_n 0, 1) := by decide +kernel
theorem dX8_mark_28 : decode cX8_mark 28 = .ok (.iconst 1, 1) := by decide +kernel
theorem dX8_mark_29 : decode cX8_mark 29 = .ok (.iload_n 2, 1) := by decide +kernel
theorem dX8_mark_30 : decode cX8_mark 30 = .ok (.ishl, 1) := by decide +kernel
theorem dX8_mark_31 : decode cX8_mark 31 = .ok (.invokevirtual 191, 3) := by decide +kernel
theorem dX8_mark_34 : decode cX8_mark 34 = .ok (.iadd, 1) := by decide +kernel
theorem dX8_mark_35 : decode cX8_mark 35 = .ok (.istore 4, 2) := by decide +kernel
theorem dX8_mark_37 : decode cX8_mark 37 = .ok (.iload_n 3, 1) := by decide +kernel
theorem dX8_mark_38 : decode cX8_mark 38 = .ok (.aload_n 0, 1) := by decide +kernel
theorem dX8_mark_39 : decode cX8_mark 39 = .ok (.getfield 7, 3) := by decide +kernel
theorem dX8_mark_42 : decode cX8_mark 42 = .ok (.iload_n 2, 1) := by decide +kernel
theorem dX8_mark_43 : decode cX8_mark 43 = .ok (.iaload, 1) := by decide +kernel
theorem dX8_mark_44 : decode cX8_mark 44 = .ok (.isub, 1) := by decide +kernel
theorem dX8_mark_45 : decode cX8_mark 45 = .ok (.istore 5, 2) := by decide +kernel
theorem dX8_mark_47 : decode cX8_mark 47 = .ok (.iload_n 1, 1) := by decide +kernel
theorem dX8_mark_48 : decode cX8_mark 48 = .ok (.tableswitch 121 1 5 #[36, 51, 66, 83, 100], 36) := by decide +kernel
theorem dX8_mark_84 : decode cX8_mark 84 = .ok (.aload_n 0, 1) := by decide +kernel
theorem dX8_mark_85 : decode cX8_mark 85 = .ok (.dup, 1) := by decide +kernel
theorem dX8_mark_86 : decode cX8_mark 86 = .ok (.getfield 257, 3) := by decide +kernel
theorem dX8_mark_89 : decode cX8_mark 89 = .ok (.ldc2_w 261, 3) := by decide +kernel
theorem dX8_mark_92 : decode cX8_mark 92 = .ok (.ladd, 1) := by decide +kernel
theorem dX8_mark_93 : decode cX8_mark 93 = .ok (.putfield 257, 3) := by decide +kernel
theorem dX8_mark_96 : decode cX8_mark 96 = .ok (.iload 4, 2) := by decide +kernel
theorem dX8_mark_98 : decode cX8_mark 98 = .ok (.ireturn, 1) := by decide +kernel
theorem dX8_mark_99 : decode cX8_mark 99 = .ok (.aload_n 0, 1) := by decide +kernel
theorem dX8_mark_100 : decode cX8_mark 100 = .ok (.dup, 1) := by decide +kernel
theorem dX8_mark_101 : decode cX8_mark 101 = .ok (.getfield 257, 3) := by decide +kernel
theorem dX8_mark_104 : decode cX8_mark 104 = .ok (.ldc2_w 263, 3) := by decide +kernel
theorem dX8_mark_107 : decode cX8_mark 107 = .ok (.ladd, 1) := by decide +kernel
theorem dX8_mark_108 : decode cX8_mark 108 = .ok (.putfield 257, 3) := by decide +kernel
theorem dX8_mark_111 : decode cX8_mark 111 = .ok (.iload 5, 2) := by decide +kernel
theorem dX8_mark_113 : decode cX8_mark 113 = .ok (.ireturn, 1) := by decide +kernel
theorem dX8_mark_114 : decode cX8_mark 114 = .ok (.aload_n 0, 1) := by decide +kernel
theorem dX8_mark_115 : decode cX8_mark 115 = .ok (.dup, 1) := by decide +kernel
theorem dX8_mark_116 : decode cX8_mark 116 = .ok (.getfield 257, 3) := by decide +kernel
theorem dX8_mark_119 : decode cX8_mark 119 = .ok (.ldc2_w 265, 3) := by decide +kernel
theorem dX8_mark_122 : decode cX8_mark 122 = .ok (.ladd, 1) := by decide +kernel
theorem dX8_mark_123 : decode cX8_mark 123 = .ok (.putfield 257, 3) := by decide +kernel
theorem dX8_mark_126 : decode cX8_mark 126 = .ok (.iconst 2, 1) := by decide +kernel
theorem dX8_mark_127 : decode cX8_mark 127 = .ok (.iload 4, 2) := by decide +kernel
theorem dX8_mark_129 : decode cX8_mark 129 = .ok (.imul, 1) := by decide +kernel
theorem dX8_mark_130 : decode cX8_mark 130 = .ok (.ireturn, 1) := by decide +kernel
theorem dX8_mark_131 : decode cX8_mark 131 = .ok (.aload_n 0, 1) := by decide +kernel
theorem dX8_mark_132 : decode cX8_mark 132 = .ok (.dup, 1) := by decide +kernel
theorem dX8_mark_133 : decode cX8_mark 133 = .ok (.getfield 257, 3) := by decide +kernel
theorem dX8_mark_136 : decode cX8_mark 136 = .ok (.ldc2_w 267, 3) := by decide +kernel
theorem dX8_mark_139 : decode cX8_mark 139 = .ok (.ladd, 1) := by decide +kernel
theorem dX8_mark_140 : decode cX8_mark 140 = .ok (.putfield 257, 3) := by decide +kernel
theorem dX8_mark_143 : decode cX8_mark 143 = .ok (.iload 5, 2) := by decide +kernel
theorem dX8_mark_145 : decode cX8_mark 145 = .ok (.iload_n 2, 1) := by decide +kernel
theorem dX8_mark_146 : decode cX8_mark 146 = .ok (.iadd, 1) := by decide +kernel
theorem dX8_mark_147 : decode cX8_mark 147 = .ok (.ireturn, 1) := by decide +kernel
theorem dX8_mark_148 : decode cX8_mark 148 = .ok (.aload_n 0, 1) := by decide +kernel
theorem dX8_mark_149 : decode cX8_mark 149 = .ok (.dup, 1) := by decide +kernel
theorem dX8_mark_150 : decode cX8_mark 150 = .ok (.getfield 257, 3) := by decide +kernel
theorem dX8_mark_153 : decode cX8_mark 153 = .ok (.ldc2_w 269, 3) := by decide +kernel
theorem dX8_mark_156 : decode cX8_mark 156 = .ok (.ladd, 1) := by decide +kernel
theorem dX8_mark_157 : decode cX8_mark 157 = .ok (.putfield 257, 3) := by decide +kernel
theorem dX8_mark_160 : decode cX8_mark 160 = .ok (.iload_n 3, 1) := by decide +kernel
theorem dX8_mark_161 : decode cX8_mark 161 = .ok (.aload_n 0, 1) := by decide +kernel
theorem dX8_mark_162 : decode cX8_mark 162 = .ok (.getfield 31, 3) := by decide +kernel
theorem dX8_mark_165 : decode cX8_mark 165 = .ok (.iconst 0, 1) := by decide +kernel
theorem dX8_mark_166 : decode cX8_mark 166 = .ok (.iaload, 1) := by decide +kernel
theorem dX8_mark_167 : decode cX8_mark 167 = .ok (.iadd, 1) := by decide +kernel
theorem dX8_mark_168 : decode cX8_mark 168 = .ok (.ireturn, 1) := by decide +kernel
theorem dX8_mark_169 : decode cX8_mark 169 = .ok (.aload_n 0, 1) := by decide +kernel
theorem dX8_mark_170 : decode cX8_mark 170 = .ok (.dup, 1) := by decide +kernel
theorem dX8_mark_171 : decode cX8_mark 171 = .ok (.getfield 257, 3) := by decide +kernel
theorem dX8_mark_174 : decode cX8_mark 174 = .ok (.lconst 1, 1) := by decide +kernel
theorem dX8_mark_175 : decode cX8_mark 175 = .ok (.ladd, 1) := by decide +kernel
theorem dX8_mark_176 : decode cX8_mark 176 = .ok (.putfield 257, 3) := by decide +kernel
theorem dX8_mark_179 : decode cX8_mark 179 = .ok (.iload_n 3, 1) := by decide +kernel
theorem dX8_mark_180 : decode cX8_mark 180 = .ok (.ireturn, 1) := by decide +kernel
theorem dX8_keep_0 : decode cX8_keep 0 = .ok (.iload_n 1, 1) := by decide +kernel
theorem dX8_keep_1 : decode cX8_keep 1 = .ok (.iconst 0, 1) := by decide +kernel
theorem dX8_keep_2 : decode cX8_keep 2 = .ok (.iconst 1, 1) := by decide +kernel
theorem dX8_keep_3 : decode cX8_keep 3 = .ok (.invokestatic 78, 3) := by decide +kernel
theorem dX8_keep_6 : decode cX8_keep 6 = .ok (.ifCond .ne 5, 3) := by decide +kernel
theorem dX8_keep_9 : decode cX8_keep 9 = .ok (.iconst (-1), 1) := by decide +kernel
theorem dX8_keep_10 : decode cX8_keep 10 = .ok (.ireturn, 1) := by decide +kernel
theorem dX8_keep_11 : decode cX8_keep 11 = .ok (.iconst 0, 1) := by decide +kernel
theorem dX8_keep_12 : decode cX8_keep 12 = .ok (.istore_n 2, 1) := by decide +kernel
theorem dX8_keep_13 : decode cX8_keep 13 = .ok (.iload_n 2, 1) := by decide +kernel
theorem dX8_keep_14 : decode cX8_keep 14 = .ok (.sipush 507, 3) := by decide +kernel
theorem dX8_keep_17 : decode cX8_keep 17 = .ok (.if_icmp .ge 27, 3) := by decide +kernel
theorem dX8_keep_20 : decode cX8_keep 20 = .ok (.aload_n 0, 1) := by decide +kernel
theorem dX8_keep_21 : decode cX8_keep 21 = .ok (.getfield 34, 3) := by decide +kernel
theorem dX8_keep_24 : decode cX8_keep 24 = .ok (.sipush 507, 3) := by decide +kernel
theorem dX8_keep_27 : decode cX8_keep 27 = .ok (.iload_n 1, 1) := by decide +kernel
theorem dX8_keep_28 : decode cX8_keep 28 = .ok (.imul, 1) := by decide +kernel
theorem dX8_keep_29 : decode cX8_keep 29 = .ok (.iload_n 2, 1) := by decide +kernel
theorem dX8_keep_30 : decode cX8_keep 30 = .ok (.iadd, 1) := by decide +kernel
theorem dX8_keep_31 : decode cX8_keep 31 = .ok (.aload_n 0, 1) := by decide +kernel
theorem dX8_keep_32 : decode cX8_keep 32 = .ok (.getfield 31, 3) := by decide +kernel
theorem dX8_keep_35 : decode cX8_keep 35 = .ok (.iload_n 2, 1) := by decide +kernel
theorem dX8_keep_36 : decode cX8_keep 36 = .ok (.iaload, 1) := by decide +kernel
theorem dX8_keep_37 : decode cX8_keep 37 = .ok (.iastore, 1) := by decide +kernel
theorem dX8_keep_38 : decode cX8_keep 38 = .ok (.iinc 2 1, 3) := by decide +kernel
theorem dX8_keep_41 : decode cX8_keep 41 = .ok (.goto (-28), 3) := by decide +kernel
theorem dX8_keep_44 : decode cX8_keep 44 = .ok (.aload_n 0, 1) := by decide +kernel
theorem dX8_keep_45 : decode cX8_keep 45 = .ok (.getfield 37, 3) := by decide +kernel
theorem dX8_keep_48 : decode cX8_keep 48 = .ok (.iload_n 1, 1) := by decide +kernel
theorem dX8_keep_49 : decode cX8_keep 49 = .ok (.iconst 1, 1) := by decide +kernel
theorem dX8_keep_50 : decode cX8_keep 50 = .ok (.bastore, 1) := by decide +kernel
theorem dX8_keep_51 : decode cX8_keep 51 = .ok (.aload_n 0, 1) := by decide +kernel
theorem dX8_keep_52 : decode cX8_keep 52 = .ok (.getfield 31, 3) := by decide +kernel
theorem dX8_keep_55 : decode cX8_keep 55 = .ok (.iconst 0, 1) := by decide +kernel
theorem dX8_keep_56 : decode cX8_keep 56 = .ok (.iaload, 1) := by decide +kernel
theorem dX8_keep_57 : decode cX8_keep 57 = .ok (.ireturn, 1) := by decide +kernel
theorem dX8_back_0 : decode cX8_back 0 = .ok (.iload_n 1, 1) := by decide +kernel
theorem dX8_back_1 : decode cX8_back 1 = .ok (.iconst 0, 1) := by decide +kernel
theorem dX8_back_2 : decode cX8_back 2 = .ok (.iconst 1, 1) := by decide +kernel
theorem dX8_back_3 : decode cX8_back 3 = .ok (.invokestatic 78, 3) := by decide +kernel
theorem dX8_back_6 : decode cX8_back 6 = .ok (.ifCond .ne 5, 3) := by decide +kernel
theorem dX8_back_9 : decode cX8_back 9 = .ok (.iconst (-1), 1) := by decide +kernel
theorem dX8_back_10 : decode cX8_back 10 = .ok (.ireturn, 1) := by decide +kernel
theorem dX8_back_11 : decode cX8_back 11 = .ok (.aload_n 0, 1) := by decide +kernel
theorem dX8_back_12 : decode cX8_back 12 = .ok (.getfield 37, 3) := by decide +kernel
theorem dX8_back_15 : decode cX8_back 15 = .ok (.iload_n 1, 1) := by decide +kernel
theorem dX8_back_16 : decode cX8_back 16 = .ok (.baload, 1) := by decide +kernel
theorem dX8_back_17 : decode cX8_back 17 = .ok (.ifCond .ne 6, 3) := by decide +kernel
theorem dX8_back_20 : decode cX8_back 20 = .ok (.bipush (-2), 2) := by decide +kernel
theorem dX8_back_22 : decode cX8_back 22 = .ok (.ireturn, 1) := by decide +kernel
theorem dX8_back_23 : decode cX8_back 23 = .ok (.iconst 0, 1) := by decide +kernel
theorem dX8_back_24 : decode cX8_back 24 = .ok (.istore_n 2, 1) := by decide +kernel
theorem dX8_back_25 : decode cX8_back 25 = .ok (.iload_n 2, 1) := by decide +kernel
theorem dX8_back_26 : decode cX8_back 26 = .ok (.sipush 507, 3) := by decide +kernel
theorem dX8_back_29 : decode cX8_back 29 = .ok (.if_icmp .ge 27, 3) := by decide +kernel
theorem dX8_back_32 : decode cX8_back 32 = .ok (.aload_n 0, 1) := by decide +kernel
theorem dX8_back_33 : decode cX8_back 33 = .ok (.getfield 31, 3) := by decide +kernel
theorem dX8_back_36 : decode cX8_back 36 = .ok (.iload_n 2, 1) := by decide +kernel
theorem dX8_back_37 : decode cX8_back 37 = .ok (.aload_n 0, 1) := by decide +kernel
theorem dX8_back_38 : decode cX8_back 38 = .ok (.getfield 34, 3) := by decide +kernel
theorem dX8_back_41 : decode cX8_back 41 = .ok (.sipush 507, 3) := by decide +kernel
theorem dX8_back_44 : decode cX8_back 44 = .ok (.iload_n 1, 1) := by decide +kernel
theorem dX8_back_45 : decode cX8_back 45 = .ok (.imul, 1) := by decide +kernel
theorem dX8_back_46 : decode cX8_back 46 = .ok (.iload_n 2, 1) := by decide +kernel
theorem dX8_back_47 : decode cX8_back 47 = .ok (.iadd, 1) := by decide +kernel
theorem dX8_back_48 : decode cX8_back 48 = .ok (.iaload, 1) := by decide +kernel
theorem dX8_back_49 : decode cX8_back 49 = .ok (.iastore, 1) := by decide +kernel
theorem dX8_back_50 : decode cX8_back 50 = .ok (.iinc 2 1, 3) := by decide +kernel
theorem dX8_back_53 : decode cX8_back 53 = .ok (.goto (-28), 3) := by decide +kernel
theorem dX8_back_56 : decode cX8_back 56 = .ok (.aload_n 0, 1) := by decide +kernel
theorem dX8_back_57 : decode cX8_back 57 = .ok (.getfield 31, 3) := by decide +kernel
theorem dX8_back_60 : decode cX8_back 60 = .ok (.iconst 0, 1) := by decide +kernel
theorem dX8_back_61 : decode cX8_back 61 = .ok (.iaload, 1) := by decide +kernel
theorem dX8_back_62 : decode cX8_back 62 = .ok (.ireturn, 1) := by decide +kernel
theorem dX8_count_0 : decode cX8_count 0 = .ok (.iload_n 1, 1) := by decide +kernel
theorem dX8_count_1 : decode cX8_count 1 = .ok (.tableswitch 81 0 6 #[43, 48, 53, 58, 63, 68, 76], 43) := by decide +kernel
theorem dX8_count_44 : decode cX8_count 44 = .ok (.aload_n 0, 1) := by decide +kernel
theorem dX8_count_45 : decode cX8_count 45 = .ok (.getfield 74, 3) := by decide +kernel
theorem dX8_count_48 : decode cX8_count 48 = .ok (.ireturn, 1) := by decide +kernel
theorem dX8_count_49 : decode cX8_count 49 = .ok (.aload_n 0, 1) := by decide +kernel
theorem dX8_count_50 : decode cX8_count 50 = .ok (.getfield 82, 3) := by decide +kernel
theorem dX8_count_53 : decode cX8_count 53 = .ok (.ireturn, 1) := by decide +kernel
theorem dX8_count_54 : decode cX8_count 54 = .ok (.aload_n 0, 1) := by decide +kernel
theorem dX8_count_55 : decode cX8_count 55 = .ok (.getfield 159, 3) := by decide +kernel
theorem dX8_count_58 : decode cX8_count 58 = .ok (.ireturn, 1) := by decide +kernel
theorem dX8_count_59 : decode cX8_count 59 = .ok (.aload_n 0, 1) := by decide +kernel
theorem dX8_count_60 : decode cX8_count 60 = .ok (.getfield 162, 3) := by decide +kernel
theorem dX8_count_63 : decode cX8_count 63 = .ok (.ireturn, 1) := by decide +kernel
theorem dX8_count_64 : decode cX8_count 64 = .ok (.aload_n 0, 1) := by decide +kernel
theorem dX8_count_65 : decode cX8_count 65 = .ok (.getfield 165, 3) := by decide +kernel
theorem dX8_count_68 : decode cX8_count 68 = .ok (.ireturn, 1) := by decide +kernel
theorem dX8_count_69 : decode cX8_count 69 = .ok (.aload_n 0, 1) := by decide +kernel
theorem dX8_count_70 : decode cX8_count 70 = .ok (.getfield 31, 3) := by decide +kernel
theorem dX8_count_73 : decode cX8_count 73 = .ok (.bipush 46, 2) := by decide +kernel
theorem dX8_count_75 : decode cX8_count 75 = .ok (.iaload, 1) := by decide +kernel
theorem dX8_count_76 : decode cX8_count 76 = .ok (.ireturn, 1) := by decide +kernel
theorem dX8_count_77 : decode cX8_count 77 = .ok (.aload_n 0, 1) := by decide +kernel
theorem dX8_count_78 : decode cX8_count 78 = .ok (.getfield 85, 3) := by decide +kernel
theorem dX8_count_81 : decode cX8_count 81 = .ok (.ireturn, 1) := by decide +kernel
theorem dX8_count_82 : decode cX8_count 82 = .ok (.iconst (-1), 1) := by decide +kernel
theorem dX8_count_83 : decode cX8_count 83 = .ok (.ireturn, 1) := by decide +kernel
theorem dX8_trace_0 : decode cX8_trace 0 = .ok (.aload_n 0, 1) := by decide +kernel
theorem dX8_trace_1 : decode cX8_trace 1 = .ok (.getfield 257, 3) := by decide +kernel
theorem dX8_trace_4 : decode cX8_trace 4 = .ok (.lreturn, 1) := by decide +kernel
theorem dJ6_bitCount_0f7a4_0 : decode cJ6_bitCount_0f7a4 0 = .ok (.iload_n 0, 1) := by decide +kernel
theorem dJ6_bitCount_0f7a4_1 : decode cJ6_bitCount_0f7a4 1 = .ok (.iload_n 0, 1) := by decide +kernel
theorem dJ6_bitCount_0f7a4_2 : decode cJ6_bitCount_0f7a4 2 = .ok (.iconst 1, 1) := by decide +kernel
theorem dJ6_bitCount_0f7a4_3 : decode cJ6_bitCount_0f7a4 3 = .ok (.iushr, 1) := by decide +kernel
theorem dJ6_bitCount_0f7a4_4 : decode cJ6_bitCount_0f7a4 4 = .ok (.ldc_w 265, 3) := by decide +kernel
theorem dJ6_bitCount_0f7a4_7 : decode cJ6_bitCount_0f7a4 7 = .ok (.iand, 1) := by decide +kernel
theorem dJ6_bitCount_0f7a4_8 : decode cJ6_bitCount_0f7a4 8 = .ok (.isub, 1) := by decide +kernel
theorem dJ6_bitCount_0f7a4_9 : decode cJ6_bitCount_0f7a4 9 = .ok (.istore_n 0, 1) := by decide +kernel
theorem dJ6_bitCount_0f7a4_10 : decode cJ6_bitCount_0f7a4 10 = .ok (.iload_n 0, 1) := by decide +kernel
theorem dJ6_bitCount_0f7a4_11 : decode cJ6_bitCount_0f7a4 11 = .ok (.ldc_w 266, 3) := by decide +kernel
theorem dJ6_bitCount_0f7a4_14 : decode cJ6_bitCount_0f7a4 14 = .ok (.iand, 1) := by decide +kernel
theorem dJ6_bitCount_0f7a4_15 : decode cJ6_bitCount_0f7a4 15 = .ok (.iload_n 0, 1) := by decide +kernel
theorem dJ6_bitCount_0f7a4_16 : decode cJ6_bitCount_0f7a4 16 = .ok (.iconst 2, 1) := by decide +kernel
theorem dJ6_bitCount_0f7a4_17 : decode cJ6_bitCount_0f7a4 17 = .ok (.iushr, 1) := by decide +kernel
theorem dJ6_bitCount_0f7a4_18 : decode cJ6_bitCount_0f7a4 18 = .ok (.ldc_w 266, 3) := by decide +kernel
theorem dJ6_bitCount_0f7a4_21 : decode cJ6_bitCount_0f7a4 21 = .ok (.iand, 1) := by decide +kernel
theorem dJ6_bitCount_0f7a4_22 : decode cJ6_bitCount_0f7a4 22 = .ok (.iadd, 1) := by decide +kernel
theorem dJ6_bitCount_0f7a4_23 : decode cJ6_bitCount_0f7a4 23 = .ok (.istore_n 0, 1) := by decide +kernel
theorem dJ6_bitCount_0f7a4_24 : decode cJ6_bitCount_0f7a4 24 = .ok (.iload_n 0, 1) := by decide +kernel
theorem dJ6_bitCount_0f7a4_25 : decode cJ6_bitCount_0f7a4 25 = .ok (.iload_n 0, 1) := by decide +kernel
theorem dJ6_bitCount_0f7a4_26 : decode cJ6_bitCount_0f7a4 26 = .ok (.iconst 4, 1) := by decide +kernel
theorem dJ6_bitCount_0f7a4_27 : decode cJ6_bitCount_0f7a4 27 = .ok (.iushr, 1) := by decide +kernel
theorem dJ6_bitCount_0f7a4_28 : decode cJ6_bitCount_0f7a4 28 = .ok (.iadd, 1) := by decide +kernel
theorem dJ6_bitCount_0f7a4_29 : decode cJ6_bitCount_0f7a4 29 = .ok (.ldc_w 267, 3) := by decide +kernel
theorem dJ6_bitCount_0f7a4_32 : decode cJ6_bitCount_0f7a4 32 = .ok (.iand, 1) := by decide +kernel
theorem dJ6_bitCount_0f7a4_33 : decode cJ6_bitCount_0f7a4 33 = .ok (.istore_n 0, 1) := by decide +kernel
theorem dJ6_bitCount_0f7a4_34 : decode cJ6_bitCount_0f7a4 34 = .ok (.iload_n 0, 1) := by decide +kernel
theorem dJ6_bitCount_0f7a4_35 : decode cJ6_bitCount_0f7a4 35 = .ok (.iload_n 0, 1) := by decide +kernel
theorem dJ6_bitCount_0f7a4_36 : decode cJ6_bitCount_0f7a4 36 = .ok (.bipush 8, 2) := by decide +kernel
theorem dJ6_bitCount_0f7a4_38 : decode cJ6_bitCount_0f7a4 38 = .ok (.iushr, 1) := by decide +kernel
theorem dJ6_bitCount_0f7a4_39 : decode cJ6_bitCount_0f7a4 39 = .ok (.iadd, 1) := by decide +kernel
theorem dJ6_bitCount_0f7a4_40 : decode cJ6_bitCount_0f7a4 40 = .ok (.istore_n 0, 1) := by decide +kernel
theorem dJ6_bitCount_0f7a4_41 : decode cJ6_bitCount_0f7a4 41 = .ok (.iload_n 0, 1) := by decide +kernel
theorem dJ6_bitCount_0f7a4_42 : decode cJ6_bitCount_0f7a4 42 = .ok (.iload_n 0, 1) := by decide +kernel
theorem dJ6_bitCount_0f7a4_43 : decode cJ6_bitCount_0f7a4 43 = .ok (.bipush 16, 2) := by decide +kernel
theorem dJ6_bitCount_0f7a4_45 : decode cJ6_bitCount_0f7a4 45 = .ok (.iushr, 1) := by decide +kernel
theorem dJ6_bitCount_0f7a4_46 : decode cJ6_bitCount_0f7a4 46 = .ok (.iadd, 1) := by decide +kernel
theorem dJ6_bitCount_0f7a4_47 : decode cJ6_bitCount_0f7a4 47 = .ok (.istore_n 0, 1) := by decide +kernel
theorem dJ6_bitCount_0f7a4_48 : decode cJ6_bitCount_0f7a4 48 = .ok (.iload_n 0, 1) := by decide +kernel
theorem dJ6_bitCount_0f7a4_49 : decode cJ6_bitCount_0f7a4 49 = .ok (.bipush 63, 2) := by decide +kernel
theorem dJ6_bitCount_0f7a4_51 : decode cJ6_bitCount_0f7a4 51 = .ok (.iand, 1) := by decide +kernel
theorem dJ6_bitCount_0f7a4_52 : decode cJ6_bitCount_0f7a4 52 = .ok (.ireturn, 1) := by decide +kernel
theorem dJ9_abs_0f7a4_0 : decode cJ9_abs_0f7a4 0 = .ok (.iload_n 0, 1) := by decide +kernel
theorem dJ9_abs_0f7a4_1 : decode cJ9_abs_0f7a4 1 = .ok (.ifCond .ge 8, 3) := by decide +kernel
theorem dJ9_abs_0f7a4_4 : decode cJ9_abs_0f7a4 4 = .ok (.iload_n 0, 1) := by decide +kernel
theorem dJ9_abs_0f7a4_5 : decode cJ9_abs_0f7a4 5 = .ok (.ineg, 1) := by decide +kernel
theorem dJ9_abs_0f7a4_6 : decode cJ9_abs_0f7a4 6 = .ok (.goto 4, 3) := by decide +kernel
theorem dJ9_abs_0f7a4_9 : decode cJ9_abs_0f7a4 9 = .ok (.iload_n 0, 1) := by decide +kernel
theorem dJ9_abs_0f7a4_10 : decode cJ9_abs_0f7a4 10 = .ok (.ireturn, 1) := by decide +kernel
theorem dJ9_max_7cf53_0 : decode cJ9_max_7cf53 0 = .ok (.iload_n 0, 1) := by decide +kernel
theorem dJ9_max_7cf53_1 : decode cJ9_max_7cf53 1 = .ok (.iload_n 1, 1) := by decide +kernel
theorem dJ9_max_7cf53_2 : decode cJ9_max_7cf53 2 = .ok (.if_icmp .lt 7, 3) := by decide +kernel
theorem dJ9_max_7cf53_5 : decode cJ9_max_7cf53 5 = .ok (.iload_n 0, 1) := by decide +kernel
theorem dJ9_max_7cf53_6 : decode cJ9_max_7cf53 6 = .ok (.goto 4, 3) := by decide +kernel
theorem dJ9_max_7cf53_9 : decode cJ9_max_7cf53 9 = .ok (.iload_n 1, 1) := by decide +kernel
theorem dJ9_max_7cf53_10 : decode cJ9_max_7cf53 10 = .ok (.ireturn, 1) := by decide +kernel
theorem dJ9_min_7cf53_0 : decode cJ9_min_7cf53 0 = .ok (.iload_n 0, 1) := by decide +kernel
theorem dJ9_min_7cf53_1 : decode cJ9_min_7cf53 1 = .ok (.iload_n 1, 1) := by decide +kernel
theorem dJ9_min_7cf53_2 : decode cJ9_min_7cf53 2 = .ok (.if_icmp .gt 7, 3) := by decide +kernel
theorem dJ9_min_7cf53_5 : decode cJ9_min_7cf53 5 = .ok (.iload_n 0, 1) := by decide +kernel
theorem dJ9_min_7cf53_6 : decode cJ9_min_7cf53 6 = .ok (.goto 4, 3) := by decide +kernel
theorem dJ9_min_7cf53_9 : decode cJ9_min_7cf53 9 = .ok (.iload_n 1, 1) := by decide +kernel
theorem dJ9_min_7cf53_10 : decode cJ9_min_7cf53 10 = .ok (.ireturn, 1) := by decide +kernel
theorem dJ7_fill_53178_0 : decode cJ7_fill_53178 0 = .ok (.iconst 0, 1) := by decide +kernel
theorem dJ7_fill_53178_1 : decode cJ7_fill_53178 1 = .ok (.istore_n 2, 1) := by decide +kernel
theorem dJ7_fill_53178_2 : decode cJ7_fill_53178 2 = .ok (.aload_n 0, 1) := by decide +kernel
theorem dJ7_fill_53178_3 : decode cJ7_fill_53178 3 = .ok (.arraylength, 1) := by decide +kernel
theorem dJ7_fill_53178_4 : decode cJ7_fill_53178 4 = .ok (.istore_n 3, 1) := by decide +kernel
theorem dJ7_fill_53178_5 : decode cJ7_fill_53178 5 = .ok (.iload_n 2, 1) := by decide +kernel
theorem dJ7_fill_53178_6 : decode cJ7_fill_53178 6 = .ok (.iload_n 3, 1) := by decide +kernel
theorem dJ7_fill_53178_7 : decode cJ7_fill_53178 7 = .ok (.if_icmp .ge 13, 3) := by decide +kernel
theorem dJ7_fill_53178_10 : decode cJ7_fill_53178 10 = .ok (.aload_n 0, 1) := by decide +kernel
theorem dJ7_fill_53178_11 : decode cJ7_fill_53178 11 = .ok (.iload_n 2, 1) := by decide +kernel
theorem dJ7_fill_53178_12 : decode cJ7_fill_53178 12 = .ok (.iload_n 1, 1) := by decide +kernel
theorem dJ7_fill_53178_13 : decode cJ7_fill_53178 13 = .ok (.iastore, 1) := by decide +kernel
theorem dJ7_fill_53178_14 : decode cJ7_fill_53178 14 = .ok (.iinc 2 1, 3) := by decide +kernel
theorem dJ7_fill_53178_17 : decode cJ7_fill_53178 17 = .ok (.goto (-12), 3) := by decide +kernel
theorem dJ7_fill_53178_20 : decode cJ7_fill_53178 20 = .ok (.return_, 1) := by decide +kernel
theorem dL_law_0 : decode cL_law 0 = .ok (.new 7, 3) := by decide +kernel
theorem dL_law_3 : decode cL_law 3 = .ok (.dup, 1) := by decide +kernel
theorem dL_law_4 : decode cL_law 4 = .ok (.invokespecial 9, 3) := by decide +kernel
theorem dL_law_7 : decode cL_law 7 = .ok (.astore_n 1, 1) := by decide +kernel
theorem dL_law_8 : decode cL_law 8 = .ok (.new 10, 3) := by decide +kernel
theorem dL_law_11 : decode cL_law 11 = .ok (.dup, 1) := by decide +kernel
theorem dL_law_12 : decode cL_law 12 = .ok (.invokespecial 12, 3) := by decide +kernel
theorem dL_law_15 : decode cL_law 15 = .ok (.astore_n 2, 1) := by decide +kernel
theorem dL_law_16 : decode cL_law 16 = .ok (.iconst 0, 1) := by decide +kernel
theorem dL_law_17 : decode cL_law 17 = .ok (.istore_n 3, 1) := by decide +kernel
theorem dL_law_18 : decode cL_law 18 = .ok (.iload_n 3, 1) := by decide +kernel
theorem dL_law_19 : decode cL_law 19 = .ok (.aload_n 0, 1) := by decide +kernel
theorem dL_law_20 : decode cL_law 20 = .ok (.arraylength, 1) := by decide +kernel
theorem dL_law_21 : decode cL_law 21 = .ok (.bipush 7, 2) := by decide +kernel
theorem dL_law_23 : decode cL_law 23 = .ok (.isub, 1) := by decide +kernel
theorem dL_law_24 : decode cL_law 24 = .ok (.if_icmp .gt 896, 3) := by decide +kernel
theorem dL_law_27 : decode cL_law 27 = .ok (.aload_n 0, 1) := by decide +kernel
theorem dL_law_28 : decode cL_law 28 = .ok (.iload_n 3, 1) := by decide +kernel
theorem dL_law_29 : decode cL_law 29 = .ok (.iaload, 1) := by decide +kernel
theorem dL_law_30 : decode cL_law 30 = .ok (.bipush 31, 2) := by decide +kernel
theorem dL_law_32 : decode cL_law 32 = .ok (.iand, 1) := by decide +kernel
theorem dL_law_33 : decode cL_law 33 = .ok (.tableswitch 881 0 28 #[131, 154, 167, 180, 203, 236, 269, 302, 325, 348, 381, 404, 417, 440, 473, 496, 529, 604, 637, 660, 673, 706, 729, 752, 765, 798, 821, 844, 867], 131) := by decide +kernel
theorem dL_law_164 : decode cL_law 164 = .ok (.aload_n 1, 1) := by decide +kernel
theorem dL_law_165 : decode cL_law 165 = .ok (.aload_n 0, 1) := by decide +kernel
theorem dL_law_166 : decode cL_law 166 = .ok (.iload_n 3, 1) := by decide +kernel
theorem dL_law_167 : decode cL_law 167 = .ok (.iconst 1, 1) := by decide +kernel
theorem dL_law_168 : decode cL_law 168 = .ok (.iadd, 1) := by decide +kernel
theorem dL_law_169 : decode cL_law 169 = .ok (.iaload, 1) := by decide +kernel
theorem dL_law_170 : decode cL_law 170 = .ok (.invokevirtual 13, 3) := by decide +kernel
theorem dL_law_173 : decode cL_law 173 = .ok (.aload_n 2, 1) := by decide +kernel
theorem dL_law_174 : decode cL_law 174 = .ok (.aload_n 0, 1) := by decide +kernel
theorem dL_law_175 : decode cL_law 175 = .ok (.iload_n 3, 1) := by decide +kernel
theorem dL_law_176 : decode cL_law 176 = .ok (.iconst 1, 1) := by decide +kernel
theorem dL_law_177 : decode cL_law 177 = .ok (.iadd, 1) := by decide +kernel
theorem dL_law_178 : decode cL_law 178 = .ok (.iaload, 1) := by decide +kernel
theorem dL_law_179 : decode cL_law 179 = .ok (.invokevirtual 17, 3) := by decide +kernel
theorem dL_law_182 : decode cL_law 182 = .ok (.if_icmp .eq 732, 3) := by decide +kernel
theorem dL_law_185 : decode cL_law 185 = .ok (.iconst 0, 1) := by decide +kernel
theorem dL_law_186 : decode cL_law 186 = .ok (.ireturn, 1) := by decide +kernel
theorem dL_law_187 : decode cL_law 187 = .ok (.aload_n 1, 1) := by decide +kernel
theorem dL_law_188 : decode cL_law 188 = .ok (.invokevirtual 18, 3) := by decide +kernel
theorem dL_law_191 : decode cL_law 191 = .ok (.aload_n 2, 1) := by decide +kernel
theorem dL_law_192 : decode cL_law 192 = .ok (.invokevirtual 22, 3) := by decide +kernel
theorem dL_law_195 : decode cL_law 195 = .ok (.if_icmp .eq 719, 3) := by decide +kernel
theorem dL_law_198 : decode cL_law 198 = .ok (.iconst 0, 1) := by decide +kernel
theorem dL_law_199 : decode cL_law 199 = .ok (.ireturn, 1) := by decide +kernel
theorem dL_law_200 : decode cL_law 200 = .ok (.aload_n 1, 1) := by decide +kernel
theorem dL_law_201 : decode cL_law 201 = .ok (.invokevirtual 23, 3) := by decide +kernel
theorem dL_law_204 : decode cL_law 204 = .ok (.aload_n 2, 1) := by decide +kernel
theorem dL_law_205 : decode cL_law 205 = .ok (.invokevirtual 26, 3) := by decide +kernel
theorem dL_law_208 : decode cL_law 208 = .ok (.if_icmp .eq 706, 3) := by decide +kernel
theorem dL_law_211 : decode cL_law 211 = .ok (.iconst 0, 1) := by decide +kernel
theorem dL_law_212 : decode cL_law 212 = .ok (.ireturn, 1) := by decide +kernel
theorem dL_law_213 : decode cL_law 213 = .ok (.aload_n 1, 1) := by decide +kernel
theorem dL_law_214 : decode cL_law 214 = .ok (.aload_n 0, 1) := by decide +kernel
theorem dL_law_215 : decode cL_law 215 = .ok (.iload_n 3, 1) := by decide +kernel
theorem dL_law_216 : decode cL_law 216 = .ok (.iconst 1, 1) := by decide +kernel
theorem dL_law_217 : decode cL_law 217 = .ok (.iadd, 1) := by decide +kernel
theorem dL_law_218 : decode cL_law 218 = .ok (.iaload, 1) := by decide +kernel
theorem dL_law_219 : decode cL_law 219 = .ok (.invokevirtual 27, 3) := by decide +kernel
theorem dL_law_222 : decode cL_law 222 = .ok (.aload_n 2, 1) := by decide +kernel
theorem dL_law_223 : decode cL_law 223 = .ok (.aload_n 0, 1) := by decide +kernel
theorem dL_law_224 : decode cL_law 224 = .ok (.iload_n 3, 1) := by decide +kernel
theorem dL_law_225 : decode cL_law 225 = .ok (.iconst 1, 1) := by decide +kernel
theorem dL_law_226 : decode cL_law 226 = .ok (.iadd, 1) := by decide +kernel
theorem dL_law_227 : decode cL_law 227 = .ok (.iaload, 1) := by decide +kernel
theorem dL_law_228 : decode cL_law 228 = .ok (.invokevirtual 30, 3) := by decide +kernel
theorem dL_law_231 : decode cL_law 231 = .ok (.if_icmp .eq 683, 3) := by decide +kernel
theorem dL_law_234 : decode cL_law 234 = .ok (.iconst 0, 1) := by decide +kernel
theorem dL_law_235 : decode cL_law 235 = .ok (.ireturn, 1) := by decide +kernel
theorem dL_law_236 : decode cL_law 236 = .ok (.aload_n 1, 1) := by decide +kernel
theorem dL_law_237 : decode cL_law 237 = .ok (.aload_n 0, 1) := by decide +kernel
theorem dL_law_238 : decode cL_law 238 = .ok (.iload_n 3, 1) := by decide +kernel
theorem dL_law_239 : decode cL_law 239 = .ok (.iconst 1, 1) := by decide +kernel
theorem dL_law_240 : decode cL_law 240 = .ok (.iadd, 1) := by decide +kernel
theorem dL_law_241 : decode cL_law 241 = .ok (.iaload, 1) := by decide +kernel
theorem dL_law_242 : decode cL_law 242 = .ok (.aload_n 0, 1) := by decide +kernel
theorem dL_law_243 : decode cL_law 243 = .ok (.iload_n 3, 1) := by decide +kernel
theorem dL_law_244 : decode cL_law 244 = .ok (.iconst 2, 1) := by decide +kernel
theorem dL_law_245 : decode cL_law 245 = .ok (.iadd, 1) := by decide +kernel
theorem dL_law_246 : decode cL_law 246 = .ok (.iaload, 1) := by decide +kernel
theorem dL_law_247 : decode cL_law 247 = .ok (.invokevirtual 31, 3) := by decide +kernel
theorem dL_law_250 : decode cL_law 250 = .ok (.aload_n 2, 1) := by decide +kernel
theorem dL_law_251 : decode cL_law 251 = .ok (.aload_n 0, 1) := by decide +kernel
theorem dL_law_252 : decode cL_law 252 = .ok (.iload_n 3, 1) := by decide +kernel
theorem dL_law_253 : decode cL_law 253 = .ok (.iconst 1, 1) := by decide +kernel
theorem dL_law_254 : decode cL_law 254 = .ok (.iadd, 1) := by decide +kernel
theorem dL_law_255 : decode cL_law 255 = .ok (.iaload, 1) := by decide +kernel
theorem dL_law_256 : decode cL_law 256 = .ok (.aload_n 0, 1) := by decide +kernel
theorem dL_law_257 : decode cL_law 257 = .ok (.iload_n 3, 1) := by decide +kernel
theorem dL_law_258 : decode cL_law 258 = .ok (.iconst 2, 1) := by decide +kernel
theorem dL_law_259 : decode cL_law 259 = .ok (.iadd, 1) := by decide +kernel
theorem dL_law_260 : decode cL_law 260 = .ok (.iaload, 1) := by decide +kernel
theorem dL_law_261 : decode cL_law 261 = .ok (.invokevirtual 35, 3) := by decide +kernel
theorem dL_law_264 : decode cL_law 264 = .ok (.if_icmp .eq 650, 3) := by decide +kernel
theorem dL_law_267 : decode cL_law 267 = .ok (.iconst 0, 1) := by decide +kernel
theorem dL_law_268 : decode cL_law 268 = .ok (.ireturn, 1) := by decide +kernel
theorem dL_law_269 : decode cL_law 269 = .ok (.aload_n 1, 1) := by decide +kernel
theorem dL_law_270 : decode cL_law 270 = .ok (.aload_n 0, 1) := by decide +kernel
theorem dL_law_271 : decode cL_law 271 = .ok (.iload_n 3, 1) := by decide +kernel
theorem dL_law_272 : decode cL_law 272 = .ok (.iconst 1, 1) := by decide +kernel
theorem dL_law_273 : decode cL_law 273 = .ok (.iadd, 1) := by decide +kernel
theorem dL_law_274 : decode cL_law 274 = .ok (.iaload, 1) := by decide +kernel
theorem dL_law_275 : decode cL_law 275 = .ok (.aload_n 0, 1) := by decide +kernel
theorem dL_law_276 : decode cL_law 276 = .ok (.iload_n 3, 1) := by decide +kernel
theorem dL_law_277 : decode cL_law 277 = .ok (.iconst 2, 1) := by decide +kernel
theorem dL_law_278 : decode cL_law 278 = .ok (.iadd, 1) := by decide +kernel
theorem dL_law_279 : decode cL_law 279 = .ok (.iaload, 1) := by decide +kernel
theorem dL_law_280 : decode cL_law 280 = .ok (.invokevirtual 36, 3) := by decide +kernel
theorem dL_law_283 : decode cL_law 283 = .ok (.aload_n 2, 1) := by decide +kernel
theorem dL_law_284 : decode cL_law 284 = .ok (.aload_n 0, 1) := by decide +kernel
theorem dL_law_285 : decode cL_law 285 = .ok (.iload_n 3, 1) := by decide +kernel
theorem dL_law_286 : decode cL_law 286 = .ok (.iconst 1, 1) := by decide +kernel
theorem dL_law_287 : decode cL_law 287 = .ok (.iadd, 1) := by decide +kernel
theorem dL_law_288 : decode cL_law 288 = .ok (.iaload, 1) := by decide +kernel
theorem dL_law_289 : decode cL_law 289 = .ok (.aload_n 0, 1) := by decide +kernel
theorem dL_law_290 : decode cL_law 290 = .ok (.iload_n 3, 1) := by decide +kernel
theorem dL_law_291 : decode cL_law 291 = .ok (.iconst 2, 1) := by decide +kernel
theorem dL_law_292 : decode cL_law 292 = .ok (.iadd, 1) := by decide +kernel
theorem dL_law_293 : decode cL_law 293 = .ok (.iaload, 1) := by decide +kernel
theorem dL_law_294 : decode cL_law 294 = .ok (.invokevirtual 39, 3) := by decide +kernel
theorem dL_law_297 : decode cL_law 297 = .ok (.if_icmp .eq 617, 3) := by decide +kernel
theorem dL_law_300 : decode cL_law 300 = .ok (.iconst 0, 1) := by decide +kernel
theorem dL_law_301 : decode cL_law 301 = .ok (.ireturn, 1) := by decide +kernel
theorem dL_law_302 : decode cL_law 302 = .ok (.aload_n 1, 1) := by decide +kernel
theorem dL_law_303 : decode cL_law 303 = .ok (.aload_n 0, 1) := by decide +kernel
theorem dL_law_304 : decode cL_law 304 = .ok (.iload_n 3, 1) := by decide +kernel
theorem dL_law_305 : decode cL_law 305 = .ok (.iconst 1, 1) := by decide +kernel
theorem dL_law_306 : decode cL_law 306 = .ok (.iadd, 1) := by decide +kernel
theorem dL_law_307 : decode cL_law 307 = .ok (.iaload, 1) := by decide +kernel
theorem dL_law_308 : decode cL_law 308 = .ok (.aload_n 0, 1) := by decide +kernel
theorem dL_law_309 : decode cL_law 309 = .ok (.iload_n 3, 1) := by decide +kernel
theorem dL_law_310 : decode cL_law 310 = .ok (.iconst 2, 1) := by decide +kernel
theorem dL_law_311 : decode cL_law 311 = .ok (.iadd, 1) := by decide +kernel
theorem dL_law_312 : decode cL_law 312 = .ok (.iaload, 1) := by decide +kernel
theorem dL_law_313 : decode cL_law 313 = .ok (.invokevirtual 40, 3) := by decide +kernel
theorem dL_law_316 : decode cL_law 316 = .ok (.aload_n 2, 1) := by decide +kernel
theorem dL_law_317 : decode cL_law 317 = .ok (.aload_n 0, 1) := by decide +kernel
theorem dL_law_318 : decode cL_law 318 = .ok (.iload_n 3, 1) := by decide +kernel
theorem dL_law_319 : decode cL_law 319 = .ok (.iconst 1, 1) := by decide +kernel
theorem dL_law_320 : decode cL_law 320 = .ok (.iadd, 1) := by decide +kernel
theorem dL_law_321 : decode cL_law 321 = .ok (.iaload, 1) := by decide +kernel
theorem dL_law_322 : decode cL_law 322 = .ok (.aload_n 0, 1) := by decide +kernel
theorem dL_law_323 : decode cL_law 323 = .ok (.iload_n 3, 1) := by decide +kernel
theorem dL_law_324 : decode cL_law 324 = .ok (.iconst 2, 1) := by decide +kernel
theorem dL_law_325 : decode cL_law 325 = .ok (.iadd, 1) := by decide +kernel
theorem dL_law_326 : decode cL_law 326 = .ok (.iaload, 1) := by decide +kernel
theorem dL_law_327 : decode cL_law 327 = .ok (.invokevirtual 43, 3) := by decide +kernel
theorem dL_law_330 : decode cL_law 330 = .ok (.if_icmp .eq 584, 3) := by decide +kernel
theorem dL_law_333 : decode cL_law 333 = .ok (.iconst 0, 1) := by decide +kernel
theorem dL_law_334 : decode cL_law 334 = .ok (.ireturn, 1) := by decide +kernel
theorem dL_law_335 : decode cL_law 335 = .ok (.aload_n 1, 1) := by decide +kernel
theorem dL_law_336 : decode cL_law 336 = .ok (.aload_n 0, 1) := by decide +kernel
theorem dL_law_337 : decode cL_law 337 = .ok (.iload_n 3, 1) := by decide +kernel
theorem dL_law_338 : decode cL_law 338 = .ok (.iconst 1, 1) := by decide +kernel
theorem dL_law_339 : decode cL_law 339 = .ok (.iadd, 1) := by decide +kernel
theorem dL_law_340 : decode cL_law 340 = .ok (.iaload, 1) := by decide +kernel
theorem dL_law_341 : decode cL_law 341 = .ok (.invokevirtual 44, 3) := by decide +kernel
theorem dL_law_344 : decode cL_law 344 = .ok (.aload_n 2, 1) := by decide +kernel
theorem dL_law_345 : decode cL_law 345 = .ok (.aload_n 0, 1) := by decide +kernel
theorem dL_law_346 : decode cL_law 346 = .ok (.iload_n 3, 1) := by decide +kernel
theorem dL_law_347 : decode cL_law 347 = .ok (.iconst 1, 1) := by decide +kernel
theorem dL_law_348 : decode cL_law 348 = .ok (.iadd, 1) := by decide +kernel
theorem dL_law_349 : decode cL_law 349 = .ok (.iaload, 1) := by decide +kernel
theorem dL_law_350 : decode cL_law 350 = .ok (.invokevirtual 47, 3) := by decide +kernel
theorem dL_law_353 : decode cL_law 353 = .ok (.if_icmp .eq 561, 3) := by decide +kernel
theorem dL_law_356 : decode cL_law 356 = .ok (.iconst 0, 1) := by decide +kernel
theorem dL_law_357 : decode cL_law 357 = .ok (.ireturn, 1) := by decide +kernel
theorem dL_law_358 : decode cL_law 358 = .ok (.aload_n 1, 1) := by decide +kernel
theorem dL_law_359 : decode cL_law 359 = .ok (.aload_n 0, 1) := by decide +kernel
theorem dL_law_360 : decode cL_law 360 = .ok (.iload_n 3, 1) := by decide +kernel
theorem dL_law_361 : decode cL_law 361 = .ok (.iconst 1, 1) := by decide +kernel
theorem dL_law_362 : decode cL_law 362 = .ok (.iadd, 1) := by decide +kernel
theorem dL_law_363 : decode cL_law 363 = .ok (.iaload, 1) := by decide +kernel
theorem dL_law_364 : decode cL_law 364 = .ok (.invokevirtual 48, 3) := by decide +kernel
theorem dL_law_367 : decode cL_law 367 = .ok (.aload_n 2, 1) := by decide +kernel
theorem dL_law_368 : decode cL_law 368 = .ok (.aload_n 0, 1) := by decide +kernel
theorem dL_law_369 : decode cL_law 369 = .ok (.iload_n 3, 1) := by decide +kernel
theorem dL_law_370 : decode cL_law 370 = .ok (.iconst 1, 1) := by decide +kernel
theorem dL_law_371 : decode cL_law 371 = .ok (.iadd, 1) := by decide +kernel
theorem dL_law_372 : decode cL_law 372 = .ok (.iaload, 1) := by decide +kernel
theorem dL_law_373 : decode cL_law 373 = .ok (.invokevirtual 51, 3) := by decide +kernel
theorem dL_law_376 : decode cL_law 376 = .ok (.if_icmp .eq 538, 3) := by decide +kernel
theorem dL_law_379 : decode cL_law 379 = .ok (.iconst 0, 1) := by decide +kernel
theorem dL_law_380 : decode cL_law 380 = .ok (.ireturn, 1) := by decide +kernel
theorem dL_law_381 : decode cL_law 381 = .ok (.aload_n 1, 1) := by decide +kernel
theorem dL_law_382 : decode cL_law 382 = .ok (.aload_n 0, 1) := by decide +kernel
theorem dL_law_383 : decode cL_law 383 = .ok (.iload_n 3, 1) := by decide +kernel
theorem dL_law_384 : decode cL_law 384 = .ok (.iconst 1, 1) := by decide +kernel
theorem dL_law_385 : decode cL_law 385 = .ok (.iadd, 1) := by decide +kernel
theorem dL_law_386 : decode cL_law 386 = .ok (.iaload, 1) := by decide +kernel
theorem dL_law_387 : decode cL_law 387 = .ok (.aload_n 0, 1) := by decide +kernel
theorem dL_law_388 : decode cL_law 388 = .ok (.iload_n 3, 1) := by decide +kernel
theorem dL_law_389 : decode cL_law 389 = .ok (.iconst 2, 1) := by decide +kernel
theorem dL_law_390 : decode cL_law 390 = .ok (.iadd, 1) := by decide +kernel
theorem dL_law_391 : decode cL_law 391 = .ok (.iaload, 1) := by decide +kernel
theorem dL_law_392 : decode cL_law 392 = .ok (.invokevirtual 52, 3) := by decide +kernel
theorem dL_law_395 : decode cL_law 395 = .ok (.aload_n 2, 1) := by decide +kernel
theorem dL_law_396 : decode cL_law 396 = .ok (.aload_n 0, 1) := by decide +kernel
theorem dL_law_397 : decode cL_law 397 = .ok (.iload_n 3, 1) := by decide +kernel
theorem dL_law_398 : decode cL_law 398 = .ok (.iconst 1, 1) := by decide +kernel
theorem dL_law_399 : decode cL_law 399 = .ok (.iadd, 1) := by decide +kernel
theorem dL_law_400 : decode cL_law 400 = .ok (.iaload, 1) := by decide +kernel
theorem dL_law_401 : decode cL_law 401 = .ok (.aload_n 0, 1) := by decide +kernel
theorem dL_law_402 : decode cL_law 402 = .ok (.iload_n 3, 1) := by decide +kernel
theorem dL_law_403 : decode cL_law 403 = .ok (.iconst 2, 1) := by decide +kernel
theorem dL_law_404 : decode cL_law 404 = .ok (.iadd, 1) := by decide +kernel
theorem dL_law_405 : decode cL_law 405 = .ok (.iaload, 1) := by decide +kernel
theorem dL_law_406 : decode cL_law 406 = .ok (.invokevirtual 55, 3) := by decide +kernel
theorem dL_law_409 : decode cL_law 409 = .ok (.if_icmp .eq 505, 3) := by decide +kernel
theorem dL_law_412 : decode cL_law 412 = .ok (.iconst 0, 1) := by decide +kernel
theorem dL_law_413 : decode cL_law 413 = .ok (.ireturn, 1) := by decide +kernel
theorem dL_law_414 : decode cL_law 414 = .ok (.aload_n 1, 1) := by decide +kernel
theorem dL_law_415 : decode cL_law 415 = .ok (.aload_n 0, 1) := by decide +kernel
theorem dL_law_416 : decode cL_law 416 = .ok (.iload_n 3, 1) := by decide +kernel
theorem dL_law_417 : decode cL_law 417 = .ok (.iconst 1, 1) := by decide +kernel
theorem dL_law_418 : decode cL_law 418 = .ok (.iadd, 1) := by decide +kernel
theorem dL_law_419 : decode cL_law 419 = .ok (.iaload, 1) := by decide +kernel
theorem dL_law_420 : decode cL_law 420 = .ok (.invokevirtual 56, 3) := by decide +kernel
theorem dL_law_423 : decode cL_law 423 = .ok (.aload_n 2, 1) := by decide +kernel
theorem dL_law_424 : decode cL_law 424 = .ok (.aload_n 0, 1) := by decide +kernel
theorem dL_law_425 : decode cL_law 425 = .ok (.iload_n 3, 1) := by decide +kernel
theorem dL_law_426 : decode cL_law 426 = .ok (.iconst 1, 1) := by decide +kernel
theorem dL_law_427 : decode cL_law 427 = .ok (.iadd, 1) := by decide +kernel
theorem dL_law_428 : decode cL_law 428 = .ok (.iaload, 1) := by decide +kernel
theorem dL_law_429 : decode cL_law 429 = .ok (.invokevirtual 59, 3) := by decide +kernel
theorem dL_law_432 : decode cL_law 432 = .ok (.if_icmp .eq 482, 3) := by decide +kernel
theorem dL_law_435 : decode cL_law 435 = .ok (.iconst 0, 1) := by decide +kernel
theorem dL_law_436 : decode cL_law 436 = .ok (.ireturn, 1) := by decide +kernel
theorem dL_law_437 : decode cL_law 437 = .ok (.aload_n 1, 1) := by decide +kernel
theorem dL_law_438 : decode cL_law 438 = .ok (.invokevirtual 60, 3) := by decide +kernel
theorem dL_law_441 : decode cL_law 441 = .ok (.aload_n 2, 1) := by decide +kernel
theorem dL_law_442 : decode cL_law 442 = .ok (.invokevirtual 63, 3) := by decide +kernel
theorem dL_law_445 : decode cL_law 445 = .ok (.if_icmp .eq 469, 3) := by decide +kernel
theorem dL_law_448 : decode cL_law 448 = .ok (.iconst 0, 1) := by decide +kernel
theorem dL_law_449 : decode cL_law 449 = .ok (.ireturn, 1) := by decide +kernel
theorem dL_law_450 : decode cL_law 450 = .ok (.aload_n 1, 1) := by decide +kernel
theorem dL_law_451 : decode cL_law 451 = .ok (.aload_n 0, 1) := by decide +kernel
theorem dL_law_452 : decode cL_law 452 = .ok (.iload_n 3, 1) := by decide +kernel
theorem dL_law_453 : decode cL_law 453 = .ok (.iconst 1, 1) := by decide +kernel
theorem dL_law_454 : decode cL_law 454 = .ok (.iadd, 1) := by decide +kernel
theorem dL_law_455 : decode cL_law 455 = .ok (.iaload, 1) := by decide +kernel
theorem dL_law_456 : decode cL_law 456 = .ok (.invokevirtual 64, 3) := by decide +kernel
theorem dL_law_459 : decode cL_law 459 = .ok (.aload_n 2, 1) := by decide +kernel
theorem dL_law_460 : decode cL_law 460 = .ok (.aload_n 0, 1) := by decide +kernel
theorem dL_law_461 : decode cL_law 461 = .ok (.iload_n 3, 1) := by decide +kernel
theorem dL_law_462 : decode cL_law 462 = .ok (.iconst 1, 1) := by decide +kernel
theorem dL_law_463 : decode cL_law 463 = .ok (.iadd, 1) := by decide +kernel
theorem dL_law_464 : decode cL_law 464 = .ok (.iaload, 1) := by decide +kernel
theorem dL_law_465 : decode cL_law 465 = .ok (.invokevirtual 67, 3) := by decide +kernel
theorem dL_law_468 : decode cL_law 468 = .ok (.if_icmp .eq 446, 3) := by decide +kernel
theorem dL_law_471 : decode cL_law 471 = .ok (.iconst 0, 1) := by decide +kernel
theorem dL_law_472 : decode cL_law 472 = .ok (.ireturn, 1) := by decide +kernel
theorem dL_law_473 : decode cL_law 473 = .ok (.aload_n 1, 1) := by decide +kernel
theorem dL_law_474 : decode cL_law 474 = .ok (.aload_n 0, 1) := by decide +kernel
theorem dL_law_475 : decode cL_law 475 = .ok (.iload_n 3, 1) := by decide +kernel
theorem dL_law_476 : decode cL_law 476 = .ok (.iconst 1, 1) := by decide +kernel
theorem dL_law_477 : decode cL_law 477 = .ok (.iadd, 1) := by decide +kernel
theorem dL_law_478 : decode cL_law 478 = .ok (.iaload, 1) := by decide +kernel
theorem dL_law_479 : decode cL_law 479 = .ok (.aload_n 0, 1) := by decide +kernel
theorem dL_law_480 : decode cL_law 480 = .ok (.iload_n 3, 1) := by decide +kernel
theorem dL_law_481 : decode cL_law 481 = .ok (.iconst 2, 1) := by decide +kernel
theorem dL_law_482 : decode cL_law 482 = .ok (.iadd, 1) := by decide +kernel
theorem dL_law_483 : decode cL_law 483 = .ok (.iaload, 1) := by decide +kernel
theorem dL_law_484 : decode cL_law 484 = .ok (.invokevirtual 68, 3) := by decide +kernel
theorem dL_law_487 : decode cL_law 487 = .ok (.aload_n 2, 1) := by decide +kernel
theorem dL_law_488 : decode cL_law 488 = .ok (.aload_n 0, 1) := by decide +kernel
theorem dL_law_489 : decode cL_law 489 = .ok (.iload_n 3, 1) := by decide +kernel
theorem dL_law_490 : decode cL_law 490 = .ok (.iconst 1, 1) := by decide +kernel
theorem dL_law_491 : decode cL_law 491 = .ok (.iadd, 1) := by decide +kernel
theorem dL_law_492 : decode cL_law 492 = .ok (.iaload, 1) := by decide +kernel
theorem dL_law_493 : decode cL_law 493 = .ok (.aload_n 0, 1) := by decide +kernel
theorem dL_law_494 : decode cL_law 494 = .ok (.iload_n 3, 1) := by decide +kernel
theorem dL_law_495 : decode cL_law 495 = .ok (.iconst 2, 1) := by decide +kernel
theorem dL_law_496 : decode cL_law 496 = .ok (.iadd, 1) := by decide +kernel
theorem dL_law_497 : decode cL_law 497 = .ok (.iaload, 1) := by decide +kernel
theorem dL_law_498 : decode cL_law 498 = .ok (.invokevirtual 71, 3) := by decide +kernel
theorem dL_law_501 : decode cL_law 501 = .ok (.if_icmp .eq 413, 3) := by decide +kernel
theorem dL_law_504 : decode cL_law 504 = .ok (.iconst 0, 1) := by decide +kernel
theorem dL_law_505 : decode cL_law 505 = .ok (.ireturn, 1) := by decide +kernel
theorem dL_law_506 : decode cL_law 506 = .ok (.aload_n 1, 1) := by decide +kernel
theorem dL_law_507 : decode cL_law 507 = .ok (.aload_n 0, 1) := by decide +kernel
theorem dL_law_508 : decode cL_law 508 = .ok (.iload_n 3, 1) := by decide +kernel
theorem dL_law_509 : decode cL_law 509 = .ok (.iconst 1, 1) := by decide +kernel
theorem dL_law_510 : decode cL_law 510 = .ok (.iadd, 1) := by decide +kernel
theorem dL_law_511 : decode cL_law 511 = .ok (.iaload, 1) := by decide +kernel
theorem dL_law_512 : decode cL_law 512 = .ok (.invokevirtual 72, 3) := by decide +kernel
theorem dL_law_515 : decode cL_law 515 = .ok (.aload_n 2, 1) := by decide +kernel
theorem dL_law_516 : decode cL_law 516 = .ok (.aload_n 0, 1) := by decide +kernel
theorem dL_law_517 : decode cL_law 517 = .ok (.iload_n 3, 1) := by decide +kernel
theorem dL_law_518 : decode cL_law 518 = .ok (.iconst 1, 1) := by decide +kernel
theorem dL_law_519 : decode cL_law 519 = .ok (.iadd, 1) := by decide +kernel
theorem dL_law_520 : decode cL_law 520 = .ok (.iaload, 1) := by decide +kernel
theorem dL_law_521 : decode cL_law 521 = .ok (.invokevirtual 75, 3) := by decide +kernel
theorem dL_law_524 : decode cL_law 524 = .ok (.if_icmp .eq 390, 3) := by decide +kernel
theorem dL_law_527 : decode cL_law 527 = .ok (.iconst 0, 1) := by decide +kernel
theorem dL_law_528 : decode cL_law 528 = .ok (.ireturn, 1) := by decide +kernel
theorem dL_law_529 : decode cL_law 529 = .ok (.aload_n 1, 1) := by decide +kernel
theorem dL_law_530 : decode cL_law 530 = .ok (.aload_n 0, 1) := by decide +kernel
theorem dL_law_531 : decode cL_law 531 = .ok (.iload_n 3, 1) := by decide +kernel
theorem dL_law_532 : decode cL_law 532 = .ok (.iconst 1, 1) := by decide +kernel
theorem dL_law_533 : decode cL_law 533 = .ok (.iadd, 1) := by decide +kernel
theorem dL_law_534 : decode cL_law 534 = .ok (.iaload, 1) := by decide +kernel
theorem dL_law_535 : decode cL_law 535 = .ok (.aload_n 0, 1) := by decide +kernel
theorem dL_law_536 : decode cL_law 536 = .ok (.iload_n 3, 1) := by decide +kernel
theorem dL_law_537 : decode cL_law 537 = .ok (.iconst 2, 1) := by decide +kernel
theorem dL_law_538 : decode cL_law 538 = .ok (.iadd, 1) := by decide +kernel
theorem dL_law_539 : decode cL_law 539 = .ok (.iaload, 1) := by decide +kernel
theorem dL_law_540 : decode cL_law 540 = .ok (.invokevirtual 76, 3) := by decide +kernel
theorem dL_law_543 : decode cL_law 543 = .ok (.aload_n 2, 1) := by decide +kernel
theorem dL_law_544 : decode cL_law 544 = .ok (.aload_n 0, 1) := by decide +kernel
theorem dL_law_545 : decode cL_law 545 = .ok (.iload_n 3, 1) := by decide +kernel
theorem dL_law_546 : decode cL_law 546 = .ok (.iconst 1, 1) := by decide +kernel
theorem dL_law_547 : decode cL_law 547 = .ok (.iadd, 1) := by decide +kernel
theorem dL_law_548 : decode cL_law 548 = .ok (.iaload, 1) := by decide +kernel
theorem dL_law_549 : decode cL_law 549 = .ok (.aload_n 0, 1) := by decide +kernel
theorem dL_law_550 : decode cL_law 550 = .ok (.iload_n 3, 1) := by decide +kernel
theorem dL_law_551 : decode cL_law 551 = .ok (.iconst 2, 1) := by decide +kernel
theorem dL_law_552 : decode cL_law 552 = .ok (.iadd, 1) := by decide +kernel
theorem dL_law_553 : decode cL_law 553 = .ok (.iaload, 1) := by decide +kernel
theorem dL_law_554 : decode cL_law 554 = .ok (.invokevirtual 79, 3) := by decide +kernel
theorem dL_law_557 : decode cL_law 557 = .ok (.if_icmp .eq 357, 3) := by decide +kernel
theorem dL_law_560 : decode cL_law 560 = .ok (.iconst 0, 1) := by decide +kernel
theorem dL_law_561 : decode cL_law 561 = .ok (.ireturn, 1) := by decide +kernel
theorem dL_law_562 : decode cL_law 562 = .ok (.aload_n 1, 1) := by decide +kernel
theorem dL_law_563 : decode cL_law 563 = .ok (.aload_n 0, 1) := by decide +kernel
theorem dL_law_564 : decode cL_law 564 = .ok (.iload_n 3, 1) := by decide +kernel
theorem dL_law_565 : decode cL_law 565 = .ok (.iconst 1, 1) := by decide +kernel
theorem dL_law_566 : decode cL_law 566 = .ok (.iadd, 1) := by decide +kernel
theorem dL_law_567 : decode cL_law 567 = .ok (.iaload, 1) := by decide +kernel
theorem dL_law_568 : decode cL_law 568 = .ok (.aload_n 0, 1) := by decide +kernel
theorem dL_law_569 : decode cL_law 569 = .ok (.iload_n 3, 1) := by decide +kernel
theorem dL_law_570 : decode cL_law 570 = .ok (.iconst 2, 1) := by decide +kernel
theorem dL_law_571 : decode cL_law 571 = .ok (.iadd, 1) := by decide +kernel
theorem dL_law_572 : decode cL_law 572 = .ok (.iaload, 1) := by decide +kernel
theorem dL_law_573 : decode cL_law 573 = .ok (.aload_n 0, 1) := by decide +kernel
theorem dL_law_574 : decode cL_law 574 = .ok (.iload_n 3, 1) := by decide +kernel
theorem dL_law_575 : decode cL_law 575 = .ok (.iconst 3, 1) := by decide +kernel
theorem dL_law_576 : decode cL_law 576 = .ok (.iadd, 1) := by decide +kernel
theorem dL_law_577 : decode cL_law 577 = .ok (.iaload, 1) := by decide +kernel
theorem dL_law_578 : decode cL_law 578 = .ok (.aload_n 0, 1) := by decide +kernel
theorem dL_law_579 : decode cL_law 579 = .ok (.iload_n 3, 1) := by decide +kernel
theorem dL_law_580 : decode cL_law 580 = .ok (.iconst 4, 1) := by decide +kernel
theorem dL_law_581 : decode cL_law 581 = .ok (.iadd, 1) := by decide +kernel
theorem dL_law_582 : decode cL_law 582 = .ok (.iaload, 1) := by decide +kernel
theorem dL_law_583 : decode cL_law 583 = .ok (.aload_n 0, 1) := by decide +kernel
theorem dL_law_584 : decode cL_law 584 = .ok (.iload_n 3, 1) := by decide +kernel
theorem dL_law_585 : decode cL_law 585 = .ok (.iconst 5, 1) := by decide +kernel
theorem dL_law_586 : decode cL_law 586 = .ok (.iadd, 1) := by decide +kernel
theorem dL_law_587 : decode cL_law 587 = .ok (.iaload, 1) := by decide +kernel
theorem dL_law_588 : decode cL_law 588 = .ok (.aload_n 0, 1) := by decide +kernel
theorem dL_law_589 : decode cL_law 589 = .ok (.iload_n 3, 1) := by decide +kernel
theorem dL_law_590 : decode cL_law 590 = .ok (.bipush 6, 2) := by decide +kernel
theorem dL_law_592 : decode cL_law 592 = .ok (.iadd, 1) := by decide +kernel
theorem dL_law_593 : decode cL_law 593 = .ok (.iaload, 1) := by decide +kernel
theorem dL_law_594 : decode cL_law 594 = .ok (.invokevirtual 80, 3) := by decide +kernel
theorem dL_law_597 : decode cL_law 597 = .ok (.aload_n 2, 1) := by decide +kernel
theorem dL_law_598 : decode cL_law 598 = .ok (.aload_n 0, 1) := by decide +kernel
theorem dL_law_599 : decode cL_law 599 = .ok (.iload_n 3, 1) := by decide +kernel
theorem dL_law_600 : decode cL_law 600 = .ok (.iconst 1, 1) := by decide +kernel
theorem dL_law_601 : decode cL_law 601 = .ok (.iadd, 1) := by decide +kernel
theorem dL_law_602 : decode cL_law 602 = .ok (.iaload, 1) := by decide +kernel
theorem dL_law_603 : decode cL_law 603 = .ok (.aload_n 0, 1) := by decide +kernel
theorem dL_law_604 : decode cL_law 604 = .ok (.iload_n 3, 1) := by decide +kernel
theorem dL_law_605 : decode cL_law 605 = .ok (.iconst 2, 1) := by decide +kernel
theorem dL_law_606 : decode cL_law 606 = .ok (.iadd, 1) := by decide +kernel
theorem dL_law_607 : decode cL_law 607 = .ok (.iaload, 1) := by decide +kernel
theorem dL_law_608 : decode cL_law 608 = .ok (.aload_n 0, 1) := by decide +kernel
theorem dL_law_609 : decode cL_law 609 = .ok (.iload_n 3, 1) := by decide +kernel
theorem dL_law_610 : decode cL_law 610 = .ok (.iconst 3, 1) := by decide +kernel
theorem dL_law_611 : decode cL_law 611 = .ok (.iadd, 1) := by decide +kernel
theorem dL_law_612 : decode cL_law 612 = .ok (.iaload, 1) := by decide +kernel
theorem dL_law_613 : decode cL_law 613 = .ok (.aload_n 0, 1) := by decide +kernel
theorem dL_law_614 : decode cL_law 614 = .ok (.iload_n 3, 1) := by decide +kernel
theorem dL_law_615 : decode cL_law 615 = .ok (.iconst 4, 1) := by decide +kernel
theorem dL_law_616 : decode cL_law 616 = .ok (.iadd, 1) := by decide +kernel
theorem dL_law_617 : decode cL_law 617 = .ok (.iaload, 1) := by decide +kernel
theorem dL_law_618 : decode cL_law 618 = .ok (.aload_n 0, 1) := by decide +kernel
theorem dL_law_619 : decode cL_law 619 = .ok (.iload_n 3, 1) := by decide +kernel
theorem dL_law_620 : decode cL_law 620 = .ok (.iconst 5, 1) := by decide +kernel
theorem dL_law_621 : decode cL_law 621 = .ok (.iadd, 1) := by decide +kernel
theorem dL_law_622 : decode cL_law 622 = .ok (.iaload, 1) := by decide +kernel
theorem dL_law_623 : decode cL_law 623 = .ok (.aload_n 0, 1) := by decide +kernel
theorem dL_law_624 : decode cL_law 624 = .ok (.iload_n 3, 1) := by decide +kernel
theorem dL_law_625 : decode cL_law 625 = .ok (.bipush 6, 2) := by decide +kernel
theorem dL_law_627 : decode cL_law 627 = .ok (.iadd, 1) := by decide +kernel
theorem dL_law_628 : decode cL_law 628 = .ok (.iaload, 1) := by decide +kernel
theorem dL_law_629 : decode cL_law 629 = .ok (.invokevirtual 84, 3) := by decide +kernel
theorem dL_law_632 : decode cL_law 632 = .ok (.if_icmp .eq 282, 3) := by decide +kernel
theorem dL_law_635 : decode cL_law 635 = .ok (.iconst 0, 1) := by decide +kernel
theorem dL_law_636 : decode cL_law 636 = .ok (.ireturn, 1) := by decide +kernel
theorem dL_law_637 : decode cL_law 637 = .ok (.aload_n 1, 1) := by decide +kernel
theorem dL_law_638 : decode cL_law 638 = .ok (.aload_n 0, 1) := by decide +kernel
theorem dL_law_639 : decode cL_law 639 = .ok (.iload_n 3, 1) := by decide +kernel
theorem dL_law_640 : decode cL_law 640 = .ok (.iconst 1, 1) := by decide +kernel
theorem dL_law_641 : decode cL_law 641 = .ok (.iadd, 1) := by decide +kernel
theorem dL_law_642 : decode cL_law 642 = .ok (.iaload, 1) := by decide +kernel
theorem dL_law_643 : decode cL_law 643 = .ok (.aload_n 0, 1) := by decide +kernel
theorem dL_law_644 : decode cL_law 644 = .ok (.iload_n 3, 1) := by decide +kernel
theorem dL_law_645 : decode cL_law 645 = .ok (.iconst 2, 1) := by decide +kernel
theorem dL_law_646 : decode cL_law 646 = .ok (.iadd, 1) := by decide +kernel
theorem dL_law_647 : decode cL_law 647 = .ok (.iaload, 1) := by decide +kernel
theorem dL_law_648 : decode cL_law 648 = .ok (.invokevirtual 85, 3) := by decide +kernel
theorem dL_law_651 : decode cL_law 651 = .ok (.aload_n 2, 1) := by decide +kernel
theorem dL_law_652 : decode cL_law 652 = .ok (.aload_n 0, 1) := by decide +kernel
theorem dL_law_653 : decode cL_law 653 = .ok (.iload_n 3, 1) := by decide +kernel
theorem dL_law_654 : decode cL_law 654 = .ok (.iconst 1, 1) := by decide +kernel
theorem dL_law_655 : decode cL_law 655 = .ok (.iadd, 1) := by decide +kernel
theorem dL_law_656 : decode cL_law 656 = .ok (.iaload, 1) := by decide +kernel
theorem dL_law_657 : decode cL_law 657 = .ok (.aload_n 0, 1) := by decide +kernel
theorem dL_law_658 : decode cL_law 658 = .ok (.iload_n 3, 1) := by decide +kernel
theorem dL_law_659 : decode cL_law 659 = .ok (.iconst 2, 1) := by decide +kernel
theorem dL_law_660 : decode cL_law 660 = .ok (.iadd, 1) := by decide +kernel
theorem dL_law_661 : decode cL_law 661 = .ok (.iaload, 1) := by decide +kernel
theorem dL_law_662 : decode cL_law 662 = .ok (.invokevirtual 88, 3) := by decide +kernel
theorem dL_law_665 : decode cL_law 665 = .ok (.if_icmp .eq 249, 3) := by decide +kernel
theorem dL_law_668 : decode cL_law 668 = .ok (.iconst 0, 1) := by decide +kernel
theorem dL_law_669 : decode cL_law 669 = .ok (.ireturn, 1) := by decide +kernel
theorem dL_law_670 : decode cL_law 670 = .ok (.aload_n 1, 1) := by decide +kernel
theorem dL_law_671 : decode cL_law 671 = .ok (.aload_n 0, 1) := by decide +kernel
theorem dL_law_672 : decode cL_law 672 = .ok (.iload_n 3, 1) := by decide +kernel
theorem dL_law_673 : decode cL_law 673 = .ok (.iconst 1, 1) := by decide +kernel
theorem dL_law_674 : decode cL_law 674 = .ok (.iadd, 1) := by decide +kernel
theorem dL_law_675 : decode cL_law 675 = .ok (.iaload, 1) := by decide +kernel
theorem dL_law_676 : decode cL_law 676 = .ok (.invokevirtual 89, 3) := by decide +kernel
theorem dL_law_679 : decode cL_law 679 = .ok (.aload_n 2, 1) := by decide +kernel
theorem dL_law_680 : decode cL_law 680 = .ok (.aload_n 0, 1) := by decide +kernel
theorem dL_law_681 : decode cL_law 681 = .ok (.iload_n 3, 1) := by decide +kernel
theorem dL_law_682 : decode cL_law 682 = .ok (.iconst 1, 1) := by decide +kernel
theorem dL_law_683 : decode cL_law 683 = .ok (.iadd, 1) := by decide +kernel
theorem dL_law_684 : decode cL_law 684 = .ok (.iaload, 1) := by decide +kernel
theorem dL_law_685 : decode cL_law 685 = .ok (.invokevirtual 92, 3) := by decide +kernel
theorem dL_law_688 : decode cL_law 688 = .ok (.if_icmp .eq 226, 3) := by decide +kernel
theorem dL_law_691 : decode cL_law 691 = .ok (.iconst 0, 1) := by decide +kernel
theorem dL_law_692 : decode cL_law 692 = .ok (.ireturn, 1) := by decide +kernel
theorem dL_law_693 : decode cL_law 693 = .ok (.aload_n 1, 1) := by decide +kernel
theorem dL_law_694 : decode cL_law 694 = .ok (.invokevirtual 93, 3) := by decide +kernel
theorem dL_law_697 : decode cL_law 697 = .ok (.aload_n 2, 1) := by decide +kernel
theorem dL_law_698 : decode cL_law 698 = .ok (.invokevirtual 96, 3) := by decide +kernel
theorem dL_law_701 : decode cL_law 701 = .ok (.if_icmp .eq 213, 3) := by decide +kernel
theorem dL_law_704 : decode cL_law 704 = .ok (.iconst 0, 1) := by decide +kernel
theorem dL_law_705 : decode cL_law 705 = .ok (.ireturn, 1) := by decide +kernel
theorem dL_law_706 : decode cL_law 706 = .ok (.aload_n 1, 1) := by decide +kernel
theorem dL_law_707 : decode cL_law 707 = .ok (.aload_n 0, 1) := by decide +kernel
theorem dL_law_708 : decode cL_law 708 = .ok (.iload_n 3, 1) := by decide +kernel
theorem dL_law_709 : decode cL_law 709 = .ok (.iconst 1, 1) := by decide +kernel
theorem dL_law_710 : decode cL_law 710 = .ok (.iadd, 1) := by decide +kernel
theorem dL_law_711 : decode cL_law 711 = .ok (.iaload, 1) := by decide +kernel
theorem dL_law_712 : decode cL_law 712 = .ok (.aload_n 0, 1) := by decide +kernel
theorem dL_law_713 : decode cL_law 713 = .ok (.iload_n 3, 1) := by decide +kernel
theorem dL_law_714 : decode cL_law 714 = .ok (.iconst 2, 1) := by decide +kernel
theorem dL_law_715 : decode cL_law 715 = .ok (.iadd, 1) := by decide +kernel
theorem dL_law_716 : decode cL_law 716 = .ok (.iaload, 1) := by decide +kernel
theorem dL_law_717 : decode cL_law 717 = .ok (.invokevirtual 97, 3) := by decide +kernel
theorem dL_law_720 : decode cL_law 720 = .ok (.aload_n 2, 1) := by decide +kernel
theorem dL_law_721 : decode cL_law 721 = .ok (.aload_n 0, 1) := by decide +kernel
theorem dL_law_722 : decode cL_law 722 = .ok (.iload_n 3, 1) := by decide +kernel
theorem dL_law_723 : decode cL_law 723 = .ok (.iconst 1, 1) := by decide +kernel
theorem dL_law_724 : decode cL_law 724 = .ok (.iadd, 1) := by decide +kernel
theorem dL_law_725 : decode cL_law 725 = .ok (.iaload, 1) := by decide +kernel
theorem dL_law_726 : decode cL_law 726 = .ok (.aload_n 0, 1) := by decide +kernel
theorem dL_law_727 : decode cL_law 727 = .ok (.iload_n 3, 1) := by decide +kernel
theorem dL_law_728 : decode cL_law 728 = .ok (.iconst 2, 1) := by decide +kernel
theorem dL_law_729 : decode cL_law 729 = .ok (.iadd, 1) := by decide +kernel
theorem dL_law_730 : decode cL_law 730 = .ok (.iaload, 1) := by decide +kernel
theorem dL_law_731 : decode cL_law 731 = .ok (.invokevirtual 100, 3) := by decide +kernel
theorem dL_law_734 : decode cL_law 734 = .ok (.if_icmp .eq 180, 3) := by decide +kernel
theorem dL_law_737 : decode cL_law 737 = .ok (.iconst 0, 1) := by decide +kernel
theorem dL_law_738 : decode cL_law 738 = .ok (.ireturn, 1) := by decide +kernel
theorem dL_law_739 : decode cL_law 739 = .ok (.aload_n 1, 1) := by decide +kernel
theorem dL_law_740 : decode cL_law 740 = .ok (.aload_n 0, 1) := by decide +kernel
theorem dL_law_741 : decode cL_law 741 = .ok (.iload_n 3, 1) := by decide +kernel
theorem dL_law_742 : decode cL_law 742 = .ok (.iconst 1, 1) := by decide +kernel
theorem dL_law_743 : decode cL_law 743 = .ok (.iadd, 1) := by decide +kernel
theorem dL_law_744 : decode cL_law 744 = .ok (.iaload, 1) := by decide +kernel
theorem dL_law_745 : decode cL_law 745 = .ok (.invokevirtual 101, 3) := by decide +kernel
theorem dL_law_748 : decode cL_law 748 = .ok (.aload_n 2, 1) := by decide +kernel
theorem dL_law_749 : decode cL_law 749 = .ok (.aload_n 0, 1) := by decide +kernel
theorem dL_law_750 : decode cL_law 750 = .ok (.iload_n 3, 1) := by decide +kernel
theorem dL_law_751 : decode cL_law 751 = .ok (.iconst 1, 1) := by decide +kernel
theorem dL_law_752 : decode cL_law 752 = .ok (.iadd, 1) := by decide +kernel
theorem dL_law_753 : decode cL_law 753 = .ok (.iaload, 1) := by decide +kernel
theorem dL_law_754 : decode cL_law 754 = .ok (.invokevirtual 104, 3) := by decide +kernel
theorem dL_law_757 : decode cL_law 757 = .ok (.if_icmp .eq 157, 3) := by decide +kernel
theorem dL_law_760 : decode cL_law 760 = .ok (.iconst 0, 1) := by decide +kernel
theorem dL_law_761 : decode cL_law 761 = .ok (.ireturn, 1) := by decide +kernel
theorem dL_law_762 : decode cL_law 762 = .ok (.aload_n 1, 1) := by decide +kernel
theorem dL_law_763 : decode cL_law 763 = .ok (.aload_n 0, 1) := by decide +kernel
theorem dL_law_764 : decode cL_law 764 = .ok (.iload_n 3, 1) := by decide +kernel
theorem dL_law_765 : decode cL_law 765 = .ok (.iconst 1, 1) := by decide +kernel
theorem dL_law_766 : decode cL_law 766 = .ok (.iadd, 1) := by decide +kernel
theorem dL_law_767 : decode cL_law 767 = .ok (.iaload, 1) := by decide +kernel
theorem dL_law_768 : decode cL_law 768 = .ok (.invokevirtual 105, 3) := by decide +kernel
theorem dL_law_771 : decode cL_law 771 = .ok (.aload_n 2, 1) := by decide +kernel
theorem dL_law_772 : decode cL_law 772 = .ok (.aload_n 0, 1) := by decide +kernel
theorem dL_law_773 : decode cL_law 773 = .ok (.iload_n 3, 1) := by decide +kernel
theorem dL_law_774 : decode cL_law 774 = .ok (.iconst 1, 1) := by decide +kernel
theorem dL_law_775 : decode cL_law 775 = .ok (.iadd, 1) := by decide +kernel
theorem dL_law_776 : decode cL_law 776 = .ok (.iaload, 1) := by decide +kernel
theorem dL_law_777 : decode cL_law 777 = .ok (.invokevirtual 108, 3) := by decide +kernel
theorem dL_law_780 : decode cL_law 780 = .ok (.if_icmp .eq 134, 3) := by decide +kernel
theorem dL_law_783 : decode cL_law 783 = .ok (.iconst 0, 1) := by decide +kernel
theorem dL_law_784 : decode cL_law 784 = .ok (.ireturn, 1) := by decide +kernel
theorem dL_law_785 : decode cL_law 785 = .ok (.aload_n 1, 1) := by decide +kernel
theorem dL_law_786 : decode cL_law 786 = .ok (.invokevirtual 109, 3) := by decide +kernel
theorem dL_law_789 : decode cL_law 789 = .ok (.aload_n 2, 1) := by decide +kernel
theorem dL_law_790 : decode cL_law 790 = .ok (.invokevirtual 112, 3) := by decide +kernel
theorem dL_law_793 : decode cL_law 793 = .ok (.if_icmp .eq 121, 3) := by decide +kernel
theorem dL_law_796 : decode cL_law 796 = .ok (.iconst 0, 1) := by decide +kernel
theorem dL_law_797 : decode cL_law 797 = .ok (.ireturn, 1) := by decide +kernel
theorem dL_law_798 : decode cL_law 798 = .ok (.aload_n 1, 1) := by decide +kernel
theorem dL_law_799 : decode cL_law 799 = .ok (.aload_n 0, 1) := by decide +kernel
theorem dL_law_800 : decode cL_law 800 = .ok (.iload_n 3, 1) := by decide +kernel
theorem dL_law_801 : decode cL_law 801 = .ok (.iconst 1, 1) := by decide +kernel
theorem dL_law_802 : decode cL_law 802 = .ok (.iadd, 1) := by decide +kernel
theorem dL_law_803 : decode cL_law 803 = .ok (.iaload, 1) := by decide +kernel
theorem dL_law_804 : decode cL_law 804 = .ok (.aload_n 0, 1) := by decide +kernel
theorem dL_law_805 : decode cL_law 805 = .ok (.iload_n 3, 1) := by decide +kernel
theorem dL_law_806 : decode cL_law 806 = .ok (.iconst 2, 1) := by decide +kernel
theorem dL_law_807 : decode cL_law 807 = .ok (.iadd, 1) := by decide +kernel
theorem dL_law_808 : decode cL_law 808 = .ok (.iaload, 1) := by decide +kernel
theorem dL_law_809 : decode cL_law 809 = .ok (.invokevirtual 113, 3) := by decide +kernel
theorem dL_law_812 : decode cL_law 812 = .ok (.aload_n 2, 1) := by decide +kernel
theorem dL_law_813 : decode cL_law 813 = .ok (.aload_n 0, 1) := by decide +kernel
theorem dL_law_814 : decode cL_law 814 = .ok (.iload_n 3, 1) := by decide +kernel
theorem dL_law_815 : decode cL_law 815 = .ok (.iconst 1, 1) := by decide +kernel
theorem dL_law_816 : decode cL_law 816 = .ok (.iadd, 1) := by decide +kernel
theorem dL_law_817 : decode cL_law 817 = .ok (.iaload, 1) := by decide +kernel
theorem dL_law_818 : decode cL_law 818 = .ok (.aload_n 0, 1) := by decide +kernel
theorem dL_law_819 : decode cL_law 819 = .ok (.iload_n 3, 1) := by decide +kernel
theorem dL_law_820 : decode cL_law 820 = .ok (.iconst 2, 1) := by decide +kernel
theorem dL_law_821 : decode cL_law 821 = .ok (.iadd, 1) := by decide +kernel
theorem dL_law_822 : decode cL_law 822 = .ok (.iaload, 1) := by decide +kernel
theorem dL_law_823 : decode cL_law 823 = .ok (.invokevirtual 116, 3) := by decide +kernel
theorem dL_law_826 : decode cL_law 826 = .ok (.if_icmp .eq 88, 3) := by decide +kernel
theorem dL_law_829 : decode cL_law 829 = .ok (.iconst 0, 1) := by decide +kernel
theorem dL_law_830 : decode cL_law 830 = .ok (.ireturn, 1) := by decide +kernel
theorem dL_law_831 : decode cL_law 831 = .ok (.aload_n 1, 1) := by decide +kernel
theorem dL_law_832 : decode cL_law 832 = .ok (.aload_n 0, 1) := by decide +kernel
theorem dL_law_833 : decode cL_law 833 = .ok (.iload_n 3, 1) := by decide +kernel
theorem dL_law_834 : decode cL_law 834 = .ok (.iconst 1, 1) := by decide +kernel
theorem dL_law_835 : decode cL_law 835 = .ok (.iadd, 1) := by decide +kernel
theorem dL_law_836 : decode cL_law 836 = .ok (.iaload, 1) := by decide +kernel
theorem dL_law_837 : decode cL_law 837 = .ok (.invokevirtual 117, 3) := by decide +kernel
theorem dL_law_840 : decode cL_law 840 = .ok (.aload_n 2, 1) := by decide +kernel
theorem dL_law_841 : decode cL_law 841 = .ok (.aload_n 0, 1) := by decide +kernel
theorem dL_law_842 : decode cL_law 842 = .ok (.iload_n 3, 1) := by decide +kernel
theorem dL_law_843 : decode cL_law 843 = .ok (.iconst 1, 1) := by decide +kernel
theorem dL_law_844 : decode cL_law 844 = .ok (.iadd, 1) := by decide +kernel
theorem dL_law_845 : decode cL_law 845 = .ok (.iaload, 1) := by decide +kernel
theorem dL_law_846 : decode cL_law 846 = .ok (.invokevirtual 120, 3) := by decide +kernel
theorem dL_law_849 : decode cL_law 849 = .ok (.if_icmp .eq 65, 3) := by decide +kernel
theorem dL_law_852 : decode cL_law 852 = .ok (.iconst 0, 1) := by decide +kernel
theorem dL_law_853 : decode cL_law 853 = .ok (.ireturn, 1) := by decide +kernel
theorem dL_law_854 : decode cL_law 854 = .ok (.aload_n 1, 1) := by decide +kernel
theorem dL_law_855 : decode cL_law 855 = .ok (.aload_n 0, 1) := by decide +kernel
theorem dL_law_856 : decode cL_law 856 = .ok (.iload_n 3, 1) := by decide +kernel
theorem dL_law_857 : decode cL_law 857 = .ok (.iconst 1, 1) := by decide +kernel
theorem dL_law_858 : decode cL_law 858 = .ok (.iadd, 1) := by decide +kernel
theorem dL_law_859 : decode cL_law 859 = .ok (.iaload, 1) := by decide +kernel
theorem dL_law_860 : decode cL_law 860 = .ok (.invokevirtual 121, 3) := by decide +kernel
theorem dL_law_863 : decode cL_law 863 = .ok (.aload_n 2, 1) := by decide +kernel
theorem dL_law_864 : decode cL_law 864 = .ok (.aload_n 0, 1) := by decide +kernel
theorem dL_law_865 : decode cL_law 865 = .ok (.iload_n 3, 1) := by decide +kernel
theorem dL_law_866 : decode cL_law 866 = .ok (.iconst 1, 1) := by decide +kernel
theorem dL_law_867 : decode cL_law 867 = .ok (.iadd, 1) := by decide +kernel
theorem dL_law_868 : decode cL_law 868 = .ok (.iaload, 1) := by decide +kernel
theorem dL_law_869 : decode cL_law 869 = .ok (.invokevirtual 124, 3) := by decide +kernel
theorem dL_law_872 : decode cL_law 872 = .ok (.if_icmp .eq 42, 3) := by decide +kernel
theorem dL_law_875 : decode cL_law 875 = .ok (.iconst 0, 1) := by decide +kernel
theorem dL_law_876 : decode cL_law 876 = .ok (.ireturn, 1) := by decide +kernel
theorem dL_law_877 : decode cL_law 877 = .ok (.aload_n 1, 1) := by decide +kernel
theorem dL_law_878 : decode cL_law 878 = .ok (.aload_n 0, 1) := by decide +kernel
theorem dL_law_879 : decode cL_law 879 = .ok (.iload_n 3, 1) := by decide +kernel
theorem dL_law_880 : decode cL_law 880 = .ok (.iconst 1, 1) := by decide +kernel
theorem dL_law_881 : decode cL_law 881 = .ok (.iadd, 1) := by decide +kernel
theorem dL_law_882 : decode cL_law 882 = .ok (.iaload, 1) := by decide +kernel
theorem dL_law_883 : decode cL_law 883 = .ok (.invokevirtual 125, 3) := by decide +kernel
theorem dL_law_886 : decode cL_law 886 = .ok (.aload_n 2, 1) := by decide +kernel
theorem dL_law_887 : decode cL_law 887 = .ok (.aload_n 0, 1) := by decide +kernel
theorem dL_law_888 : decode cL_law 888 = .ok (.iload_n 3, 1) := by decide +kernel
theorem dL_law_889 : decode cL_law 889 = .ok (.iconst 1, 1) := by decide +kernel
theorem dL_law_890 : decode cL_law 890 = .ok (.iadd, 1) := by decide +kernel
theorem dL_law_891 : decode cL_law 891 = .ok (.iaload, 1) := by decide +kernel
theorem dL_law_892 : decode cL_law 892 = .ok (.invokevirtual 128, 3) := by decide +kernel
theorem dL_law_895 : decode cL_law 895 = .ok (.if_icmp .eq 19, 3) := by decide +kernel
theorem dL_law_898 : decode cL_law 898 = .ok (.iconst 0, 1) := by decide +kernel
theorem dL_law_899 : decode cL_law 899 = .ok (.ireturn, 1) := by decide +kernel
theorem dL_law_900 : decode cL_law 900 = .ok (.aload_n 1, 1) := by decide +kernel
theorem dL_law_901 : decode cL_law 901 = .ok (.invokevirtual 129, 3) := by decide +kernel
theorem dL_law_904 : decode cL_law 904 = .ok (.aload_n 2, 1) := by decide +kernel
theorem dL_law_905 : decode cL_law 905 = .ok (.invokevirtual 133, 3) := by decide +kernel
theorem dL_law_908 : decode cL_law 908 = .ok (.lcmp, 1) := by decide +kernel
theorem dL_law_909 : decode cL_law 909 = .ok (.ifCond .eq 5, 3) := by decide +kernel
theorem dL_law_912 : decode cL_law 912 = .ok (.iconst 0, 1) := by decide +kernel
theorem dL_law_913 : decode cL_law 913 = .ok (.ireturn, 1) := by decide +kernel
theorem dL_law_914 : decode cL_law 914 = .ok (.iinc 3 7, 3) := by decide +kernel
theorem dL_law_917 : decode cL_law 917 = .ok (.goto (-899), 3) := by decide +kernel
theorem dL_law_920 : decode cL_law 920 = .ok (.iconst 1, 1) := by decide +kernel
theorem dL_law_921 : decode cL_law 921 = .ok (.ireturn, 1) := by decide +kernel

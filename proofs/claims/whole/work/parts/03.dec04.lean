theorem dX6_gatherPiles_50 : decode cX6_gatherPiles 50 = .ok (.iload 6, 2) := by decide +kernel
theorem dX6_gatherPiles_52 : decode cX6_gatherPiles 52 = .ok (.ifCond .le 12, 3) := by decide +kernel
theorem dX6_gatherPiles_55 : decode cX6_gatherPiles 55 = .ok (.aload_n 0, 1) := by decide +kernel
theorem dX6_gatherPiles_56 : decode cX6_gatherPiles 56 = .ok (.iload 5, 2) := by decide +kernel
theorem dX6_gatherPiles_58 : decode cX6_gatherPiles 58 = .ok (.invokevirtual 122, 3) := by decide +kernel
theorem dX6_gatherPiles_61 : decode cX6_gatherPiles 61 = .ok (.goto 4, 3) := by decide +kernel
theorem dX6_gatherPiles_64 : decode cX6_gatherPiles 64 = .ok (.iconst 0, 1) := by decide +kernel
theorem dX6_gatherPiles_65 : decode cX6_gatherPiles 65 = .ok (.istore 7, 2) := by decide +kernel
theorem dX6_gatherPiles_67 : decode cX6_gatherPiles 67 = .ok (.iload 7, 2) := by decide +kernel
theorem dX6_gatherPiles_69 : decode cX6_gatherPiles 69 = .ok (.ifCond .le 29, 3) := by decide +kernel
theorem dX6_gatherPiles_72 : decode cX6_gatherPiles 72 = .ok (.iload 7, 2) := by decide +kernel
theorem dX6_gatherPiles_74 : decode cX6_gatherPiles 74 = .ok (.iload 4, 2) := by decide +kernel
theorem dX6_gatherPiles_76 : decode cX6_gatherPiles 76 = .ok (.if_icmp .ne 22, 3) := by decide +kernel
theorem dX6_gatherPiles_79 : decode cX6_gatherPiles 79 = .ok (.aload_n 0, 1) := by decide +kernel
theorem dX6_gatherPiles_80 : decode cX6_gatherPiles 80 = .ok (.getfield 36, 3) := by decide +kernel
theorem dX6_gatherPiles_83 : decode cX6_gatherPiles 83 = .ok (.aload_n 0, 1) := by decide +kernel
theorem dX6_gatherPiles_84 : decode cX6_gatherPiles 84 = .ok (.getfield 106, 3) := by decide +kernel
theorem dX6_gatherPiles_87 : decode cX6_gatherPiles 87 = .ok (.iconst 1, 1) := by decide +kernel
theorem dX6_gatherPiles_88 : decode cX6_gatherPiles 88 = .ok (.isub, 1) := by decide +kernel
theorem dX6_gatherPiles_89 : decode cX6_gatherPiles 89 = .ok (.dup2, 1) := by decide +kernel
theorem dX6_gatherPiles_90 : decode cX6_gatherPiles 90 = .ok (.iaload, 1) := by decide +kernel
theorem dX6_gatherPiles_91 : decode cX6_gatherPiles 91 = .ok (.iload 6, 2) := by decide +kernel
theorem dX6_gatherPiles_93 : decode cX6_gatherPiles 93 = .ok (.iadd, 1) := by decide +kernel
theorem dX6_gatherPiles_94 : decode cX6_gatherPiles 94 = .ok (.iastore, 1) := by decide +kernel
theorem dX6_gatherPiles_95 : decode cX6_gatherPiles 95 = .ok (.goto 63, 3) := by decide +kernel
theorem dX6_gatherPiles_98 : decode cX6_gatherPiles 98 = .ok (.iload 7, 2) := by decide +kernel
theorem dX6_gatherPiles_100 : decode cX6_gatherPiles 100 = .ok (.ifCond .le 58, 3) := by decide +kernel
theorem dX6_gatherPiles_103 : decode cX6_gatherPiles 103 = .ok (.aload_n 0, 1) := by decide +kernel
theorem dX6_gatherPiles_104 : decode cX6_gatherPiles 104 = .ok (.getfield 106, 3) := by decide +kernel
theorem dX6_gatherPiles_107 : decode cX6_gatherPiles 107 = .ok (.bipush 80, 2) := by decide +kernel
theorem dX6_gatherPiles_109 : decode cX6_gatherPiles 109 = .ok (.if_icmp .ge 49, 3) := by decide +kernel
theorem dX6_gatherPiles_112 : decode cX6_gatherPiles 112 = .ok (.aload_n 0, 1) := by decide +kernel
theorem dX6_gatherPiles_113 : decode cX6_gatherPiles 113 = .ok (.getfield 30, 3) := by decide +kernel
theorem dX6_gatherPiles_116 : decode cX6_gatherPiles 116 = .ok (.aload_n 0, 1) := by decide +kernel
theorem dX6_gatherPiles_117 : decode cX6_gatherPiles 117 = .ok (.getfield 106, 3) := by decide +kernel
theorem dX6_gatherPiles_120 : decode cX6_gatherPiles 120 = .ok (.iload_n 3, 1) := by decide +kernel
theorem dX6_gatherPiles_121 : decode cX6_gatherPiles 121 = .ok (.iastore, 1) := by decide +kernel
theorem dX6_gatherPiles_122 : decode cX6_gatherPiles 122 = .ok (.aload_n 0, 1) := by decide +kernel
theorem dX6_gatherPiles_123 : decode cX6_gatherPiles 123 = .ok (.getfield 33, 3) := by decide +kernel
theorem dX6_gatherPiles_126 : decode cX6_gatherPiles 126 = .ok (.aload_n 0, 1) := by decide +kernel
theorem dX6_gatherPiles_127 : decode cX6_gatherPiles 127 = .ok (.getfield 106, 3) := by decide +kernel
theorem dX6_gatherPiles_130 : decode cX6_gatherPiles 130 = .ok (.iload 5, 2) := by decide +kernel
theorem dX6_gatherPiles_132 : decode cX6_gatherPiles 132 = .ok (.iastore, 1) := by decide +kernel
theorem dX6_gatherPiles_133 : decode cX6_gatherPiles 133 = .ok (.aload_n 0, 1) := by decide +kernel
theorem dX6_gatherPiles_134 : decode cX6_gatherPiles 134 = .ok (.getfield 36, 3) := by decide +kernel
theorem dX6_gatherPiles_137 : decode cX6_gatherPiles 137 = .ok (.aload_n 0, 1) := by decide +kernel
theorem dX6_gatherPiles_138 : decode cX6_gatherPiles 138 = .ok (.getfield 106, 3) := by decide +kernel
theorem dX6_gatherPiles_141 : decode cX6_gatherPiles 141 = .ok (.iload 6, 2) := by decide +kernel
theorem dX6_gatherPiles_143 : decode cX6_gatherPiles 143 = .ok (.iastore, 1) := by decide +kernel
theorem dX6_gatherPiles_144 : decode cX6_gatherPiles 144 = .ok (.aload_n 0, 1) := by decide +kernel
theorem dX6_gatherPiles_145 : decode cX6_gatherPiles 145 = .ok (.dup, 1) := by decide +kernel
theorem dX6_gatherPiles_146 : decode cX6_gatherPiles 146 = .ok (.getfield 106, 3) := by decide +kernel
theorem dX6_gatherPiles_149 : decode cX6_gatherPiles 149 = .ok (.iconst 1, 1) := by decide +kernel
theorem dX6_gatherPiles_150 : decode cX6_gatherPiles 150 = .ok (.iadd, 1) := by decide +kernel
theorem dX6_gatherPiles_151 : decode cX6_gatherPiles 151 = .ok (.putfield 106, 3) := by decide +kernel
theorem dX6_gatherPiles_154 : decode cX6_gatherPiles 154 = .ok (.iload 7, 2) := by decide +kernel
theorem dX6_gatherPiles_156 : decode cX6_gatherPiles 156 = .ok (.istore 4, 2) := by decide +kernel
theorem dX6_gatherPiles_158 : decode cX6_gatherPiles 158 = .ok (.iinc 5 (-1), 3) := by decide +kernel
theorem dX6_gatherPiles_161 : decode cX6_gatherPiles 161 = .ok (.goto (-132), 3) := by decide +kernel
theorem dX6_gatherPiles_164 : decode cX6_gatherPiles 164 = .ok (.iinc 3 1, 3) := by decide +kernel
theorem dX6_gatherPiles_167 : decode cX6_gatherPiles 167 = .ok (.goto (-160), 3) := by decide +kernel
theorem dX6_gatherPiles_170 : decode cX6_gatherPiles 170 = .ok (.return_, 1) := by decide +kernel
theorem dX6_feastsServedAt_0 : decode cX6_feastsServedAt 0 = .ok (.iconst 0, 1) := by decide +kernel
theorem dX6_feastsServedAt_1 : decode cX6_feastsServedAt 1 = .ok (.istore_n 2, 1) := by decide +kernel
theorem dX6_feastsServedAt_2 : decode cX6_feastsServedAt 2 = .ok (.iconst 0, 1) := by decide +kernel
theorem dX6_feastsServedAt_3 : decode cX6_feastsServedAt 3 = .ok (.istore_n 3, 1) := by decide +kernel
theorem dX6_feastsServedAt_4 : decode cX6_feastsServedAt 4 = .ok (.iload_n 3, 1) := by decide +kernel
theorem dX6_feastsServedAt_5 : decode cX6_feastsServedAt 5 = .ok (.aload_n 0, 1) := by decide +kernel
theorem dX6_feastsServedAt_6 : decode cX6_feastsServedAt 6 = .ok (.getfield 79, 3) := by decide +kernel
theorem dX6_feastsServedAt_9 : decode cX6_feastsServedAt 9 = .ok (.if_icmp .ge 22, 3) := by decide +kernel
theorem dX6_feastsServedAt_12 : decode cX6_feastsServedAt 12 = .ok (.iload_n 1, 1) := by decide +kernel
theorem dX6_feastsServedAt_13 : decode cX6_feastsServedAt 13 = .ok (.aload_n 0, 1) := by decide +kernel
theorem dX6_feastsServedAt_14 : decode cX6_feastsServedAt 14 = .ok (.getfield 18, 3) := by decide +kernel
theorem dX6_feastsServedAt_17 : decode cX6_feastsServedAt 17 = .ok (.iload_n 3, 1) := by decide +kernel
theorem dX6_feastsServedAt_18 : decode cX6_feastsServedAt 18 = .ok (.iaload, 1) := by decide +kernel
theorem dX6_feastsServedAt_19 : decode cX6_feastsServedAt 19 = .ok (.if_icmp .gt 6, 3) := by decide +kernel
theorem dX6_feastsServedAt_22 : decode cX6_feastsServedAt 22 = .ok (.iinc 2 1, 3) := by decide +kernel
theorem dX6_feastsServedAt_25 : decode cX6_feastsServedAt 25 = .ok (.iinc 3 1, 3) := by decide +kernel
theorem dX6_feastsServedAt_28 : decode cX6_feastsServedAt 28 = .ok (.goto (-24), 3) := by decide +kernel
theorem dX6_feastsServedAt_31 : decode cX6_feastsServedAt 31 = .ok (.iload_n 2, 1) := by decide +kernel
theorem dX6_feastsServedAt_32 : decode cX6_feastsServedAt 32 = .ok (.ireturn, 1) := by decide +kernel
theorem dX6_findDays_0 : decode cX6_findDays 0 = .ok (.iconst 0, 1) := by decide +kernel
theorem dX6_findDays_1 : decode cX6_findDays 1 = .ok (.istore_n 2, 1) := by decide +kernel
theorem dX6_findDays_2 : decode cX6_findDays 2 = .ok (.iload_n 2, 1) := by decide +kernel
theorem dX6_findDays_3 : decode cX6_findDays 3 = .ok (.aload_n 0, 1) := by decide +kernel
theorem dX6_findDays_4 : decode cX6_findDays 4 = .ok (.getfield 106, 3) := by decide +kernel
theorem dX6_findDays_7 : decode cX6_findDays 7 = .ok (.if_icmp .ge 136, 3) := by decide +kernel
theorem dX6_findDays_10 : decode cX6_findDays 10 = .ok (.iconst 0, 1) := by decide +kernel
theorem dX6_findDays_11 : decode cX6_findDays 11 = .ok (.istore_n 3, 1) := by decide +kernel
theorem dX6_findDays_12 : decode cX6_findDays 12 = .ok (.iload_n 3, 1) := by decide +kernel
theorem dX6_findDays_13 : decode cX6_findDays 13 = .ok (.aload_n 0, 1) := by decide +kernel
theorem dX6_findDays_14 : decode cX6_findDays 14 = .ok (.getfield 79, 3) := by decide +kernel
theorem dX6_findDays_17 : decode cX6_findDays 17 = .ok (.if_icmp .ge 120, 3) := by decide +kernel
theorem dX6_findDays_20 : decode cX6_findDays 20 = .ok (.aload_n 1, 1) := by decide +kernel
theorem dX6_findDays_21 : decode cX6_findDays 21 = .ok (.getfield 126, 3) := by decide +kernel
theorem dX6_findDays_24 : decode cX6_findDays 24 = .ok (.aload_n 0, 1) := by decide +kernel
theorem dX6_findDays_25 : decode cX6_findDays 25 = .ok (.getfield 30, 3) := by decide +kernel
theorem dX6_findDays_28 : decode cX6_findDays 28 = .ok (.iload_n 2, 1) := by decide +kernel
theorem dX6_findDays_29 : decode cX6_findDays 29 = .ok (.iaload, 1) := by decide +kernel
theorem dX6_findDays_30 : decode cX6_findDays 30 = .ok (.aaload, 1) := by decide +kernel
theorem dX6_findDays_31 : decode cX6_findDays 31 = .ok (.aload_n 0, 1) := by decide +kernel
theorem dX6_findDays_32 : decode cX6_findDays 32 = .ok (.getfield 9, 3) := by decide +kernel
theorem dX6_findDays_35 : decode cX6_findDays 35 = .ok (.iload_n 3, 1) := by decide +kernel
theorem dX6_findDays_36 : decode cX6_findDays 36 = .ok (.iaload, 1) := by decide +kernel
theorem dX6_findDays_37 : decode cX6_findDays 37 = .ok (.iaload, 1) := by decide +kernel
theorem dX6_findDays_38 : decode cX6_findDays 38 = .ok (.istore 4, 2) := by decide +kernel
theorem dX6_findDays_40 : decode cX6_findDays 40 = .ok (.aload_n 1, 1) := by decide +kernel
theorem dX6_findDays_41 : decode cX6_findDays 41 = .ok (.getfield 90, 3) := by decide +kernel
theorem dX6_findDays_44 : decode cX6_findDays 44 = .ok (.iload 4, 2) := by decide +kernel
theorem dX6_findDays_46 : decode cX6_findDays 46 = .ok (.invokestatic 128, 3) := by decide +kernel
theorem dX6_findDays_49 : decode cX6_findDays 49 = .ok (.iadd, 1) := by decide +kernel
theorem dX6_findDays_50 : decode cX6_findDays 50 = .ok (.aload_n 0, 1) := by decide +kernel
theorem dX6_findDays_51 : decode cX6_findDays 51 = .ok (.getfield 15, 3) := by decide +kernel
theorem dX6_findDays_54 : decode cX6_findDays 54 = .ok (.iload_n 3, 1) := by decide +kernel
theorem dX6_findDays_55 : decode cX6_findDays 55 = .ok (.iaload, 1) := by decide +kernel
theorem dX6_findDays_56 : decode cX6_findDays 56 = .ok (.if_icmp .gt 7, 3) := by decide +kernel
theorem dX6_findDays_59 : decode cX6_findDays 59 = .ok (.iconst 1, 1) := by decide +kernel
theorem dX6_findDays_60 : decode cX6_findDays 60 = .ok (.goto 4, 3) := by decide +kernel
theorem dX6_findDays_63 : decode cX6_findDays 63 = .ok (.iconst 0, 1) := by decide +kernel
theorem dX6_findDays_64 : decode cX6_findDays 64 = .ok (.istore 5, 2) := by decide +kernel
theorem dX6_findDays_66 : decode cX6_findDays 66 = .ok (.aload_n 0, 1) := by decide +kernel
theorem dX6_findDays_67 : decode cX6_findDays 67 = .ok (.getfield 33, 3) := by decide +kernel
theorem dX6_findDays_70 : decode cX6_findDays 70 = .ok (.iload_n 2, 1) := by decide +kernel
theorem dX6_findDays_71 : decode cX6_findDays 71 = .ok (.iaload, 1) := by decide +kernel
theorem dX6_findDays_72 : decode cX6_findDays 72 = .ok (.aload_n 0, 1) := by decide +kernel
theorem dX6_findDays_73 : decode cX6_findDays 73 = .ok (.getfield 18, 3) := by decide +kernel
theorem dX6_findDays_76 : decode cX6_findDays 76 = .ok (.iload_n 3, 1) := by decide +kernel
theorem dX6_findDays_77 : decode cX6_findDays 77 = .ok (.iaload, 1) := by decide +kernel
theorem dX6_findDays_78 : decode cX6_findDays 78 = .ok (.if_icmp .gt 7, 3) := by decide +kernel
theorem dX6_findDays_81 : decode cX6_findDays 81 = .ok (.iconst 1, 1) := by decide +kernel
theorem dX6_findDays_82 : decode cX6_findDays 82 = .ok (.goto 4, 3) := by decide +kernel
theorem dX6_findDays_85 : decode cX6_findDays 85 = .ok (.iconst 0, 1) := by decide +kernel
theorem dX6_findDays_86 : decode cX6_findDays 86 = .ok (.istore 6, 2) := by decide +kernel
theorem dX6_findDays_88 : decode cX6_findDays 88 = .ok (.aload_n 0, 1) := by decide +kernel
theorem dX6_findDays_89 : decode cX6_findDays 89 = .ok (.getfield 45, 3) := by decide +kernel
theorem dX6_findDays_92 : decode cX6_findDays 92 = .ok (.iload_n 2, 1) := by decide +kernel
theorem dX6_findDays_93 : decode cX6_findDays 93 = .ok (.iload_n 3, 1) := by decide +kernel
theorem dX6_findDays_94 : decode cX6_findDays 94 = .ok (.invokestatic 131, 3) := by decide +kernel
theorem dX6_findDays_97 : decode cX6_findDays 97 = .ok (.iload 4, 2) := by decide +kernel
theorem dX6_findDays_99 : decode cX6_findDays 99 = .ok (.iconst (-1), 1) := by decide +kernel
theorem dX6_findDays_100 : decode cX6_findDays 100 = .ok (.if_icmp .eq 18, 3) := by decide +kernel
theorem dX6_findDays_103 : decode cX6_findDays 103 = .ok (.iload 5, 2) := by decide +kernel
theorem dX6_findDays_105 : decode cX6_findDays 105 = .ok (.ifCond .eq 13, 3) := by decide +kernel
theorem dX6_findDays_108 : decode cX6_findDays 108 = .ok (.iload 6, 2) := by decide +kernel
theorem dX6_findDays_110 : decode cX6_findDays 110 = .ok (.ifCond .eq 8, 3) := by decide +kernel
theorem dX6_findDays_113 : decode cX6_findDays 113 = .ok (.iload 4, 2) := by decide +kernel
theorem dX6_findDays_115 : decode cX6_findDays 115 = .ok (.goto 4, 3) := by decide +kernel
theorem dX6_findDays_118 : decode cX6_findDays 118 = .ok (.iconst (-1), 1) := by decide +kernel
theorem dX6_findDays_119 : decode cX6_findDays 119 = .ok (.iastore, 1) := by decide +kernel
theorem dX6_findDays_120 : decode cX6_findDays 120 = .ok (.aload_n 0, 1) := by decide +kernel
theorem dX6_findDays_121 : decode cX6_findDays 121 = .ok (.getfield 48, 3) := by decide +kernel
theorem dX6_findDays_124 : decode cX6_findDays 124 = .ok (.iload_n 2, 1) := by decide +kernel
theorem dX6_findDays_125 : decode cX6_findDays 125 = .ok (.iload_n 3, 1) := by decide +kernel
theorem dX6_findDays_126 : decode cX6_findDays 126 = .ok (.invokestatic 131, 3) := by decide +kernel
theorem dX6_findDays_129 : decode cX6_findDays 129 = .ok (.iconst 0, 1) := by decide +kernel
theorem dX6_findDays_130 : decode cX6_findDays 130 = .ok (.iastore, 1) := by decide +kernel
theorem dX6_findDays_131 : decode cX6_findDays 131 = .ok (.iinc 3 1, 3) := by decide +kernel
theorem dX6_findDays_134 : decode cX6_findDays 134 = .ok (.goto (-122), 3) := by decide +kernel
theorem dX6_findDays_137 : decode cX6_findDays 137 = .ok (.iinc 2 1, 3) := by decide +kernel
theorem dX6_findDays_140 : decode cX6_findDays 140 = .ok (.goto (-138), 3) := by decide +kernel
theorem dX6_findDays_143 : decode cX6_findDays 143 = .ok (.return_, 1) := by decide +kernel
theorem dX6_pair_0 : decode cX6_pair 0 = .ok (.iload_n 0, 1) := by decide +kernel
theorem dX6_pair_1 : decode cX6_pair 1 = .ok (.bipush 10, 2) := by decide +kernel
theorem dX6_pair_3 : decode cX6_pair 3 = .ok (.imul, 1) := by decide +kernel
theorem dX6_pair_4 : decode cX6_pair 4 = .ok (.iload_n 1, 1) := by decide +kernel
theorem dX6_pair_5 : decode cX6_pair 5 = .ok (.iadd, 1) := by decide +kernel
theorem dX6_pair_6 : decode cX6_pair 6 = .ok (.ireturn, 1) := by decide +kernel
theorem dX6_cheapestFeast_0 : decode cX6_cheapestFeast 0 = .ok (.aload_n 0, 1) := by decide +kernel
theorem dX6_cheapestFeast_1 : decode cX6_cheapestFeast 1 = .ok (.getfield 24, 3) := by decide +kernel
theorem dX6_cheapestFeast_4 : decode cX6_cheapestFeast 4 = .ok (.ldc 135, 2) := by decide +kernel
theorem dX6_cheapestFeast_6 : decode cX6_cheapestFeast 6 = .ok (.invokestatic 136, 3) := by decide +kernel
theorem dX6_cheapestFeast_9 : decode cX6_cheapestFeast 9 = .ok (.iconst 0, 1) := by decide +kernel
theorem dX6_cheapestFeast_10 : decode cX6_cheapestFeast 10 = .ok (.istore_n 1, 1) := by decide +kernel
theorem dX6_cheapestFeast_11 : decode cX6_cheapestFeast 11 = .ok (.iload_n 1, 1) := by decide +kernel
theorem dX6_cheapestFeast_12 : decode cX6_cheapestFeast 12 = .ok (.aload_n 0, 1) := by decide +kernel
theorem dX6_cheapestFeast_13 : decode cX6_cheapestFeast 13 = .ok (.getfield 106, 3) := by decide +kernel
theorem dX6_cheapestFeast_16 : decode cX6_cheapestFeast 16 = .ok (.if_icmp .ge 37, 3) := by decide +kernel
theorem dX6_cheapestFeast_19 : decode cX6_cheapestFeast 19 = .ok (.aload_n 0, 1) := by decide +kernel
theorem dX6_cheapestFeast_20 : decode cX6_cheapestFeast 20 = .ok (.getfield 39, 3) := by decide +kernel
theorem dX6_cheapestFeast_23 : decode cX6_cheapestFeast 23 = .ok (.iload_n 1, 1) := by decide +kernel
theorem dX6_cheapestFeast_24 : decode cX6_cheapestFeast 24 = .ok (.aload_n 0, 1) := by decide +kernel
theorem dX6_cheapestFeast_25 : decode cX6_cheapestFeast 25 = .ok (.getfield 36, 3) := by decide +kernel
theorem dX6_cheapestFeast_28 : decode cX6_cheapestFeast 28 = .ok (.iload_n 1, 1) := by decide +kernel
theorem dX6_cheapestFeast_29 : decode cX6_cheapestFeast 29 = .ok (.iaload, 1) := by decide +kernel
theorem dX6_cheapestFeast_30 : decode cX6_cheapestFeast 30 = .ok (.ifCond .le 7, 3) := by decide +kernel
theorem dX6_cheapestFeast_33 : decode cX6_cheapestFeast 33 = .ok (.iconst 0, 1) := by decide +kernel
theorem dX6_cheapestFeast_34 : decode cX6_cheapestFeast 34 = .ok (.goto 5, 3) := by decide +kernel
theorem dX6_cheapestFeast_37 : decode cX6_cheapestFeast 37 = .ok (.ldc 135, 2) := by decide +kernel
theorem dX6_cheapestFeast_39 : decode cX6_cheapestFeast 39 = .ok (.iastore, 1) := by decide +kernel
theorem dX6_cheapestFeast_40 : decode cX6_cheapestFeast 40 = .ok (.aload_n 0, 1) := by decide +kernel
theorem dX6_cheapestFeast_41 : decode cX6_cheapestFeast 41 = .ok (.getfield 42, 3) := by decide +kernel
theorem dX6_cheapestFeast_44 : decode cX6_cheapestFeast 44 = .ok (.iload_n 1, 1) := by decide +kernel
theorem dX6_cheapestFeast_45 : decode cX6_cheapestFeast 45 = .ok (.iconst (-1), 1) := by decide +kernel
theorem dX6_cheapestFeast_46 : decode cX6_cheapestFeast 46 = .ok (.iastore, 1) := by decide +kernel
theorem dX6_cheapestFeast_47 : decode cX6_cheapestFeast 47 = .ok (.iinc 1 1, 3) := by decide +kernel
theorem dX6_cheapestFeast_50 : decode cX6_cheapestFeast 50 = .ok (.goto (-39), 3) := by decide +kernel
theorem dX6_cheapestFeast_53 : decode cX6_cheapestFeast 53 = .ok (.iconst 1, 1) := by decide +kernel
theorem dX6_cheapestFeast_54 : decode cX6_cheapestFeast 54 = .ok (.istore_n 1, 1) := by decide +kernel
theorem dX6_cheapestFeast_55 : decode cX6_cheapestFeast 55 = .ok (.iconst 0, 1) := by decide +kernel
theorem dX6_cheapestFeast_56 : decode cX6_cheapestFeast 56 = .ok (.istore_n 2, 1) := by decide +kernel
theorem dX6_cheapestFeast_57 : decode cX6_cheapestFeast 57 = .ok (.iload_n 2, 1) := by decide +kernel
theorem dX6_cheapestFeast_58 : decode cX6_cheapestFeast 58 = .ok (.aload_n 0, 1) := by decide +kernel
theorem dX6_cheapestFeast_59 : decode cX6_cheapestFeast 59 = .ok (.getfield 79, 3) := by decide +kernel
theorem dX6_cheapestFeast_62 : decode cX6_cheapestFeast 62 = .ok (.if_icmp .gt 33, 3) := by decide +kernel
theorem dX6_cheapestFeast_65 : decode cX6_cheapestFeast 65 = .ok (.iload_n 1, 1) := by decide +kernel
theorem dX6_cheapestFeast_66 : decode cX6_cheapestFeast 66 = .ok (.ifCond .eq 29, 3) := by decide +kernel
theorem dX6_cheapestFeast_69 : decode cX6_cheapestFeast 69 = .ok (.aload_n 0, 1) := by decide +kernel
theorem dX6_cheapestFeast_70 : decode cX6_cheapestFeast 70 = .ok (.invokevirtual 142, 3) := by decide +kernel
theorem dX6_cheapestFeast_73 : decode cX6_cheapestFeast 73 = .ok (.ifCond .eq 14, 3) := by decide +kernel
theorem dX6_cheapestFeast_76 : decode cX6_cheapestFeast 76 = .ok (.aload_n 0, 1) := by decide +kernel
theorem dX6_cheapestFeast_77 : decode cX6_cheapestFeast 77 = .ok (.invokevirtual 146, 3) := by decide +kernel
theorem dX6_cheapestFeast_80 : decode cX6_cheapestFeast 80 = .ok (.ifCond .eq 7, 3) := by decide +kernel
theorem dX6_cheapestFeast_83 : decode cX6_cheapestFeast 83 = .ok (.iconst 1, 1) := by decide +kernel
theorem dX6_cheapestFeast_84 : decode cX6_cheapestFeast 84 = .ok (.goto 4, 3) := by decide +kernel
theorem dX6_cheapestFeast_87 : decode cX6_cheapestFeast 87 = .ok (.iconst 0, 1) := by decide +kernel
theorem dX6_cheapestFeast_88 : decode cX6_cheapestFeast 88 = .ok (.istore_n 1, 1) := by decide +kernel
theorem dX6_cheapestFeast_89 : decode cX6_cheapestFeast 89 = .ok (.iinc 2 1, 3) := by decide +kernel
theorem dX6_cheapestFeast_92 : decode cX6_cheapestFeast 92 = .ok (.goto (-35), 3) := by decide +kernel
theorem dX6_cheapestFeast_95 : decode cX6_cheapestFeast 95 = .ok (.iconst (-1), 1) := by decide +kernel
theorem dX6_cheapestFeast_96 : decode cX6_cheapestFeast 96 = .ok (.istore_n 2, 1) := by decide +kernel
theorem dX6_cheapestFeast_97 : decode cX6_cheapestFeast 97 = .ok (.iconst 0, 1) := by decide +kernel
theorem dX6_cheapestFeast_98 : decode cX6_cheapestFeast 98 = .ok (.istore_n 3, 1) := by decide +kernel
theorem dX6_cheapestFeast_99 : decode cX6_cheapestFeast 99 = .ok (.iload_n 3, 1) := by decide +kernel
theorem dX6_cheapestFeast_100 : decode cX6_cheapestFeast 100 = .ok (.aload_n 0, 1) := by decide +kernel
theorem dX6_cheapestFeast_101 : decode cX6_cheapestFeast 101 = .ok (.getfield 79, 3) := by decide +kernel
theorem dX6_cheapestFeast_104 : decode cX6_cheapestFeast 104 = .ok (.if_icmp .ge 63, 3) := by decide +kernel
theorem dX6_cheapestFeast_107 : decode cX6_cheapestFeast 107 = .ok (.aload_n 0, 1) := by decide +kernel
theorem dX6_cheapestFeast_108 : decode cX6_cheapestFeast 108 = .ok (.getfield 21, 3) := by decide +kernel
theorem dX6_cheapestFeast_111 : decode cX6_cheapestFeast 111 = .ok (.iload_n 3, 1) := by decide +kernel
theorem dX6_cheapestFeast_112 : decode cX6_cheapestFeast 112 = .ok (.iaload, 1) := by decide +kernel
theorem dX6_cheapestFeast_113 : decode cX6_cheapestFeast 113 = .ok (.ifCond .le 18, 3) := by decide +kernel
theorem dX6_cheapestFeast_116 : decode cX6_cheapestFeast 116 = .ok (.aload_n 0, 1) := by decide +kernel
theorem dX6_cheapestFeast_117 : decode cX6_cheapestFeast 117 = .ok (.getfield 24, 3) := by decide +kernel
theorem dX6_cheapestFeast_120 : decode cX6_cheapestFeast 120 = .ok (.iload_n 3, 1) := by decide +kernel
theorem dX6_cheapestFeast_121 : decode cX6_cheapestFeast 121 = .ok (.iaload, 1) := by decide +kernel
theorem dX6_cheapestFeast_122 : decode cX6_cheapestFeast 122 = .ok (.ldc 135, 2) := by decide +kernel
theorem dX6_cheapestFeast_124 : decode cX6_cheapestFeast 124 = .ok (.if_icmp .ge 7, 3) := by decide +kernel
theorem dX6_cheapestFeast_127 : decode cX6_cheapestFeast 127 = .ok (.iconst 1, 1) := by decide +kernel
theorem dX6_cheapestFeast_128 : decode cX6_cheapestFeast 128 = .ok (.goto 4, 3) := by decide +kernel
theorem dX6_cheapestFeast_131 : decode cX6_cheapestFeast 131 = .ok (.iconst 0, 1) := by decide +kernel
theorem dX6_cheapestFeast_132 : decode cX6_cheapestFeast 132 = .ok (.istore 4, 2) := by decide +kernel
theorem dX6_cheapestFeast_134 : decode cX6_cheapestFeast 134 = .ok (.iload 4, 2) := by decide +kernel
theorem dX6_cheapestFeast_136 : decode cX6_cheapestFeast 136 = .ok (.ifCond .eq 25, 3) := by decide +kernel
theorem dX6_cheapestFeast_139 : decode cX6_cheapestFeast 139 = .ok (.iload_n 2, 1) := by decide +kernel
theorem dX6_cheapestFeast_140 : decode cX6_cheapestFeast 140 = .ok (.iconst (-1), 1) := by decide +kernel
theorem dX6_cheapestFeast_141 : decode cX6_cheapestFeast 141 = .ok (.if_icmp .eq 18, 3) := by decide +kernel
theorem dX6_cheapestFeast_144 : decode cX6_cheapestFeast 144 = .ok (.aload_n 0, 1) := by decide +kernel
theorem dX6_cheapestFeast_145 : decode cX6_cheapestFeast 145 = .ok (.getfield 24, 3) := by decide +kernel
theorem dX6_cheapestFeast_148 : decode cX6_cheapestFeast 148 = .ok (.iload_n 3, 1) := by decide +kernel
theorem dX6_cheapestFeast_149 : decode cX6_cheapestFeast 149 = .ok (.iaload, 1) := by decide +kernel
theorem dX6_cheapestFeast_150 : decode cX6_cheapestFeast 150 = .ok (.aload_n 0, 1) := by decide +kernel
theorem dX6_cheapestFeast_151 : decode cX6_cheapestFeast 151 = .ok (.getfield 24, 3) := by decide +kernel
theorem dX6_cheapestFeast_154 : decode cX6_cheapestFeast 154 = .ok (.iload_n 2, 1) := by decide +kernel
theorem dX6_cheapestFeast_155 : decode cX6_cheapestFeast 155 = .ok (.iaload, 1) := by decide +kernel
theorem dX6_cheapestFeast_156 : decode cX6_cheapestFeast 156 = .ok (.if_icmp .ge 5, 3) := by decide +kernel
theorem dX6_cheapestFeast_159 : decode cX6_cheapestFeast 159 = .ok (.iload_n 3, 1) := by decide +kernel
theorem dX6_cheapestFeast_160 : decode cX6_cheapestFeast 160 = .ok (.istore_n 2, 1) := by decide +kernel
theorem dX6_cheapestFeast_161 : decode cX6_cheapestFeast 161 = .ok (.iinc 3 1, 3) := by decide +kernel
theorem dX6_cheapestFeast_164 : decode cX6_cheapestFeast 164 = .ok (.goto (-65), 3) := by decide +kernel
theorem dX6_cheapestFeast_167 : decode cX6_cheapestFeast 167 = .ok (.iload_n 2, 1) := by decide +kernel
theorem dX6_cheapestFeast_168 : decode cX6_cheapestFeast 168 = .ok (.ireturn, 1) := by decide +kernel
theorem dX6_goForth_0 : decode cX6_goForth 0 = .ok (.iconst 0, 1) := by decide +kernel
theorem dX6_goForth_1 : decode cX6_goForth 1 = .ok (.istore_n 1, 1) := by decide +kernel
theorem dX6_goForth_2 : decode cX6_goForth 2 = .ok (.iconst 0, 1) := by decide +kernel
theorem dX6_goForth_3 : decode cX6_goForth 3 = .ok (.istore_n 2, 1) := by decide +kernel
theorem dX6_goForth_4 : decode cX6_goForth 4 = .ok (.iload_n 2, 1) := by decide +kernel
theorem dX6_goForth_5 : decode cX6_goForth 5 = .ok (.aload_n 0, 1) := by decide +kernel
theorem dX6_goForth_6 : decode cX6_goForth 6 = .ok (.getfield 106, 3) := by decide +kernel
theorem dX6_goForth_9 : decode cX6_goForth 9 = .ok (.if_icmp .ge 93, 3) := by decide +kernel
theorem dX6_goForth_12 : decode cX6_goForth 12 = .ok (.iconst 0, 1) := by decide +kernel
theorem dX6_goForth_13 : decode cX6_goForth 13 = .ok (.istore_n 3, 1) := by decide +kernel
theorem dX6_goForth_14 : decode cX6_goForth 14 = .ok (.iload_n 3, 1) := by decide +kernel
theorem dX6_goForth_15 : decode cX6_goForth 15 = .ok (.aload_n 0, 1) := by decide +kernel
theorem dX6_goForth_16 : decode cX6_goForth 16 = .ok (.getfield 79, 3) := by decide +kernel
theorem dX6_goForth_19 : decode cX6_goForth 19 = .ok (.if_icmp .ge 77, 3) := by decide +kernel
theorem dX6_goForth_22 : decode cX6_goForth 22 = .ok (.aload_n 0, 1) := by decide +kernel
theorem dX6_goForth_23 : decode cX6_goForth 23 = .ok (.getfield 39, 3) := by decide +kernel
theorem dX6_goForth_26 : decode cX6_goForth 26 = .ok (.iload_n 2, 1) := by decide +kernel
theorem dX6_goForth_27 : decode cX6_goForth 27 = .ok (.iaload, 1) := by decide +kernel
theorem dX6_goForth_28 : decode cX6_goForth 28 = .ok (.ldc 135, 2) := by decide +kernel
theorem dX6_goForth_30 : decode cX6_goForth 30 = .ok (.if_icmp .ge 66, 3) := by decide +kernel
theorem dX6_goForth_33 : decode cX6_goForth 33 = .ok (.aload_n 0, 1) := by decide +kernel
theorem dX6_goForth_34 : decode cX6_goForth 34 = .ok (.getfield 45, 3) := by decide +kernel
theorem dX6_goForth_37 : decode cX6_goForth 37 = .ok (.iload_n 2, 1) := by decide +kernel
theorem dX6_goForth_38 : decode cX6_goForth 38 = .ok (.iload_n 3, 1) := by decide +kernel
theorem dX6_goForth_39 : decode cX6_goForth 39 = .ok (.invokestatic 131, 3) := by decide +kernel
theorem dX6_goForth_42 : decode cX6_goForth 42 = .ok (.iaload, 1) := by decide +kernel
theorem dX6_goForth_43 : decode cX6_goForth 43 = .ok (.istore 4, 2) := by decide +kernel
theorem dX6_goForth_45 : decode cX6_goForth 45 = .ok (.aload_n 0, 1) := by decide +kernel
theorem dX6_goForth_46 : decode cX6_goForth 46 = .ok (.getfield 39, 3) := by decide +kernel
theorem dX6_goForth_49 : decode cX6_goForth 49 = .ok (.iload_n 2, 1) := by decide +kernel
theorem dX6_goForth_50 : decode cX6_goForth 50 = .ok (.iaload, 1) := by decide +kernel
theorem dX6_goForth_51 : decode cX6_goForth 51 = .ok (.iload 4, 2) := by decide +kernel
theorem dX6_goForth_53 : decode cX6_goForth 53 = .ok (.iadd, 1) := by decide +kernel
theorem dX6_goForth_54 : decode cX6_goForth 54 = .ok (.istore 5, 2) := by decide +kernel
theorem dX6_goForth_56 : decode cX6_goForth 56 = .ok (.iload 4, 2) := by decide +kernel
theorem dX6_goForth_58 : decode cX6_goForth 58 = .ok (.iconst (-1), 1) := by decide +kernel
theorem dX6_goForth_59 : decode cX6_goForth 59 = .ok (.if_icmp .eq 31, 3) := by decide +kernel
theorem dX6_goForth_62 : decode cX6_goForth 62 = .ok (.iload 5, 2) := by decide +kernel
theorem dX6_goForth_64 : decode cX6_goForth 64 = .ok (.aload_n 0, 1) := by decide +kernel
theorem dX6_goForth_65 : decode cX6_goForth 65 = .ok (.getfield 24, 3) := by decide +kernel
theorem dX6_goForth_68 : decode cX6_goForth 68 = .ok (.iload_n 3, 1) := by decide +kernel
theorem dX6_goForth_69 : decode cX6_goForth 69 = .ok (.iaload, 1) := by decide +kernel
theorem dX6_goForth_70 : decode cX6_goForth 70 = .ok (.if_icmp .ge 20, 3) := by decide +kernel
theorem dX6_goForth_73 : decode cX6_goForth 73 = .ok (.aload_n 0, 1) := by decide +kernel
theorem dX6_goForth_74 : decode cX6_goForth 74 = .ok (.getfield 24, 3) := by decide +kernel
theorem dX6_goForth_77 : decode cX6_goForth 77 = .ok (.iload_n 3, 1) := by decide +kernel
theorem dX6_goForth_78 : decode cX6_goForth 78 = .ok (.iload 5, 2) := by decide +kernel
theorem dX6_goForth_80 : decode cX6_goForth 80 = .ok (.iastore, 1) := by decide +kernel
theorem dX6_goForth_81 : decode cX6_goForth 81 = .ok (.aload_n 0, 1) := by decide +kernel
theorem dX6_goForth_82 : decode cX6_goForth 82 = .ok (.getfield 27, 3) := by decide +kernel
theorem dX6_goForth_85 : decode cX6_goForth 85 = .ok (.iload_n 3, 1) := by decide +kernel
theorem dX6_goForth_86 : decode cX6_goForth 86 = .ok (.iload_n 2, 1) := by decide +kernel
theorem dX6_goForth_87 : decode cX6_goForth 87 = .ok (.iastore, 1) := by decide +kernel
theorem dX6_goForth_88 : decode cX6_goForth 88 = .ok (.iconst 1, 1) := by decide +kernel
theorem dX6_goForth_89 : decode cX6_goForth 89 = .ok (.istore_n 1, 1) := by decide +kernel
theorem dX6_goForth_90 : decode cX6_goForth 90 = .ok (.iinc 3 1, 3) := by decide +kernel
theorem dX6_goForth_93 : decode cX6_goForth 93 = .ok (.goto (-79), 3) := by decide +kernel
theorem dX6_goForth_96 : decode cX6_goForth 96 = .ok (.iinc 2 1, 3) := by decide +kernel
theorem dX6_goForth_99 : decode cX6_goForth 99 = .ok (.goto (-95), 3) := by decide +kernel
theorem dX6_goForth_102 : decode cX6_goForth 102 = .ok (.iload_n 1, 1) := by decide +kernel
theorem dX6_goForth_103 : decode cX6_goForth 103 = .ok (.ireturn, 1) := by decide +kernel
theorem dX6_goBack_0 : decode cX6_goBack 0 = .ok (.iconst 0, 1) := by decide +kernel
theorem dX6_goBack_1 : decode cX6_goBack 1 = .ok (.istore_n 1, 1) := by decide +kernel
theorem dX6_goBack_2 : decode cX6_goBack 2 = .ok (.iconst 0, 1) := by decide +kernel
theorem dX6_goBack_3 : decode cX6_goBack 3 = .ok (.istore_n 2, 1) := by decide +kernel
theorem dX6_goBack_4 : decode cX6_goBack 4 = .ok (.iload_n 2, 1) := by decide +kernel
theorem dX6_goBack_5 : decode cX6_goBack 5 = .ok (.aload_n 0, 1) := by decide +kernel
theorem dX6_goBack_6 : decode cX6_goBack 6 = .ok (.getfield 79, 3) := by decide +kernel
theorem dX6_goBack_9 : decode cX6_goBack 9 = .ok (.if_icmp .ge 96, 3) := by decide +kernel
theorem dX6_goBack_12 : decode cX6_goBack 12 = .ok (.iconst 0, 1) := by decide +kernel
theorem dX6_goBack_13 : decode cX6_goBack 13 = .ok (.istore_n 3, 1) := by decide +kernel
theorem dX6_goBack_14 : decode cX6_goBack 14 = .ok (.iload_n 3, 1) := by decide +kernel
theorem dX6_goBack_15 : decode cX6_goBack 15 = .ok (.aload_n 0, 1) := by decide +kernel
theorem dX6_goBack_16 : decode cX6_goBack 16 = .ok (.getfield 106, 3) := by decide +kernel
theorem dX6_goBack_19 : decode cX6_goBack 19 = .ok (.if_icmp .ge 80, 3) := by decide +kernel
theorem dX6_goBack_22 : decode cX6_goBack 22 = .ok (.aload_n 0, 1) := by decide +kernel
theorem dX6_goBack_23 : decode cX6_goBack 23 = .ok (.getfield 24, 3) := by decide +kernel
theorem dX6_goBack_26 : decode cX6_goBack 26 = .ok (.iload_n 2, 1) := by decide +kernel
theorem dX6_goBack_27 : decode cX6_goBack 27 = .ok (.iaload, 1) := by decide +kernel
theorem dX6_goBack_28 : decode cX6_goBack 28 = .ok (.ldc 135, 2) := by decide +kernel
theorem dX6_goBack_30 : decode cX6_goBack 30 = .ok (.if_icmp .ge 69, 3) := by decide +kernel
theorem dX6_goBack_33 : decode cX6_goBack 33 = .ok (.aload_n 0, 1) := by decide +kernel
theorem dX6_goBack_34 : decode cX6_goBack 34 = .ok (.getfield 24, 3) := by decide +kernel
theorem dX6_goBack_37 : decode cX6_goBack 37 = .ok (.iload_n 2, 1) := by decide +kernel
theorem dX6_goBack_38 : decode cX6_goBack 38 = .ok (.iaload, 1) := by decide +kernel
theorem dX6_goBack_39 : decode cX6_goBack 39 = .ok (.aload_n 0, 1) := by decide +kernel
theorem dX6_goBack_40 : decode cX6_goBack 40 = .ok (.getfield 45, 3) := by decide +kernel
theorem dX6_goBack_43 : decode cX6_goBack 43 = .ok (.iload_n 3, 1) := by decide +kernel
theorem dX6_goBack_44 : decode cX6_goBack 44 = .ok (.iload_n 2, 1) := by decide +kernel
theorem dX6_goBack_45 : decode cX6_goBack 45 = .ok (.invokestatic 131, 3) := by decide +kernel
theorem dX6_goBack_48 : decode cX6_goBack 48 = .ok (.iaload, 1) := by decide +kernel
theorem dX6_goBack_49 : decode cX6_goBack 49 = .ok (.isub, 1) := by decide +kernel
theorem dX6_goBack_50 : decode cX6_goBack 50 = .ok (.istore 4, 2) := by decide +kernel
theorem dX6_goBack_52 : decode cX6_goBack 52 = .ok (.aload_n 0, 1) := by decide +kernel
theorem dX6_goBack_53 : decode cX6_goBack 53 = .ok (.getfield 48, 3) := by decide +kernel
theorem dX6_goBack_56 : decode cX6_goBack 56 = .ok (.iload_n 3, 1) := by decide +kernel
theorem dX6_goBack_57 : decode cX6_goBack 57 = .ok (.iload_n 2, 1) := by decide +kernel
theorem dX6_goBack_58 : decode cX6_goBack 58 = .ok (.invokestatic 131, 3) := by decide +kernel
theorem dX6_goBack_61 : decode cX6_goBack 61 = .ok (.iaload, 1) := by decide +kernel
theorem dX6_goBack_62 : decode cX6_goBack 62 = .ok (.ifCond .le 31, 3) := by decide +kernel
theorem dX6_goBack_65 : decode cX6_goBack 65 = .ok (.iload 4, 2) := by decide +kernel
theorem dX6_goBack_67 : decode cX6_goBack 67 = .ok (.aload_n 0, 1) := by decide +kernel
theorem dX6_goBack_68 : decode cX6_goBack 68 = .ok (.getfield 39, 3) := by decide +kernel
theorem dX6_goBack_71 : decode cX6_goBack 71 = .ok (.iload_n 3, 1) := by decide +kernel
theorem dX6_goBack_72 : decode cX6_goBack 72 = .ok (.iaload, 1) := by decide +kernel
theorem dX6_goBack_73 : decode cX6_goBack 73 = .ok (.if_icmp .ge 20, 3) := by decide +kernel
theorem dX6_goBack_76 : decode cX6_goBack 76 = .ok (.aload_n 0, 1) := by decide +kernel
theorem dX6_goBack_77 : decode cX6_goBack 77 = .ok (.getfield 39, 3) := by decide +kernel
theorem dX6_goBack_80 : decode cX6_goBack 80 = .ok (.iload_n 3, 1) := by decide +kernel
theorem dX6_goBack_81 : decode cX6_goBack 81 = .ok (.iload 4, 2) := by decide +kernel
theorem dX6_goBack_83 : decode cX6_goBack 83 = .ok (.iastore, 1) := by decide +kernel
theorem dX6_goBack_84 : decode cX6_goBack 84 = .ok (.aload_n 0, 1) := by decide +kernel
theorem dX6_goBack_85 : decode cX6_goBack 85 = .ok (.getfield 42, 3) := by decide +kernel
theorem dX6_goBack_88 : decode cX6_goBack 88 = .ok (.iload_n 3, 1) := by decide +kernel
theorem dX6_goBack_89 : decode cX6_goBack 89 = .ok (.iload_n 2, 1) := by decide +kernel
theorem dX6_goBack_90 : decode cX6_goBack 90 = .ok (.iastore, 1) := by decide +kernel
theorem dX6_goBack_91 : decode cX6_goBack 91 = .ok (.iconst 1, 1) := by decide +kernel
theorem dX6_goBack_92 : decode cX6_goBack 92 = .ok (.istore_n 1, 1) := by decide +kernel
theorem dX6_goBack_93 : decode cX6_goBack 93 = .ok (.iinc 3 1, 3) := by decide +kernel
theorem dX6_goBack_96 : decode cX6_goBack 96 = .ok (.goto (-82), 3) := by decide +kernel
theorem dX6_goBack_99 : decode cX6_goBack 99 = .ok (.iinc 2 1, 3) := by decide +kernel
theorem dX6_goBack_102 : decode cX6_goBack 102 = .ok (.goto (-98), 3) := by decide +kernel
theorem dX6_goBack_105 : decode cX6_goBack 105 = .ok (.iload_n 1, 1) := by decide +kernel
theorem dX6_goBack_106 : decode cX6_goBack 106 = .ok (.ireturn, 1) := by decide +kernel
theorem dX6_giveAlong_0 : decode cX6_giveAlong 0 = .ok (.aload_n 0, 1) := by decide +kernel
theorem dX6_giveAlong_1 : decode cX6_giveAlong 1 = .ok (.iload_n 1, 1) := by decide +kernel
theorem dX6_giveAlong_2 : decode cX6_giveAlong 2 = .ok (.invokevirtual 149, 3) := by decide +kernel
theorem dX6_giveAlong_5 : decode cX6_giveAlong 5 = .ok (.istore_n 2, 1) := by decide +kernel
theorem dX6_giveAlong_6 : decode cX6_giveAlong 6 = .ok (.iload_n 1, 1) := by decide +kernel
theorem dX6_giveAlong_7 : decode cX6_giveAlong 7 = .ok (.istore_n 3, 1) := by decide +kernel
theorem dX6_giveAlong_8 : decode cX6_giveAlong 8 = .ok (.iconst 0, 1) := by decide +kernel
theorem dX6_giveAlong_9 : decode cX6_giveAlong 9 = .ok (.istore 4, 2) := by decide +kernel
theorem dX6_giveAlong_11 : decode cX6_giveAlong 11 = .ok (.iload 4, 2) := by decide +kernel
theorem dX6_giveAlong_13 : decode cX6_giveAlong 13 = .ok (.aload_n 0, 1) := by decide +kernel
theorem dX6_giveAlong_14 : decode cX6_giveAlong 14 = .ok (.getfield 79, 3) := by decide +kernel
theorem dX6_giveAlong_17 : decode cX6_giveAlong 17 = .ok (.if_icmp .gt 79, 3) := by decide +kernel
theorem dX6_giveAlong_20 : decode cX6_giveAlong 20 = .ok (.iload_n 3, 1) := by decide +kernel
theorem dX6_giveAlong_21 : decode cX6_giveAlong 21 = .ok (.iconst (-1), 1) := by decide +kernel
theorem dX6_giveAlong_22 : decode cX6_giveAlong 22 = .ok (.if_icmp .eq 74, 3) := by decide +kernel
theorem dX6_giveAlong_25 : decode cX6_giveAlong 25 = .ok (.aload_n 0, 1) := by decide +kernel
theorem dX6_giveAlong_26 : decode cX6_giveAlong 26 = .ok (.getfield 27, 3) := by decide +kernel
theorem dX6_giveAlong_29 : decode cX6_giveAlong 29 = .ok (.iload_n 3, 1) := by decide +kernel
theorem dX6_giveAlong_30 : decode cX6_giveAlong 30 = .ok (.iaload, 1) := by decide +kernel
theorem dX6_giveAlong_31 : decode cX6_giveAlong 31 = .ok (.istore 5, 2) := by decide +kernel
theorem dX6_giveAlong_33 : decode cX6_giveAlong 33 = .ok (.aload_n 0, 1) := by decide +kernel
theorem dX6_giveAlong_34 : decode cX6_giveAlong 34 = .ok (.getfield 48, 3) := by decide +kernel
theorem dX6_giveAlong_37 : decode cX6_giveAlong 37 = .ok (.iload 5, 2) := by decide +kernel
theorem dX6_giveAlong_39 : decode cX6_giveAlong 39 = .ok (.iload_n 3, 1) := by decide +kernel
theorem dX6_giveAlong_40 : decode cX6_giveAlong 40 = .ok (.invokestatic 131, 3) := by decide +kernel
theorem dX6_giveAlong_43 : decode cX6_giveAlong 43 = .ok (.dup2, 1) := by decide +kernel
theorem dX6_giveAlong_44 : decode cX6_giveAlong 44 = .ok (.iaload, 1) := by decide +kernel
theorem dX6_giveAlong_45 : decode cX6_giveAlong 45 = .ok (.iload_n 2, 1) := by decide +kernel
theorem dX6_giveAlong_46 : decode cX6_giveAlong 46 = .ok (.iadd, 1) := by decide +kernel
theorem dX6_giveAlong_47 : decode cX6_giveAlong 47 = .ok (.iastore, 1) := by decide +kernel
theorem dX6_giveAlong_48 : decode cX6_giveAlong 48 = .ok (.aload_n 0, 1) := by decide +kernel
theorem dX6_giveAlong_49 : decode cX6_giveAlong 49 = .ok (.getfield 42, 3) := by decide +kernel
theorem dX6_giveAlong_52 : decode cX6_giveAlong 52 = .ok (.iload 5, 2) := by decide +kernel
theorem dX6_giveAlong_54 : decode cX6_giveAlong 54 = .ok (.iaload, 1) := by decide +kernel
theorem dX6_giveAlong_55 : decode cX6_giveAlong 55 = .ok (.istore_n 3, 1) := by decide +kernel
theorem dX6_giveAlong_56 : decode cX6_giveAlong 56 = .ok (.iload_n 3, 1) := by decide +kernel
theorem dX6_giveAlong_57 : decode cX6_giveAlong 57 = .ok (.iconst (-1), 1) := by decide +kernel
theorem dX6_giveAlong_58 : decode cX6_giveAlong 58 = .ok (.if_icmp .eq 21, 3) := by decide +kernel
theorem dX6_giveAlong_61 : decode cX6_giveAlong 61 = .ok (.aload_n 0, 1) := by decide +kernel
theorem dX6_giveAlong_62 : decode cX6_giveAlong 62 = .ok (.getfield 48, 3) := by decide +kernel
theorem dX6_giveAlong_65 : decode cX6_giveAlong 65 = .ok (.iload 5, 2) := by decide +kernel
theorem dX6_giveAlong_67 : decode cX6_giveAlong 67 = .ok (.iload_n 3, 1) := by decide +kernel
theorem dX6_giveAlong_68 : decode cX6_giveAlong 68 = .ok (.invokestatic 131, 3) := by decide +kernel
theorem dX6_giveAlong_71 : decode cX6_giveAlong 71 = .ok (.dup2, 1) := by decide +kernel
theorem dX6_giveAlong_72 : decode cX6_giveAlong 72 = .ok (.iaload, 1) := by decide +kernel
theorem dX6_giveAlong_73 : decode cX6_giveAlong 73 = .ok (.iload_n 2, 1) := by decide +kernel
theorem dX6_giveAlong_74 : decode cX6_giveAlong 74 = .ok (.isub, 1) := by decide +kernel
theorem dX6_giveAlong_75 : decode cX6_giveAlong 75 = .ok (.iastore, 1) := by decide +kernel
theorem dX6_giveAlong_76 : decode cX6_giveAlong 76 = .ok (.goto 14, 3) := by decide +kernel
theorem dX6_giveAlong_79 : decode cX6_giveAlong 79 = .ok (.aload_n 0, 1) := by decide +kernel
theorem dX6_giveAlong_80 : decode cX6_giveAlong 80 = .ok (.getfield 36, 3) := by decide +kernel
theorem dX6_giveAlong_83 : decode cX6_giveAlong 83 = .ok (.iload 5, 2) := by decide +kernel
theorem dX6_giveAlong_85 : decode cX6_giveAlong 85 = .ok (.dup2, 1) := by decide +kernel
theorem dX6_giveAlong_86 : decode cX6_giveAlong 86 = .ok (.iaload, 1) := by decide +kernel
theorem dX6_giveAlong_87 : decode cX6_giveAlong 87 = .ok (.iload_n 2, 1) := by decide +kernel
theorem dX6_giveAlong_88 : decode cX6_giveAlong 88 = .ok (.isub, 1) := by decide +kernel
theorem dX6_giveAlong_89 : decode cX6_giveAlong 89 = .ok (.iastore, 1) := by decide +kernel
theorem dX6_giveAlong_90 : decode cX6_giveAlong 90 = .ok (.iinc 4 1, 3) := by decide +kernel
theorem dX6_giveAlong_93 : decode cX6_giveAlong 93 = .ok (.goto (-82), 3) := by decide +kernel
theorem dX6_giveAlong_96 : decode cX6_giveAlong 96 = .ok (.aload_n 0, 1) := by decide +kernel
theorem dX6_giveAlong_97 : decode cX6_giveAlong 97 = .ok (.getfield 21, 3) := by decide +kernel
theorem dX6_giveAlong_100 : decode cX6_giveAlong 100 = .ok (.iload_n 1, 1) := by decide +kernel
theorem dX6_giveAlong_101 : decode cX6_giveAlong 101 = .ok (.dup2, 1) := by decide +kernel
theorem dX6_giveAlong_102 : decode cX6_giveAlong 102 = .ok (.iaload, 1) := by decide +kernel
theorem dX6_giveAlong_103 : decode cX6_giveAlong 103 = .ok (.iload_n 2, 1) := by decide +kernel

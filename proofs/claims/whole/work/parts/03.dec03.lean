theorem dX5_addLine_24 : decode cX5_addLine 24 = .ok (.getfield 21, 3) := by decide +kernel
theorem dX5_addLine_27 : decode cX5_addLine 27 = .ok (.aload_n 0, 1) := by decide +kernel
theorem dX5_addLine_28 : decode cX5_addLine 28 = .ok (.getfield 33, 3) := by decide +kernel
theorem dX5_addLine_31 : decode cX5_addLine 31 = .ok (.iload_n 1, 1) := by decide +kernel
theorem dX5_addLine_32 : decode cX5_addLine 32 = .ok (.iastore, 1) := by decide +kernel
theorem dX5_addLine_33 : decode cX5_addLine 33 = .ok (.aload_n 0, 1) := by decide +kernel
theorem dX5_addLine_34 : decode cX5_addLine 34 = .ok (.getfield 24, 3) := by decide +kernel
theorem dX5_addLine_37 : decode cX5_addLine 37 = .ok (.aload_n 0, 1) := by decide +kernel
theorem dX5_addLine_38 : decode cX5_addLine 38 = .ok (.getfield 33, 3) := by decide +kernel
theorem dX5_addLine_41 : decode cX5_addLine 41 = .ok (.iload_n 2, 1) := by decide +kernel
theorem dX5_addLine_42 : decode cX5_addLine 42 = .ok (.iastore, 1) := by decide +kernel
theorem dX5_addLine_43 : decode cX5_addLine 43 = .ok (.aload_n 0, 1) := by decide +kernel
theorem dX5_addLine_44 : decode cX5_addLine 44 = .ok (.getfield 27, 3) := by decide +kernel
theorem dX5_addLine_47 : decode cX5_addLine 47 = .ok (.aload_n 0, 1) := by decide +kernel
theorem dX5_addLine_48 : decode cX5_addLine 48 = .ok (.getfield 33, 3) := by decide +kernel
theorem dX5_addLine_51 : decode cX5_addLine 51 = .ok (.iload_n 3, 1) := by decide +kernel
theorem dX5_addLine_52 : decode cX5_addLine 52 = .ok (.iastore, 1) := by decide +kernel
theorem dX5_addLine_53 : decode cX5_addLine 53 = .ok (.aload_n 0, 1) := by decide +kernel
theorem dX5_addLine_54 : decode cX5_addLine 54 = .ok (.getfield 30, 3) := by decide +kernel
theorem dX5_addLine_57 : decode cX5_addLine 57 = .ok (.aload_n 0, 1) := by decide +kernel
theorem dX5_addLine_58 : decode cX5_addLine 58 = .ok (.getfield 33, 3) := by decide +kernel
theorem dX5_addLine_61 : decode cX5_addLine 61 = .ok (.iload 4, 2) := by decide +kernel
theorem dX5_addLine_63 : decode cX5_addLine 63 = .ok (.iastore, 1) := by decide +kernel
theorem dX5_addLine_64 : decode cX5_addLine 64 = .ok (.aload_n 0, 1) := by decide +kernel
theorem dX5_addLine_65 : decode cX5_addLine 65 = .ok (.dup, 1) := by decide +kernel
theorem dX5_addLine_66 : decode cX5_addLine 66 = .ok (.getfield 33, 3) := by decide +kernel
theorem dX5_addLine_69 : decode cX5_addLine 69 = .ok (.iconst 1, 1) := by decide +kernel
theorem dX5_addLine_70 : decode cX5_addLine 70 = .ok (.iadd, 1) := by decide +kernel
theorem dX5_addLine_71 : decode cX5_addLine 71 = .ok (.putfield 33, 3) := by decide +kernel
theorem dX5_addLine_74 : decode cX5_addLine 74 = .ok (.return_, 1) := by decide +kernel
theorem dX5_holds_0 : decode cX5_holds 0 = .ok (.iconst 0, 1) := by decide +kernel
theorem dX5_holds_1 : decode cX5_holds 1 = .ok (.istore_n 3, 1) := by decide +kernel
theorem dX5_holds_2 : decode cX5_holds 2 = .ok (.iload_n 1, 1) := by decide +kernel
theorem dX5_holds_3 : decode cX5_holds 3 = .ok (.ifCond .le 14, 3) := by decide +kernel
theorem dX5_holds_6 : decode cX5_holds 6 = .ok (.aload_n 0, 1) := by decide +kernel
theorem dX5_holds_7 : decode cX5_holds 7 = .ok (.getfield 18, 3) := by decide +kernel
theorem dX5_holds_10 : decode cX5_holds 10 = .ok (.iload_n 1, 1) := by decide +kernel
theorem dX5_holds_11 : decode cX5_holds 11 = .ok (.iconst 1, 1) := by decide +kernel
theorem dX5_holds_12 : decode cX5_holds 12 = .ok (.isub, 1) := by decide +kernel
theorem dX5_holds_13 : decode cX5_holds 13 = .ok (.iaload, 1) := by decide +kernel
theorem dX5_holds_14 : decode cX5_holds 14 = .ok (.goto 4, 3) := by decide +kernel
theorem dX5_holds_17 : decode cX5_holds 17 = .ok (.iconst 0, 1) := by decide +kernel
theorem dX5_holds_18 : decode cX5_holds 18 = .ok (.istore 4, 2) := by decide +kernel
theorem dX5_holds_20 : decode cX5_holds 20 = .ok (.iload 4, 2) := by decide +kernel
theorem dX5_holds_22 : decode cX5_holds 22 = .ok (.istore 5, 2) := by decide +kernel
theorem dX5_holds_24 : decode cX5_holds 24 = .ok (.iload 5, 2) := by decide +kernel
theorem dX5_holds_26 : decode cX5_holds 26 = .ok (.aload_n 0, 1) := by decide +kernel
theorem dX5_holds_27 : decode cX5_holds 27 = .ok (.getfield 18, 3) := by decide +kernel
theorem dX5_holds_30 : decode cX5_holds 30 = .ok (.iload_n 1, 1) := by decide +kernel
theorem dX5_holds_31 : decode cX5_holds 31 = .ok (.iaload, 1) := by decide +kernel
theorem dX5_holds_32 : decode cX5_holds 32 = .ok (.if_icmp .ge 134, 3) := by decide +kernel
theorem dX5_holds_35 : decode cX5_holds 35 = .ok (.aload_n 0, 1) := by decide +kernel
theorem dX5_holds_36 : decode cX5_holds 36 = .ok (.getfield 11, 3) := by decide +kernel
theorem dX5_holds_39 : decode cX5_holds 39 = .ok (.iload 5, 2) := by decide +kernel
theorem dX5_holds_41 : decode cX5_holds 41 = .ok (.iaload, 1) := by decide +kernel
theorem dX5_holds_42 : decode cX5_holds 42 = .ok (.bipush 63, 2) := by decide +kernel
theorem dX5_holds_44 : decode cX5_holds 44 = .ok (.iand, 1) := by decide +kernel
theorem dX5_holds_45 : decode cX5_holds 45 = .ok (.istore 6, 2) := by decide +kernel
theorem dX5_holds_47 : decode cX5_holds 47 = .ok (.aload_n 0, 1) := by decide +kernel
theorem dX5_holds_48 : decode cX5_holds 48 = .ok (.getfield 11, 3) := by decide +kernel
theorem dX5_holds_51 : decode cX5_holds 51 = .ok (.iload 5, 2) := by decide +kernel
theorem dX5_holds_53 : decode cX5_holds 53 = .ok (.iaload, 1) := by decide +kernel
theorem dX5_holds_54 : decode cX5_holds 54 = .ok (.bipush 6, 2) := by decide +kernel
theorem dX5_holds_56 : decode cX5_holds 56 = .ok (.ishr, 1) := by decide +kernel
theorem dX5_holds_57 : decode cX5_holds 57 = .ok (.istore 7, 2) := by decide +kernel
theorem dX5_holds_59 : decode cX5_holds 59 = .ok (.iload 6, 2) := by decide +kernel
theorem dX5_holds_61 : decode cX5_holds 61 = .ok (.invokestatic 40, 3) := by decide +kernel
theorem dX5_holds_64 : decode cX5_holds 64 = .ok (.ifCond .eq 29, 3) := by decide +kernel
theorem dX5_holds_67 : decode cX5_holds 67 = .ok (.iload_n 3, 1) := by decide +kernel
theorem dX5_holds_68 : decode cX5_holds 68 = .ok (.bipush 32, 2) := by decide +kernel
theorem dX5_holds_70 : decode cX5_holds 70 = .ok (.if_icmp .ge 90, 3) := by decide +kernel
theorem dX5_holds_73 : decode cX5_holds 73 = .ok (.aload_n 0, 1) := by decide +kernel
theorem dX5_holds_74 : decode cX5_holds 74 = .ok (.getfield 15, 3) := by decide +kernel
theorem dX5_holds_77 : decode cX5_holds 77 = .ok (.iload_n 3, 1) := by decide +kernel
theorem dX5_holds_78 : decode cX5_holds 78 = .ok (.iload 6, 2) := by decide +kernel
theorem dX5_holds_80 : decode cX5_holds 80 = .ok (.iload 7, 2) := by decide +kernel
theorem dX5_holds_82 : decode cX5_holds 82 = .ok (.aload_n 2, 1) := by decide +kernel
theorem dX5_holds_83 : decode cX5_holds 83 = .ok (.invokestatic 44, 3) := by decide +kernel
theorem dX5_holds_86 : decode cX5_holds 86 = .ok (.iastore, 1) := by decide +kernel
theorem dX5_holds_87 : decode cX5_holds 87 = .ok (.iinc 3 1, 3) := by decide +kernel
theorem dX5_holds_90 : decode cX5_holds 90 = .ok (.goto 70, 3) := by decide +kernel
theorem dX5_holds_93 : decode cX5_holds 93 = .ok (.iload 6, 2) := by decide +kernel
theorem dX5_holds_95 : decode cX5_holds 95 = .ok (.bipush 12, 2) := by decide +kernel
theorem dX5_holds_97 : decode cX5_holds 97 = .ok (.if_icmp .ne 28, 3) := by decide +kernel
theorem dX5_holds_100 : decode cX5_holds 100 = .ok (.iload_n 3, 1) := by decide +kernel
theorem dX5_holds_101 : decode cX5_holds 101 = .ok (.ifCond .le 59, 3) := by decide +kernel
theorem dX5_holds_104 : decode cX5_holds 104 = .ok (.aload_n 0, 1) := by decide +kernel
theorem dX5_holds_105 : decode cX5_holds 105 = .ok (.getfield 15, 3) := by decide +kernel
theorem dX5_holds_108 : decode cX5_holds 108 = .ok (.iload_n 3, 1) := by decide +kernel
theorem dX5_holds_109 : decode cX5_holds 109 = .ok (.iconst 1, 1) := by decide +kernel
theorem dX5_holds_110 : decode cX5_holds 110 = .ok (.isub, 1) := by decide +kernel
theorem dX5_holds_111 : decode cX5_holds 111 = .ok (.iconst 1, 1) := by decide +kernel
theorem dX5_holds_112 : decode cX5_holds 112 = .ok (.aload_n 0, 1) := by decide +kernel
theorem dX5_holds_113 : decode cX5_holds 113 = .ok (.getfield 15, 3) := by decide +kernel
theorem dX5_holds_116 : decode cX5_holds 116 = .ok (.iload_n 3, 1) := by decide +kernel
theorem dX5_holds_117 : decode cX5_holds 117 = .ok (.iconst 1, 1) := by decide +kernel
theorem dX5_holds_118 : decode cX5_holds 118 = .ok (.isub, 1) := by decide +kernel
theorem dX5_holds_119 : decode cX5_holds 119 = .ok (.iaload, 1) := by decide +kernel
theorem dX5_holds_120 : decode cX5_holds 120 = .ok (.isub, 1) := by decide +kernel
theorem dX5_holds_121 : decode cX5_holds 121 = .ok (.iastore, 1) := by decide +kernel
theorem dX5_holds_122 : decode cX5_holds 122 = .ok (.goto 38, 3) := by decide +kernel
theorem dX5_holds_125 : decode cX5_holds 125 = .ok (.iload_n 3, 1) := by decide +kernel
theorem dX5_holds_126 : decode cX5_holds 126 = .ok (.iconst 1, 1) := by decide +kernel
theorem dX5_holds_127 : decode cX5_holds 127 = .ok (.if_icmp .le 33, 3) := by decide +kernel
theorem dX5_holds_130 : decode cX5_holds 130 = .ok (.iinc 3 (-1), 3) := by decide +kernel
theorem dX5_holds_133 : decode cX5_holds 133 = .ok (.aload_n 0, 1) := by decide +kernel
theorem dX5_holds_134 : decode cX5_holds 134 = .ok (.getfield 15, 3) := by decide +kernel
theorem dX5_holds_137 : decode cX5_holds 137 = .ok (.iload_n 3, 1) := by decide +kernel
theorem dX5_holds_138 : decode cX5_holds 138 = .ok (.iconst 1, 1) := by decide +kernel
theorem dX5_holds_139 : decode cX5_holds 139 = .ok (.isub, 1) := by decide +kernel
theorem dX5_holds_140 : decode cX5_holds 140 = .ok (.iload 6, 2) := by decide +kernel
theorem dX5_holds_142 : decode cX5_holds 142 = .ok (.aload_n 0, 1) := by decide +kernel
theorem dX5_holds_143 : decode cX5_holds 143 = .ok (.getfield 15, 3) := by decide +kernel
theorem dX5_holds_146 : decode cX5_holds 146 = .ok (.iload_n 3, 1) := by decide +kernel
theorem dX5_holds_147 : decode cX5_holds 147 = .ok (.iconst 1, 1) := by decide +kernel
theorem dX5_holds_148 : decode cX5_holds 148 = .ok (.isub, 1) := by decide +kernel
theorem dX5_holds_149 : decode cX5_holds 149 = .ok (.iaload, 1) := by decide +kernel
theorem dX5_holds_150 : decode cX5_holds 150 = .ok (.aload_n 0, 1) := by decide +kernel
theorem dX5_holds_151 : decode cX5_holds 151 = .ok (.getfield 15, 3) := by decide +kernel
theorem dX5_holds_154 : decode cX5_holds 154 = .ok (.iload_n 3, 1) := by decide +kernel
theorem dX5_holds_155 : decode cX5_holds 155 = .ok (.iaload, 1) := by decide +kernel
theorem dX5_holds_156 : decode cX5_holds 156 = .ok (.invokestatic 48, 3) := by decide +kernel
theorem dX5_holds_159 : decode cX5_holds 159 = .ok (.iastore, 1) := by decide +kernel
theorem dX5_holds_160 : decode cX5_holds 160 = .ok (.iinc 5 1, 3) := by decide +kernel
theorem dX5_holds_163 : decode cX5_holds 163 = .ok (.goto (-139), 3) := by decide +kernel
theorem dX5_holds_166 : decode cX5_holds 166 = .ok (.iload_n 3, 1) := by decide +kernel
theorem dX5_holds_167 : decode cX5_holds 167 = .ok (.ifCond .eq 12, 3) := by decide +kernel
theorem dX5_holds_170 : decode cX5_holds 170 = .ok (.aload_n 0, 1) := by decide +kernel
theorem dX5_holds_171 : decode cX5_holds 171 = .ok (.getfield 15, 3) := by decide +kernel
theorem dX5_holds_174 : decode cX5_holds 174 = .ok (.iconst 0, 1) := by decide +kernel
theorem dX5_holds_175 : decode cX5_holds 175 = .ok (.iaload, 1) := by decide +kernel
theorem dX5_holds_176 : decode cX5_holds 176 = .ok (.ifCond .eq 7, 3) := by decide +kernel
theorem dX5_holds_179 : decode cX5_holds 179 = .ok (.iconst 1, 1) := by decide +kernel
theorem dX5_holds_180 : decode cX5_holds 180 = .ok (.goto 4, 3) := by decide +kernel
theorem dX5_holds_183 : decode cX5_holds 183 = .ok (.iconst 0, 1) := by decide +kernel
theorem dX5_holds_184 : decode cX5_holds 184 = .ok (.ireturn, 1) := by decide +kernel
theorem dX5_isTerm_0 : decode cX5_isTerm 0 = .ok (.iload_n 0, 1) := by decide +kernel
theorem dX5_isTerm_1 : decode cX5_isTerm 1 = .ok (.iconst 2, 1) := by decide +kernel
theorem dX5_isTerm_2 : decode cX5_isTerm 2 = .ok (.if_icmp .eq 14, 3) := by decide +kernel
theorem dX5_isTerm_5 : decode cX5_isTerm 5 = .ok (.iload_n 0, 1) := by decide +kernel
theorem dX5_isTerm_6 : decode cX5_isTerm 6 = .ok (.bipush 13, 2) := by decide +kernel
theorem dX5_isTerm_8 : decode cX5_isTerm 8 = .ok (.bipush 17, 2) := by decide +kernel
theorem dX5_isTerm_10 : decode cX5_isTerm 10 = .ok (.invokestatic 52, 3) := by decide +kernel
theorem dX5_isTerm_13 : decode cX5_isTerm 13 = .ok (.ifCond .eq 7, 3) := by decide +kernel
theorem dX5_isTerm_16 : decode cX5_isTerm 16 = .ok (.iconst 1, 1) := by decide +kernel
theorem dX5_isTerm_17 : decode cX5_isTerm 17 = .ok (.goto 4, 3) := by decide +kernel
theorem dX5_isTerm_20 : decode cX5_isTerm 20 = .ok (.iconst 0, 1) := by decide +kernel
theorem dX5_isTerm_21 : decode cX5_isTerm 21 = .ok (.ireturn, 1) := by decide +kernel
theorem dX5_termValue_0 : decode cX5_termValue 0 = .ok (.iload_n 0, 1) := by decide +kernel
theorem dX5_termValue_1 : decode cX5_termValue 1 = .ok (.iconst 2, 1) := by decide +kernel
theorem dX5_termValue_2 : decode cX5_termValue 2 = .ok (.if_icmp .ne 5, 3) := by decide +kernel
theorem dX5_termValue_5 : decode cX5_termValue 5 = .ok (.iload_n 1, 1) := by decide +kernel
theorem dX5_termValue_6 : decode cX5_termValue 6 = .ok (.ireturn, 1) := by decide +kernel
theorem dX5_termValue_7 : decode cX5_termValue 7 = .ok (.iload_n 0, 1) := by decide +kernel
theorem dX5_termValue_8 : decode cX5_termValue 8 = .ok (.bipush 13, 2) := by decide +kernel
theorem dX5_termValue_10 : decode cX5_termValue 10 = .ok (.if_icmp .ne 8, 3) := by decide +kernel
theorem dX5_termValue_13 : decode cX5_termValue 13 = .ok (.aload_n 2, 1) := by decide +kernel
theorem dX5_termValue_14 : decode cX5_termValue 14 = .ok (.getfield 56, 3) := by decide +kernel
theorem dX5_termValue_17 : decode cX5_termValue 17 = .ok (.ireturn, 1) := by decide +kernel
theorem dX5_termValue_18 : decode cX5_termValue 18 = .ok (.iload_n 1, 1) := by decide +kernel
theorem dX5_termValue_19 : decode cX5_termValue 19 = .ok (.iconst 3, 1) := by decide +kernel
theorem dX5_termValue_20 : decode cX5_termValue 20 = .ok (.idiv, 1) := by decide +kernel
theorem dX5_termValue_21 : decode cX5_termValue 21 = .ok (.istore_n 3, 1) := by decide +kernel
theorem dX5_termValue_22 : decode cX5_termValue 22 = .ok (.iload_n 1, 1) := by decide +kernel
theorem dX5_termValue_23 : decode cX5_termValue 23 = .ok (.iconst 3, 1) := by decide +kernel
theorem dX5_termValue_24 : decode cX5_termValue 24 = .ok (.irem, 1) := by decide +kernel
theorem dX5_termValue_25 : decode cX5_termValue 25 = .ok (.istore 4, 2) := by decide +kernel
theorem dX5_termValue_27 : decode cX5_termValue 27 = .ok (.aload_n 2, 1) := by decide +kernel
theorem dX5_termValue_28 : decode cX5_termValue 28 = .ok (.iload_n 3, 1) := by decide +kernel
theorem dX5_termValue_29 : decode cX5_termValue 29 = .ok (.invokevirtual 61, 3) := by decide +kernel
theorem dX5_termValue_32 : decode cX5_termValue 32 = .ok (.ifCond .eq 11, 3) := by decide +kernel
theorem dX5_termValue_35 : decode cX5_termValue 35 = .ok (.iload 4, 2) := by decide +kernel
theorem dX5_termValue_37 : decode cX5_termValue 37 = .ok (.invokestatic 64, 3) := by decide +kernel
theorem dX5_termValue_40 : decode cX5_termValue 40 = .ok (.ifCond .ne 5, 3) := by decide +kernel
theorem dX5_termValue_43 : decode cX5_termValue 43 = .ok (.iconst 0, 1) := by decide +kernel
theorem dX5_termValue_44 : decode cX5_termValue 44 = .ok (.ireturn, 1) := by decide +kernel
theorem dX5_termValue_45 : decode cX5_termValue 45 = .ok (.aload_n 2, 1) := by decide +kernel
theorem dX5_termValue_46 : decode cX5_termValue 46 = .ok (.getfield 67, 3) := by decide +kernel
theorem dX5_termValue_49 : decode cX5_termValue 49 = .ok (.iload_n 3, 1) := by decide +kernel
theorem dX5_termValue_50 : decode cX5_termValue 50 = .ok (.aaload, 1) := by decide +kernel
theorem dX5_termValue_51 : decode cX5_termValue 51 = .ok (.astore 5, 2) := by decide +kernel
theorem dX5_termValue_53 : decode cX5_termValue 53 = .ok (.iload_n 0, 1) := by decide +kernel
theorem dX5_termValue_54 : decode cX5_termValue 54 = .ok (.tableswitch 49 14 16 #[26, 32, 41], 26) := by decide +kernel
theorem dX5_termValue_80 : decode cX5_termValue 80 = .ok (.aload 5, 2) := by decide +kernel
theorem dX5_termValue_82 : decode cX5_termValue 82 = .ok (.getfield 71, 3) := by decide +kernel
theorem dX5_termValue_85 : decode cX5_termValue 85 = .ok (.ireturn, 1) := by decide +kernel
theorem dX5_termValue_86 : decode cX5_termValue 86 = .ok (.aload 5, 2) := by decide +kernel
theorem dX5_termValue_88 : decode cX5_termValue 88 = .ok (.getfield 76, 3) := by decide +kernel
theorem dX5_termValue_91 : decode cX5_termValue 91 = .ok (.iload 4, 2) := by decide +kernel
theorem dX5_termValue_93 : decode cX5_termValue 93 = .ok (.iaload, 1) := by decide +kernel
theorem dX5_termValue_94 : decode cX5_termValue 94 = .ok (.ireturn, 1) := by decide +kernel
theorem dX5_termValue_95 : decode cX5_termValue 95 = .ok (.aload 5, 2) := by decide +kernel
theorem dX5_termValue_97 : decode cX5_termValue 97 = .ok (.iload 4, 2) := by decide +kernel
theorem dX5_termValue_99 : decode cX5_termValue 99 = .ok (.invokevirtual 79, 3) := by decide +kernel
theorem dX5_termValue_102 : decode cX5_termValue 102 = .ok (.ireturn, 1) := by decide +kernel
theorem dX5_termValue_103 : decode cX5_termValue 103 = .ok (.aload 5, 2) := by decide +kernel
theorem dX5_termValue_105 : decode cX5_termValue 105 = .ok (.invokevirtual 83, 3) := by decide +kernel
theorem dX5_termValue_108 : decode cX5_termValue 108 = .ok (.ireturn, 1) := by decide +kernel
theorem dX5_join_0 : decode cX5_join 0 = .ok (.iload_n 0, 1) := by decide +kernel
theorem dX5_join_1 : decode cX5_join 1 = .ok (.lookupswitch 104 #[(11, 100), (43, 59), (45, 63), (60, 67), (61, 89), (62, 78)], 59) := by decide +kernel
theorem dX5_join_60 : decode cX5_join 60 = .ok (.iload_n 1, 1) := by decide +kernel
theorem dX5_join_61 : decode cX5_join 61 = .ok (.iload_n 2, 1) := by decide +kernel
theorem dX5_join_62 : decode cX5_join 62 = .ok (.iadd, 1) := by decide +kernel
theorem dX5_join_63 : decode cX5_join 63 = .ok (.ireturn, 1) := by decide +kernel
theorem dX5_join_64 : decode cX5_join 64 = .ok (.iload_n 1, 1) := by decide +kernel
theorem dX5_join_65 : decode cX5_join 65 = .ok (.iload_n 2, 1) := by decide +kernel
theorem dX5_join_66 : decode cX5_join 66 = .ok (.isub, 1) := by decide +kernel
theorem dX5_join_67 : decode cX5_join 67 = .ok (.ireturn, 1) := by decide +kernel
theorem dX5_join_68 : decode cX5_join 68 = .ok (.iload_n 1, 1) := by decide +kernel
theorem dX5_join_69 : decode cX5_join 69 = .ok (.iload_n 2, 1) := by decide +kernel
theorem dX5_join_70 : decode cX5_join 70 = .ok (.if_icmp .ge 7, 3) := by decide +kernel
theorem dX5_join_73 : decode cX5_join 73 = .ok (.iconst 1, 1) := by decide +kernel
theorem dX5_join_74 : decode cX5_join 74 = .ok (.goto 4, 3) := by decide +kernel
theorem dX5_join_77 : decode cX5_join 77 = .ok (.iconst 0, 1) := by decide +kernel
theorem dX5_join_78 : decode cX5_join 78 = .ok (.ireturn, 1) := by decide +kernel
theorem dX5_join_79 : decode cX5_join 79 = .ok (.iload_n 1, 1) := by decide +kernel
theorem dX5_join_80 : decode cX5_join 80 = .ok (.iload_n 2, 1) := by decide +kernel
theorem dX5_join_81 : decode cX5_join 81 = .ok (.if_icmp .le 7, 3) := by decide +kernel
theorem dX5_join_84 : decode cX5_join 84 = .ok (.iconst 1, 1) := by decide +kernel
theorem dX5_join_85 : decode cX5_join 85 = .ok (.goto 4, 3) := by decide +kernel
theorem dX5_join_88 : decode cX5_join 88 = .ok (.iconst 0, 1) := by decide +kernel
theorem dX5_join_89 : decode cX5_join 89 = .ok (.ireturn, 1) := by decide +kernel
theorem dX5_join_90 : decode cX5_join 90 = .ok (.iload_n 1, 1) := by decide +kernel
theorem dX5_join_91 : decode cX5_join 91 = .ok (.iload_n 2, 1) := by decide +kernel
theorem dX5_join_92 : decode cX5_join 92 = .ok (.if_icmp .ne 7, 3) := by decide +kernel
theorem dX5_join_95 : decode cX5_join 95 = .ok (.iconst 1, 1) := by decide +kernel
theorem dX5_join_96 : decode cX5_join 96 = .ok (.goto 4, 3) := by decide +kernel
theorem dX5_join_99 : decode cX5_join 99 = .ok (.iconst 0, 1) := by decide +kernel
theorem dX5_join_100 : decode cX5_join 100 = .ok (.ireturn, 1) := by decide +kernel
theorem dX5_join_101 : decode cX5_join 101 = .ok (.iload_n 1, 1) := by decide +kernel
theorem dX5_join_102 : decode cX5_join 102 = .ok (.iload_n 2, 1) := by decide +kernel
theorem dX5_join_103 : decode cX5_join 103 = .ok (.iand, 1) := by decide +kernel
theorem dX5_join_104 : decode cX5_join 104 = .ok (.ireturn, 1) := by decide +kernel
theorem dX5_join_105 : decode cX5_join 105 = .ok (.iload_n 1, 1) := by decide +kernel
theorem dX5_join_106 : decode cX5_join 106 = .ok (.iload_n 2, 1) := by decide +kernel
theorem dX5_join_107 : decode cX5_join 107 = .ok (.ior, 1) := by decide +kernel
theorem dX5_join_108 : decode cX5_join 108 = .ok (.ireturn, 1) := by decide +kernel
theorem dX6_init_0 : decode cX6_init 0 = .ok (.aload_n 0, 1) := by decide +kernel
theorem dX6_init_1 : decode cX6_init 1 = .ok (.invokespecial 3, 3) := by decide +kernel
theorem dX6_init_4 : decode cX6_init 4 = .ok (.aload_n 0, 1) := by decide +kernel
theorem dX6_init_5 : decode cX6_init 5 = .ok (.bipush 10, 2) := by decide +kernel
theorem dX6_init_7 : decode cX6_init 7 = .ok (.newarray .int, 2) := by decide +kernel
theorem dX6_init_9 : decode cX6_init 9 = .ok (.putfield 9, 3) := by decide +kernel
theorem dX6_init_12 : decode cX6_init 12 = .ok (.aload_n 0, 1) := by decide +kernel
theorem dX6_init_13 : decode cX6_init 13 = .ok (.bipush 10, 2) := by decide +kernel
theorem dX6_init_15 : decode cX6_init 15 = .ok (.newarray .int, 2) := by decide +kernel
theorem dX6_init_17 : decode cX6_init 17 = .ok (.putfield 15, 3) := by decide +kernel
theorem dX6_init_20 : decode cX6_init 20 = .ok (.aload_n 0, 1) := by decide +kernel
theorem dX6_init_21 : decode cX6_init 21 = .ok (.bipush 10, 2) := by decide +kernel
theorem dX6_init_23 : decode cX6_init 23 = .ok (.newarray .int, 2) := by decide +kernel
theorem dX6_init_25 : decode cX6_init 25 = .ok (.putfield 18, 3) := by decide +kernel
theorem dX6_init_28 : decode cX6_init 28 = .ok (.aload_n 0, 1) := by decide +kernel
theorem dX6_init_29 : decode cX6_init 29 = .ok (.bipush 10, 2) := by decide +kernel
theorem dX6_init_31 : decode cX6_init 31 = .ok (.newarray .int, 2) := by decide +kernel
theorem dX6_init_33 : decode cX6_init 33 = .ok (.putfield 21, 3) := by decide +kernel
theorem dX6_init_36 : decode cX6_init 36 = .ok (.aload_n 0, 1) := by decide +kernel
theorem dX6_init_37 : decode cX6_init 37 = .ok (.bipush 10, 2) := by decide +kernel
theorem dX6_init_39 : decode cX6_init 39 = .ok (.newarray .int, 2) := by decide +kernel
theorem dX6_init_41 : decode cX6_init 41 = .ok (.putfield 24, 3) := by decide +kernel
theorem dX6_init_44 : decode cX6_init 44 = .ok (.aload_n 0, 1) := by decide +kernel
theorem dX6_init_45 : decode cX6_init 45 = .ok (.bipush 10, 2) := by decide +kernel
theorem dX6_init_47 : decode cX6_init 47 = .ok (.newarray .int, 2) := by decide +kernel
theorem dX6_init_49 : decode cX6_init 49 = .ok (.putfield 27, 3) := by decide +kernel
theorem dX6_init_52 : decode cX6_init 52 = .ok (.aload_n 0, 1) := by decide +kernel
theorem dX6_init_53 : decode cX6_init 53 = .ok (.bipush 80, 2) := by decide +kernel
theorem dX6_init_55 : decode cX6_init 55 = .ok (.newarray .int, 2) := by decide +kernel
theorem dX6_init_57 : decode cX6_init 57 = .ok (.putfield 30, 3) := by decide +kernel
theorem dX6_init_60 : decode cX6_init 60 = .ok (.aload_n 0, 1) := by decide +kernel
theorem dX6_init_61 : decode cX6_init 61 = .ok (.bipush 80, 2) := by decide +kernel
theorem dX6_init_63 : decode cX6_init 63 = .ok (.newarray .int, 2) := by decide +kernel
theorem dX6_init_65 : decode cX6_init 65 = .ok (.putfield 33, 3) := by decide +kernel
theorem dX6_init_68 : decode cX6_init 68 = .ok (.aload_n 0, 1) := by decide +kernel
theorem dX6_init_69 : decode cX6_init 69 = .ok (.bipush 80, 2) := by decide +kernel
theorem dX6_init_71 : decode cX6_init 71 = .ok (.newarray .int, 2) := by decide +kernel
theorem dX6_init_73 : decode cX6_init 73 = .ok (.putfield 36, 3) := by decide +kernel
theorem dX6_init_76 : decode cX6_init 76 = .ok (.aload_n 0, 1) := by decide +kernel
theorem dX6_init_77 : decode cX6_init 77 = .ok (.bipush 80, 2) := by decide +kernel
theorem dX6_init_79 : decode cX6_init 79 = .ok (.newarray .int, 2) := by decide +kernel
theorem dX6_init_81 : decode cX6_init 81 = .ok (.putfield 39, 3) := by decide +kernel
theorem dX6_init_84 : decode cX6_init 84 = .ok (.aload_n 0, 1) := by decide +kernel
theorem dX6_init_85 : decode cX6_init 85 = .ok (.bipush 80, 2) := by decide +kernel
theorem dX6_init_87 : decode cX6_init 87 = .ok (.newarray .int, 2) := by decide +kernel
theorem dX6_init_89 : decode cX6_init 89 = .ok (.putfield 42, 3) := by decide +kernel
theorem dX6_init_92 : decode cX6_init 92 = .ok (.aload_n 0, 1) := by decide +kernel
theorem dX6_init_93 : decode cX6_init 93 = .ok (.sipush 800, 3) := by decide +kernel
theorem dX6_init_96 : decode cX6_init 96 = .ok (.newarray .int, 2) := by decide +kernel
theorem dX6_init_98 : decode cX6_init 98 = .ok (.putfield 45, 3) := by decide +kernel
theorem dX6_init_101 : decode cX6_init 101 = .ok (.aload_n 0, 1) := by decide +kernel
theorem dX6_init_102 : decode cX6_init 102 = .ok (.sipush 800, 3) := by decide +kernel
theorem dX6_init_105 : decode cX6_init 105 = .ok (.newarray .int, 2) := by decide +kernel
theorem dX6_init_107 : decode cX6_init 107 = .ok (.putfield 48, 3) := by decide +kernel
theorem dX6_init_110 : decode cX6_init 110 = .ok (.return_, 1) := by decide +kernel
theorem dX6_plan_0 : decode cX6_plan 0 = .ok (.aload_n 0, 1) := by decide +kernel
theorem dX6_plan_1 : decode cX6_plan 1 = .ok (.iconst 0, 1) := by decide +kernel
theorem dX6_plan_2 : decode cX6_plan 2 = .ok (.putfield 51, 3) := by decide +kernel
theorem dX6_plan_5 : decode cX6_plan 5 = .ok (.aload_n 0, 1) := by decide +kernel
theorem dX6_plan_6 : decode cX6_plan 6 = .ok (.iconst 0, 1) := by decide +kernel
theorem dX6_plan_7 : decode cX6_plan 7 = .ok (.putfield 55, 3) := by decide +kernel
theorem dX6_plan_10 : decode cX6_plan 10 = .ok (.iconst 0, 1) := by decide +kernel
theorem dX6_plan_11 : decode cX6_plan 11 = .ok (.istore_n 3, 1) := by decide +kernel
theorem dX6_plan_12 : decode cX6_plan 12 = .ok (.iload_n 3, 1) := by decide +kernel
theorem dX6_plan_13 : decode cX6_plan 13 = .ok (.iconst 3, 1) := by decide +kernel
theorem dX6_plan_14 : decode cX6_plan 14 = .ok (.if_icmp .ge 81, 3) := by decide +kernel
theorem dX6_plan_17 : decode cX6_plan 17 = .ok (.aload_n 0, 1) := by decide +kernel
theorem dX6_plan_18 : decode cX6_plan 18 = .ok (.aload_n 1, 1) := by decide +kernel
theorem dX6_plan_19 : decode cX6_plan 19 = .ok (.aload_n 2, 1) := by decide +kernel
theorem dX6_plan_20 : decode cX6_plan 20 = .ok (.iload_n 3, 1) := by decide +kernel
theorem dX6_plan_21 : decode cX6_plan 21 = .ok (.invokevirtual 58, 3) := by decide +kernel
theorem dX6_plan_24 : decode cX6_plan 24 = .ok (.aload_n 0, 1) := by decide +kernel
theorem dX6_plan_25 : decode cX6_plan 25 = .ok (.aload_n 1, 1) := by decide +kernel
theorem dX6_plan_26 : decode cX6_plan 26 = .ok (.iload_n 3, 1) := by decide +kernel
theorem dX6_plan_27 : decode cX6_plan 27 = .ok (.invokevirtual 62, 3) := by decide +kernel
theorem dX6_plan_30 : decode cX6_plan 30 = .ok (.aload_n 0, 1) := by decide +kernel
theorem dX6_plan_31 : decode cX6_plan 31 = .ok (.aload_n 1, 1) := by decide +kernel
theorem dX6_plan_32 : decode cX6_plan 32 = .ok (.invokevirtual 66, 3) := by decide +kernel
theorem dX6_plan_35 : decode cX6_plan 35 = .ok (.iconst 1, 1) := by decide +kernel
theorem dX6_plan_36 : decode cX6_plan 36 = .ok (.istore 4, 2) := by decide +kernel
theorem dX6_plan_38 : decode cX6_plan 38 = .ok (.iconst 0, 1) := by decide +kernel
theorem dX6_plan_39 : decode cX6_plan 39 = .ok (.istore 5, 2) := by decide +kernel
theorem dX6_plan_41 : decode cX6_plan 41 = .ok (.iload 5, 2) := by decide +kernel
theorem dX6_plan_43 : decode cX6_plan 43 = .ok (.ldc 70, 2) := by decide +kernel
theorem dX6_plan_45 : decode cX6_plan 45 = .ok (.if_icmp .ge 44, 3) := by decide +kernel
theorem dX6_plan_48 : decode cX6_plan 48 = .ok (.iload 4, 2) := by decide +kernel
theorem dX6_plan_50 : decode cX6_plan 50 = .ok (.ifCond .eq 39, 3) := by decide +kernel
theorem dX6_plan_53 : decode cX6_plan 53 = .ok (.aload_n 0, 1) := by decide +kernel
theorem dX6_plan_54 : decode cX6_plan 54 = .ok (.invokevirtual 71, 3) := by decide +kernel
theorem dX6_plan_57 : decode cX6_plan 57 = .ok (.istore 6, 2) := by decide +kernel
theorem dX6_plan_59 : decode cX6_plan 59 = .ok (.iload 6, 2) := by decide +kernel
theorem dX6_plan_61 : decode cX6_plan 61 = .ok (.iconst (-1), 1) := by decide +kernel
theorem dX6_plan_62 : decode cX6_plan 62 = .ok (.if_icmp .eq 7, 3) := by decide +kernel
theorem dX6_plan_65 : decode cX6_plan 65 = .ok (.iconst 1, 1) := by decide +kernel
theorem dX6_plan_66 : decode cX6_plan 66 = .ok (.goto 4, 3) := by decide +kernel
theorem dX6_plan_69 : decode cX6_plan 69 = .ok (.iconst 0, 1) := by decide +kernel
theorem dX6_plan_70 : decode cX6_plan 70 = .ok (.istore 4, 2) := by decide +kernel
theorem dX6_plan_72 : decode cX6_plan 72 = .ok (.iload 4, 2) := by decide +kernel
theorem dX6_plan_74 : decode cX6_plan 74 = .ok (.ifCond .eq 9, 3) := by decide +kernel
theorem dX6_plan_77 : decode cX6_plan 77 = .ok (.aload_n 0, 1) := by decide +kernel
theorem dX6_plan_78 : decode cX6_plan 78 = .ok (.iload 6, 2) := by decide +kernel
theorem dX6_plan_80 : decode cX6_plan 80 = .ok (.invokevirtual 75, 3) := by decide +kernel
theorem dX6_plan_83 : decode cX6_plan 83 = .ok (.iinc 5 1, 3) := by decide +kernel
theorem dX6_plan_86 : decode cX6_plan 86 = .ok (.goto (-45), 3) := by decide +kernel
theorem dX6_plan_89 : decode cX6_plan 89 = .ok (.iinc 3 1, 3) := by decide +kernel
theorem dX6_plan_92 : decode cX6_plan 92 = .ok (.goto (-80), 3) := by decide +kernel
theorem dX6_plan_95 : decode cX6_plan 95 = .ok (.return_, 1) := by decide +kernel
theorem dX6_gatherFeasts_0 : decode cX6_gatherFeasts 0 = .ok (.aload_n 0, 1) := by decide +kernel
theorem dX6_gatherFeasts_1 : decode cX6_gatherFeasts 1 = .ok (.iconst 0, 1) := by decide +kernel
theorem dX6_gatherFeasts_2 : decode cX6_gatherFeasts 2 = .ok (.putfield 79, 3) := by decide +kernel
theorem dX6_gatherFeasts_5 : decode cX6_gatherFeasts 5 = .ok (.iconst 0, 1) := by decide +kernel
theorem dX6_gatherFeasts_6 : decode cX6_gatherFeasts 6 = .ok (.istore 4, 2) := by decide +kernel
theorem dX6_gatherFeasts_8 : decode cX6_gatherFeasts 8 = .ok (.iload 4, 2) := by decide +kernel
theorem dX6_gatherFeasts_10 : decode cX6_gatherFeasts 10 = .ok (.aload_n 2, 1) := by decide +kernel
theorem dX6_gatherFeasts_11 : decode cX6_gatherFeasts 11 = .ok (.getfield 82, 3) := by decide +kernel
theorem dX6_gatherFeasts_14 : decode cX6_gatherFeasts 14 = .ok (.if_icmp .ge 126, 3) := by decide +kernel
theorem dX6_gatherFeasts_17 : decode cX6_gatherFeasts 17 = .ok (.aload_n 2, 1) := by decide +kernel
theorem dX6_gatherFeasts_18 : decode cX6_gatherFeasts 18 = .ok (.getfield 87, 3) := by decide +kernel
theorem dX6_gatherFeasts_21 : decode cX6_gatherFeasts 21 = .ok (.iload 4, 2) := by decide +kernel
theorem dX6_gatherFeasts_23 : decode cX6_gatherFeasts 23 = .ok (.iaload, 1) := by decide +kernel
theorem dX6_gatherFeasts_24 : decode cX6_gatherFeasts 24 = .ok (.aload_n 1, 1) := by decide +kernel
theorem dX6_gatherFeasts_25 : decode cX6_gatherFeasts 25 = .ok (.getfield 90, 3) := by decide +kernel
theorem dX6_gatherFeasts_28 : decode cX6_gatherFeasts 28 = .ok (.isub, 1) := by decide +kernel
theorem dX6_gatherFeasts_29 : decode cX6_gatherFeasts 29 = .ok (.istore 5, 2) := by decide +kernel
theorem dX6_gatherFeasts_31 : decode cX6_gatherFeasts 31 = .ok (.aload_n 2, 1) := by decide +kernel
theorem dX6_gatherFeasts_32 : decode cX6_gatherFeasts 32 = .ok (.getfield 94, 3) := by decide +kernel
theorem dX6_gatherFeasts_35 : decode cX6_gatherFeasts 35 = .ok (.iload 4, 2) := by decide +kernel
theorem dX6_gatherFeasts_37 : decode cX6_gatherFeasts 37 = .ok (.iaload, 1) := by decide +kernel
theorem dX6_gatherFeasts_38 : decode cX6_gatherFeasts 38 = .ok (.iload_n 3, 1) := by decide +kernel
theorem dX6_gatherFeasts_39 : decode cX6_gatherFeasts 39 = .ok (.if_icmp .ne 95, 3) := by decide +kernel
theorem dX6_gatherFeasts_42 : decode cX6_gatherFeasts 42 = .ok (.iload 5, 2) := by decide +kernel
theorem dX6_gatherFeasts_44 : decode cX6_gatherFeasts 44 = .ok (.ifCond .lt 90, 3) := by decide +kernel
theorem dX6_gatherFeasts_47 : decode cX6_gatherFeasts 47 = .ok (.iload 5, 2) := by decide +kernel
theorem dX6_gatherFeasts_49 : decode cX6_gatherFeasts 49 = .ok (.aload_n 1, 1) := by decide +kernel
theorem dX6_gatherFeasts_50 : decode cX6_gatherFeasts 50 = .ok (.getfield 97, 3) := by decide +kernel
theorem dX6_gatherFeasts_53 : decode cX6_gatherFeasts 53 = .ok (.iload_n 3, 1) := by decide +kernel
theorem dX6_gatherFeasts_54 : decode cX6_gatherFeasts 54 = .ok (.iaload, 1) := by decide +kernel
theorem dX6_gatherFeasts_55 : decode cX6_gatherFeasts 55 = .ok (.if_icmp .gt 79, 3) := by decide +kernel
theorem dX6_gatherFeasts_58 : decode cX6_gatherFeasts 58 = .ok (.aload_n 0, 1) := by decide +kernel
theorem dX6_gatherFeasts_59 : decode cX6_gatherFeasts 59 = .ok (.getfield 9, 3) := by decide +kernel
theorem dX6_gatherFeasts_62 : decode cX6_gatherFeasts 62 = .ok (.aload_n 0, 1) := by decide +kernel
theorem dX6_gatherFeasts_63 : decode cX6_gatherFeasts 63 = .ok (.getfield 79, 3) := by decide +kernel
theorem dX6_gatherFeasts_66 : decode cX6_gatherFeasts 66 = .ok (.aload_n 2, 1) := by decide +kernel
theorem dX6_gatherFeasts_67 : decode cX6_gatherFeasts 67 = .ok (.getfield 100, 3) := by decide +kernel
theorem dX6_gatherFeasts_70 : decode cX6_gatherFeasts 70 = .ok (.iload 4, 2) := by decide +kernel
theorem dX6_gatherFeasts_72 : decode cX6_gatherFeasts 72 = .ok (.iaload, 1) := by decide +kernel
theorem dX6_gatherFeasts_73 : decode cX6_gatherFeasts 73 = .ok (.iastore, 1) := by decide +kernel
theorem dX6_gatherFeasts_74 : decode cX6_gatherFeasts 74 = .ok (.aload_n 0, 1) := by decide +kernel
theorem dX6_gatherFeasts_75 : decode cX6_gatherFeasts 75 = .ok (.getfield 15, 3) := by decide +kernel
theorem dX6_gatherFeasts_78 : decode cX6_gatherFeasts 78 = .ok (.aload_n 0, 1) := by decide +kernel
theorem dX6_gatherFeasts_79 : decode cX6_gatherFeasts 79 = .ok (.getfield 79, 3) := by decide +kernel
theorem dX6_gatherFeasts_82 : decode cX6_gatherFeasts 82 = .ok (.aload_n 2, 1) := by decide +kernel
theorem dX6_gatherFeasts_83 : decode cX6_gatherFeasts 83 = .ok (.getfield 87, 3) := by decide +kernel
theorem dX6_gatherFeasts_86 : decode cX6_gatherFeasts 86 = .ok (.iload 4, 2) := by decide +kernel
theorem dX6_gatherFeasts_88 : decode cX6_gatherFeasts 88 = .ok (.iaload, 1) := by decide +kernel
theorem dX6_gatherFeasts_89 : decode cX6_gatherFeasts 89 = .ok (.iastore, 1) := by decide +kernel
theorem dX6_gatherFeasts_90 : decode cX6_gatherFeasts 90 = .ok (.aload_n 0, 1) := by decide +kernel
theorem dX6_gatherFeasts_91 : decode cX6_gatherFeasts 91 = .ok (.getfield 18, 3) := by decide +kernel
theorem dX6_gatherFeasts_94 : decode cX6_gatherFeasts 94 = .ok (.aload_n 0, 1) := by decide +kernel
theorem dX6_gatherFeasts_95 : decode cX6_gatherFeasts 95 = .ok (.getfield 79, 3) := by decide +kernel
theorem dX6_gatherFeasts_98 : decode cX6_gatherFeasts 98 = .ok (.aload_n 1, 1) := by decide +kernel
theorem dX6_gatherFeasts_99 : decode cX6_gatherFeasts 99 = .ok (.getfield 97, 3) := by decide +kernel
theorem dX6_gatherFeasts_102 : decode cX6_gatherFeasts 102 = .ok (.iload_n 3, 1) := by decide +kernel
theorem dX6_gatherFeasts_103 : decode cX6_gatherFeasts 103 = .ok (.iaload, 1) := by decide +kernel
theorem dX6_gatherFeasts_104 : decode cX6_gatherFeasts 104 = .ok (.iload 5, 2) := by decide +kernel
theorem dX6_gatherFeasts_106 : decode cX6_gatherFeasts 106 = .ok (.isub, 1) := by decide +kernel
theorem dX6_gatherFeasts_107 : decode cX6_gatherFeasts 107 = .ok (.iastore, 1) := by decide +kernel
theorem dX6_gatherFeasts_108 : decode cX6_gatherFeasts 108 = .ok (.aload_n 0, 1) := by decide +kernel
theorem dX6_gatherFeasts_109 : decode cX6_gatherFeasts 109 = .ok (.getfield 21, 3) := by decide +kernel
theorem dX6_gatherFeasts_112 : decode cX6_gatherFeasts 112 = .ok (.aload_n 0, 1) := by decide +kernel
theorem dX6_gatherFeasts_113 : decode cX6_gatherFeasts 113 = .ok (.getfield 79, 3) := by decide +kernel
theorem dX6_gatherFeasts_116 : decode cX6_gatherFeasts 116 = .ok (.aload_n 2, 1) := by decide +kernel
theorem dX6_gatherFeasts_117 : decode cX6_gatherFeasts 117 = .ok (.getfield 103, 3) := by decide +kernel
theorem dX6_gatherFeasts_120 : decode cX6_gatherFeasts 120 = .ok (.iload 4, 2) := by decide +kernel
theorem dX6_gatherFeasts_122 : decode cX6_gatherFeasts 122 = .ok (.iaload, 1) := by decide +kernel
theorem dX6_gatherFeasts_123 : decode cX6_gatherFeasts 123 = .ok (.iastore, 1) := by decide +kernel
theorem dX6_gatherFeasts_124 : decode cX6_gatherFeasts 124 = .ok (.aload_n 0, 1) := by decide +kernel
theorem dX6_gatherFeasts_125 : decode cX6_gatherFeasts 125 = .ok (.dup, 1) := by decide +kernel
theorem dX6_gatherFeasts_126 : decode cX6_gatherFeasts 126 = .ok (.getfield 79, 3) := by decide +kernel
theorem dX6_gatherFeasts_129 : decode cX6_gatherFeasts 129 = .ok (.iconst 1, 1) := by decide +kernel
theorem dX6_gatherFeasts_130 : decode cX6_gatherFeasts 130 = .ok (.iadd, 1) := by decide +kernel
theorem dX6_gatherFeasts_131 : decode cX6_gatherFeasts 131 = .ok (.putfield 79, 3) := by decide +kernel
theorem dX6_gatherFeasts_134 : decode cX6_gatherFeasts 134 = .ok (.iinc 4 1, 3) := by decide +kernel
theorem dX6_gatherFeasts_137 : decode cX6_gatherFeasts 137 = .ok (.goto (-129), 3) := by decide +kernel
theorem dX6_gatherFeasts_140 : decode cX6_gatherFeasts 140 = .ok (.return_, 1) := by decide +kernel
theorem dX6_gatherPiles_0 : decode cX6_gatherPiles 0 = .ok (.aload_n 0, 1) := by decide +kernel
theorem dX6_gatherPiles_1 : decode cX6_gatherPiles 1 = .ok (.iconst 0, 1) := by decide +kernel
theorem dX6_gatherPiles_2 : decode cX6_gatherPiles 2 = .ok (.putfield 106, 3) := by decide +kernel
theorem dX6_gatherPiles_5 : decode cX6_gatherPiles 5 = .ok (.iconst 0, 1) := by decide +kernel
theorem dX6_gatherPiles_6 : decode cX6_gatherPiles 6 = .ok (.istore_n 3, 1) := by decide +kernel
theorem dX6_gatherPiles_7 : decode cX6_gatherPiles 7 = .ok (.iload_n 3, 1) := by decide +kernel
theorem dX6_gatherPiles_8 : decode cX6_gatherPiles 8 = .ok (.aload_n 1, 1) := by decide +kernel
theorem dX6_gatherPiles_9 : decode cX6_gatherPiles 9 = .ok (.getfield 109, 3) := by decide +kernel
theorem dX6_gatherPiles_12 : decode cX6_gatherPiles 12 = .ok (.if_icmp .ge 158, 3) := by decide +kernel
theorem dX6_gatherPiles_15 : decode cX6_gatherPiles 15 = .ok (.aload_n 0, 1) := by decide +kernel
theorem dX6_gatherPiles_16 : decode cX6_gatherPiles 16 = .ok (.getfield 79, 3) := by decide +kernel
theorem dX6_gatherPiles_19 : decode cX6_gatherPiles 19 = .ok (.ifCond .le 151, 3) := by decide +kernel
theorem dX6_gatherPiles_22 : decode cX6_gatherPiles 22 = .ok (.iconst 0, 1) := by decide +kernel
theorem dX6_gatherPiles_23 : decode cX6_gatherPiles 23 = .ok (.istore 4, 2) := by decide +kernel
theorem dX6_gatherPiles_25 : decode cX6_gatherPiles 25 = .ok (.bipush 60, 2) := by decide +kernel
theorem dX6_gatherPiles_27 : decode cX6_gatherPiles 27 = .ok (.istore 5, 2) := by decide +kernel
theorem dX6_gatherPiles_29 : decode cX6_gatherPiles 29 = .ok (.iload 5, 2) := by decide +kernel
theorem dX6_gatherPiles_31 : decode cX6_gatherPiles 31 = .ok (.ifCond .lt 133, 3) := by decide +kernel
theorem dX6_gatherPiles_34 : decode cX6_gatherPiles 34 = .ok (.aload_n 1, 1) := by decide +kernel
theorem dX6_gatherPiles_35 : decode cX6_gatherPiles 35 = .ok (.getfield 112, 3) := by decide +kernel
theorem dX6_gatherPiles_38 : decode cX6_gatherPiles 38 = .ok (.iload_n 3, 1) := by decide +kernel
theorem dX6_gatherPiles_39 : decode cX6_gatherPiles 39 = .ok (.aaload, 1) := by decide +kernel
theorem dX6_gatherPiles_40 : decode cX6_gatherPiles 40 = .ok (.getfield 116, 3) := by decide +kernel
theorem dX6_gatherPiles_43 : decode cX6_gatherPiles 43 = .ok (.iload_n 2, 1) := by decide +kernel
theorem dX6_gatherPiles_44 : decode cX6_gatherPiles 44 = .ok (.aaload, 1) := by decide +kernel
theorem dX6_gatherPiles_45 : decode cX6_gatherPiles 45 = .ok (.iload 5, 2) := by decide +kernel
theorem dX6_gatherPiles_47 : decode cX6_gatherPiles 47 = .ok (.iaload, 1) := by decide +kernel
theorem dX6_gatherPiles_48 : decode cX6_gatherPiles 48 = .ok (.istore 6, 2) := by decide +kernel

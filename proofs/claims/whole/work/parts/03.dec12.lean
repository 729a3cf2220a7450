theorem dX11_behind_90 : decode cX11_behind 90 = .ok (.putfield 293, 3) := by decide +kernel
theorem dX11_behind_93 : decode cX11_behind 93 = .ok (.aload_n 0, 1) := by decide +kernel
theorem dX11_behind_94 : decode cX11_behind 94 = .ok (.aload_n 0, 1) := by decide +kernel
theorem dX11_behind_95 : decode cX11_behind 95 = .ok (.getfield 72, 3) := by decide +kernel
theorem dX11_behind_98 : decode cX11_behind 98 = .ok (.aload_n 0, 1) := by decide +kernel
theorem dX11_behind_99 : decode cX11_behind 99 = .ok (.getfield 290, 3) := by decide +kernel
theorem dX11_behind_102 : decode cX11_behind 102 = .ok (.iaload, 1) := by decide +kernel
theorem dX11_behind_103 : decode cX11_behind 103 = .ok (.iconst 3, 1) := by decide +kernel
theorem dX11_behind_104 : decode cX11_behind 104 = .ok (.if_icmp .ne 8, 3) := by decide +kernel
theorem dX11_behind_107 : decode cX11_behind 107 = .ok (.bipush 126, 2) := by decide +kernel
theorem dX11_behind_109 : decode cX11_behind 109 = .ok (.goto 23, 3) := by decide +kernel
theorem dX11_behind_112 : decode cX11_behind 112 = .ok (.aload_n 0, 1) := by decide +kernel
theorem dX11_behind_113 : decode cX11_behind 113 = .ok (.getfield 72, 3) := by decide +kernel
theorem dX11_behind_116 : decode cX11_behind 116 = .ok (.aload_n 0, 1) := by decide +kernel
theorem dX11_behind_117 : decode cX11_behind 117 = .ok (.getfield 290, 3) := by decide +kernel
theorem dX11_behind_120 : decode cX11_behind 120 = .ok (.iaload, 1) := by decide +kernel
theorem dX11_behind_121 : decode cX11_behind 121 = .ok (.iconst 2, 1) := by decide +kernel
theorem dX11_behind_122 : decode cX11_behind 122 = .ok (.if_icmp .ne 8, 3) := by decide +kernel
theorem dX11_behind_125 : decode cX11_behind 125 = .ok (.bipush 38, 2) := by decide +kernel
theorem dX11_behind_127 : decode cX11_behind 127 = .ok (.goto 5, 3) := by decide +kernel
theorem dX11_behind_130 : decode cX11_behind 130 = .ok (.bipush 124, 2) := by decide +kernel
theorem dX11_behind_132 : decode cX11_behind 132 = .ok (.iconst 0, 1) := by decide +kernel
theorem dX11_behind_133 : decode cX11_behind 133 = .ok (.iconst 0, 1) := by decide +kernel
theorem dX11_behind_134 : decode cX11_behind 134 = .ok (.invokevirtual 311, 3) := by decide +kernel
theorem dX11_behind_137 : decode cX11_behind 137 = .ok (.goto (-107), 3) := by decide +kernel
theorem dX11_behind_140 : decode cX11_behind 140 = .ok (.iload_n 1, 1) := by decide +kernel
theorem dX11_behind_141 : decode cX11_behind 141 = .ok (.ifCond .le 14, 3) := by decide +kernel
theorem dX11_behind_144 : decode cX11_behind 144 = .ok (.aload_n 0, 1) := by decide +kernel
theorem dX11_behind_145 : decode cX11_behind 145 = .ok (.iload_n 1, 1) := by decide +kernel
theorem dX11_behind_146 : decode cX11_behind 146 = .ok (.invokevirtual 296, 3) := by decide +kernel
theorem dX11_behind_149 : decode cX11_behind 149 = .ok (.aload_n 0, 1) := by decide +kernel
theorem dX11_behind_150 : decode cX11_behind 150 = .ok (.invokevirtual 228, 3) := by decide +kernel
theorem dX11_behind_153 : decode cX11_behind 153 = .ok (.iconst 1, 1) := by decide +kernel
theorem dX11_behind_154 : decode cX11_behind 154 = .ok (.ireturn, 1) := by decide +kernel
theorem dX11_behind_155 : decode cX11_behind 155 = .ok (.aload_n 0, 1) := by decide +kernel
theorem dX11_behind_156 : decode cX11_behind 156 = .ok (.dup, 1) := by decide +kernel
theorem dX11_behind_157 : decode cX11_behind 157 = .ok (.getfield 290, 3) := by decide +kernel
theorem dX11_behind_160 : decode cX11_behind 160 = .ok (.iconst 1, 1) := by decide +kernel
theorem dX11_behind_161 : decode cX11_behind 161 = .ok (.isub, 1) := by decide +kernel
theorem dX11_behind_162 : decode cX11_behind 162 = .ok (.putfield 290, 3) := by decide +kernel
theorem dX11_behind_165 : decode cX11_behind 165 = .ok (.aload_n 0, 1) := by decide +kernel
theorem dX11_behind_166 : decode cX11_behind 166 = .ok (.getfield 72, 3) := by decide +kernel
theorem dX11_behind_169 : decode cX11_behind 169 = .ok (.aload_n 0, 1) := by decide +kernel
theorem dX11_behind_170 : decode cX11_behind 170 = .ok (.getfield 290, 3) := by decide +kernel
theorem dX11_behind_173 : decode cX11_behind 173 = .ok (.iaload, 1) := by decide +kernel
theorem dX11_behind_174 : decode cX11_behind 174 = .ok (.iconst 4, 1) := by decide +kernel
theorem dX11_behind_175 : decode cX11_behind 175 = .ok (.if_icmp .ne 23, 3) := by decide +kernel
theorem dX11_behind_178 : decode cX11_behind 178 = .ok (.aload_n 0, 1) := by decide +kernel
theorem dX11_behind_179 : decode cX11_behind 179 = .ok (.dup, 1) := by decide +kernel
theorem dX11_behind_180 : decode cX11_behind 180 = .ok (.getfield 293, 3) := by decide +kernel
theorem dX11_behind_183 : decode cX11_behind 183 = .ok (.iconst 1, 1) := by decide +kernel
theorem dX11_behind_184 : decode cX11_behind 184 = .ok (.isub, 1) := by decide +kernel
theorem dX11_behind_185 : decode cX11_behind 185 = .ok (.putfield 293, 3) := by decide +kernel
theorem dX11_behind_188 : decode cX11_behind 188 = .ok (.aload_n 0, 1) := by decide +kernel
theorem dX11_behind_189 : decode cX11_behind 189 = .ok (.aload_n 0, 1) := by decide +kernel
theorem dX11_behind_190 : decode cX11_behind 190 = .ok (.bipush 41, 2) := by decide +kernel
theorem dX11_behind_192 : decode cX11_behind 192 = .ok (.invokevirtual 287, 3) := by decide +kernel
theorem dX11_behind_195 : decode cX11_behind 195 = .ok (.invokevirtual 248, 3) := by decide +kernel
theorem dX11_behind_198 : decode cX11_behind 198 = .ok (.iconst 0, 1) := by decide +kernel
theorem dX11_behind_199 : decode cX11_behind 199 = .ok (.ireturn, 1) := by decide +kernel
theorem dX11_fault_0 : decode cX11_fault 0 = .ok (.iload_n 1, 1) := by decide +kernel
theorem dX11_fault_1 : decode cX11_fault 1 = .ok (.ifCond .ne 10, 3) := by decide +kernel
theorem dX11_fault_4 : decode cX11_fault 4 = .ok (.aload_n 0, 1) := by decide +kernel
theorem dX11_fault_5 : decode cX11_fault 5 = .ok (.getfield 192, 3) := by decide +kernel
theorem dX11_fault_8 : decode cX11_fault 8 = .ok (.goto 16, 3) := by decide +kernel
theorem dX11_fault_11 : decode cX11_fault 11 = .ok (.iload_n 1, 1) := by decide +kernel
theorem dX11_fault_12 : decode cX11_fault 12 = .ok (.iconst 1, 1) := by decide +kernel
theorem dX11_fault_13 : decode cX11_fault 13 = .ok (.if_icmp .ne 10, 3) := by decide +kernel
theorem dX11_fault_16 : decode cX11_fault 16 = .ok (.aload_n 0, 1) := by decide +kernel
theorem dX11_fault_17 : decode cX11_fault 17 = .ok (.getfield 38, 3) := by decide +kernel
theorem dX11_fault_20 : decode cX11_fault 20 = .ok (.goto 4, 3) := by decide +kernel
theorem dX11_fault_23 : decode cX11_fault 23 = .ok (.iconst (-1), 1) := by decide +kernel
theorem dX11_fault_24 : decode cX11_fault 24 = .ok (.ireturn, 1) := by decide +kernel
theorem dX11_leaf_0 : decode cX11_leaf 0 = .ok (.iload_n 1, 1) := by decide +kernel
theorem dX11_leaf_1 : decode cX11_leaf 1 = .ok (.bipush 110, 2) := by decide +kernel
theorem dX11_leaf_3 : decode cX11_leaf 3 = .ok (.if_icmp .ne 5, 3) := by decide +kernel
theorem dX11_leaf_6 : decode cX11_leaf 6 = .ok (.iload_n 2, 1) := by decide +kernel
theorem dX11_leaf_7 : decode cX11_leaf 7 = .ok (.ireturn, 1) := by decide +kernel
theorem dX11_leaf_8 : decode cX11_leaf 8 = .ok (.iload_n 1, 1) := by decide +kernel
theorem dX11_leaf_9 : decode cX11_leaf 9 = .ok (.bipush 109, 2) := by decide +kernel
theorem dX11_leaf_11 : decode cX11_leaf 11 = .ok (.if_icmp .ne 8, 3) := by decide +kernel
theorem dX11_leaf_14 : decode cX11_leaf 14 = .ok (.aload_n 0, 1) := by decide +kernel
theorem dX11_leaf_15 : decode cX11_leaf 15 = .ok (.getfield 332, 3) := by decide +kernel
theorem dX11_leaf_18 : decode cX11_leaf 18 = .ok (.ireturn, 1) := by decide +kernel
theorem dX11_leaf_19 : decode cX11_leaf 19 = .ok (.aload_n 0, 1) := by decide +kernel
theorem dX11_leaf_20 : decode cX11_leaf 20 = .ok (.iload_n 2, 1) := by decide +kernel
theorem dX11_leaf_21 : decode cX11_leaf 21 = .ok (.invokevirtual 157, 3) := by decide +kernel
theorem dX11_leaf_24 : decode cX11_leaf 24 = .ok (.ifCond .ne 5, 3) := by decide +kernel
theorem dX11_leaf_27 : decode cX11_leaf 27 = .ok (.iconst 0, 1) := by decide +kernel
theorem dX11_leaf_28 : decode cX11_leaf 28 = .ok (.ireturn, 1) := by decide +kernel
theorem dX11_leaf_29 : decode cX11_leaf 29 = .ok (.iload_n 1, 1) := by decide +kernel
theorem dX11_leaf_30 : decode cX11_leaf 30 = .ok (.bipush 112, 2) := by decide +kernel
theorem dX11_leaf_32 : decode cX11_leaf 32 = .ok (.if_icmp .ne 12, 3) := by decide +kernel
theorem dX11_leaf_35 : decode cX11_leaf 35 = .ok (.aload_n 0, 1) := by decide +kernel
theorem dX11_leaf_36 : decode cX11_leaf 36 = .ok (.getfield 13, 3) := by decide +kernel
theorem dX11_leaf_39 : decode cX11_leaf 39 = .ok (.iload_n 2, 1) := by decide +kernel
theorem dX11_leaf_40 : decode cX11_leaf 40 = .ok (.iaload, 1) := by decide +kernel
theorem dX11_leaf_41 : decode cX11_leaf 41 = .ok (.goto 38, 3) := by decide +kernel
theorem dX11_leaf_44 : decode cX11_leaf 44 = .ok (.iload_n 1, 1) := by decide +kernel
theorem dX11_leaf_45 : decode cX11_leaf 45 = .ok (.bipush 115, 2) := by decide +kernel
theorem dX11_leaf_47 : decode cX11_leaf 47 = .ok (.if_icmp .ne 12, 3) := by decide +kernel
theorem dX11_leaf_50 : decode cX11_leaf 50 = .ok (.aload_n 0, 1) := by decide +kernel
theorem dX11_leaf_51 : decode cX11_leaf 51 = .ok (.iload_n 2, 1) := by decide +kernel
theorem dX11_leaf_52 : decode cX11_leaf 52 = .ok (.iload_n 3, 1) := by decide +kernel
theorem dX11_leaf_53 : decode cX11_leaf 53 = .ok (.invokevirtual 185, 3) := by decide +kernel
theorem dX11_leaf_56 : decode cX11_leaf 56 = .ok (.goto 23, 3) := by decide +kernel
theorem dX11_leaf_59 : decode cX11_leaf 59 = .ok (.iload_n 1, 1) := by decide +kernel
theorem dX11_leaf_60 : decode cX11_leaf 60 = .ok (.bipush 111, 2) := by decide +kernel
theorem dX11_leaf_62 : decode cX11_leaf 62 = .ok (.if_icmp .ne 12, 3) := by decide +kernel
theorem dX11_leaf_65 : decode cX11_leaf 65 = .ok (.aload_n 0, 1) := by decide +kernel
theorem dX11_leaf_66 : decode cX11_leaf 66 = .ok (.iload_n 2, 1) := by decide +kernel
theorem dX11_leaf_67 : decode cX11_leaf 67 = .ok (.iload_n 3, 1) := by decide +kernel
theorem dX11_leaf_68 : decode cX11_leaf 68 = .ok (.invokevirtual 335, 3) := by decide +kernel
theorem dX11_leaf_71 : decode cX11_leaf 71 = .ok (.goto 8, 3) := by decide +kernel
theorem dX11_leaf_74 : decode cX11_leaf 74 = .ok (.aload_n 0, 1) := by decide +kernel
theorem dX11_leaf_75 : decode cX11_leaf 75 = .ok (.iload_n 2, 1) := by decide +kernel
theorem dX11_leaf_76 : decode cX11_leaf 76 = .ok (.invokevirtual 172, 3) := by decide +kernel
theorem dX11_leaf_79 : decode cX11_leaf 79 = .ok (.ireturn, 1) := by decide +kernel
theorem dX11_two_0 : decode cX11_two 0 = .ok (.iload_n 0, 1) := by decide +kernel
theorem dX11_two_1 : decode cX11_two 1 = .ok (.lookupswitch 104 #[(38, 100), (43, 59), (45, 63), (60, 67), (61, 89), (62, 78)], 59) := by decide +kernel
theorem dX11_two_60 : decode cX11_two 60 = .ok (.iload_n 1, 1) := by decide +kernel
theorem dX11_two_61 : decode cX11_two 61 = .ok (.iload_n 2, 1) := by decide +kernel
theorem dX11_two_62 : decode cX11_two 62 = .ok (.iadd, 1) := by decide +kernel
theorem dX11_two_63 : decode cX11_two 63 = .ok (.ireturn, 1) := by decide +kernel
theorem dX11_two_64 : decode cX11_two 64 = .ok (.iload_n 1, 1) := by decide +kernel
theorem dX11_two_65 : decode cX11_two 65 = .ok (.iload_n 2, 1) := by decide +kernel
theorem dX11_two_66 : decode cX11_two 66 = .ok (.isub, 1) := by decide +kernel
theorem dX11_two_67 : decode cX11_two 67 = .ok (.ireturn, 1) := by decide +kernel
theorem dX11_two_68 : decode cX11_two 68 = .ok (.iload_n 1, 1) := by decide +kernel
theorem dX11_two_69 : decode cX11_two 69 = .ok (.iload_n 2, 1) := by decide +kernel
theorem dX11_two_70 : decode cX11_two 70 = .ok (.if_icmp .ge 7, 3) := by decide +kernel
theorem dX11_two_73 : decode cX11_two 73 = .ok (.iconst 1, 1) := by decide +kernel
theorem dX11_two_74 : decode cX11_two 74 = .ok (.goto 4, 3) := by decide +kernel
theorem dX11_two_77 : decode cX11_two 77 = .ok (.iconst 0, 1) := by decide +kernel
theorem dX11_two_78 : decode cX11_two 78 = .ok (.ireturn, 1) := by decide +kernel
theorem dX11_two_79 : decode cX11_two 79 = .ok (.iload_n 1, 1) := by decide +kernel
theorem dX11_two_80 : decode cX11_two 80 = .ok (.iload_n 2, 1) := by decide +kernel
theorem dX11_two_81 : decode cX11_two 81 = .ok (.if_icmp .le 7, 3) := by decide +kernel
theorem dX11_two_84 : decode cX11_two 84 = .ok (.iconst 1, 1) := by decide +kernel
theorem dX11_two_85 : decode cX11_two 85 = .ok (.goto 4, 3) := by decide +kernel
theorem dX11_two_88 : decode cX11_two 88 = .ok (.iconst 0, 1) := by decide +kernel
theorem dX11_two_89 : decode cX11_two 89 = .ok (.ireturn, 1) := by decide +kernel
theorem dX11_two_90 : decode cX11_two 90 = .ok (.iload_n 1, 1) := by decide +kernel
theorem dX11_two_91 : decode cX11_two 91 = .ok (.iload_n 2, 1) := by decide +kernel
theorem dX11_two_92 : decode cX11_two 92 = .ok (.if_icmp .ne 7, 3) := by decide +kernel
theorem dX11_two_95 : decode cX11_two 95 = .ok (.iconst 1, 1) := by decide +kernel
theorem dX11_two_96 : decode cX11_two 96 = .ok (.goto 4, 3) := by decide +kernel
theorem dX11_two_99 : decode cX11_two 99 = .ok (.iconst 0, 1) := by decide +kernel
theorem dX11_two_100 : decode cX11_two 100 = .ok (.ireturn, 1) := by decide +kernel
theorem dX11_two_101 : decode cX11_two 101 = .ok (.iload_n 1, 1) := by decide +kernel
theorem dX11_two_102 : decode cX11_two 102 = .ok (.iload_n 2, 1) := by decide +kernel
theorem dX11_two_103 : decode cX11_two 103 = .ok (.iand, 1) := by decide +kernel
theorem dX11_two_104 : decode cX11_two 104 = .ok (.ireturn, 1) := by decide +kernel
theorem dX11_two_105 : decode cX11_two 105 = .ok (.iload_n 1, 1) := by decide +kernel
theorem dX11_two_106 : decode cX11_two 106 = .ok (.iload_n 2, 1) := by decide +kernel
theorem dX11_two_107 : decode cX11_two 107 = .ok (.ior, 1) := by decide +kernel
theorem dX11_two_108 : decode cX11_two 108 = .ok (.ireturn, 1) := by decide +kernel
theorem dX11_holds_0 : decode cX11_holds 0 = .ok (.iconst 0, 1) := by decide +kernel
theorem dX11_holds_1 : decode cX11_holds 1 = .ok (.istore_n 2, 1) := by decide +kernel
theorem dX11_holds_2 : decode cX11_holds 2 = .ok (.sipush 1000, 3) := by decide +kernel
theorem dX11_holds_5 : decode cX11_holds 5 = .ok (.aload_n 0, 1) := by decide +kernel
theorem dX11_holds_6 : decode cX11_holds 6 = .ok (.getfield 255, 3) := by decide +kernel
theorem dX11_holds_9 : decode cX11_holds 9 = .ok (.imul, 1) := by decide +kernel
theorem dX11_holds_10 : decode cX11_holds 10 = .ok (.aload_n 0, 1) := by decide +kernel
theorem dX11_holds_11 : decode cX11_holds 11 = .ok (.getfield 45, 3) := by decide +kernel
theorem dX11_holds_14 : decode cX11_holds 14 = .ok (.iload_n 1, 1) := by decide +kernel
theorem dX11_holds_15 : decode cX11_holds 15 = .ok (.iaload, 1) := by decide +kernel
theorem dX11_holds_16 : decode cX11_holds 16 = .ok (.iadd, 1) := by decide +kernel
theorem dX11_holds_17 : decode cX11_holds 17 = .ok (.istore_n 3, 1) := by decide +kernel
theorem dX11_holds_18 : decode cX11_holds 18 = .ok (.iload_n 3, 1) := by decide +kernel
theorem dX11_holds_19 : decode cX11_holds 19 = .ok (.sipush 1000, 3) := by decide +kernel
theorem dX11_holds_22 : decode cX11_holds 22 = .ok (.aload_n 0, 1) := by decide +kernel
theorem dX11_holds_23 : decode cX11_holds 23 = .ok (.getfield 255, 3) := by decide +kernel
theorem dX11_holds_26 : decode cX11_holds 26 = .ok (.imul, 1) := by decide +kernel
theorem dX11_holds_27 : decode cX11_holds 27 = .ok (.aload_n 0, 1) := by decide +kernel
theorem dX11_holds_28 : decode cX11_holds 28 = .ok (.getfield 48, 3) := by decide +kernel
theorem dX11_holds_31 : decode cX11_holds 31 = .ok (.iload_n 1, 1) := by decide +kernel
theorem dX11_holds_32 : decode cX11_holds 32 = .ok (.iaload, 1) := by decide +kernel
theorem dX11_holds_33 : decode cX11_holds 33 = .ok (.iadd, 1) := by decide +kernel
theorem dX11_holds_34 : decode cX11_holds 34 = .ok (.if_icmp .ge 113, 3) := by decide +kernel
theorem dX11_holds_37 : decode cX11_holds 37 = .ok (.aload_n 0, 1) := by decide +kernel
theorem dX11_holds_38 : decode cX11_holds 38 = .ok (.getfield 63, 3) := by decide +kernel
theorem dX11_holds_41 : decode cX11_holds 41 = .ok (.iload_n 3, 1) := by decide +kernel
theorem dX11_holds_42 : decode cX11_holds 42 = .ok (.iaload, 1) := by decide +kernel
theorem dX11_holds_43 : decode cX11_holds 43 = .ok (.istore 4, 2) := by decide +kernel
theorem dX11_holds_45 : decode cX11_holds 45 = .ok (.iload 4, 2) := by decide +kernel
theorem dX11_holds_47 : decode cX11_holds 47 = .ok (.bipush 126, 2) := by decide +kernel
theorem dX11_holds_49 : decode cX11_holds 49 = .ok (.if_icmp .ne 24, 3) := by decide +kernel
theorem dX11_holds_52 : decode cX11_holds 52 = .ok (.aload_n 0, 1) := by decide +kernel
theorem dX11_holds_53 : decode cX11_holds 53 = .ok (.getfield 75, 3) := by decide +kernel
theorem dX11_holds_56 : decode cX11_holds 56 = .ok (.iload_n 2, 1) := by decide +kernel
theorem dX11_holds_57 : decode cX11_holds 57 = .ok (.iconst 1, 1) := by decide +kernel
theorem dX11_holds_58 : decode cX11_holds 58 = .ok (.isub, 1) := by decide +kernel
theorem dX11_holds_59 : decode cX11_holds 59 = .ok (.iconst 1, 1) := by decide +kernel
theorem dX11_holds_60 : decode cX11_holds 60 = .ok (.aload_n 0, 1) := by decide +kernel
theorem dX11_holds_61 : decode cX11_holds 61 = .ok (.getfield 75, 3) := by decide +kernel
theorem dX11_holds_64 : decode cX11_holds 64 = .ok (.iload_n 2, 1) := by decide +kernel
theorem dX11_holds_65 : decode cX11_holds 65 = .ok (.iconst 1, 1) := by decide +kernel
theorem dX11_holds_66 : decode cX11_holds 66 = .ok (.isub, 1) := by decide +kernel
theorem dX11_holds_67 : decode cX11_holds 67 = .ok (.iaload, 1) := by decide +kernel
theorem dX11_holds_68 : decode cX11_holds 68 = .ok (.isub, 1) := by decide +kernel
theorem dX11_holds_69 : decode cX11_holds 69 = .ok (.iastore, 1) := by decide +kernel
theorem dX11_holds_70 : decode cX11_holds 70 = .ok (.goto 71, 3) := by decide +kernel
theorem dX11_holds_73 : decode cX11_holds 73 = .ok (.iload 4, 2) := by decide +kernel
theorem dX11_holds_75 : decode cX11_holds 75 = .ok (.invokestatic 207, 3) := by decide +kernel
theorem dX11_holds_78 : decode cX11_holds 78 = .ok (.ifCond .eq 33, 3) := by decide +kernel
theorem dX11_holds_81 : decode cX11_holds 81 = .ok (.aload_n 0, 1) := by decide +kernel
theorem dX11_holds_82 : decode cX11_holds 82 = .ok (.getfield 75, 3) := by decide +kernel
theorem dX11_holds_85 : decode cX11_holds 85 = .ok (.iload_n 2, 1) := by decide +kernel
theorem dX11_holds_86 : decode cX11_holds 86 = .ok (.aload_n 0, 1) := by decide +kernel
theorem dX11_holds_87 : decode cX11_holds 87 = .ok (.iload 4, 2) := by decide +kernel
theorem dX11_holds_89 : decode cX11_holds 89 = .ok (.aload_n 0, 1) := by decide +kernel
theorem dX11_holds_90 : decode cX11_holds 90 = .ok (.getfield 66, 3) := by decide +kernel
theorem dX11_holds_93 : decode cX11_holds 93 = .ok (.iload_n 3, 1) := by decide +kernel
theorem dX11_holds_94 : decode cX11_holds 94 = .ok (.iaload, 1) := by decide +kernel
theorem dX11_holds_95 : decode cX11_holds 95 = .ok (.aload_n 0, 1) := by decide +kernel
theorem dX11_holds_96 : decode cX11_holds 96 = .ok (.getfield 69, 3) := by decide +kernel
theorem dX11_holds_99 : decode cX11_holds 99 = .ok (.iload_n 3, 1) := by decide +kernel
theorem dX11_holds_100 : decode cX11_holds 100 = .ok (.iaload, 1) := by decide +kernel
theorem dX11_holds_101 : decode cX11_holds 101 = .ok (.invokevirtual 338, 3) := by decide +kernel
theorem dX11_holds_104 : decode cX11_holds 104 = .ok (.iastore, 1) := by decide +kernel
theorem dX11_holds_105 : decode cX11_holds 105 = .ok (.iinc 2 1, 3) := by decide +kernel
theorem dX11_holds_108 : decode cX11_holds 108 = .ok (.goto 33, 3) := by decide +kernel
theorem dX11_holds_111 : decode cX11_holds 111 = .ok (.iinc 2 (-1), 3) := by decide +kernel
theorem dX11_holds_114 : decode cX11_holds 114 = .ok (.aload_n 0, 1) := by decide +kernel
theorem dX11_holds_115 : decode cX11_holds 115 = .ok (.getfield 75, 3) := by decide +kernel
theorem dX11_holds_118 : decode cX11_holds 118 = .ok (.iload_n 2, 1) := by decide +kernel
theorem dX11_holds_119 : decode cX11_holds 119 = .ok (.iconst 1, 1) := by decide +kernel
theorem dX11_holds_120 : decode cX11_holds 120 = .ok (.isub, 1) := by decide +kernel
theorem dX11_holds_121 : decode cX11_holds 121 = .ok (.iload 4, 2) := by decide +kernel
theorem dX11_holds_123 : decode cX11_holds 123 = .ok (.aload_n 0, 1) := by decide +kernel
theorem dX11_holds_124 : decode cX11_holds 124 = .ok (.getfield 75, 3) := by decide +kernel
theorem dX11_holds_127 : decode cX11_holds 127 = .ok (.iload_n 2, 1) := by decide +kernel
theorem dX11_holds_128 : decode cX11_holds 128 = .ok (.iconst 1, 1) := by decide +kernel
theorem dX11_holds_129 : decode cX11_holds 129 = .ok (.isub, 1) := by decide +kernel
theorem dX11_holds_130 : decode cX11_holds 130 = .ok (.iaload, 1) := by decide +kernel
theorem dX11_holds_131 : decode cX11_holds 131 = .ok (.aload_n 0, 1) := by decide +kernel
theorem dX11_holds_132 : decode cX11_holds 132 = .ok (.getfield 75, 3) := by decide +kernel
theorem dX11_holds_135 : decode cX11_holds 135 = .ok (.iload_n 2, 1) := by decide +kernel
theorem dX11_holds_136 : decode cX11_holds 136 = .ok (.iaload, 1) := by decide +kernel
theorem dX11_holds_137 : decode cX11_holds 137 = .ok (.invokestatic 341, 3) := by decide +kernel
theorem dX11_holds_140 : decode cX11_holds 140 = .ok (.iastore, 1) := by decide +kernel
theorem dX11_holds_141 : decode cX11_holds 141 = .ok (.iinc 3 1, 3) := by decide +kernel
theorem dX11_holds_144 : decode cX11_holds 144 = .ok (.goto (-126), 3) := by decide +kernel
theorem dX11_holds_147 : decode cX11_holds 147 = .ok (.iload_n 2, 1) := by decide +kernel
theorem dX11_holds_148 : decode cX11_holds 148 = .ok (.ifCond .eq 12, 3) := by decide +kernel
theorem dX11_holds_151 : decode cX11_holds 151 = .ok (.aload_n 0, 1) := by decide +kernel
theorem dX11_holds_152 : decode cX11_holds 152 = .ok (.getfield 75, 3) := by decide +kernel
theorem dX11_holds_155 : decode cX11_holds 155 = .ok (.iconst 0, 1) := by decide +kernel
theorem dX11_holds_156 : decode cX11_holds 156 = .ok (.iaload, 1) := by decide +kernel
theorem dX11_holds_157 : decode cX11_holds 157 = .ok (.ifCond .eq 7, 3) := by decide +kernel
theorem dX11_holds_160 : decode cX11_holds 160 = .ok (.iconst 1, 1) := by decide +kernel
theorem dX11_holds_161 : decode cX11_holds 161 = .ok (.goto 4, 3) := by decide +kernel
theorem dX11_holds_164 : decode cX11_holds 164 = .ok (.iconst 0, 1) := by decide +kernel
theorem dX11_holds_165 : decode cX11_holds 165 = .ok (.ireturn, 1) := by decide +kernel
theorem dX11_monthsFor_0 : decode cX11_monthsFor 0 = .ok (.iload_n 0, 1) := by decide +kernel
theorem dX11_monthsFor_1 : decode cX11_monthsFor 1 = .ok (.bipush 29, 2) := by decide +kernel
theorem dX11_monthsFor_3 : decode cX11_monthsFor 3 = .ok (.iadd, 1) := by decide +kernel
theorem dX11_monthsFor_4 : decode cX11_monthsFor 4 = .ok (.bipush 30, 2) := by decide +kernel
theorem dX11_monthsFor_6 : decode cX11_monthsFor 6 = .ok (.idiv, 1) := by decide +kernel
theorem dX11_monthsFor_7 : decode cX11_monthsFor 7 = .ok (.ireturn, 1) := by decide +kernel
theorem dX11_arrive_0 : decode cX11_arrive 0 = .ok (.iconst 0, 1) := by decide +kernel
theorem dX11_arrive_1 : decode cX11_arrive 1 = .ok (.istore_n 1, 1) := by decide +kernel
theorem dX11_arrive_2 : decode cX11_arrive 2 = .ok (.iconst 0, 1) := by decide +kernel
theorem dX11_arrive_3 : decode cX11_arrive 3 = .ok (.istore_n 2, 1) := by decide +kernel
theorem dX11_arrive_4 : decode cX11_arrive 4 = .ok (.iload_n 2, 1) := by decide +kernel
theorem dX11_arrive_5 : decode cX11_arrive 5 = .ok (.aload_n 0, 1) := by decide +kernel
theorem dX11_arrive_6 : decode cX11_arrive 6 = .ok (.getfield 344, 3) := by decide +kernel
theorem dX11_arrive_9 : decode cX11_arrive 9 = .ok (.if_icmp .ge 170, 3) := by decide +kernel
theorem dX11_arrive_12 : decode cX11_arrive 12 = .ok (.aload_n 0, 1) := by decide +kernel
theorem dX11_arrive_13 : decode cX11_arrive 13 = .ok (.getfield 90, 3) := by decide +kernel
theorem dX11_arrive_16 : decode cX11_arrive 16 = .ok (.iload_n 2, 1) := by decide +kernel
theorem dX11_arrive_17 : decode cX11_arrive 17 = .ok (.iaload, 1) := by decide +kernel
theorem dX11_arrive_18 : decode cX11_arrive 18 = .ok (.aload_n 0, 1) := by decide +kernel
theorem dX11_arrive_19 : decode cX11_arrive 19 = .ok (.getfield 332, 3) := by decide +kernel
theorem dX11_arrive_22 : decode cX11_arrive 22 = .ok (.if_icmp .ne 88, 3) := by decide +kernel
theorem dX11_arrive_25 : decode cX11_arrive 25 = .ok (.aload_n 0, 1) := by decide +kernel
theorem dX11_arrive_26 : decode cX11_arrive 26 = .ok (.getfield 28, 3) := by decide +kernel
theorem dX11_arrive_29 : decode cX11_arrive 29 = .ok (.iconst 5, 1) := by decide +kernel
theorem dX11_arrive_30 : decode cX11_arrive 30 = .ok (.dup2, 1) := by decide +kernel
theorem dX11_arrive_31 : decode cX11_arrive 31 = .ok (.iaload, 1) := by decide +kernel
theorem dX11_arrive_32 : decode cX11_arrive 32 = .ok (.aload_n 0, 1) := by decide +kernel
theorem dX11_arrive_33 : decode cX11_arrive 33 = .ok (.getfield 87, 3) := by decide +kernel
theorem dX11_arrive_36 : decode cX11_arrive 36 = .ok (.iload_n 2, 1) := by decide +kernel
theorem dX11_arrive_37 : decode cX11_arrive 37 = .ok (.iaload, 1) := by decide +kernel
theorem dX11_arrive_38 : decode cX11_arrive 38 = .ok (.iadd, 1) := by decide +kernel
theorem dX11_arrive_39 : decode cX11_arrive 39 = .ok (.iastore, 1) := by decide +kernel
theorem dX11_arrive_40 : decode cX11_arrive 40 = .ok (.aload_n 0, 1) := by decide +kernel
theorem dX11_arrive_41 : decode cX11_arrive 41 = .ok (.getfield 84, 3) := by decide +kernel
theorem dX11_arrive_44 : decode cX11_arrive 44 = .ok (.iload_n 2, 1) := by decide +kernel
theorem dX11_arrive_45 : decode cX11_arrive 45 = .ok (.iaload, 1) := by decide +kernel
theorem dX11_arrive_46 : decode cX11_arrive 46 = .ok (.aload_n 0, 1) := by decide +kernel
theorem dX11_arrive_47 : decode cX11_arrive 47 = .ok (.getfield 22, 3) := by decide +kernel
theorem dX11_arrive_50 : decode cX11_arrive 50 = .ok (.aload_n 0, 1) := by decide +kernel
theorem dX11_arrive_51 : decode cX11_arrive 51 = .ok (.getfield 81, 3) := by decide +kernel
theorem dX11_arrive_54 : decode cX11_arrive 54 = .ok (.iload_n 2, 1) := by decide +kernel
theorem dX11_arrive_55 : decode cX11_arrive 55 = .ok (.iaload, 1) := by decide +kernel
theorem dX11_arrive_56 : decode cX11_arrive 56 = .ok (.iaload, 1) := by decide +kernel
theorem dX11_arrive_57 : decode cX11_arrive 57 = .ok (.if_icmp .le 21, 3) := by decide +kernel
theorem dX11_arrive_60 : decode cX11_arrive 60 = .ok (.aload_n 0, 1) := by decide +kernel
theorem dX11_arrive_61 : decode cX11_arrive 61 = .ok (.getfield 28, 3) := by decide +kernel
theorem dX11_arrive_64 : decode cX11_arrive 64 = .ok (.iconst 1, 1) := by decide +kernel
theorem dX11_arrive_65 : decode cX11_arrive 65 = .ok (.dup2, 1) := by decide +kernel
theorem dX11_arrive_66 : decode cX11_arrive 66 = .ok (.iaload, 1) := by decide +kernel
theorem dX11_arrive_67 : decode cX11_arrive 67 = .ok (.aload_n 0, 1) := by decide +kernel
theorem dX11_arrive_68 : decode cX11_arrive 68 = .ok (.getfield 87, 3) := by decide +kernel
theorem dX11_arrive_71 : decode cX11_arrive 71 = .ok (.iload_n 2, 1) := by decide +kernel
theorem dX11_arrive_72 : decode cX11_arrive 72 = .ok (.iaload, 1) := by decide +kernel
theorem dX11_arrive_73 : decode cX11_arrive 73 = .ok (.iadd, 1) := by decide +kernel
theorem dX11_arrive_74 : decode cX11_arrive 74 = .ok (.iastore, 1) := by decide +kernel
theorem dX11_arrive_75 : decode cX11_arrive 75 = .ok (.goto 98, 3) := by decide +kernel
theorem dX11_arrive_78 : decode cX11_arrive 78 = .ok (.aload_n 0, 1) := by decide +kernel
theorem dX11_arrive_79 : decode cX11_arrive 79 = .ok (.aload_n 0, 1) := by decide +kernel
theorem dX11_arrive_80 : decode cX11_arrive 80 = .ok (.getfield 78, 3) := by decide +kernel
theorem dX11_arrive_83 : decode cX11_arrive 83 = .ok (.iload_n 2, 1) := by decide +kernel
theorem dX11_arrive_84 : decode cX11_arrive 84 = .ok (.iaload, 1) := by decide +kernel
theorem dX11_arrive_85 : decode cX11_arrive 85 = .ok (.aload_n 0, 1) := by decide +kernel
theorem dX11_arrive_86 : decode cX11_arrive 86 = .ok (.getfield 81, 3) := by decide +kernel
theorem dX11_arrive_89 : decode cX11_arrive 89 = .ok (.iload_n 2, 1) := by decide +kernel
theorem dX11_arrive_90 : decode cX11_arrive 90 = .ok (.iaload, 1) := by decide +kernel
theorem dX11_arrive_91 : decode cX11_arrive 91 = .ok (.aload_n 0, 1) := by decide +kernel
theorem dX11_arrive_92 : decode cX11_arrive 92 = .ok (.getfield 84, 3) := by decide +kernel
theorem dX11_arrive_95 : decode cX11_arrive 95 = .ok (.iload_n 2, 1) := by decide +kernel
theorem dX11_arrive_96 : decode cX11_arrive 96 = .ok (.iaload, 1) := by decide +kernel
theorem dX11_arrive_97 : decode cX11_arrive 97 = .ok (.aload_n 0, 1) := by decide +kernel
theorem dX11_arrive_98 : decode cX11_arrive 98 = .ok (.getfield 87, 3) := by decide +kernel
theorem dX11_arrive_101 : decode cX11_arrive 101 = .ok (.iload_n 2, 1) := by decide +kernel
theorem dX11_arrive_102 : decode cX11_arrive 102 = .ok (.iaload, 1) := by decide +kernel
theorem dX11_arrive_103 : decode cX11_arrive 103 = .ok (.invokevirtual 178, 3) := by decide +kernel
theorem dX11_arrive_106 : decode cX11_arrive 106 = .ok (.pop, 1) := by decide +kernel
theorem dX11_arrive_107 : decode cX11_arrive 107 = .ok (.goto 66, 3) := by decide +kernel
theorem dX11_arrive_110 : decode cX11_arrive 110 = .ok (.aload_n 0, 1) := by decide +kernel
theorem dX11_arrive_111 : decode cX11_arrive 111 = .ok (.getfield 78, 3) := by decide +kernel
theorem dX11_arrive_114 : decode cX11_arrive 114 = .ok (.iload_n 1, 1) := by decide +kernel
theorem dX11_arrive_115 : decode cX11_arrive 115 = .ok (.aload_n 0, 1) := by decide +kernel
theorem dX11_arrive_116 : decode cX11_arrive 116 = .ok (.getfield 78, 3) := by decide +kernel
theorem dX11_arrive_119 : decode cX11_arrive 119 = .ok (.iload_n 2, 1) := by decide +kernel
theorem dX11_arrive_120 : decode cX11_arrive 120 = .ok (.iaload, 1) := by decide +kernel
theorem dX11_arrive_121 : decode cX11_arrive 121 = .ok (.iastore, 1) := by decide +kernel
theorem dX11_arrive_122 : decode cX11_arrive 122 = .ok (.aload_n 0, 1) := by decide +kernel
theorem dX11_arrive_123 : decode cX11_arrive 123 = .ok (.getfield 81, 3) := by decide +kernel
theorem dX11_arrive_126 : decode cX11_arrive 126 = .ok (.iload_n 1, 1) := by decide +kernel
theorem dX11_arrive_127 : decode cX11_arrive 127 = .ok (.aload_n 0, 1) := by decide +kernel
theorem dX11_arrive_128 : decode cX11_arrive 128 = .ok (.getfield 81, 3) := by decide +kernel
theorem dX11_arrive_131 : decode cX11_arrive 131 = .ok (.iload_n 2, 1) := by decide +kernel
theorem dX11_arrive_132 : decode cX11_arrive 132 = .ok (.iaload, 1) := by decide +kernel
theorem dX11_arrive_133 : decode cX11_arrive 133 = .ok (.iastore, 1) := by decide +kernel
theorem dX11_arrive_134 : decode cX11_arrive 134 = .ok (.aload_n 0, 1) := by decide +kernel
theorem dX11_arrive_135 : decode cX11_arrive 135 = .ok (.getfield 84, 3) := by decide +kernel
theorem dX11_arrive_138 : decode cX11_arrive 138 = .ok (.iload_n 1, 1) := by decide +kernel
theorem dX11_arrive_139 : decode cX11_arrive 139 = .ok (.aload_n 0, 1) := by decide +kernel
theorem dX11_arrive_140 : decode cX11_arrive 140 = .ok (.getfield 84, 3) := by decide +kernel
theorem dX11_arrive_143 : decode cX11_arrive 143 = .ok (.iload_n 2, 1) := by decide +kernel
theorem dX11_arrive_144 : decode cX11_arrive 144 = .ok (.iaload, 1) := by decide +kernel
theorem dX11_arrive_145 : decode cX11_arrive 145 = .ok (.iastore, 1) := by decide +kernel
theorem dX11_arrive_146 : decode cX11_arrive 146 = .ok (.aload_n 0, 1) := by decide +kernel
theorem dX11_arrive_147 : decode cX11_arrive 147 = .ok (.getfield 87, 3) := by decide +kernel
theorem dX11_arrive_150 : decode cX11_arrive 150 = .ok (.iload_n 1, 1) := by decide +kernel
theorem dX11_arrive_151 : decode cX11_arrive 151 = .ok (.aload_n 0, 1) := by decide +kernel
theorem dX11_arrive_152 : decode cX11_arrive 152 = .ok (.getfield 87, 3) := by decide +kernel
theorem dX11_arrive_155 : decode cX11_arrive 155 = .ok (.iload_n 2, 1) := by decide +kernel
theorem dX11_arrive_156 : decode cX11_arrive 156 = .ok (.iaload, 1) := by decide +kernel
theorem dX11_arrive_157 : decode cX11_arrive 157 = .ok (.iastore, 1) := by decide +kernel
theorem dX11_arrive_158 : decode cX11_arrive 158 = .ok (.aload_n 0, 1) := by decide +kernel
theorem dX11_arrive_159 : decode cX11_arrive 159 = .ok (.getfield 90, 3) := by decide +kernel
theorem dX11_arrive_162 : decode cX11_arrive 162 = .ok (.iload_n 1, 1) := by decide +kernel
theorem dX11_arrive_163 : decode cX11_arrive 163 = .ok (.aload_n 0, 1) := by decide +kernel
theorem dX11_arrive_164 : decode cX11_arrive 164 = .ok (.getfield 90, 3) := by decide +kernel
theorem dX11_arrive_167 : decode cX11_arrive 167 = .ok (.iload_n 2, 1) := by decide +kernel
theorem dX11_arrive_168 : decode cX11_arrive 168 = .ok (.iaload, 1) := by decide +kernel
theorem dX11_arrive_169 : decode cX11_arrive 169 = .ok (.iastore, 1) := by decide +kernel
theorem dX11_arrive_170 : decode cX11_arrive 170 = .ok (.iinc 1 1, 3) := by decide +kernel
theorem dX11_arrive_173 : decode cX11_arrive 173 = .ok (.iinc 2 1, 3) := by decide +kernel
theorem dX11_arrive_176 : decode cX11_arrive 176 = .ok (.goto (-172), 3) := by decide +kernel
theorem dX11_arrive_179 : decode cX11_arrive 179 = .ok (.aload_n 0, 1) := by decide +kernel
theorem dX11_arrive_180 : decode cX11_arrive 180 = .ok (.iload_n 1, 1) := by decide +kernel
theorem dX11_arrive_181 : decode cX11_arrive 181 = .ok (.putfield 344, 3) := by decide +kernel
theorem dX11_arrive_184 : decode cX11_arrive 184 = .ok (.return_, 1) := by decide +kernel
theorem dX11_age_0 : decode cX11_age 0 = .ok (.iconst 0, 1) := by decide +kernel
theorem dX11_age_1 : decode cX11_age 1 = .ok (.istore_n 1, 1) := by decide +kernel
theorem dX11_age_2 : decode cX11_age 2 = .ok (.iload_n 1, 1) := by decide +kernel
theorem dX11_age_3 : decode cX11_age 3 = .ok (.aload_n 0, 1) := by decide +kernel
theorem dX11_age_4 : decode cX11_age 4 = .ok (.getfield 344, 3) := by decide +kernel
theorem dX11_age_7 : decode cX11_age 7 = .ok (.if_icmp .ge 19, 3) := by decide +kernel
theorem dX11_age_10 : decode cX11_age 10 = .ok (.aload_n 0, 1) := by decide +kernel
theorem dX11_age_11 : decode cX11_age 11 = .ok (.getfield 84, 3) := by decide +kernel
theorem dX11_age_14 : decode cX11_age 14 = .ok (.iload_n 1, 1) := by decide +kernel
theorem dX11_age_15 : decode cX11_age 15 = .ok (.dup2, 1) := by decide +kernel
theorem dX11_age_16 : decode cX11_age 16 = .ok (.iaload, 1) := by decide +kernel
theorem dX11_age_17 : decode cX11_age 17 = .ok (.iconst 1, 1) := by decide +kernel
theorem dX11_age_18 : decode cX11_age 18 = .ok (.iadd, 1) := by decide +kernel
theorem dX11_age_19 : decode cX11_age 19 = .ok (.iastore, 1) := by decide +kernel
theorem dX11_age_20 : decode cX11_age 20 = .ok (.iinc 1 1, 3) := by decide +kernel
theorem dX11_age_23 : decode cX11_age 23 = .ok (.goto (-21), 3) := by decide +kernel
theorem dX11_age_26 : decode cX11_age 26 = .ok (.iconst 0, 1) := by decide +kernel
theorem dX11_age_27 : decode cX11_age 27 = .ok (.istore_n 1, 1) := by decide +kernel
theorem dX11_age_28 : decode cX11_age 28 = .ok (.iload_n 1, 1) := by decide +kernel
theorem dX11_age_29 : decode cX11_age 29 = .ok (.aload_n 0, 1) := by decide +kernel
theorem dX11_age_30 : decode cX11_age 30 = .ok (.getfield 153, 3) := by decide +kernel
theorem dX11_age_33 : decode cX11_age 33 = .ok (.if_icmp .ge 98, 3) := by decide +kernel
theorem dX11_age_36 : decode cX11_age 36 = .ok (.iconst 0, 1) := by decide +kernel
theorem dX11_age_37 : decode cX11_age 37 = .ok (.istore_n 2, 1) := by decide +kernel
theorem dX11_age_38 : decode cX11_age 38 = .ok (.iload_n 2, 1) := by decide +kernel
theorem dX11_age_39 : decode cX11_age 39 = .ok (.iconst 3, 1) := by decide +kernel
theorem dX11_age_40 : decode cX11_age 40 = .ok (.if_icmp .ge 85, 3) := by decide +kernel
theorem dX11_age_43 : decode cX11_age 43 = .ok (.bipush 60, 2) := by decide +kernel
theorem dX11_age_45 : decode cX11_age 45 = .ok (.istore_n 3, 1) := by decide +kernel
theorem dX11_age_46 : decode cX11_age 46 = .ok (.iload_n 3, 1) := by decide +kernel
theorem dX11_age_47 : decode cX11_age 47 = .ok (.ifCond .lt 72, 3) := by decide +kernel
theorem dX11_age_50 : decode cX11_age 50 = .ok (.iload_n 1, 1) := by decide +kernel
theorem dX11_age_51 : decode cX11_age 51 = .ok (.iload_n 2, 1) := by decide +kernel
theorem dX11_age_52 : decode cX11_age 52 = .ok (.iload_n 3, 1) := by decide +kernel
theorem dX11_age_53 : decode cX11_age 53 = .ok (.invokestatic 164, 3) := by decide +kernel
theorem dX11_age_56 : decode cX11_age 56 = .ok (.istore 4, 2) := by decide +kernel
theorem dX11_age_58 : decode cX11_age 58 = .ok (.iload_n 3, 1) := by decide +kernel
theorem dX11_age_59 : decode cX11_age 59 = .ok (.iconst 1, 1) := by decide +kernel
theorem dX11_age_60 : decode cX11_age 60 = .ok (.iadd, 1) := by decide +kernel
theorem dX11_age_61 : decode cX11_age 61 = .ok (.aload_n 0, 1) := by decide +kernel
theorem dX11_age_62 : decode cX11_age 62 = .ok (.getfield 22, 3) := by decide +kernel
theorem dX11_age_65 : decode cX11_age 65 = .ok (.iload_n 2, 1) := by decide +kernel
theorem dX11_age_66 : decode cX11_age 66 = .ok (.iaload, 1) := by decide +kernel
theorem dX11_age_67 : decode cX11_age 67 = .ok (.if_icmp .le 22, 3) := by decide +kernel
theorem dX11_age_70 : decode cX11_age 70 = .ok (.aload_n 0, 1) := by decide +kernel
theorem dX11_age_71 : decode cX11_age 71 = .ok (.getfield 28, 3) := by decide +kernel
theorem dX11_age_74 : decode cX11_age 74 = .ok (.iconst 1, 1) := by decide +kernel
theorem dX11_age_75 : decode cX11_age 75 = .ok (.dup2, 1) := by decide +kernel
theorem dX11_age_76 : decode cX11_age 76 = .ok (.iaload, 1) := by decide +kernel
theorem dX11_age_77 : decode cX11_age 77 = .ok (.aload_n 0, 1) := by decide +kernel
theorem dX11_age_78 : decode cX11_age 78 = .ok (.getfield 25, 3) := by decide +kernel
theorem dX11_age_81 : decode cX11_age 81 = .ok (.iload 4, 2) := by decide +kernel
theorem dX11_age_83 : decode cX11_age 83 = .ok (.iaload, 1) := by decide +kernel
theorem dX11_age_84 : decode cX11_age 84 = .ok (.iadd, 1) := by decide +kernel
theorem dX11_age_85 : decode cX11_age 85 = .ok (.iastore, 1) := by decide +kernel
theorem dX11_age_86 : decode cX11_age 86 = .ok (.goto 19, 3) := by decide +kernel
theorem dX11_age_89 : decode cX11_age 89 = .ok (.aload_n 0, 1) := by decide +kernel
theorem dX11_age_90 : decode cX11_age 90 = .ok (.getfield 25, 3) := by decide +kernel
theorem dX11_age_93 : decode cX11_age 93 = .ok (.iload 4, 2) := by decide +kernel
theorem dX11_age_95 : decode cX11_age 95 = .ok (.iconst 1, 1) := by decide +kernel
theorem dX11_age_96 : decode cX11_age 96 = .ok (.iadd, 1) := by decide +kernel
theorem dX11_age_97 : decode cX11_age 97 = .ok (.aload_n 0, 1) := by decide +kernel
theorem dX11_age_98 : decode cX11_age 98 = .ok (.getfield 25, 3) := by decide +kernel
theorem dX11_age_101 : decode cX11_age 101 = .ok (.iload 4, 2) := by decide +kernel
theorem dX11_age_103 : decode cX11_age 103 = .ok (.iaload, 1) := by decide +kernel
theorem dX11_age_104 : decode cX11_age 104 = .ok (.iastore, 1) := by decide +kernel
theorem dX11_age_105 : decode cX11_age 105 = .ok (.aload_n 0, 1) := by decide +kernel
theorem dX11_age_106 : decode cX11_age 106 = .ok (.getfield 25, 3) := by decide +kernel
theorem dX11_age_109 : decode cX11_age 109 = .ok (.iload 4, 2) := by decide +kernel
theorem dX11_age_111 : decode cX11_age 111 = .ok (.iconst 0, 1) := by decide +kernel
theorem dX11_age_112 : decode cX11_age 112 = .ok (.iastore, 1) := by decide +kernel
theorem dX11_age_113 : decode cX11_age 113 = .ok (.iinc 3 (-1), 3) := by decide +kernel

theorem dX10_about_60 : decode cX10_about 60 = .ok (.aload_n 0, 1) := by decide +kernel
theorem dX10_about_61 : decode cX10_about 61 = .ok (.getfield 37, 3) := by decide +kernel
theorem dX10_about_64 : decode cX10_about 64 = .ok (.getfield 211, 3) := by decide +kernel
theorem dX10_about_67 : decode cX10_about 67 = .ok (.getfield 215, 3) := by decide +kernel
theorem dX10_about_70 : decode cX10_about 70 = .ok (.ireturn, 1) := by decide +kernel
theorem dX10_about_71 : decode cX10_about 71 = .ok (.aload_n 0, 1) := by decide +kernel
theorem dX10_about_72 : decode cX10_about 72 = .ok (.getfield 44, 3) := by decide +kernel
theorem dX10_about_75 : decode cX10_about 75 = .ok (.getfield 152, 3) := by decide +kernel
theorem dX10_about_78 : decode cX10_about 78 = .ok (.ireturn, 1) := by decide +kernel
theorem dX10_about_79 : decode cX10_about 79 = .ok (.aload_n 0, 1) := by decide +kernel
theorem dX10_about_80 : decode cX10_about 80 = .ok (.getfield 12, 3) := by decide +kernel
theorem dX10_about_83 : decode cX10_about 83 = .ok (.getfield 163, 3) := by decide +kernel
theorem dX10_about_86 : decode cX10_about 86 = .ok (.ireturn, 1) := by decide +kernel
theorem dX10_about_87 : decode cX10_about 87 = .ok (.aload_n 0, 1) := by decide +kernel
theorem dX10_about_88 : decode cX10_about 88 = .ok (.getfield 58, 3) := by decide +kernel
theorem dX10_about_91 : decode cX10_about 91 = .ok (.getfield 220, 3) := by decide +kernel
theorem dX10_about_94 : decode cX10_about 94 = .ok (.ireturn, 1) := by decide +kernel
theorem dX10_about_95 : decode cX10_about 95 = .ok (.aload_n 0, 1) := by decide +kernel
theorem dX10_about_96 : decode cX10_about 96 = .ok (.getfield 109, 3) := by decide +kernel
theorem dX10_about_99 : decode cX10_about 99 = .ok (.ireturn, 1) := by decide +kernel
theorem dX10_about_100 : decode cX10_about 100 = .ok (.iload_n 1, 1) := by decide +kernel
theorem dX10_about_101 : decode cX10_about 101 = .ok (.bipush 10, 2) := by decide +kernel
theorem dX10_about_103 : decode cX10_about 103 = .ok (.bipush 12, 2) := by decide +kernel
theorem dX10_about_105 : decode cX10_about 105 = .ok (.invokestatic 63, 3) := by decide +kernel
theorem dX10_about_108 : decode cX10_about 108 = .ok (.ifCond .eq 18, 3) := by decide +kernel
theorem dX10_about_111 : decode cX10_about 111 = .ok (.aload_n 0, 1) := by decide +kernel
theorem dX10_about_112 : decode cX10_about 112 = .ok (.getfield 12, 3) := by decide +kernel
theorem dX10_about_115 : decode cX10_about 115 = .ok (.getfield 82, 3) := by decide +kernel
theorem dX10_about_118 : decode cX10_about 118 = .ok (.iload_n 1, 1) := by decide +kernel
theorem dX10_about_119 : decode cX10_about 119 = .ok (.bipush 10, 2) := by decide +kernel
theorem dX10_about_121 : decode cX10_about 121 = .ok (.isub, 1) := by decide +kernel
theorem dX10_about_122 : decode cX10_about 122 = .ok (.iaload, 1) := by decide +kernel
theorem dX10_about_123 : decode cX10_about 123 = .ok (.goto 4, 3) := by decide +kernel
theorem dX10_about_126 : decode cX10_about 126 = .ok (.iconst (-1), 1) := by decide +kernel
theorem dX10_about_127 : decode cX10_about 127 = .ok (.ireturn, 1) := by decide +kernel
theorem dX10_write_0 : decode cX10_write 0 = .ok (.bipush 24, 2) := by decide +kernel
theorem dX10_write_2 : decode cX10_write 2 = .ok (.istore_n 2, 1) := by decide +kernel
theorem dX10_write_3 : decode cX10_write 3 = .ok (.iload_n 2, 1) := by decide +kernel
theorem dX10_write_4 : decode cX10_write 4 = .ok (.ifCond .lt 42, 3) := by decide +kernel
theorem dX10_write_7 : decode cX10_write 7 = .ok (.aload_n 0, 1) := by decide +kernel
theorem dX10_write_8 : decode cX10_write 8 = .ok (.getfield 109, 3) := by decide +kernel
theorem dX10_write_11 : decode cX10_write 11 = .ok (.sipush 1000, 3) := by decide +kernel
theorem dX10_write_14 : decode cX10_write 14 = .ok (.if_icmp .ge 32, 3) := by decide +kernel
theorem dX10_write_17 : decode cX10_write 17 = .ok (.aload_n 0, 1) := by decide +kernel
theorem dX10_write_18 : decode cX10_write 18 = .ok (.getfield 30, 3) := by decide +kernel
theorem dX10_write_21 : decode cX10_write 21 = .ok (.aload_n 0, 1) := by decide +kernel
theorem dX10_write_22 : decode cX10_write 22 = .ok (.getfield 109, 3) := by decide +kernel
theorem dX10_write_25 : decode cX10_write 25 = .ok (.iload_n 1, 1) := by decide +kernel
theorem dX10_write_26 : decode cX10_write 26 = .ok (.iload_n 2, 1) := by decide +kernel
theorem dX10_write_27 : decode cX10_write 27 = .ok (.ishr, 1) := by decide +kernel
theorem dX10_write_28 : decode cX10_write 28 = .ok (.i2b, 1) := by decide +kernel
theorem dX10_write_29 : decode cX10_write 29 = .ok (.bastore, 1) := by decide +kernel
theorem dX10_write_30 : decode cX10_write 30 = .ok (.aload_n 0, 1) := by decide +kernel
theorem dX10_write_31 : decode cX10_write 31 = .ok (.dup, 1) := by decide +kernel
theorem dX10_write_32 : decode cX10_write 32 = .ok (.getfield 109, 3) := by decide +kernel
theorem dX10_write_35 : decode cX10_write 35 = .ok (.iconst 1, 1) := by decide +kernel
theorem dX10_write_36 : decode cX10_write 36 = .ok (.iadd, 1) := by decide +kernel
theorem dX10_write_37 : decode cX10_write 37 = .ok (.putfield 109, 3) := by decide +kernel
theorem dX10_write_40 : decode cX10_write 40 = .ok (.iinc 2 (-8), 3) := by decide +kernel
theorem dX10_write_43 : decode cX10_write 43 = .ok (.goto (-40), 3) := by decide +kernel
theorem dX10_write_46 : decode cX10_write 46 = .ok (.return_, 1) := by decide +kernel
theorem dX10_passMonth_0 : decode cX10_passMonth 0 = .ok (.aload_n 0, 1) := by decide +kernel
theorem dX10_passMonth_1 : decode cX10_passMonth 1 = .ok (.getfield 26, 3) := by decide +kernel
theorem dX10_passMonth_4 : decode cX10_passMonth 4 = .ok (.aload_n 0, 1) := by decide +kernel
theorem dX10_passMonth_5 : decode cX10_passMonth 5 = .ok (.getfield 12, 3) := by decide +kernel
theorem dX10_passMonth_8 : decode cX10_passMonth 8 = .ok (.aload_n 0, 1) := by decide +kernel
theorem dX10_passMonth_9 : decode cX10_passMonth 9 = .ok (.getfield 19, 3) := by decide +kernel
theorem dX10_passMonth_12 : decode cX10_passMonth 12 = .ok (.invokevirtual 221, 3) := by decide +kernel
theorem dX10_passMonth_15 : decode cX10_passMonth 15 = .ok (.aload_n 0, 1) := by decide +kernel
theorem dX10_passMonth_16 : decode cX10_passMonth 16 = .ok (.getfield 26, 3) := by decide +kernel
theorem dX10_passMonth_19 : decode cX10_passMonth 19 = .ok (.invokevirtual 225, 3) := by decide +kernel
theorem dX10_passMonth_22 : decode cX10_passMonth 22 = .ok (.aload_n 0, 1) := by decide +kernel
theorem dX10_passMonth_23 : decode cX10_passMonth 23 = .ok (.getfield 12, 3) := by decide +kernel
theorem dX10_passMonth_26 : decode cX10_passMonth 26 = .ok (.aload_n 0, 1) := by decide +kernel
theorem dX10_passMonth_27 : decode cX10_passMonth 27 = .ok (.getfield 19, 3) := by decide +kernel
theorem dX10_passMonth_30 : decode cX10_passMonth 30 = .ok (.invokevirtual 228, 3) := by decide +kernel
theorem dX10_passMonth_33 : decode cX10_passMonth 33 = .ok (.aload_n 0, 1) := by decide +kernel
theorem dX10_passMonth_34 : decode cX10_passMonth 34 = .ok (.getfield 12, 3) := by decide +kernel
theorem dX10_passMonth_37 : decode cX10_passMonth 37 = .ok (.aload_n 0, 1) := by decide +kernel
theorem dX10_passMonth_38 : decode cX10_passMonth 38 = .ok (.getfield 19, 3) := by decide +kernel
theorem dX10_passMonth_41 : decode cX10_passMonth 41 = .ok (.invokevirtual 232, 3) := by decide +kernel
theorem dX10_passMonth_44 : decode cX10_passMonth 44 = .ok (.iconst 0, 1) := by decide +kernel
theorem dX10_passMonth_45 : decode cX10_passMonth 45 = .ok (.istore_n 1, 1) := by decide +kernel
theorem dX10_passMonth_46 : decode cX10_passMonth 46 = .ok (.iload_n 1, 1) := by decide +kernel
theorem dX10_passMonth_47 : decode cX10_passMonth 47 = .ok (.aload_n 0, 1) := by decide +kernel
theorem dX10_passMonth_48 : decode cX10_passMonth 48 = .ok (.getfield 37, 3) := by decide +kernel
theorem dX10_passMonth_51 : decode cX10_passMonth 51 = .ok (.getfield 211, 3) := by decide +kernel
theorem dX10_passMonth_54 : decode cX10_passMonth 54 = .ok (.getfield 215, 3) := by decide +kernel
theorem dX10_passMonth_57 : decode cX10_passMonth 57 = .ok (.if_icmp .ge 39, 3) := by decide +kernel
theorem dX10_passMonth_60 : decode cX10_passMonth 60 = .ok (.aload_n 0, 1) := by decide +kernel
theorem dX10_passMonth_61 : decode cX10_passMonth 61 = .ok (.getfield 37, 3) := by decide +kernel
theorem dX10_passMonth_64 : decode cX10_passMonth 64 = .ok (.getfield 211, 3) := by decide +kernel
theorem dX10_passMonth_67 : decode cX10_passMonth 67 = .ok (.iload_n 1, 1) := by decide +kernel
theorem dX10_passMonth_68 : decode cX10_passMonth 68 = .ok (.aload_n 0, 1) := by decide +kernel
theorem dX10_passMonth_69 : decode cX10_passMonth 69 = .ok (.getfield 12, 3) := by decide +kernel
theorem dX10_passMonth_72 : decode cX10_passMonth 72 = .ok (.invokevirtual 235, 3) := by decide +kernel
theorem dX10_passMonth_75 : decode cX10_passMonth 75 = .ok (.ifCond .eq 15, 3) := by decide +kernel
theorem dX10_passMonth_78 : decode cX10_passMonth 78 = .ok (.aload_n 0, 1) := by decide +kernel
theorem dX10_passMonth_79 : decode cX10_passMonth 79 = .ok (.aload_n 0, 1) := by decide +kernel
theorem dX10_passMonth_80 : decode cX10_passMonth 80 = .ok (.getfield 37, 3) := by decide +kernel
theorem dX10_passMonth_83 : decode cX10_passMonth 83 = .ok (.getfield 211, 3) := by decide +kernel
theorem dX10_passMonth_86 : decode cX10_passMonth 86 = .ok (.iload_n 1, 1) := by decide +kernel
theorem dX10_passMonth_87 : decode cX10_passMonth 87 = .ok (.invokevirtual 239, 3) := by decide +kernel
theorem dX10_passMonth_90 : decode cX10_passMonth 90 = .ok (.iinc 1 1, 3) := by decide +kernel
theorem dX10_passMonth_93 : decode cX10_passMonth 93 = .ok (.goto (-47), 3) := by decide +kernel
theorem dX10_passMonth_96 : decode cX10_passMonth 96 = .ok (.aload_n 0, 1) := by decide +kernel
theorem dX10_passMonth_97 : decode cX10_passMonth 97 = .ok (.getfield 12, 3) := by decide +kernel
theorem dX10_passMonth_100 : decode cX10_passMonth 100 = .ok (.dup, 1) := by decide +kernel
theorem dX10_passMonth_101 : decode cX10_passMonth 101 = .ok (.getfield 126, 3) := by decide +kernel
theorem dX10_passMonth_104 : decode cX10_passMonth 104 = .ok (.iconst 1, 1) := by decide +kernel
theorem dX10_passMonth_105 : decode cX10_passMonth 105 = .ok (.iadd, 1) := by decide +kernel
theorem dX10_passMonth_106 : decode cX10_passMonth 106 = .ok (.putfield 126, 3) := by decide +kernel
theorem dX10_passMonth_109 : decode cX10_passMonth 109 = .ok (.return_, 1) := by decide +kernel
theorem dX10_obey_0 : decode cX10_obey 0 = .ok (.aload_n 1, 1) := by decide +kernel
theorem dX10_obey_1 : decode cX10_obey 1 = .ok (.getfield 243, 3) := by decide +kernel
theorem dX10_obey_4 : decode cX10_obey 4 = .ok (.iload_n 2, 1) := by decide +kernel
theorem dX10_obey_5 : decode cX10_obey 5 = .ok (.iaload, 1) := by decide +kernel
theorem dX10_obey_6 : decode cX10_obey 6 = .ok (.istore_n 3, 1) := by decide +kernel
theorem dX10_obey_7 : decode cX10_obey 7 = .ok (.aload_n 1, 1) := by decide +kernel
theorem dX10_obey_8 : decode cX10_obey 8 = .ok (.getfield 246, 3) := by decide +kernel
theorem dX10_obey_11 : decode cX10_obey 11 = .ok (.iload_n 2, 1) := by decide +kernel
theorem dX10_obey_12 : decode cX10_obey 12 = .ok (.iaload, 1) := by decide +kernel
theorem dX10_obey_13 : decode cX10_obey 13 = .ok (.istore 4, 2) := by decide +kernel
theorem dX10_obey_15 : decode cX10_obey 15 = .ok (.aload_n 0, 1) := by decide +kernel
theorem dX10_obey_16 : decode cX10_obey 16 = .ok (.getfield 12, 3) := by decide +kernel
theorem dX10_obey_19 : decode cX10_obey 19 = .ok (.iload_n 3, 1) := by decide +kernel
theorem dX10_obey_20 : decode cX10_obey 20 = .ok (.invokevirtual 71, 3) := by decide +kernel
theorem dX10_obey_23 : decode cX10_obey 23 = .ok (.ifCond .eq 31, 3) := by decide +kernel
theorem dX10_obey_26 : decode cX10_obey 26 = .ok (.aload_n 0, 1) := by decide +kernel
theorem dX10_obey_27 : decode cX10_obey 27 = .ok (.getfield 12, 3) := by decide +kernel
theorem dX10_obey_30 : decode cX10_obey 30 = .ok (.iload 4, 2) := by decide +kernel
theorem dX10_obey_32 : decode cX10_obey 32 = .ok (.invokevirtual 71, 3) := by decide +kernel
theorem dX10_obey_35 : decode cX10_obey 35 = .ok (.ifCond .eq 19, 3) := by decide +kernel
theorem dX10_obey_38 : decode cX10_obey 38 = .ok (.aload_n 0, 1) := by decide +kernel
theorem dX10_obey_39 : decode cX10_obey 39 = .ok (.getfield 12, 3) := by decide +kernel
theorem dX10_obey_42 : decode cX10_obey 42 = .ok (.getfield 75, 3) := by decide +kernel
theorem dX10_obey_45 : decode cX10_obey 45 = .ok (.iload_n 3, 1) := by decide +kernel
theorem dX10_obey_46 : decode cX10_obey 46 = .ok (.aaload, 1) := by decide +kernel
theorem dX10_obey_47 : decode cX10_obey 47 = .ok (.iload 4, 2) := by decide +kernel
theorem dX10_obey_49 : decode cX10_obey 49 = .ok (.iaload, 1) := by decide +kernel
theorem dX10_obey_50 : decode cX10_obey 50 = .ok (.iconst (-1), 1) := by decide +kernel
theorem dX10_obey_51 : decode cX10_obey 51 = .ok (.if_icmp .ne 4, 3) := by decide +kernel
theorem dX10_obey_54 : decode cX10_obey 54 = .ok (.return_, 1) := by decide +kernel
theorem dX10_obey_55 : decode cX10_obey 55 = .ok (.aload_n 1, 1) := by decide +kernel
theorem dX10_obey_56 : decode cX10_obey 56 = .ok (.getfield 249, 3) := by decide +kernel
theorem dX10_obey_59 : decode cX10_obey 59 = .ok (.iload_n 2, 1) := by decide +kernel
theorem dX10_obey_60 : decode cX10_obey 60 = .ok (.iaload, 1) := by decide +kernel
theorem dX10_obey_61 : decode cX10_obey 61 = .ok (.istore 5, 2) := by decide +kernel
theorem dX10_obey_63 : decode cX10_obey 63 = .ok (.aload_n 0, 1) := by decide +kernel
theorem dX10_obey_64 : decode cX10_obey 64 = .ok (.getfield 12, 3) := by decide +kernel
theorem dX10_obey_67 : decode cX10_obey 67 = .ok (.getfield 126, 3) := by decide +kernel
theorem dX10_obey_70 : decode cX10_obey 70 = .ok (.aload_n 0, 1) := by decide +kernel
theorem dX10_obey_71 : decode cX10_obey 71 = .ok (.getfield 12, 3) := by decide +kernel
theorem dX10_obey_74 : decode cX10_obey 74 = .ok (.getfield 75, 3) := by decide +kernel
theorem dX10_obey_77 : decode cX10_obey 77 = .ok (.iload_n 3, 1) := by decide +kernel
theorem dX10_obey_78 : decode cX10_obey 78 = .ok (.aaload, 1) := by decide +kernel
theorem dX10_obey_79 : decode cX10_obey 79 = .ok (.iload 4, 2) := by decide +kernel
theorem dX10_obey_81 : decode cX10_obey 81 = .ok (.iaload, 1) := by decide +kernel
theorem dX10_obey_82 : decode cX10_obey 82 = .ok (.invokestatic 252, 3) := by decide +kernel
theorem dX10_obey_85 : decode cX10_obey 85 = .ok (.iadd, 1) := by decide +kernel
theorem dX10_obey_86 : decode cX10_obey 86 = .ok (.istore 6, 2) := by decide +kernel
theorem dX10_obey_88 : decode cX10_obey 88 = .ok (.aload_n 1, 1) := by decide +kernel
theorem dX10_obey_89 : decode cX10_obey 89 = .ok (.getfield 256, 3) := by decide +kernel
theorem dX10_obey_92 : decode cX10_obey 92 = .ok (.iload_n 2, 1) := by decide +kernel
theorem dX10_obey_93 : decode cX10_obey 93 = .ok (.iaload, 1) := by decide +kernel
theorem dX10_obey_94 : decode cX10_obey 94 = .ok (.istore 7, 2) := by decide +kernel
theorem dX10_obey_96 : decode cX10_obey 96 = .ok (.aload_n 0, 1) := by decide +kernel
theorem dX10_obey_97 : decode cX10_obey 97 = .ok (.getfield 12, 3) := by decide +kernel
theorem dX10_obey_100 : decode cX10_obey 100 = .ok (.getfield 86, 3) := by decide +kernel
theorem dX10_obey_103 : decode cX10_obey 103 = .ok (.iload_n 3, 1) := by decide +kernel
theorem dX10_obey_104 : decode cX10_obey 104 = .ok (.aaload, 1) := by decide +kernel
theorem dX10_obey_105 : decode cX10_obey 105 = .ok (.astore 8, 2) := by decide +kernel
theorem dX10_obey_107 : decode cX10_obey 107 = .ok (.bipush 60, 2) := by decide +kernel
theorem dX10_obey_109 : decode cX10_obey 109 = .ok (.istore 9, 2) := by decide +kernel
theorem dX10_obey_111 : decode cX10_obey 111 = .ok (.iload 9, 2) := by decide +kernel
theorem dX10_obey_113 : decode cX10_obey 113 = .ok (.ifCond .lt 68, 3) := by decide +kernel
theorem dX10_obey_116 : decode cX10_obey 116 = .ok (.iload 7, 2) := by decide +kernel
theorem dX10_obey_118 : decode cX10_obey 118 = .ok (.ifCond .le 63, 3) := by decide +kernel
theorem dX10_obey_121 : decode cX10_obey 121 = .ok (.aload_n 0, 1) := by decide +kernel
theorem dX10_obey_122 : decode cX10_obey 122 = .ok (.getfield 26, 3) := by decide +kernel
theorem dX10_obey_125 : decode cX10_obey 125 = .ok (.getfield 142, 3) := by decide +kernel
theorem dX10_obey_128 : decode cX10_obey 128 = .ok (.bipush 60, 2) := by decide +kernel
theorem dX10_obey_130 : decode cX10_obey 130 = .ok (.if_icmp .ge 51, 3) := by decide +kernel
theorem dX10_obey_133 : decode cX10_obey 133 = .ok (.aload 8, 2) := by decide +kernel
theorem dX10_obey_135 : decode cX10_obey 135 = .ok (.iload 5, 2) := by decide +kernel
theorem dX10_obey_137 : decode cX10_obey 137 = .ok (.iload 9, 2) := by decide +kernel
theorem dX10_obey_139 : decode cX10_obey 139 = .ok (.iload 7, 2) := by decide +kernel
theorem dX10_obey_141 : decode cX10_obey 141 = .ok (.invokevirtual 259, 3) := by decide +kernel
theorem dX10_obey_144 : decode cX10_obey 144 = .ok (.istore 10, 2) := by decide +kernel
theorem dX10_obey_146 : decode cX10_obey 146 = .ok (.iload 10, 2) := by decide +kernel
theorem dX10_obey_148 : decode cX10_obey 148 = .ok (.ifCond .le 27, 3) := by decide +kernel
theorem dX10_obey_151 : decode cX10_obey 151 = .ok (.aload_n 0, 1) := by decide +kernel
theorem dX10_obey_152 : decode cX10_obey 152 = .ok (.getfield 26, 3) := by decide +kernel
theorem dX10_obey_155 : decode cX10_obey 155 = .ok (.iload 4, 2) := by decide +kernel
theorem dX10_obey_157 : decode cX10_obey 157 = .ok (.iload 5, 2) := by decide +kernel
theorem dX10_obey_159 : decode cX10_obey 159 = .ok (.iload 9, 2) := by decide +kernel
theorem dX10_obey_161 : decode cX10_obey 161 = .ok (.iload 10, 2) := by decide +kernel
theorem dX10_obey_163 : decode cX10_obey 163 = .ok (.iload 6, 2) := by decide +kernel
theorem dX10_obey_165 : decode cX10_obey 165 = .ok (.invokevirtual 262, 3) := by decide +kernel
theorem dX10_obey_168 : decode cX10_obey 168 = .ok (.iload 7, 2) := by decide +kernel
theorem dX10_obey_170 : decode cX10_obey 170 = .ok (.iload 10, 2) := by decide +kernel
theorem dX10_obey_172 : decode cX10_obey 172 = .ok (.isub, 1) := by decide +kernel
theorem dX10_obey_173 : decode cX10_obey 173 = .ok (.istore 7, 2) := by decide +kernel
theorem dX10_obey_175 : decode cX10_obey 175 = .ok (.iinc 9 (-1), 3) := by decide +kernel
theorem dX10_obey_178 : decode cX10_obey 178 = .ok (.goto (-67), 3) := by decide +kernel
theorem dX10_obey_181 : decode cX10_obey 181 = .ok (.return_, 1) := by decide +kernel
theorem dX10_within_0 : decode cX10_within 0 = .ok (.iload_n 0, 1) := by decide +kernel
theorem dX10_within_1 : decode cX10_within 1 = .ok (.iload_n 1, 1) := by decide +kernel
theorem dX10_within_2 : decode cX10_within 2 = .ok (.if_icmp .lt 12, 3) := by decide +kernel
theorem dX10_within_5 : decode cX10_within 5 = .ok (.iload_n 0, 1) := by decide +kernel
theorem dX10_within_6 : decode cX10_within 6 = .ok (.iload_n 2, 1) := by decide +kernel
theorem dX10_within_7 : decode cX10_within 7 = .ok (.if_icmp .gt 7, 3) := by decide +kernel
theorem dX10_within_10 : decode cX10_within 10 = .ok (.iconst 1, 1) := by decide +kernel
theorem dX10_within_11 : decode cX10_within 11 = .ok (.goto 4, 3) := by decide +kernel
theorem dX10_within_14 : decode cX10_within 14 = .ok (.iconst 0, 1) := by decide +kernel
theorem dX10_within_15 : decode cX10_within 15 = .ok (.ireturn, 1) := by decide +kernel
theorem dX10_isKind_0 : decode cX10_isKind 0 = .ok (.iload_n 0, 1) := by decide +kernel
theorem dX10_isKind_1 : decode cX10_isKind 1 = .ok (.iconst 0, 1) := by decide +kernel
theorem dX10_isKind_2 : decode cX10_isKind 2 = .ok (.iconst 2, 1) := by decide +kernel
theorem dX10_isKind_3 : decode cX10_isKind 3 = .ok (.invokestatic 63, 3) := by decide +kernel
theorem dX10_isKind_6 : decode cX10_isKind 6 = .ok (.ireturn, 1) := by decide +kernel
theorem dX10_subject_0 : decode cX10_subject 0 = .ok (.iload_n 0, 1) := by decide +kernel
theorem dX10_subject_1 : decode cX10_subject 1 = .ok (.iconst 3, 1) := by decide +kernel
theorem dX10_subject_2 : decode cX10_subject 2 = .ok (.imul, 1) := by decide +kernel
theorem dX10_subject_3 : decode cX10_subject 3 = .ok (.iload_n 1, 1) := by decide +kernel
theorem dX10_subject_4 : decode cX10_subject 4 = .ok (.iadd, 1) := by decide +kernel
theorem dX10_subject_5 : decode cX10_subject 5 = .ok (.ireturn, 1) := by decide +kernel
theorem dX10_monthsOnTheWay_0 : decode cX10_monthsOnTheWay 0 = .ok (.iload_n 0, 1) := by decide +kernel
theorem dX10_monthsOnTheWay_1 : decode cX10_monthsOnTheWay 1 = .ok (.bipush 30, 2) := by decide +kernel
theorem dX10_monthsOnTheWay_3 : decode cX10_monthsOnTheWay 3 = .ok (.iadd, 1) := by decide +kernel
theorem dX10_monthsOnTheWay_4 : decode cX10_monthsOnTheWay 4 = .ok (.iconst 1, 1) := by decide +kernel
theorem dX10_monthsOnTheWay_5 : decode cX10_monthsOnTheWay 5 = .ok (.isub, 1) := by decide +kernel
theorem dX10_monthsOnTheWay_6 : decode cX10_monthsOnTheWay 6 = .ok (.bipush 30, 2) := by decide +kernel
theorem dX10_monthsOnTheWay_8 : decode cX10_monthsOnTheWay 8 = .ok (.idiv, 1) := by decide +kernel
theorem dX10_monthsOnTheWay_9 : decode cX10_monthsOnTheWay 9 = .ok (.ireturn, 1) := by decide +kernel
theorem dX11_init_0 : decode cX11_init 0 = .ok (.aload_n 0, 1) := by decide +kernel
theorem dX11_init_1 : decode cX11_init 1 = .ok (.invokespecial 1, 3) := by decide +kernel
theorem dX11_init_4 : decode cX11_init 4 = .ok (.aload_n 0, 1) := by decide +kernel
theorem dX11_init_5 : decode cX11_init 5 = .ok (.bipush 8, 2) := by decide +kernel
theorem dX11_init_7 : decode cX11_init 7 = .ok (.newarray .int, 2) := by decide +kernel
theorem dX11_init_9 : decode cX11_init 9 = .ok (.putfield 7, 3) := by decide +kernel
theorem dX11_init_12 : decode cX11_init 12 = .ok (.aload_n 0, 1) := by decide +kernel
theorem dX11_init_13 : decode cX11_init 13 = .ok (.bipush 8, 2) := by decide +kernel
theorem dX11_init_15 : decode cX11_init 15 = .ok (.newarray .int, 2) := by decide +kernel
theorem dX11_init_17 : decode cX11_init 17 = .ok (.putfield 13, 3) := by decide +kernel
theorem dX11_init_20 : decode cX11_init 20 = .ok (.aload_n 0, 1) := by decide +kernel
theorem dX11_init_21 : decode cX11_init 21 = .ok (.bipush 8, 2) := by decide +kernel
theorem dX11_init_23 : decode cX11_init 23 = .ok (.newarray .int, 2) := by decide +kernel
theorem dX11_init_25 : decode cX11_init 25 = .ok (.putfield 16, 3) := by decide +kernel
theorem dX11_init_28 : decode cX11_init 28 = .ok (.aload_n 0, 1) := by decide +kernel
theorem dX11_init_29 : decode cX11_init 29 = .ok (.bipush 64, 2) := by decide +kernel
theorem dX11_init_31 : decode cX11_init 31 = .ok (.newarray .int, 2) := by decide +kernel
theorem dX11_init_33 : decode cX11_init 33 = .ok (.putfield 19, 3) := by decide +kernel
theorem dX11_init_36 : decode cX11_init 36 = .ok (.aload_n 0, 1) := by decide +kernel
theorem dX11_init_37 : decode cX11_init 37 = .ok (.iconst 3, 1) := by decide +kernel
theorem dX11_init_38 : decode cX11_init 38 = .ok (.newarray .int, 2) := by decide +kernel
theorem dX11_init_40 : decode cX11_init 40 = .ok (.putfield 22, 3) := by decide +kernel
theorem dX11_init_43 : decode cX11_init 43 = .ok (.aload_n 0, 1) := by decide +kernel
theorem dX11_init_44 : decode cX11_init 44 = .ok (.sipush 1464, 3) := by decide +kernel
theorem dX11_init_47 : decode cX11_init 47 = .ok (.newarray .int, 2) := by decide +kernel
theorem dX11_init_49 : decode cX11_init 49 = .ok (.putfield 25, 3) := by decide +kernel
theorem dX11_init_52 : decode cX11_init 52 = .ok (.aload_n 0, 1) := by decide +kernel
theorem dX11_init_53 : decode cX11_init 53 = .ok (.bipush 6, 2) := by decide +kernel
theorem dX11_init_55 : decode cX11_init 55 = .ok (.newarray .int, 2) := by decide +kernel
theorem dX11_init_57 : decode cX11_init 57 = .ok (.putfield 28, 3) := by decide +kernel
theorem dX11_init_60 : decode cX11_init 60 = .ok (.aload_n 0, 1) := by decide +kernel
theorem dX11_init_61 : decode cX11_init 61 = .ok (.sipush 1020, 3) := by decide +kernel
theorem dX11_init_64 : decode cX11_init 64 = .ok (.newarray .byte, 2) := by decide +kernel
theorem dX11_init_66 : decode cX11_init 66 = .ok (.putfield 31, 3) := by decide +kernel
theorem dX11_init_69 : decode cX11_init 69 = .ok (.aload_n 0, 1) := by decide +kernel
theorem dX11_init_70 : decode cX11_init 70 = .ok (.sipush 1000, 3) := by decide +kernel
theorem dX11_init_73 : decode cX11_init 73 = .ok (.newarray .byte, 2) := by decide +kernel
theorem dX11_init_75 : decode cX11_init 75 = .ok (.putfield 35, 3) := by decide +kernel
theorem dX11_init_78 : decode cX11_init 78 = .ok (.aload_n 0, 1) := by decide +kernel
theorem dX11_init_79 : decode cX11_init 79 = .ok (.iconst (-1), 1) := by decide +kernel
theorem dX11_init_80 : decode cX11_init 80 = .ok (.putfield 38, 3) := by decide +kernel
theorem dX11_init_83 : decode cX11_init 83 = .ok (.aload_n 0, 1) := by decide +kernel
theorem dX11_init_84 : decode cX11_init 84 = .ok (.iconst 2, 1) := by decide +kernel
theorem dX11_init_85 : decode cX11_init 85 = .ok (.newarray .int, 2) := by decide +kernel
theorem dX11_init_87 : decode cX11_init 87 = .ok (.putfield 42, 3) := by decide +kernel
theorem dX11_init_90 : decode cX11_init 90 = .ok (.aload_n 0, 1) := by decide +kernel
theorem dX11_init_91 : decode cX11_init 91 = .ok (.bipush 24, 2) := by decide +kernel
theorem dX11_init_93 : decode cX11_init 93 = .ok (.newarray .int, 2) := by decide +kernel
theorem dX11_init_95 : decode cX11_init 95 = .ok (.putfield 45, 3) := by decide +kernel
theorem dX11_init_98 : decode cX11_init 98 = .ok (.aload_n 0, 1) := by decide +kernel
theorem dX11_init_99 : decode cX11_init 99 = .ok (.bipush 24, 2) := by decide +kernel
theorem dX11_init_101 : decode cX11_init 101 = .ok (.newarray .int, 2) := by decide +kernel
theorem dX11_init_103 : decode cX11_init 103 = .ok (.putfield 48, 3) := by decide +kernel
theorem dX11_init_106 : decode cX11_init 106 = .ok (.aload_n 0, 1) := by decide +kernel
theorem dX11_init_107 : decode cX11_init 107 = .ok (.bipush 24, 2) := by decide +kernel
theorem dX11_init_109 : decode cX11_init 109 = .ok (.newarray .int, 2) := by decide +kernel
theorem dX11_init_111 : decode cX11_init 111 = .ok (.putfield 51, 3) := by decide +kernel
theorem dX11_init_114 : decode cX11_init 114 = .ok (.aload_n 0, 1) := by decide +kernel
theorem dX11_init_115 : decode cX11_init 115 = .ok (.bipush 24, 2) := by decide +kernel
theorem dX11_init_117 : decode cX11_init 117 = .ok (.newarray .int, 2) := by decide +kernel
theorem dX11_init_119 : decode cX11_init 119 = .ok (.putfield 54, 3) := by decide +kernel
theorem dX11_init_122 : decode cX11_init 122 = .ok (.aload_n 0, 1) := by decide +kernel
theorem dX11_init_123 : decode cX11_init 123 = .ok (.bipush 24, 2) := by decide +kernel
theorem dX11_init_125 : decode cX11_init 125 = .ok (.newarray .int, 2) := by decide +kernel
theorem dX11_init_127 : decode cX11_init 127 = .ok (.putfield 57, 3) := by decide +kernel
theorem dX11_init_130 : decode cX11_init 130 = .ok (.aload_n 0, 1) := by decide +kernel
theorem dX11_init_131 : decode cX11_init 131 = .ok (.bipush 24, 2) := by decide +kernel
theorem dX11_init_133 : decode cX11_init 133 = .ok (.newarray .int, 2) := by decide +kernel
theorem dX11_init_135 : decode cX11_init 135 = .ok (.putfield 60, 3) := by decide +kernel
theorem dX11_init_138 : decode cX11_init 138 = .ok (.aload_n 0, 1) := by decide +kernel
theorem dX11_init_139 : decode cX11_init 139 = .ok (.sipush 2000, 3) := by decide +kernel
theorem dX11_init_142 : decode cX11_init 142 = .ok (.newarray .int, 2) := by decide +kernel
theorem dX11_init_144 : decode cX11_init 144 = .ok (.putfield 63, 3) := by decide +kernel
theorem dX11_init_147 : decode cX11_init 147 = .ok (.aload_n 0, 1) := by decide +kernel
theorem dX11_init_148 : decode cX11_init 148 = .ok (.sipush 2000, 3) := by decide +kernel
theorem dX11_init_151 : decode cX11_init 151 = .ok (.newarray .int, 2) := by decide +kernel
theorem dX11_init_153 : decode cX11_init 153 = .ok (.putfield 66, 3) := by decide +kernel
theorem dX11_init_156 : decode cX11_init 156 = .ok (.aload_n 0, 1) := by decide +kernel
theorem dX11_init_157 : decode cX11_init 157 = .ok (.sipush 2000, 3) := by decide +kernel
theorem dX11_init_160 : decode cX11_init 160 = .ok (.newarray .int, 2) := by decide +kernel
theorem dX11_init_162 : decode cX11_init 162 = .ok (.putfield 69, 3) := by decide +kernel
theorem dX11_init_165 : decode cX11_init 165 = .ok (.aload_n 0, 1) := by decide +kernel
theorem dX11_init_166 : decode cX11_init 166 = .ok (.bipush 60, 2) := by decide +kernel
theorem dX11_init_168 : decode cX11_init 168 = .ok (.newarray .int, 2) := by decide +kernel
theorem dX11_init_170 : decode cX11_init 170 = .ok (.putfield 72, 3) := by decide +kernel
theorem dX11_init_173 : decode cX11_init 173 = .ok (.aload_n 0, 1) := by decide +kernel
theorem dX11_init_174 : decode cX11_init 174 = .ok (.bipush 100, 2) := by decide +kernel
theorem dX11_init_176 : decode cX11_init 176 = .ok (.newarray .int, 2) := by decide +kernel
theorem dX11_init_178 : decode cX11_init 178 = .ok (.putfield 75, 3) := by decide +kernel
theorem dX11_init_181 : decode cX11_init 181 = .ok (.aload_n 0, 1) := by decide +kernel
theorem dX11_init_182 : decode cX11_init 182 = .ok (.bipush 60, 2) := by decide +kernel
theorem dX11_init_184 : decode cX11_init 184 = .ok (.newarray .int, 2) := by decide +kernel
theorem dX11_init_186 : decode cX11_init 186 = .ok (.putfield 78, 3) := by decide +kernel
theorem dX11_init_189 : decode cX11_init 189 = .ok (.aload_n 0, 1) := by decide +kernel
theorem dX11_init_190 : decode cX11_init 190 = .ok (.bipush 60, 2) := by decide +kernel
theorem dX11_init_192 : decode cX11_init 192 = .ok (.newarray .int, 2) := by decide +kernel
theorem dX11_init_194 : decode cX11_init 194 = .ok (.putfield 81, 3) := by decide +kernel
theorem dX11_init_197 : decode cX11_init 197 = .ok (.aload_n 0, 1) := by decide +kernel
theorem dX11_init_198 : decode cX11_init 198 = .ok (.bipush 60, 2) := by decide +kernel
theorem dX11_init_200 : decode cX11_init 200 = .ok (.newarray .int, 2) := by decide +kernel
theorem dX11_init_202 : decode cX11_init 202 = .ok (.putfield 84, 3) := by decide +kernel
theorem dX11_init_205 : decode cX11_init 205 = .ok (.aload_n 0, 1) := by decide +kernel
theorem dX11_init_206 : decode cX11_init 206 = .ok (.bipush 60, 2) := by decide +kernel
theorem dX11_init_208 : decode cX11_init 208 = .ok (.newarray .int, 2) := by decide +kernel
theorem dX11_init_210 : decode cX11_init 210 = .ok (.putfield 87, 3) := by decide +kernel
theorem dX11_init_213 : decode cX11_init 213 = .ok (.aload_n 0, 1) := by decide +kernel
theorem dX11_init_214 : decode cX11_init 214 = .ok (.bipush 60, 2) := by decide +kernel
theorem dX11_init_216 : decode cX11_init 216 = .ok (.newarray .int, 2) := by decide +kernel
theorem dX11_init_218 : decode cX11_init 218 = .ok (.putfield 90, 3) := by decide +kernel
theorem dX11_init_221 : decode cX11_init 221 = .ok (.aload_n 0, 1) := by decide +kernel
theorem dX11_init_222 : decode cX11_init 222 = .ok (.bipush 10, 2) := by decide +kernel
theorem dX11_init_224 : decode cX11_init 224 = .ok (.newarray .int, 2) := by decide +kernel
theorem dX11_init_226 : decode cX11_init 226 = .ok (.putfield 93, 3) := by decide +kernel
theorem dX11_init_229 : decode cX11_init 229 = .ok (.aload_n 0, 1) := by decide +kernel
theorem dX11_init_230 : decode cX11_init 230 = .ok (.bipush 10, 2) := by decide +kernel
theorem dX11_init_232 : decode cX11_init 232 = .ok (.newarray .int, 2) := by decide +kernel
theorem dX11_init_234 : decode cX11_init 234 = .ok (.putfield 96, 3) := by decide +kernel
theorem dX11_init_237 : decode cX11_init 237 = .ok (.aload_n 0, 1) := by decide +kernel
theorem dX11_init_238 : decode cX11_init 238 = .ok (.bipush 10, 2) := by decide +kernel
theorem dX11_init_240 : decode cX11_init 240 = .ok (.newarray .int, 2) := by decide +kernel
theorem dX11_init_242 : decode cX11_init 242 = .ok (.putfield 99, 3) := by decide +kernel
theorem dX11_init_245 : decode cX11_init 245 = .ok (.aload_n 0, 1) := by decide +kernel
theorem dX11_init_246 : decode cX11_init 246 = .ok (.bipush 10, 2) := by decide +kernel
theorem dX11_init_248 : decode cX11_init 248 = .ok (.newarray .int, 2) := by decide +kernel
theorem dX11_init_250 : decode cX11_init 250 = .ok (.putfield 102, 3) := by decide +kernel
theorem dX11_init_253 : decode cX11_init 253 = .ok (.aload_n 0, 1) := by decide +kernel
theorem dX11_init_254 : decode cX11_init 254 = .ok (.sipush 488, 3) := by decide +kernel
theorem dX11_init_257 : decode cX11_init 257 = .ok (.newarray .int, 2) := by decide +kernel
theorem dX11_init_259 : decode cX11_init 259 = .ok (.putfield 105, 3) := by decide +kernel
theorem dX11_init_262 : decode cX11_init 262 = .ok (.aload_n 0, 1) := by decide +kernel
theorem dX11_init_263 : decode cX11_init 263 = .ok (.sipush 4880, 3) := by decide +kernel
theorem dX11_init_266 : decode cX11_init 266 = .ok (.newarray .int, 2) := by decide +kernel
theorem dX11_init_268 : decode cX11_init 268 = .ok (.putfield 108, 3) := by decide +kernel
theorem dX11_init_271 : decode cX11_init 271 = .ok (.aload_n 0, 1) := by decide +kernel
theorem dX11_init_272 : decode cX11_init 272 = .ok (.bipush 10, 2) := by decide +kernel
theorem dX11_init_274 : decode cX11_init 274 = .ok (.newarray .int, 2) := by decide +kernel
theorem dX11_init_276 : decode cX11_init 276 = .ok (.putfield 111, 3) := by decide +kernel
theorem dX11_init_279 : decode cX11_init 279 = .ok (.aload_n 0, 1) := by decide +kernel
theorem dX11_init_280 : decode cX11_init 280 = .ok (.sipush 488, 3) := by decide +kernel
theorem dX11_init_283 : decode cX11_init 283 = .ok (.newarray .int, 2) := by decide +kernel
theorem dX11_init_285 : decode cX11_init 285 = .ok (.putfield 114, 3) := by decide +kernel
theorem dX11_init_288 : decode cX11_init 288 = .ok (.aload_n 0, 1) := by decide +kernel
theorem dX11_init_289 : decode cX11_init 289 = .ok (.bipush 10, 2) := by decide +kernel
theorem dX11_init_291 : decode cX11_init 291 = .ok (.newarray .int, 2) := by decide +kernel
theorem dX11_init_293 : decode cX11_init 293 = .ok (.putfield 117, 3) := by decide +kernel
theorem dX11_init_296 : decode cX11_init 296 = .ok (.aload_n 0, 1) := by decide +kernel
theorem dX11_init_297 : decode cX11_init 297 = .ok (.sipush 488, 3) := by decide +kernel
theorem dX11_init_300 : decode cX11_init 300 = .ok (.newarray .int, 2) := by decide +kernel
theorem dX11_init_302 : decode cX11_init 302 = .ok (.putfield 120, 3) := by decide +kernel
theorem dX11_init_305 : decode cX11_init 305 = .ok (.aload_n 0, 1) := by decide +kernel
theorem dX11_init_306 : decode cX11_init 306 = .ok (.bipush 10, 2) := by decide +kernel
theorem dX11_init_308 : decode cX11_init 308 = .ok (.newarray .int, 2) := by decide +kernel
theorem dX11_init_310 : decode cX11_init 310 = .ok (.putfield 123, 3) := by decide +kernel
theorem dX11_init_313 : decode cX11_init 313 = .ok (.aload_n 0, 1) := by decide +kernel
theorem dX11_init_314 : decode cX11_init 314 = .ok (.bipush 8, 2) := by decide +kernel
theorem dX11_init_316 : decode cX11_init 316 = .ok (.newarray .int, 2) := by decide +kernel
theorem dX11_init_318 : decode cX11_init 318 = .ok (.putfield 126, 3) := by decide +kernel
theorem dX11_init_321 : decode cX11_init 321 = .ok (.aload_n 0, 1) := by decide +kernel
theorem dX11_init_322 : decode cX11_init 322 = .ok (.bipush 60, 2) := by decide +kernel
theorem dX11_init_324 : decode cX11_init 324 = .ok (.newarray .int, 2) := by decide +kernel
theorem dX11_init_326 : decode cX11_init 326 = .ok (.putfield 129, 3) := by decide +kernel
theorem dX11_init_329 : decode cX11_init 329 = .ok (.aload_n 0, 1) := by decide +kernel
theorem dX11_init_330 : decode cX11_init 330 = .ok (.bipush 60, 2) := by decide +kernel
theorem dX11_init_332 : decode cX11_init 332 = .ok (.newarray .int, 2) := by decide +kernel
theorem dX11_init_334 : decode cX11_init 334 = .ok (.putfield 132, 3) := by decide +kernel
theorem dX11_init_337 : decode cX11_init 337 = .ok (.aload_n 0, 1) := by decide +kernel
theorem dX11_init_338 : decode cX11_init 338 = .ok (.bipush 60, 2) := by decide +kernel
theorem dX11_init_340 : decode cX11_init 340 = .ok (.newarray .int, 2) := by decide +kernel
theorem dX11_init_342 : decode cX11_init 342 = .ok (.putfield 135, 3) := by decide +kernel
theorem dX11_init_345 : decode cX11_init 345 = .ok (.aload_n 0, 1) := by decide +kernel
theorem dX11_init_346 : decode cX11_init 346 = .ok (.bipush 60, 2) := by decide +kernel
theorem dX11_init_348 : decode cX11_init 348 = .ok (.newarray .int, 2) := by decide +kernel
theorem dX11_init_350 : decode cX11_init 350 = .ok (.putfield 138, 3) := by decide +kernel
theorem dX11_init_353 : decode cX11_init 353 = .ok (.aload_n 0, 1) := by decide +kernel
theorem dX11_init_354 : decode cX11_init 354 = .ok (.bipush 60, 2) := by decide +kernel
theorem dX11_init_356 : decode cX11_init 356 = .ok (.newarray .int, 2) := by decide +kernel
theorem dX11_init_358 : decode cX11_init 358 = .ok (.putfield 141, 3) := by decide +kernel
theorem dX11_init_361 : decode cX11_init 361 = .ok (.aload_n 0, 1) := by decide +kernel
theorem dX11_init_362 : decode cX11_init 362 = .ok (.bipush 60, 2) := by decide +kernel
theorem dX11_init_364 : decode cX11_init 364 = .ok (.newarray .int, 2) := by decide +kernel
theorem dX11_init_366 : decode cX11_init 366 = .ok (.putfield 144, 3) := by decide +kernel
theorem dX11_init_369 : decode cX11_init 369 = .ok (.aload_n 0, 1) := by decide +kernel
theorem dX11_init_370 : decode cX11_init 370 = .ok (.bipush 60, 2) := by decide +kernel
theorem dX11_init_372 : decode cX11_init 372 = .ok (.newarray .int, 2) := by decide +kernel
theorem dX11_init_374 : decode cX11_init 374 = .ok (.putfield 147, 3) := by decide +kernel
theorem dX11_init_377 : decode cX11_init 377 = .ok (.aload_n 0, 1) := by decide +kernel
theorem dX11_init_378 : decode cX11_init 378 = .ok (.iconst 5, 1) := by decide +kernel
theorem dX11_init_379 : decode cX11_init 379 = .ok (.newarray .int, 2) := by decide +kernel
theorem dX11_init_381 : decode cX11_init 381 = .ok (.putfield 150, 3) := by decide +kernel
theorem dX11_init_384 : decode cX11_init 384 = .ok (.iconst 0, 1) := by decide +kernel
theorem dX11_init_385 : decode cX11_init 385 = .ok (.istore_n 1, 1) := by decide +kernel
theorem dX11_init_386 : decode cX11_init 386 = .ok (.iload_n 1, 1) := by decide +kernel
theorem dX11_init_387 : decode cX11_init 387 = .ok (.bipush 64, 2) := by decide +kernel
theorem dX11_init_389 : decode cX11_init 389 = .ok (.if_icmp .ge 31, 3) := by decide +kernel
theorem dX11_init_392 : decode cX11_init 392 = .ok (.aload_n 0, 1) := by decide +kernel
theorem dX11_init_393 : decode cX11_init 393 = .ok (.getfield 19, 3) := by decide +kernel
theorem dX11_init_396 : decode cX11_init 396 = .ok (.iload_n 1, 1) := by decide +kernel
theorem dX11_init_397 : decode cX11_init 397 = .ok (.iload_n 1, 1) := by decide +kernel
theorem dX11_init_398 : decode cX11_init 398 = .ok (.bipush 8, 2) := by decide +kernel
theorem dX11_init_400 : decode cX11_init 400 = .ok (.idiv, 1) := by decide +kernel
theorem dX11_init_401 : decode cX11_init 401 = .ok (.iload_n 1, 1) := by decide +kernel
theorem dX11_init_402 : decode cX11_init 402 = .ok (.bipush 8, 2) := by decide +kernel
theorem dX11_init_404 : decode cX11_init 404 = .ok (.irem, 1) := by decide +kernel
theorem dX11_init_405 : decode cX11_init 405 = .ok (.if_icmp .ne 7, 3) := by decide +kernel
theorem dX11_init_408 : decode cX11_init 408 = .ok (.iconst 0, 1) := by decide +kernel
theorem dX11_init_409 : decode cX11_init 409 = .ok (.goto 4, 3) := by decide +kernel
theorem dX11_init_412 : decode cX11_init 412 = .ok (.iconst (-1), 1) := by decide +kernel
theorem dX11_init_413 : decode cX11_init 413 = .ok (.iastore, 1) := by decide +kernel
theorem dX11_init_414 : decode cX11_init 414 = .ok (.iinc 1 1, 3) := by decide +kernel
theorem dX11_init_417 : decode cX11_init 417 = .ok (.goto (-31), 3) := by decide +kernel
theorem dX11_init_420 : decode cX11_init 420 = .ok (.aload_n 0, 1) := by decide +kernel
theorem dX11_init_421 : decode cX11_init 421 = .ok (.getfield 22, 3) := by decide +kernel
theorem dX11_init_424 : decode cX11_init 424 = .ok (.iconst 0, 1) := by decide +kernel
theorem dX11_init_425 : decode cX11_init 425 = .ok (.bipush 12, 2) := by decide +kernel
theorem dX11_init_427 : decode cX11_init 427 = .ok (.iastore, 1) := by decide +kernel

theorem dX11_age_116 : decode cX11_age 116 = .ok (.goto (-70), 3) := by decide +kernel
theorem dX11_age_119 : decode cX11_age 119 = .ok (.iinc 2 1, 3) := by decide +kernel
theorem dX11_age_122 : decode cX11_age 122 = .ok (.goto (-84), 3) := by decide +kernel
theorem dX11_age_125 : decode cX11_age 125 = .ok (.iinc 1 1, 3) := by decide +kernel
theorem dX11_age_128 : decode cX11_age 128 = .ok (.goto (-100), 3) := by decide +kernel
theorem dX11_age_131 : decode cX11_age 131 = .ok (.return_, 1) := by decide +kernel
theorem dX11_eat_0 : decode cX11_eat 0 = .ok (.iconst 0, 1) := by decide +kernel
theorem dX11_eat_1 : decode cX11_eat 1 = .ok (.istore_n 1, 1) := by decide +kernel
theorem dX11_eat_2 : decode cX11_eat 2 = .ok (.iload_n 1, 1) := by decide +kernel
theorem dX11_eat_3 : decode cX11_eat 3 = .ok (.aload_n 0, 1) := by decide +kernel
theorem dX11_eat_4 : decode cX11_eat 4 = .ok (.getfield 153, 3) := by decide +kernel
theorem dX11_eat_7 : decode cX11_eat 7 = .ok (.if_icmp .ge 37, 3) := by decide +kernel
theorem dX11_eat_10 : decode cX11_eat 10 = .ok (.aload_n 0, 1) := by decide +kernel
theorem dX11_eat_11 : decode cX11_eat 11 = .ok (.getfield 28, 3) := by decide +kernel
theorem dX11_eat_14 : decode cX11_eat 14 = .ok (.iconst 0, 1) := by decide +kernel
theorem dX11_eat_15 : decode cX11_eat 15 = .ok (.dup2, 1) := by decide +kernel
theorem dX11_eat_16 : decode cX11_eat 16 = .ok (.iaload, 1) := by decide +kernel
theorem dX11_eat_17 : decode cX11_eat 17 = .ok (.aload_n 0, 1) := by decide +kernel
theorem dX11_eat_18 : decode cX11_eat 18 = .ok (.getfield 13, 3) := by decide +kernel
theorem dX11_eat_21 : decode cX11_eat 21 = .ok (.iload_n 1, 1) := by decide +kernel
theorem dX11_eat_22 : decode cX11_eat 22 = .ok (.iaload, 1) := by decide +kernel
theorem dX11_eat_23 : decode cX11_eat 23 = .ok (.aload_n 0, 1) := by decide +kernel
theorem dX11_eat_24 : decode cX11_eat 24 = .ok (.iload_n 1, 1) := by decide +kernel
theorem dX11_eat_25 : decode cX11_eat 25 = .ok (.iconst 0, 1) := by decide +kernel
theorem dX11_eat_26 : decode cX11_eat 26 = .ok (.aload_n 0, 1) := by decide +kernel
theorem dX11_eat_27 : decode cX11_eat 27 = .ok (.getfield 13, 3) := by decide +kernel
theorem dX11_eat_30 : decode cX11_eat 30 = .ok (.iload_n 1, 1) := by decide +kernel
theorem dX11_eat_31 : decode cX11_eat 31 = .ok (.iaload, 1) := by decide +kernel
theorem dX11_eat_32 : decode cX11_eat 32 = .ok (.invokevirtual 182, 3) := by decide +kernel
theorem dX11_eat_35 : decode cX11_eat 35 = .ok (.isub, 1) := by decide +kernel
theorem dX11_eat_36 : decode cX11_eat 36 = .ok (.iadd, 1) := by decide +kernel
theorem dX11_eat_37 : decode cX11_eat 37 = .ok (.iastore, 1) := by decide +kernel
theorem dX11_eat_38 : decode cX11_eat 38 = .ok (.iinc 1 1, 3) := by decide +kernel
theorem dX11_eat_41 : decode cX11_eat 41 = .ok (.goto (-39), 3) := by decide +kernel
theorem dX11_eat_44 : decode cX11_eat 44 = .ok (.return_, 1) := by decide +kernel
theorem dX11_send_0 : decode cX11_send 0 = .ok (.aload_n 0, 1) := by decide +kernel
theorem dX11_send_1 : decode cX11_send 1 = .ok (.getfield 57, 3) := by decide +kernel
theorem dX11_send_4 : decode cX11_send 4 = .ok (.iload_n 1, 1) := by decide +kernel
theorem dX11_send_5 : decode cX11_send 5 = .ok (.iaload, 1) := by decide +kernel
theorem dX11_send_6 : decode cX11_send 6 = .ok (.istore_n 2, 1) := by decide +kernel
theorem dX11_send_7 : decode cX11_send 7 = .ok (.aload_n 0, 1) := by decide +kernel
theorem dX11_send_8 : decode cX11_send 8 = .ok (.getfield 60, 3) := by decide +kernel
theorem dX11_send_11 : decode cX11_send 11 = .ok (.iload_n 1, 1) := by decide +kernel
theorem dX11_send_12 : decode cX11_send 12 = .ok (.iaload, 1) := by decide +kernel
theorem dX11_send_13 : decode cX11_send 13 = .ok (.istore_n 3, 1) := by decide +kernel
theorem dX11_send_14 : decode cX11_send 14 = .ok (.aload_n 0, 1) := by decide +kernel
theorem dX11_send_15 : decode cX11_send 15 = .ok (.iload_n 2, 1) := by decide +kernel
theorem dX11_send_16 : decode cX11_send 16 = .ok (.invokevirtual 157, 3) := by decide +kernel
theorem dX11_send_19 : decode cX11_send 19 = .ok (.ifCond .eq 25, 3) := by decide +kernel
theorem dX11_send_22 : decode cX11_send 22 = .ok (.aload_n 0, 1) := by decide +kernel
theorem dX11_send_23 : decode cX11_send 23 = .ok (.iload_n 3, 1) := by decide +kernel
theorem dX11_send_24 : decode cX11_send 24 = .ok (.invokevirtual 157, 3) := by decide +kernel
theorem dX11_send_27 : decode cX11_send 27 = .ok (.ifCond .eq 17, 3) := by decide +kernel
theorem dX11_send_30 : decode cX11_send 30 = .ok (.aload_n 0, 1) := by decide +kernel
theorem dX11_send_31 : decode cX11_send 31 = .ok (.getfield 19, 3) := by decide +kernel
theorem dX11_send_34 : decode cX11_send 34 = .ok (.bipush 8, 2) := by decide +kernel
theorem dX11_send_36 : decode cX11_send 36 = .ok (.iload_n 2, 1) := by decide +kernel
theorem dX11_send_37 : decode cX11_send 37 = .ok (.imul, 1) := by decide +kernel
theorem dX11_send_38 : decode cX11_send 38 = .ok (.iload_n 3, 1) := by decide +kernel
theorem dX11_send_39 : decode cX11_send 39 = .ok (.iadd, 1) := by decide +kernel
theorem dX11_send_40 : decode cX11_send 40 = .ok (.iaload, 1) := by decide +kernel
theorem dX11_send_41 : decode cX11_send 41 = .ok (.ifCond .ge 4, 3) := by decide +kernel
theorem dX11_send_44 : decode cX11_send 44 = .ok (.return_, 1) := by decide +kernel
theorem dX11_send_45 : decode cX11_send 45 = .ok (.aload_n 0, 1) := by decide +kernel
theorem dX11_send_46 : decode cX11_send 46 = .ok (.getfield 51, 3) := by decide +kernel
theorem dX11_send_49 : decode cX11_send 49 = .ok (.iload_n 1, 1) := by decide +kernel
theorem dX11_send_50 : decode cX11_send 50 = .ok (.iaload, 1) := by decide +kernel
theorem dX11_send_51 : decode cX11_send 51 = .ok (.istore 4, 2) := by decide +kernel
theorem dX11_send_53 : decode cX11_send 53 = .ok (.bipush 60, 2) := by decide +kernel
theorem dX11_send_55 : decode cX11_send 55 = .ok (.istore 5, 2) := by decide +kernel
theorem dX11_send_57 : decode cX11_send 57 = .ok (.iload 5, 2) := by decide +kernel
theorem dX11_send_59 : decode cX11_send 59 = .ok (.ifCond .lt 170, 3) := by decide +kernel
theorem dX11_send_62 : decode cX11_send 62 = .ok (.aload_n 0, 1) := by decide +kernel
theorem dX11_send_63 : decode cX11_send 63 = .ok (.getfield 344, 3) := by decide +kernel
theorem dX11_send_66 : decode cX11_send 66 = .ok (.bipush 60, 2) := by decide +kernel
theorem dX11_send_68 : decode cX11_send 68 = .ok (.if_icmp .ge 161, 3) := by decide +kernel
theorem dX11_send_71 : decode cX11_send 71 = .ok (.iload_n 2, 1) := by decide +kernel
theorem dX11_send_72 : decode cX11_send 72 = .ok (.aload_n 0, 1) := by decide +kernel
theorem dX11_send_73 : decode cX11_send 73 = .ok (.getfield 54, 3) := by decide +kernel
theorem dX11_send_76 : decode cX11_send 76 = .ok (.iload_n 1, 1) := by decide +kernel
theorem dX11_send_77 : decode cX11_send 77 = .ok (.iaload, 1) := by decide +kernel
theorem dX11_send_78 : decode cX11_send 78 = .ok (.iload 5, 2) := by decide +kernel
theorem dX11_send_80 : decode cX11_send 80 = .ok (.invokestatic 164, 3) := by decide +kernel
theorem dX11_send_83 : decode cX11_send 83 = .ok (.istore 6, 2) := by decide +kernel
theorem dX11_send_85 : decode cX11_send 85 = .ok (.iload 4, 2) := by decide +kernel
theorem dX11_send_87 : decode cX11_send 87 = .ok (.aload_n 0, 1) := by decide +kernel
theorem dX11_send_88 : decode cX11_send 88 = .ok (.getfield 25, 3) := by decide +kernel
theorem dX11_send_91 : decode cX11_send 91 = .ok (.iload 6, 2) := by decide +kernel
theorem dX11_send_93 : decode cX11_send 93 = .ok (.iaload, 1) := by decide +kernel
theorem dX11_send_94 : decode cX11_send 94 = .ok (.if_icmp .ge 8, 3) := by decide +kernel
theorem dX11_send_97 : decode cX11_send 97 = .ok (.iload 4, 2) := by decide +kernel
theorem dX11_send_99 : decode cX11_send 99 = .ok (.goto 10, 3) := by decide +kernel
theorem dX11_send_102 : decode cX11_send 102 = .ok (.aload_n 0, 1) := by decide +kernel
theorem dX11_send_103 : decode cX11_send 103 = .ok (.getfield 25, 3) := by decide +kernel
theorem dX11_send_106 : decode cX11_send 106 = .ok (.iload 6, 2) := by decide +kernel
theorem dX11_send_108 : decode cX11_send 108 = .ok (.iaload, 1) := by decide +kernel
theorem dX11_send_109 : decode cX11_send 109 = .ok (.istore 7, 2) := by decide +kernel
theorem dX11_send_111 : decode cX11_send 111 = .ok (.iload 7, 2) := by decide +kernel
theorem dX11_send_113 : decode cX11_send 113 = .ok (.ifCond .ne 6, 3) := by decide +kernel
theorem dX11_send_116 : decode cX11_send 116 = .ok (.goto 107, 3) := by decide +kernel
theorem dX11_send_119 : decode cX11_send 119 = .ok (.aload_n 0, 1) := by decide +kernel
theorem dX11_send_120 : decode cX11_send 120 = .ok (.getfield 25, 3) := by decide +kernel
theorem dX11_send_123 : decode cX11_send 123 = .ok (.iload 6, 2) := by decide +kernel
theorem dX11_send_125 : decode cX11_send 125 = .ok (.dup2, 1) := by decide +kernel
theorem dX11_send_126 : decode cX11_send 126 = .ok (.iaload, 1) := by decide +kernel
theorem dX11_send_127 : decode cX11_send 127 = .ok (.iload 7, 2) := by decide +kernel
theorem dX11_send_129 : decode cX11_send 129 = .ok (.isub, 1) := by decide +kernel
theorem dX11_send_130 : decode cX11_send 130 = .ok (.iastore, 1) := by decide +kernel
theorem dX11_send_131 : decode cX11_send 131 = .ok (.iload 4, 2) := by decide +kernel
theorem dX11_send_133 : decode cX11_send 133 = .ok (.iload 7, 2) := by decide +kernel
theorem dX11_send_135 : decode cX11_send 135 = .ok (.isub, 1) := by decide +kernel
theorem dX11_send_136 : decode cX11_send 136 = .ok (.istore 4, 2) := by decide +kernel
theorem dX11_send_138 : decode cX11_send 138 = .ok (.aload_n 0, 1) := by decide +kernel
theorem dX11_send_139 : decode cX11_send 139 = .ok (.getfield 78, 3) := by decide +kernel
theorem dX11_send_142 : decode cX11_send 142 = .ok (.aload_n 0, 1) := by decide +kernel
theorem dX11_send_143 : decode cX11_send 143 = .ok (.getfield 344, 3) := by decide +kernel
theorem dX11_send_146 : decode cX11_send 146 = .ok (.iload_n 3, 1) := by decide +kernel
theorem dX11_send_147 : decode cX11_send 147 = .ok (.iastore, 1) := by decide +kernel
theorem dX11_send_148 : decode cX11_send 148 = .ok (.aload_n 0, 1) := by decide +kernel
theorem dX11_send_149 : decode cX11_send 149 = .ok (.getfield 81, 3) := by decide +kernel
theorem dX11_send_152 : decode cX11_send 152 = .ok (.aload_n 0, 1) := by decide +kernel
theorem dX11_send_153 : decode cX11_send 153 = .ok (.getfield 344, 3) := by decide +kernel
theorem dX11_send_156 : decode cX11_send 156 = .ok (.aload_n 0, 1) := by decide +kernel
theorem dX11_send_157 : decode cX11_send 157 = .ok (.getfield 54, 3) := by decide +kernel
theorem dX11_send_160 : decode cX11_send 160 = .ok (.iload_n 1, 1) := by decide +kernel
theorem dX11_send_161 : decode cX11_send 161 = .ok (.iaload, 1) := by decide +kernel
theorem dX11_send_162 : decode cX11_send 162 = .ok (.iastore, 1) := by decide +kernel
theorem dX11_send_163 : decode cX11_send 163 = .ok (.aload_n 0, 1) := by decide +kernel
theorem dX11_send_164 : decode cX11_send 164 = .ok (.getfield 84, 3) := by decide +kernel
theorem dX11_send_167 : decode cX11_send 167 = .ok (.aload_n 0, 1) := by decide +kernel
theorem dX11_send_168 : decode cX11_send 168 = .ok (.getfield 344, 3) := by decide +kernel
theorem dX11_send_171 : decode cX11_send 171 = .ok (.iload 5, 2) := by decide +kernel
theorem dX11_send_173 : decode cX11_send 173 = .ok (.iastore, 1) := by decide +kernel
theorem dX11_send_174 : decode cX11_send 174 = .ok (.aload_n 0, 1) := by decide +kernel
theorem dX11_send_175 : decode cX11_send 175 = .ok (.getfield 87, 3) := by decide +kernel
theorem dX11_send_178 : decode cX11_send 178 = .ok (.aload_n 0, 1) := by decide +kernel
theorem dX11_send_179 : decode cX11_send 179 = .ok (.getfield 344, 3) := by decide +kernel
theorem dX11_send_182 : decode cX11_send 182 = .ok (.iload 7, 2) := by decide +kernel
theorem dX11_send_184 : decode cX11_send 184 = .ok (.iastore, 1) := by decide +kernel
theorem dX11_send_185 : decode cX11_send 185 = .ok (.aload_n 0, 1) := by decide +kernel
theorem dX11_send_186 : decode cX11_send 186 = .ok (.getfield 90, 3) := by decide +kernel
theorem dX11_send_189 : decode cX11_send 189 = .ok (.aload_n 0, 1) := by decide +kernel
theorem dX11_send_190 : decode cX11_send 190 = .ok (.getfield 344, 3) := by decide +kernel
theorem dX11_send_193 : decode cX11_send 193 = .ok (.aload_n 0, 1) := by decide +kernel
theorem dX11_send_194 : decode cX11_send 194 = .ok (.getfield 332, 3) := by decide +kernel
theorem dX11_send_197 : decode cX11_send 197 = .ok (.aload_n 0, 1) := by decide +kernel
theorem dX11_send_198 : decode cX11_send 198 = .ok (.getfield 19, 3) := by decide +kernel
theorem dX11_send_201 : decode cX11_send 201 = .ok (.bipush 8, 2) := by decide +kernel
theorem dX11_send_203 : decode cX11_send 203 = .ok (.iload_n 2, 1) := by decide +kernel
theorem dX11_send_204 : decode cX11_send 204 = .ok (.imul, 1) := by decide +kernel
theorem dX11_send_205 : decode cX11_send 205 = .ok (.iload_n 3, 1) := by decide +kernel
theorem dX11_send_206 : decode cX11_send 206 = .ok (.iadd, 1) := by decide +kernel
theorem dX11_send_207 : decode cX11_send 207 = .ok (.iaload, 1) := by decide +kernel
theorem dX11_send_208 : decode cX11_send 208 = .ok (.invokestatic 347, 3) := by decide +kernel
theorem dX11_send_211 : decode cX11_send 211 = .ok (.iadd, 1) := by decide +kernel
theorem dX11_send_212 : decode cX11_send 212 = .ok (.iastore, 1) := by decide +kernel
theorem dX11_send_213 : decode cX11_send 213 = .ok (.aload_n 0, 1) := by decide +kernel
theorem dX11_send_214 : decode cX11_send 214 = .ok (.dup, 1) := by decide +kernel
theorem dX11_send_215 : decode cX11_send 215 = .ok (.getfield 344, 3) := by decide +kernel
theorem dX11_send_218 : decode cX11_send 218 = .ok (.iconst 1, 1) := by decide +kernel
theorem dX11_send_219 : decode cX11_send 219 = .ok (.iadd, 1) := by decide +kernel
theorem dX11_send_220 : decode cX11_send 220 = .ok (.putfield 344, 3) := by decide +kernel
theorem dX11_send_223 : decode cX11_send 223 = .ok (.iinc 5 (-1), 3) := by decide +kernel
theorem dX11_send_226 : decode cX11_send 226 = .ok (.goto (-169), 3) := by decide +kernel
theorem dX11_send_229 : decode cX11_send 229 = .ok (.return_, 1) := by decide +kernel
theorem dX11_months_0 : decode cX11_months 0 = .ok (.iload_n 1, 1) := by decide +kernel
theorem dX11_months_1 : decode cX11_months 1 = .ok (.ifCond .lt 21, 3) := by decide +kernel
theorem dX11_months_4 : decode cX11_months 4 = .ok (.iload_n 1, 1) := by decide +kernel
theorem dX11_months_5 : decode cX11_months 5 = .ok (.bipush 60, 2) := by decide +kernel
theorem dX11_months_7 : decode cX11_months 7 = .ok (.if_icmp .gt 15, 3) := by decide +kernel
theorem dX11_months_10 : decode cX11_months 10 = .ok (.aload_n 0, 1) := by decide +kernel
theorem dX11_months_11 : decode cX11_months 11 = .ok (.getfield 332, 3) := by decide +kernel
theorem dX11_months_14 : decode cX11_months 14 = .ok (.iload_n 1, 1) := by decide +kernel
theorem dX11_months_15 : decode cX11_months 15 = .ok (.iadd, 1) := by decide +kernel
theorem dX11_months_16 : decode cX11_months 16 = .ok (.sipush 2000, 3) := by decide +kernel
theorem dX11_months_19 : decode cX11_months 19 = .ok (.if_icmp .le 5, 3) := by decide +kernel
theorem dX11_months_22 : decode cX11_months 22 = .ok (.iconst (-1), 1) := by decide +kernel
theorem dX11_months_23 : decode cX11_months 23 = .ok (.ireturn, 1) := by decide +kernel
theorem dX11_months_24 : decode cX11_months 24 = .ok (.iconst 0, 1) := by decide +kernel
theorem dX11_months_25 : decode cX11_months 25 = .ok (.istore_n 2, 1) := by decide +kernel
theorem dX11_months_26 : decode cX11_months 26 = .ok (.iload_n 2, 1) := by decide +kernel
theorem dX11_months_27 : decode cX11_months 27 = .ok (.iload_n 1, 1) := by decide +kernel
theorem dX11_months_28 : decode cX11_months 28 = .ok (.if_icmp .ge 79, 3) := by decide +kernel
theorem dX11_months_31 : decode cX11_months 31 = .ok (.aload_n 0, 1) := by decide +kernel
theorem dX11_months_32 : decode cX11_months 32 = .ok (.invokevirtual 350, 3) := by decide +kernel
theorem dX11_months_35 : decode cX11_months 35 = .ok (.aload_n 0, 1) := by decide +kernel
theorem dX11_months_36 : decode cX11_months 36 = .ok (.invokevirtual 353, 3) := by decide +kernel
theorem dX11_months_39 : decode cX11_months 39 = .ok (.aload_n 0, 1) := by decide +kernel
theorem dX11_months_40 : decode cX11_months 40 = .ok (.invokevirtual 356, 3) := by decide +kernel
theorem dX11_months_43 : decode cX11_months 43 = .ok (.bipush 12, 2) := by decide +kernel
theorem dX11_months_45 : decode cX11_months 45 = .ok (.aload_n 0, 1) := by decide +kernel
theorem dX11_months_46 : decode cX11_months 46 = .ok (.getfield 255, 3) := by decide +kernel
theorem dX11_months_49 : decode cX11_months 49 = .ok (.imul, 1) := by decide +kernel
theorem dX11_months_50 : decode cX11_months 50 = .ok (.istore_n 3, 1) := by decide +kernel
theorem dX11_months_51 : decode cX11_months 51 = .ok (.iload_n 3, 1) := by decide +kernel
theorem dX11_months_52 : decode cX11_months 52 = .ok (.bipush 12, 2) := by decide +kernel
theorem dX11_months_54 : decode cX11_months 54 = .ok (.aload_n 0, 1) := by decide +kernel
theorem dX11_months_55 : decode cX11_months 55 = .ok (.getfield 255, 3) := by decide +kernel
theorem dX11_months_58 : decode cX11_months 58 = .ok (.imul, 1) := by decide +kernel
theorem dX11_months_59 : decode cX11_months 59 = .ok (.aload_n 0, 1) := by decide +kernel
theorem dX11_months_60 : decode cX11_months 60 = .ok (.getfield 42, 3) := by decide +kernel
theorem dX11_months_63 : decode cX11_months 63 = .ok (.aload_n 0, 1) := by decide +kernel
theorem dX11_months_64 : decode cX11_months 64 = .ok (.getfield 255, 3) := by decide +kernel
theorem dX11_months_67 : decode cX11_months 67 = .ok (.iaload, 1) := by decide +kernel
theorem dX11_months_68 : decode cX11_months 68 = .ok (.iadd, 1) := by decide +kernel
theorem dX11_months_69 : decode cX11_months 69 = .ok (.if_icmp .ge 22, 3) := by decide +kernel
theorem dX11_months_72 : decode cX11_months 72 = .ok (.aload_n 0, 1) := by decide +kernel
theorem dX11_months_73 : decode cX11_months 73 = .ok (.iload_n 3, 1) := by decide +kernel
theorem dX11_months_74 : decode cX11_months 74 = .ok (.invokevirtual 359, 3) := by decide +kernel
theorem dX11_months_77 : decode cX11_months 77 = .ok (.ifCond .eq 8, 3) := by decide +kernel
theorem dX11_months_80 : decode cX11_months 80 = .ok (.aload_n 0, 1) := by decide +kernel
theorem dX11_months_81 : decode cX11_months 81 = .ok (.iload_n 3, 1) := by decide +kernel
theorem dX11_months_82 : decode cX11_months 82 = .ok (.invokevirtual 362, 3) := by decide +kernel
theorem dX11_months_85 : decode cX11_months 85 = .ok (.iinc 3 1, 3) := by decide +kernel
theorem dX11_months_88 : decode cX11_months 88 = .ok (.goto (-37), 3) := by decide +kernel
theorem dX11_months_91 : decode cX11_months 91 = .ok (.aload_n 0, 1) := by decide +kernel
theorem dX11_months_92 : decode cX11_months 92 = .ok (.dup, 1) := by decide +kernel
theorem dX11_months_93 : decode cX11_months 93 = .ok (.getfield 332, 3) := by decide +kernel
theorem dX11_months_96 : decode cX11_months 96 = .ok (.iconst 1, 1) := by decide +kernel
theorem dX11_months_97 : decode cX11_months 97 = .ok (.iadd, 1) := by decide +kernel
theorem dX11_months_98 : decode cX11_months 98 = .ok (.putfield 332, 3) := by decide +kernel
theorem dX11_months_101 : decode cX11_months 101 = .ok (.iinc 2 1, 3) := by decide +kernel
theorem dX11_months_104 : decode cX11_months 104 = .ok (.goto (-78), 3) := by decide +kernel
theorem dX11_months_107 : decode cX11_months 107 = .ok (.aload_n 0, 1) := by decide +kernel
theorem dX11_months_108 : decode cX11_months 108 = .ok (.getfield 332, 3) := by decide +kernel
theorem dX11_months_111 : decode cX11_months 111 = .ok (.ireturn, 1) := by decide +kernel
theorem dX11_sum_0 : decode cX11_sum 0 = .ok (.iload_n 1, 1) := by decide +kernel
theorem dX11_sum_1 : decode cX11_sum 1 = .ok (.ifCond .lt 8, 3) := by decide +kernel
theorem dX11_sum_4 : decode cX11_sum 4 = .ok (.iload_n 1, 1) := by decide +kernel
theorem dX11_sum_5 : decode cX11_sum 5 = .ok (.iconst 5, 1) := by decide +kernel
theorem dX11_sum_6 : decode cX11_sum 6 = .ok (.if_icmp .le 5, 3) := by decide +kernel
theorem dX11_sum_9 : decode cX11_sum 9 = .ok (.iconst (-1), 1) := by decide +kernel
theorem dX11_sum_10 : decode cX11_sum 10 = .ok (.ireturn, 1) := by decide +kernel
theorem dX11_sum_11 : decode cX11_sum 11 = .ok (.iload_n 1, 1) := by decide +kernel
theorem dX11_sum_12 : decode cX11_sum 12 = .ok (.iconst 4, 1) := by decide +kernel
theorem dX11_sum_13 : decode cX11_sum 13 = .ok (.if_icmp .ne 8, 3) := by decide +kernel
theorem dX11_sum_16 : decode cX11_sum 16 = .ok (.aload_n 0, 1) := by decide +kernel
theorem dX11_sum_17 : decode cX11_sum 17 = .ok (.getfield 344, 3) := by decide +kernel
theorem dX11_sum_20 : decode cX11_sum 20 = .ok (.ireturn, 1) := by decide +kernel
theorem dX11_sum_21 : decode cX11_sum 21 = .ok (.iconst 0, 1) := by decide +kernel
theorem dX11_sum_22 : decode cX11_sum 22 = .ok (.istore_n 2, 1) := by decide +kernel
theorem dX11_sum_23 : decode cX11_sum 23 = .ok (.iconst 0, 1) := by decide +kernel
theorem dX11_sum_24 : decode cX11_sum 24 = .ok (.istore_n 3, 1) := by decide +kernel
theorem dX11_sum_25 : decode cX11_sum 25 = .ok (.iload_n 3, 1) := by decide +kernel
theorem dX11_sum_26 : decode cX11_sum 26 = .ok (.aload_n 0, 1) := by decide +kernel
theorem dX11_sum_27 : decode cX11_sum 27 = .ok (.getfield 344, 3) := by decide +kernel
theorem dX11_sum_30 : decode cX11_sum 30 = .ok (.if_icmp .ge 18, 3) := by decide +kernel
theorem dX11_sum_33 : decode cX11_sum 33 = .ok (.iload_n 2, 1) := by decide +kernel
theorem dX11_sum_34 : decode cX11_sum 34 = .ok (.aload_n 0, 1) := by decide +kernel
theorem dX11_sum_35 : decode cX11_sum 35 = .ok (.getfield 87, 3) := by decide +kernel
theorem dX11_sum_38 : decode cX11_sum 38 = .ok (.iload_n 3, 1) := by decide +kernel
theorem dX11_sum_39 : decode cX11_sum 39 = .ok (.iaload, 1) := by decide +kernel
theorem dX11_sum_40 : decode cX11_sum 40 = .ok (.iadd, 1) := by decide +kernel
theorem dX11_sum_41 : decode cX11_sum 41 = .ok (.istore_n 2, 1) := by decide +kernel
theorem dX11_sum_42 : decode cX11_sum 42 = .ok (.iinc 3 1, 3) := by decide +kernel
theorem dX11_sum_45 : decode cX11_sum 45 = .ok (.goto (-20), 3) := by decide +kernel
theorem dX11_sum_48 : decode cX11_sum 48 = .ok (.iload_n 1, 1) := by decide +kernel
theorem dX11_sum_49 : decode cX11_sum 49 = .ok (.iconst 3, 1) := by decide +kernel
theorem dX11_sum_50 : decode cX11_sum 50 = .ok (.if_icmp .ne 7, 3) := by decide +kernel
theorem dX11_sum_53 : decode cX11_sum 53 = .ok (.iload_n 2, 1) := by decide +kernel
theorem dX11_sum_54 : decode cX11_sum 54 = .ok (.goto 9, 3) := by decide +kernel
theorem dX11_sum_57 : decode cX11_sum 57 = .ok (.aload_n 0, 1) := by decide +kernel
theorem dX11_sum_58 : decode cX11_sum 58 = .ok (.getfield 28, 3) := by decide +kernel
theorem dX11_sum_61 : decode cX11_sum 61 = .ok (.iload_n 1, 1) := by decide +kernel
theorem dX11_sum_62 : decode cX11_sum 62 = .ok (.iaload, 1) := by decide +kernel
theorem dX11_sum_63 : decode cX11_sum 63 = .ok (.ireturn, 1) := by decide +kernel
theorem dX11_feast_0 : decode cX11_feast 0 = .ok (.aload_n 0, 1) := by decide +kernel
theorem dX11_feast_1 : decode cX11_feast 1 = .ok (.iload_n 1, 1) := by decide +kernel
theorem dX11_feast_2 : decode cX11_feast 2 = .ok (.invokevirtual 157, 3) := by decide +kernel
theorem dX11_feast_5 : decode cX11_feast 5 = .ok (.ifCond .eq 48, 3) := by decide +kernel
theorem dX11_feast_8 : decode cX11_feast 8 = .ok (.iload_n 2, 1) := by decide +kernel
theorem dX11_feast_9 : decode cX11_feast 9 = .ok (.aload_n 0, 1) := by decide +kernel
theorem dX11_feast_10 : decode cX11_feast 10 = .ok (.getfield 332, 3) := by decide +kernel
theorem dX11_feast_13 : decode cX11_feast 13 = .ok (.if_icmp .lt 40, 3) := by decide +kernel
theorem dX11_feast_16 : decode cX11_feast 16 = .ok (.iload_n 2, 1) := by decide +kernel
theorem dX11_feast_17 : decode cX11_feast 17 = .ok (.sipush 2000, 3) := by decide +kernel
theorem dX11_feast_20 : decode cX11_feast 20 = .ok (.if_icmp .gt 33, 3) := by decide +kernel
theorem dX11_feast_23 : decode cX11_feast 23 = .ok (.iload_n 3, 1) := by decide +kernel
theorem dX11_feast_24 : decode cX11_feast 24 = .ok (.invokestatic 161, 3) := by decide +kernel
theorem dX11_feast_27 : decode cX11_feast 27 = .ok (.ifCond .eq 26, 3) := by decide +kernel
theorem dX11_feast_30 : decode cX11_feast 30 = .ok (.iload 4, 2) := by decide +kernel
theorem dX11_feast_32 : decode cX11_feast 32 = .ok (.iconst 1, 1) := by decide +kernel
theorem dX11_feast_33 : decode cX11_feast 33 = .ok (.if_icmp .lt 20, 3) := by decide +kernel
theorem dX11_feast_36 : decode cX11_feast 36 = .ok (.iload 4, 2) := by decide +kernel
theorem dX11_feast_38 : decode cX11_feast 38 = .ok (.sipush 10000, 3) := by decide +kernel
theorem dX11_feast_41 : decode cX11_feast 41 = .ok (.if_icmp .gt 12, 3) := by decide +kernel
theorem dX11_feast_44 : decode cX11_feast 44 = .ok (.aload_n 0, 1) := by decide +kernel
theorem dX11_feast_45 : decode cX11_feast 45 = .ok (.getfield 365, 3) := by decide +kernel
theorem dX11_feast_48 : decode cX11_feast 48 = .ok (.bipush 10, 2) := by decide +kernel
theorem dX11_feast_50 : decode cX11_feast 50 = .ok (.if_icmp .ne 5, 3) := by decide +kernel
theorem dX11_feast_53 : decode cX11_feast 53 = .ok (.iconst (-1), 1) := by decide +kernel
theorem dX11_feast_54 : decode cX11_feast 54 = .ok (.ireturn, 1) := by decide +kernel
theorem dX11_feast_55 : decode cX11_feast 55 = .ok (.aload_n 0, 1) := by decide +kernel
theorem dX11_feast_56 : decode cX11_feast 56 = .ok (.getfield 93, 3) := by decide +kernel
theorem dX11_feast_59 : decode cX11_feast 59 = .ok (.aload_n 0, 1) := by decide +kernel
theorem dX11_feast_60 : decode cX11_feast 60 = .ok (.getfield 365, 3) := by decide +kernel
theorem dX11_feast_63 : decode cX11_feast 63 = .ok (.iload_n 1, 1) := by decide +kernel
theorem dX11_feast_64 : decode cX11_feast 64 = .ok (.iastore, 1) := by decide +kernel
theorem dX11_feast_65 : decode cX11_feast 65 = .ok (.aload_n 0, 1) := by decide +kernel
theorem dX11_feast_66 : decode cX11_feast 66 = .ok (.getfield 96, 3) := by decide +kernel
theorem dX11_feast_69 : decode cX11_feast 69 = .ok (.aload_n 0, 1) := by decide +kernel
theorem dX11_feast_70 : decode cX11_feast 70 = .ok (.getfield 365, 3) := by decide +kernel
theorem dX11_feast_73 : decode cX11_feast 73 = .ok (.iload_n 2, 1) := by decide +kernel
theorem dX11_feast_74 : decode cX11_feast 74 = .ok (.iastore, 1) := by decide +kernel
theorem dX11_feast_75 : decode cX11_feast 75 = .ok (.aload_n 0, 1) := by decide +kernel
theorem dX11_feast_76 : decode cX11_feast 76 = .ok (.getfield 99, 3) := by decide +kernel
theorem dX11_feast_79 : decode cX11_feast 79 = .ok (.aload_n 0, 1) := by decide +kernel
theorem dX11_feast_80 : decode cX11_feast 80 = .ok (.getfield 365, 3) := by decide +kernel
theorem dX11_feast_83 : decode cX11_feast 83 = .ok (.iload_n 3, 1) := by decide +kernel
theorem dX11_feast_84 : decode cX11_feast 84 = .ok (.iastore, 1) := by decide +kernel
theorem dX11_feast_85 : decode cX11_feast 85 = .ok (.aload_n 0, 1) := by decide +kernel
theorem dX11_feast_86 : decode cX11_feast 86 = .ok (.getfield 102, 3) := by decide +kernel
theorem dX11_feast_89 : decode cX11_feast 89 = .ok (.aload_n 0, 1) := by decide +kernel
theorem dX11_feast_90 : decode cX11_feast 90 = .ok (.getfield 365, 3) := by decide +kernel
theorem dX11_feast_93 : decode cX11_feast 93 = .ok (.iload 4, 2) := by decide +kernel
theorem dX11_feast_95 : decode cX11_feast 95 = .ok (.iastore, 1) := by decide +kernel
theorem dX11_feast_96 : decode cX11_feast 96 = .ok (.aload_n 0, 1) := by decide +kernel
theorem dX11_feast_97 : decode cX11_feast 97 = .ok (.dup, 1) := by decide +kernel
theorem dX11_feast_98 : decode cX11_feast 98 = .ok (.getfield 365, 3) := by decide +kernel
theorem dX11_feast_101 : decode cX11_feast 101 = .ok (.iconst 1, 1) := by decide +kernel
theorem dX11_feast_102 : decode cX11_feast 102 = .ok (.iadd, 1) := by decide +kernel
theorem dX11_feast_103 : decode cX11_feast 103 = .ok (.putfield 365, 3) := by decide +kernel
theorem dX11_feast_106 : decode cX11_feast 106 = .ok (.aload_n 0, 1) := by decide +kernel
theorem dX11_feast_107 : decode cX11_feast 107 = .ok (.getfield 365, 3) := by decide +kernel
theorem dX11_feast_110 : decode cX11_feast 110 = .ok (.iconst 1, 1) := by decide +kernel
theorem dX11_feast_111 : decode cX11_feast 111 = .ok (.isub, 1) := by decide +kernel
theorem dX11_feast_112 : decode cX11_feast 112 = .ok (.ireturn, 1) := by decide +kernel
theorem dX11_cancel_0 : decode cX11_cancel 0 = .ok (.aload_n 0, 1) := by decide +kernel
theorem dX11_cancel_1 : decode cX11_cancel 1 = .ok (.getfield 365, 3) := by decide +kernel
theorem dX11_cancel_4 : decode cX11_cancel 4 = .ok (.ifCond .ne 5, 3) := by decide +kernel
theorem dX11_cancel_7 : decode cX11_cancel 7 = .ok (.iconst 0, 1) := by decide +kernel
theorem dX11_cancel_8 : decode cX11_cancel 8 = .ok (.ireturn, 1) := by decide +kernel
theorem dX11_cancel_9 : decode cX11_cancel 9 = .ok (.aload_n 0, 1) := by decide +kernel
theorem dX11_cancel_10 : decode cX11_cancel 10 = .ok (.dup, 1) := by decide +kernel
theorem dX11_cancel_11 : decode cX11_cancel 11 = .ok (.getfield 365, 3) := by decide +kernel
theorem dX11_cancel_14 : decode cX11_cancel 14 = .ok (.iconst 1, 1) := by decide +kernel
theorem dX11_cancel_15 : decode cX11_cancel 15 = .ok (.isub, 1) := by decide +kernel
theorem dX11_cancel_16 : decode cX11_cancel 16 = .ok (.putfield 365, 3) := by decide +kernel
theorem dX11_cancel_19 : decode cX11_cancel 19 = .ok (.iconst 1, 1) := by decide +kernel
theorem dX11_cancel_20 : decode cX11_cancel 20 = .ok (.ireturn, 1) := by decide +kernel
theorem dX11_canGo_0 : decode cX11_canGo 0 = .ok (.aload_n 0, 1) := by decide +kernel
theorem dX11_canGo_1 : decode cX11_canGo 1 = .ok (.getfield 19, 3) := by decide +kernel
theorem dX11_canGo_4 : decode cX11_canGo 4 = .ok (.bipush 8, 2) := by decide +kernel
theorem dX11_canGo_6 : decode cX11_canGo 6 = .ok (.iload_n 1, 1) := by decide +kernel
theorem dX11_canGo_7 : decode cX11_canGo 7 = .ok (.bipush 61, 2) := by decide +kernel
theorem dX11_canGo_9 : decode cX11_canGo 9 = .ok (.idiv, 1) := by decide +kernel
theorem dX11_canGo_10 : decode cX11_canGo 10 = .ok (.imul, 1) := by decide +kernel
theorem dX11_canGo_11 : decode cX11_canGo 11 = .ok (.aload_n 0, 1) := by decide +kernel
theorem dX11_canGo_12 : decode cX11_canGo 12 = .ok (.getfield 93, 3) := by decide +kernel
theorem dX11_canGo_15 : decode cX11_canGo 15 = .ok (.iload_n 2, 1) := by decide +kernel
theorem dX11_canGo_16 : decode cX11_canGo 16 = .ok (.iaload, 1) := by decide +kernel
theorem dX11_canGo_17 : decode cX11_canGo 17 = .ok (.iadd, 1) := by decide +kernel
theorem dX11_canGo_18 : decode cX11_canGo 18 = .ok (.iaload, 1) := by decide +kernel
theorem dX11_canGo_19 : decode cX11_canGo 19 = .ok (.istore_n 3, 1) := by decide +kernel
theorem dX11_canGo_20 : decode cX11_canGo 20 = .ok (.iload_n 3, 1) := by decide +kernel
theorem dX11_canGo_21 : decode cX11_canGo 21 = .ok (.ifCond .lt 55, 3) := by decide +kernel
theorem dX11_canGo_24 : decode cX11_canGo 24 = .ok (.aload_n 0, 1) := by decide +kernel
theorem dX11_canGo_25 : decode cX11_canGo 25 = .ok (.getfield 332, 3) := by decide +kernel
theorem dX11_canGo_28 : decode cX11_canGo 28 = .ok (.iload_n 3, 1) := by decide +kernel
theorem dX11_canGo_29 : decode cX11_canGo 29 = .ok (.invokestatic 347, 3) := by decide +kernel
theorem dX11_canGo_32 : decode cX11_canGo 32 = .ok (.iadd, 1) := by decide +kernel
theorem dX11_canGo_33 : decode cX11_canGo 33 = .ok (.aload_n 0, 1) := by decide +kernel
theorem dX11_canGo_34 : decode cX11_canGo 34 = .ok (.getfield 96, 3) := by decide +kernel
theorem dX11_canGo_37 : decode cX11_canGo 37 = .ok (.iload_n 2, 1) := by decide +kernel
theorem dX11_canGo_38 : decode cX11_canGo 38 = .ok (.iaload, 1) := by decide +kernel
theorem dX11_canGo_39 : decode cX11_canGo 39 = .ok (.if_icmp .gt 37, 3) := by decide +kernel
theorem dX11_canGo_42 : decode cX11_canGo 42 = .ok (.iload_n 1, 1) := by decide +kernel
theorem dX11_canGo_43 : decode cX11_canGo 43 = .ok (.bipush 61, 2) := by decide +kernel
theorem dX11_canGo_45 : decode cX11_canGo 45 = .ok (.irem, 1) := by decide +kernel
theorem dX11_canGo_46 : decode cX11_canGo 46 = .ok (.aload_n 0, 1) := by decide +kernel
theorem dX11_canGo_47 : decode cX11_canGo 47 = .ok (.getfield 96, 3) := by decide +kernel
theorem dX11_canGo_50 : decode cX11_canGo 50 = .ok (.iload_n 2, 1) := by decide +kernel
theorem dX11_canGo_51 : decode cX11_canGo 51 = .ok (.iaload, 1) := by decide +kernel
theorem dX11_canGo_52 : decode cX11_canGo 52 = .ok (.iadd, 1) := by decide +kernel
theorem dX11_canGo_53 : decode cX11_canGo 53 = .ok (.aload_n 0, 1) := by decide +kernel
theorem dX11_canGo_54 : decode cX11_canGo 54 = .ok (.getfield 332, 3) := by decide +kernel
theorem dX11_canGo_57 : decode cX11_canGo 57 = .ok (.isub, 1) := by decide +kernel
theorem dX11_canGo_58 : decode cX11_canGo 58 = .ok (.aload_n 0, 1) := by decide +kernel
theorem dX11_canGo_59 : decode cX11_canGo 59 = .ok (.getfield 22, 3) := by decide +kernel
theorem dX11_canGo_62 : decode cX11_canGo 62 = .ok (.aload_n 0, 1) := by decide +kernel
theorem dX11_canGo_63 : decode cX11_canGo 63 = .ok (.getfield 99, 3) := by decide +kernel
theorem dX11_canGo_66 : decode cX11_canGo 66 = .ok (.iload_n 2, 1) := by decide +kernel
theorem dX11_canGo_67 : decode cX11_canGo 67 = .ok (.iaload, 1) := by decide +kernel
theorem dX11_canGo_68 : decode cX11_canGo 68 = .ok (.iaload, 1) := by decide +kernel
theorem dX11_canGo_69 : decode cX11_canGo 69 = .ok (.if_icmp .gt 7, 3) := by decide +kernel
theorem dX11_canGo_72 : decode cX11_canGo 72 = .ok (.iconst 1, 1) := by decide +kernel
theorem dX11_canGo_73 : decode cX11_canGo 73 = .ok (.goto 4, 3) := by decide +kernel
theorem dX11_canGo_76 : decode cX11_canGo 76 = .ok (.iconst 0, 1) := by decide +kernel
theorem dX11_canGo_77 : decode cX11_canGo 77 = .ok (.ireturn, 1) := by decide +kernel
theorem dX11_daysOf_0 : decode cX11_daysOf 0 = .ok (.aload_n 0, 1) := by decide +kernel
theorem dX11_daysOf_1 : decode cX11_daysOf 1 = .ok (.getfield 19, 3) := by decide +kernel
theorem dX11_daysOf_4 : decode cX11_daysOf 4 = .ok (.bipush 8, 2) := by decide +kernel
theorem dX11_daysOf_6 : decode cX11_daysOf 6 = .ok (.iload_n 1, 1) := by decide +kernel
theorem dX11_daysOf_7 : decode cX11_daysOf 7 = .ok (.bipush 61, 2) := by decide +kernel
theorem dX11_daysOf_9 : decode cX11_daysOf 9 = .ok (.idiv, 1) := by decide +kernel
theorem dX11_daysOf_10 : decode cX11_daysOf 10 = .ok (.imul, 1) := by decide +kernel
theorem dX11_daysOf_11 : decode cX11_daysOf 11 = .ok (.aload_n 0, 1) := by decide +kernel
theorem dX11_daysOf_12 : decode cX11_daysOf 12 = .ok (.getfield 93, 3) := by decide +kernel
theorem dX11_daysOf_15 : decode cX11_daysOf 15 = .ok (.iload_n 2, 1) := by decide +kernel
theorem dX11_daysOf_16 : decode cX11_daysOf 16 = .ok (.iaload, 1) := by decide +kernel
theorem dX11_daysOf_17 : decode cX11_daysOf 17 = .ok (.iadd, 1) := by decide +kernel
theorem dX11_daysOf_18 : decode cX11_daysOf 18 = .ok (.iaload, 1) := by decide +kernel
theorem dX11_daysOf_19 : decode cX11_daysOf 19 = .ok (.ireturn, 1) := by decide +kernel
theorem dX11_feedAll_0 : decode cX11_feedAll 0 = .ok (.aload_n 0, 1) := by decide +kernel
theorem dX11_feedAll_1 : decode cX11_feedAll 1 = .ok (.iconst 0, 1) := by decide +kernel
theorem dX11_feedAll_2 : decode cX11_feedAll 2 = .ok (.putfield 368, 3) := by decide +kernel
theorem dX11_feedAll_5 : decode cX11_feedAll 5 = .ok (.aload_n 0, 1) := by decide +kernel
theorem dX11_feedAll_6 : decode cX11_feedAll 6 = .ok (.iconst 0, 1) := by decide +kernel
theorem dX11_feedAll_7 : decode cX11_feedAll 7 = .ok (.putfield 371, 3) := by decide +kernel
theorem dX11_feedAll_10 : decode cX11_feedAll 10 = .ok (.iconst 0, 1) := by decide +kernel
theorem dX11_feedAll_11 : decode cX11_feedAll 11 = .ok (.istore_n 1, 1) := by decide +kernel
theorem dX11_feedAll_12 : decode cX11_feedAll 12 = .ok (.iload_n 1, 1) := by decide +kernel
theorem dX11_feedAll_13 : decode cX11_feedAll 13 = .ok (.iconst 3, 1) := by decide +kernel
theorem dX11_feedAll_14 : decode cX11_feedAll 14 = .ok (.if_icmp .ge 134, 3) := by decide +kernel
theorem dX11_feedAll_17 : decode cX11_feedAll 17 = .ok (.iconst 0, 1) := by decide +kernel
theorem dX11_feedAll_18 : decode cX11_feedAll 18 = .ok (.istore_n 2, 1) := by decide +kernel
theorem dX11_feedAll_19 : decode cX11_feedAll 19 = .ok (.iload_n 2, 1) := by decide +kernel
theorem dX11_feedAll_20 : decode cX11_feedAll 20 = .ok (.bipush 61, 2) := by decide +kernel
theorem dX11_feedAll_22 : decode cX11_feedAll 22 = .ok (.aload_n 0, 1) := by decide +kernel
theorem dX11_feedAll_23 : decode cX11_feedAll 23 = .ok (.getfield 153, 3) := by decide +kernel
theorem dX11_feedAll_26 : decode cX11_feedAll 26 = .ok (.imul, 1) := by decide +kernel
theorem dX11_feedAll_27 : decode cX11_feedAll 27 = .ok (.if_icmp .ge 58, 3) := by decide +kernel
theorem dX11_feedAll_30 : decode cX11_feedAll 30 = .ok (.aload_n 0, 1) := by decide +kernel
theorem dX11_feedAll_31 : decode cX11_feedAll 31 = .ok (.getfield 105, 3) := by decide +kernel
theorem dX11_feedAll_34 : decode cX11_feedAll 34 = .ok (.iload_n 2, 1) := by decide +kernel
theorem dX11_feedAll_35 : decode cX11_feedAll 35 = .ok (.aload_n 0, 1) := by decide +kernel
theorem dX11_feedAll_36 : decode cX11_feedAll 36 = .ok (.getfield 25, 3) := by decide +kernel
theorem dX11_feedAll_39 : decode cX11_feedAll 39 = .ok (.iload_n 2, 1) := by decide +kernel
theorem dX11_feedAll_40 : decode cX11_feedAll 40 = .ok (.bipush 61, 2) := by decide +kernel
theorem dX11_feedAll_42 : decode cX11_feedAll 42 = .ok (.idiv, 1) := by decide +kernel
theorem dX11_feedAll_43 : decode cX11_feedAll 43 = .ok (.iload_n 1, 1) := by decide +kernel
theorem dX11_feedAll_44 : decode cX11_feedAll 44 = .ok (.iload_n 2, 1) := by decide +kernel
theorem dX11_feedAll_45 : decode cX11_feedAll 45 = .ok (.bipush 61, 2) := by decide +kernel
theorem dX11_feedAll_47 : decode cX11_feedAll 47 = .ok (.irem, 1) := by decide +kernel
theorem dX11_feedAll_48 : decode cX11_feedAll 48 = .ok (.invokestatic 164, 3) := by decide +kernel
theorem dX11_feedAll_51 : decode cX11_feedAll 51 = .ok (.iaload, 1) := by decide +kernel
theorem dX11_feedAll_52 : decode cX11_feedAll 52 = .ok (.iastore, 1) := by decide +kernel
theorem dX11_feedAll_53 : decode cX11_feedAll 53 = .ok (.iconst 0, 1) := by decide +kernel
theorem dX11_feedAll_54 : decode cX11_feedAll 54 = .ok (.istore_n 3, 1) := by decide +kernel
theorem dX11_feedAll_55 : decode cX11_feedAll 55 = .ok (.iload_n 3, 1) := by decide +kernel
theorem dX11_feedAll_56 : decode cX11_feedAll 56 = .ok (.bipush 10, 2) := by decide +kernel
theorem dX11_feedAll_58 : decode cX11_feedAll 58 = .ok (.if_icmp .ge 21, 3) := by decide +kernel
theorem dX11_feedAll_61 : decode cX11_feedAll 61 = .ok (.aload_n 0, 1) := by decide +kernel
theorem dX11_feedAll_62 : decode cX11_feedAll 62 = .ok (.getfield 108, 3) := by decide +kernel
theorem dX11_feedAll_65 : decode cX11_feedAll 65 = .ok (.bipush 10, 2) := by decide +kernel
theorem dX11_feedAll_67 : decode cX11_feedAll 67 = .ok (.iload_n 2, 1) := by decide +kernel
theorem dX11_feedAll_68 : decode cX11_feedAll 68 = .ok (.imul, 1) := by decide +kernel
theorem dX11_feedAll_69 : decode cX11_feedAll 69 = .ok (.iload_n 3, 1) := by decide +kernel
theorem dX11_feedAll_70 : decode cX11_feedAll 70 = .ok (.iadd, 1) := by decide +kernel
theorem dX11_feedAll_71 : decode cX11_feedAll 71 = .ok (.iconst 0, 1) := by decide +kernel

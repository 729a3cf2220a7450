theorem dX11_readLine_59 : decode cX11_readLine 59 = .ok (.aload_n 0, 1) := by decide +kernel
theorem dX11_readLine_60 : decode cX11_readLine 60 = .ok (.getfield 258, 3) := by decide +kernel
theorem dX11_readLine_63 : decode cX11_readLine 63 = .ok (.iaload, 1) := by decide +kernel
theorem dX11_readLine_64 : decode cX11_readLine 64 = .ok (.iadd, 1) := by decide +kernel
theorem dX11_readLine_65 : decode cX11_readLine 65 = .ok (.istore_n 2, 1) := by decide +kernel
theorem dX11_readLine_66 : decode cX11_readLine 66 = .ok (.aload_n 0, 1) := by decide +kernel
theorem dX11_readLine_67 : decode cX11_readLine 67 = .ok (.getfield 45, 3) := by decide +kernel
theorem dX11_readLine_70 : decode cX11_readLine 70 = .ok (.iload_n 2, 1) := by decide +kernel
theorem dX11_readLine_71 : decode cX11_readLine 71 = .ok (.aload_n 0, 1) := by decide +kernel
theorem dX11_readLine_72 : decode cX11_readLine 72 = .ok (.getfield 261, 3) := by decide +kernel
theorem dX11_readLine_75 : decode cX11_readLine 75 = .ok (.iastore, 1) := by decide +kernel
theorem dX11_readLine_76 : decode cX11_readLine 76 = .ok (.iload_n 1, 1) := by decide +kernel
theorem dX11_readLine_77 : decode cX11_readLine 77 = .ok (.ifCond .eq 11, 3) := by decide +kernel
theorem dX11_readLine_80 : decode cX11_readLine 80 = .ok (.aload_n 0, 1) := by decide +kernel
theorem dX11_readLine_81 : decode cX11_readLine 81 = .ok (.invokevirtual 228, 3) := by decide +kernel
theorem dX11_readLine_84 : decode cX11_readLine 84 = .ok (.aload_n 0, 1) := by decide +kernel
theorem dX11_readLine_85 : decode cX11_readLine 85 = .ok (.invokevirtual 274, 3) := by decide +kernel
theorem dX11_readLine_88 : decode cX11_readLine 88 = .ok (.aload_n 0, 1) := by decide +kernel
theorem dX11_readLine_89 : decode cX11_readLine 89 = .ok (.getfield 48, 3) := by decide +kernel
theorem dX11_readLine_92 : decode cX11_readLine 92 = .ok (.iload_n 2, 1) := by decide +kernel
theorem dX11_readLine_93 : decode cX11_readLine 93 = .ok (.aload_n 0, 1) := by decide +kernel
theorem dX11_readLine_94 : decode cX11_readLine 94 = .ok (.getfield 261, 3) := by decide +kernel
theorem dX11_readLine_97 : decode cX11_readLine 97 = .ok (.iastore, 1) := by decide +kernel
theorem dX11_readLine_98 : decode cX11_readLine 98 = .ok (.aload_n 0, 1) := by decide +kernel
theorem dX11_readLine_99 : decode cX11_readLine 99 = .ok (.aload_n 0, 1) := by decide +kernel
theorem dX11_readLine_100 : decode cX11_readLine 100 = .ok (.ldc2_w 272, 3) := by decide +kernel
theorem dX11_readLine_103 : decode cX11_readLine 103 = .ok (.invokevirtual 236, 3) := by decide +kernel
theorem dX11_readLine_106 : decode cX11_readLine 106 = .ok (.invokevirtual 248, 3) := by decide +kernel
theorem dX11_readLine_109 : decode cX11_readLine 109 = .ok (.aload_n 0, 1) := by decide +kernel
theorem dX11_readLine_110 : decode cX11_readLine 110 = .ok (.getfield 51, 3) := by decide +kernel
theorem dX11_readLine_113 : decode cX11_readLine 113 = .ok (.iload_n 2, 1) := by decide +kernel
theorem dX11_readLine_114 : decode cX11_readLine 114 = .ok (.aload_n 0, 1) := by decide +kernel
theorem dX11_readLine_115 : decode cX11_readLine 115 = .ok (.iconst 3, 1) := by decide +kernel
theorem dX11_readLine_116 : decode cX11_readLine 116 = .ok (.invokevirtual 277, 3) := by decide +kernel
theorem dX11_readLine_119 : decode cX11_readLine 119 = .ok (.iastore, 1) := by decide +kernel
theorem dX11_readLine_120 : decode cX11_readLine 120 = .ok (.aload_n 0, 1) := by decide +kernel
theorem dX11_readLine_121 : decode cX11_readLine 121 = .ok (.getfield 54, 3) := by decide +kernel
theorem dX11_readLine_124 : decode cX11_readLine 124 = .ok (.iload_n 2, 1) := by decide +kernel
theorem dX11_readLine_125 : decode cX11_readLine 125 = .ok (.aload_n 0, 1) := by decide +kernel
theorem dX11_readLine_126 : decode cX11_readLine 126 = .ok (.invokevirtual 280, 3) := by decide +kernel
theorem dX11_readLine_129 : decode cX11_readLine 129 = .ok (.iastore, 1) := by decide +kernel
theorem dX11_readLine_130 : decode cX11_readLine 130 = .ok (.aload_n 0, 1) := by decide +kernel
theorem dX11_readLine_131 : decode cX11_readLine 131 = .ok (.aload_n 0, 1) := by decide +kernel
theorem dX11_readLine_132 : decode cX11_readLine 132 = .ok (.ldc2_w 283, 3) := by decide +kernel
theorem dX11_readLine_135 : decode cX11_readLine 135 = .ok (.invokevirtual 236, 3) := by decide +kernel
theorem dX11_readLine_138 : decode cX11_readLine 138 = .ok (.invokevirtual 248, 3) := by decide +kernel
theorem dX11_readLine_141 : decode cX11_readLine 141 = .ok (.aload_n 0, 1) := by decide +kernel
theorem dX11_readLine_142 : decode cX11_readLine 142 = .ok (.getfield 57, 3) := by decide +kernel
theorem dX11_readLine_145 : decode cX11_readLine 145 = .ok (.iload_n 2, 1) := by decide +kernel
theorem dX11_readLine_146 : decode cX11_readLine 146 = .ok (.aload_n 0, 1) := by decide +kernel
theorem dX11_readLine_147 : decode cX11_readLine 147 = .ok (.iconst 4, 1) := by decide +kernel
theorem dX11_readLine_148 : decode cX11_readLine 148 = .ok (.invokevirtual 277, 3) := by decide +kernel
theorem dX11_readLine_151 : decode cX11_readLine 151 = .ok (.iastore, 1) := by decide +kernel
theorem dX11_readLine_152 : decode cX11_readLine 152 = .ok (.aload_n 0, 1) := by decide +kernel
theorem dX11_readLine_153 : decode cX11_readLine 153 = .ok (.aload_n 0, 1) := by decide +kernel
theorem dX11_readLine_154 : decode cX11_readLine 154 = .ok (.ldc2_w 285, 3) := by decide +kernel
theorem dX11_readLine_157 : decode cX11_readLine 157 = .ok (.invokevirtual 236, 3) := by decide +kernel
theorem dX11_readLine_160 : decode cX11_readLine 160 = .ok (.invokevirtual 248, 3) := by decide +kernel
theorem dX11_readLine_163 : decode cX11_readLine 163 = .ok (.aload_n 0, 1) := by decide +kernel
theorem dX11_readLine_164 : decode cX11_readLine 164 = .ok (.invokevirtual 224, 3) := by decide +kernel
theorem dX11_readLine_167 : decode cX11_readLine 167 = .ok (.ifCond .eq 33, 3) := by decide +kernel
theorem dX11_readLine_170 : decode cX11_readLine 170 = .ok (.aload_n 0, 1) := by decide +kernel
theorem dX11_readLine_171 : decode cX11_readLine 171 = .ok (.getfield 204, 3) := by decide +kernel
theorem dX11_readLine_174 : decode cX11_readLine 174 = .ok (.iconst 4, 1) := by decide +kernel
theorem dX11_readLine_175 : decode cX11_readLine 175 = .ok (.if_icmp .ne 25, 3) := by decide +kernel
theorem dX11_readLine_178 : decode cX11_readLine 178 = .ok (.aload_n 0, 1) := by decide +kernel
theorem dX11_readLine_179 : decode cX11_readLine 179 = .ok (.getfield 213, 3) := by decide +kernel
theorem dX11_readLine_182 : decode cX11_readLine 182 = .ok (.aload_n 0, 1) := by decide +kernel
theorem dX11_readLine_183 : decode cX11_readLine 183 = .ok (.getfield 57, 3) := by decide +kernel
theorem dX11_readLine_186 : decode cX11_readLine 186 = .ok (.iload_n 2, 1) := by decide +kernel
theorem dX11_readLine_187 : decode cX11_readLine 187 = .ok (.iaload, 1) := by decide +kernel
theorem dX11_readLine_188 : decode cX11_readLine 188 = .ok (.if_icmp .ne 12, 3) := by decide +kernel
theorem dX11_readLine_191 : decode cX11_readLine 191 = .ok (.aload_n 0, 1) := by decide +kernel
theorem dX11_readLine_192 : decode cX11_readLine 192 = .ok (.iconst 3, 1) := by decide +kernel
theorem dX11_readLine_193 : decode cX11_readLine 193 = .ok (.aload_n 0, 1) := by decide +kernel
theorem dX11_readLine_194 : decode cX11_readLine 194 = .ok (.getfield 198, 3) := by decide +kernel
theorem dX11_readLine_197 : decode cX11_readLine 197 = .ok (.invokevirtual 220, 3) := by decide +kernel
theorem dX11_readLine_200 : decode cX11_readLine 200 = .ok (.aload_n 0, 1) := by decide +kernel
theorem dX11_readLine_201 : decode cX11_readLine 201 = .ok (.getfield 60, 3) := by decide +kernel
theorem dX11_readLine_204 : decode cX11_readLine 204 = .ok (.iload_n 2, 1) := by decide +kernel
theorem dX11_readLine_205 : decode cX11_readLine 205 = .ok (.aload_n 0, 1) := by decide +kernel
theorem dX11_readLine_206 : decode cX11_readLine 206 = .ok (.iconst 4, 1) := by decide +kernel
theorem dX11_readLine_207 : decode cX11_readLine 207 = .ok (.invokevirtual 277, 3) := by decide +kernel
theorem dX11_readLine_210 : decode cX11_readLine 210 = .ok (.iastore, 1) := by decide +kernel
theorem dX11_readLine_211 : decode cX11_readLine 211 = .ok (.aload_n 0, 1) := by decide +kernel
theorem dX11_readLine_212 : decode cX11_readLine 212 = .ok (.aload_n 0, 1) := by decide +kernel
theorem dX11_readLine_213 : decode cX11_readLine 213 = .ok (.bipush 59, 2) := by decide +kernel
theorem dX11_readLine_215 : decode cX11_readLine 215 = .ok (.invokevirtual 287, 3) := by decide +kernel
theorem dX11_readLine_218 : decode cX11_readLine 218 = .ok (.invokevirtual 248, 3) := by decide +kernel
theorem dX11_readLine_221 : decode cX11_readLine 221 = .ok (.aload_n 0, 1) := by decide +kernel
theorem dX11_readLine_222 : decode cX11_readLine 222 = .ok (.getfield 42, 3) := by decide +kernel
theorem dX11_readLine_225 : decode cX11_readLine 225 = .ok (.aload_n 0, 1) := by decide +kernel
theorem dX11_readLine_226 : decode cX11_readLine 226 = .ok (.getfield 258, 3) := by decide +kernel
theorem dX11_readLine_229 : decode cX11_readLine 229 = .ok (.dup2, 1) := by decide +kernel
theorem dX11_readLine_230 : decode cX11_readLine 230 = .ok (.iaload, 1) := by decide +kernel
theorem dX11_readLine_231 : decode cX11_readLine 231 = .ok (.iconst 1, 1) := by decide +kernel
theorem dX11_readLine_232 : decode cX11_readLine 232 = .ok (.iadd, 1) := by decide +kernel
theorem dX11_readLine_233 : decode cX11_readLine 233 = .ok (.iastore, 1) := by decide +kernel
theorem dX11_readLine_234 : decode cX11_readLine 234 = .ok (.return_, 1) := by decide +kernel
theorem dX11_step_0 : decode cX11_step 0 = .ok (.aload_n 0, 1) := by decide +kernel
theorem dX11_step_1 : decode cX11_step 1 = .ok (.getfield 63, 3) := by decide +kernel
theorem dX11_step_4 : decode cX11_step 4 = .ok (.sipush 1000, 3) := by decide +kernel
theorem dX11_step_7 : decode cX11_step 7 = .ok (.aload_n 0, 1) := by decide +kernel
theorem dX11_step_8 : decode cX11_step 8 = .ok (.getfield 258, 3) := by decide +kernel
theorem dX11_step_11 : decode cX11_step 11 = .ok (.imul, 1) := by decide +kernel
theorem dX11_step_12 : decode cX11_step 12 = .ok (.aload_n 0, 1) := by decide +kernel
theorem dX11_step_13 : decode cX11_step 13 = .ok (.getfield 261, 3) := by decide +kernel
theorem dX11_step_16 : decode cX11_step 16 = .ok (.iadd, 1) := by decide +kernel
theorem dX11_step_17 : decode cX11_step 17 = .ok (.iload_n 1, 1) := by decide +kernel
theorem dX11_step_18 : decode cX11_step 18 = .ok (.iastore, 1) := by decide +kernel
theorem dX11_step_19 : decode cX11_step 19 = .ok (.aload_n 0, 1) := by decide +kernel
theorem dX11_step_20 : decode cX11_step 20 = .ok (.getfield 66, 3) := by decide +kernel
theorem dX11_step_23 : decode cX11_step 23 = .ok (.sipush 1000, 3) := by decide +kernel
theorem dX11_step_26 : decode cX11_step 26 = .ok (.aload_n 0, 1) := by decide +kernel
theorem dX11_step_27 : decode cX11_step 27 = .ok (.getfield 258, 3) := by decide +kernel
theorem dX11_step_30 : decode cX11_step 30 = .ok (.imul, 1) := by decide +kernel
theorem dX11_step_31 : decode cX11_step 31 = .ok (.aload_n 0, 1) := by decide +kernel
theorem dX11_step_32 : decode cX11_step 32 = .ok (.getfield 261, 3) := by decide +kernel
theorem dX11_step_35 : decode cX11_step 35 = .ok (.iadd, 1) := by decide +kernel
theorem dX11_step_36 : decode cX11_step 36 = .ok (.iload_n 2, 1) := by decide +kernel
theorem dX11_step_37 : decode cX11_step 37 = .ok (.iastore, 1) := by decide +kernel
theorem dX11_step_38 : decode cX11_step 38 = .ok (.aload_n 0, 1) := by decide +kernel
theorem dX11_step_39 : decode cX11_step 39 = .ok (.getfield 69, 3) := by decide +kernel
theorem dX11_step_42 : decode cX11_step 42 = .ok (.sipush 1000, 3) := by decide +kernel
theorem dX11_step_45 : decode cX11_step 45 = .ok (.aload_n 0, 1) := by decide +kernel
theorem dX11_step_46 : decode cX11_step 46 = .ok (.getfield 258, 3) := by decide +kernel
theorem dX11_step_49 : decode cX11_step 49 = .ok (.imul, 1) := by decide +kernel
theorem dX11_step_50 : decode cX11_step 50 = .ok (.aload_n 0, 1) := by decide +kernel
theorem dX11_step_51 : decode cX11_step 51 = .ok (.getfield 261, 3) := by decide +kernel
theorem dX11_step_54 : decode cX11_step 54 = .ok (.iadd, 1) := by decide +kernel
theorem dX11_step_55 : decode cX11_step 55 = .ok (.iload_n 3, 1) := by decide +kernel
theorem dX11_step_56 : decode cX11_step 56 = .ok (.iastore, 1) := by decide +kernel
theorem dX11_step_57 : decode cX11_step 57 = .ok (.aload_n 0, 1) := by decide +kernel
theorem dX11_step_58 : decode cX11_step 58 = .ok (.dup, 1) := by decide +kernel
theorem dX11_step_59 : decode cX11_step 59 = .ok (.getfield 261, 3) := by decide +kernel
theorem dX11_step_62 : decode cX11_step 62 = .ok (.iconst 1, 1) := by decide +kernel
theorem dX11_step_63 : decode cX11_step 63 = .ok (.iadd, 1) := by decide +kernel
theorem dX11_step_64 : decode cX11_step 64 = .ok (.putfield 261, 3) := by decide +kernel
theorem dX11_step_67 : decode cX11_step 67 = .ok (.return_, 1) := by decide +kernel
theorem dX11_pile_0 : decode cX11_pile 0 = .ok (.aload_n 0, 1) := by decide +kernel
theorem dX11_pile_1 : decode cX11_pile 1 = .ok (.getfield 72, 3) := by decide +kernel
theorem dX11_pile_4 : decode cX11_pile 4 = .ok (.aload_n 0, 1) := by decide +kernel
theorem dX11_pile_5 : decode cX11_pile 5 = .ok (.getfield 290, 3) := by decide +kernel
theorem dX11_pile_8 : decode cX11_pile 8 = .ok (.iload_n 1, 1) := by decide +kernel
theorem dX11_pile_9 : decode cX11_pile 9 = .ok (.iastore, 1) := by decide +kernel
theorem dX11_pile_10 : decode cX11_pile 10 = .ok (.aload_n 0, 1) := by decide +kernel
theorem dX11_pile_11 : decode cX11_pile 11 = .ok (.dup, 1) := by decide +kernel
theorem dX11_pile_12 : decode cX11_pile 12 = .ok (.getfield 290, 3) := by decide +kernel
theorem dX11_pile_15 : decode cX11_pile 15 = .ok (.iconst 1, 1) := by decide +kernel
theorem dX11_pile_16 : decode cX11_pile 16 = .ok (.iadd, 1) := by decide +kernel
theorem dX11_pile_17 : decode cX11_pile 17 = .ok (.putfield 290, 3) := by decide +kernel
theorem dX11_pile_20 : decode cX11_pile 20 = .ok (.return_, 1) := by decide +kernel
theorem dX11_e_0 : decode cX11_e 0 = .ok (.aload_n 0, 1) := by decide +kernel
theorem dX11_e_1 : decode cX11_e 1 = .ok (.iconst 0, 1) := by decide +kernel
theorem dX11_e_2 : decode cX11_e 2 = .ok (.putfield 290, 3) := by decide +kernel
theorem dX11_e_5 : decode cX11_e 5 = .ok (.aload_n 0, 1) := by decide +kernel
theorem dX11_e_6 : decode cX11_e 6 = .ok (.iconst 0, 1) := by decide +kernel
theorem dX11_e_7 : decode cX11_e 7 = .ok (.putfield 293, 3) := by decide +kernel
theorem dX11_e_10 : decode cX11_e 10 = .ok (.aload_n 0, 1) := by decide +kernel
theorem dX11_e_11 : decode cX11_e 11 = .ok (.iconst 5, 1) := by decide +kernel
theorem dX11_e_12 : decode cX11_e 12 = .ok (.invokevirtual 296, 3) := by decide +kernel
theorem dX11_e_15 : decode cX11_e 15 = .ok (.iconst 1, 1) := by decide +kernel
theorem dX11_e_16 : decode cX11_e 16 = .ok (.istore_n 1, 1) := by decide +kernel
theorem dX11_e_17 : decode cX11_e 17 = .ok (.aload_n 0, 1) := by decide +kernel
theorem dX11_e_18 : decode cX11_e 18 = .ok (.invokevirtual 224, 3) := by decide +kernel
theorem dX11_e_21 : decode cX11_e 21 = .ok (.ifCond .eq 29, 3) := by decide +kernel
theorem dX11_e_24 : decode cX11_e 24 = .ok (.aload_n 0, 1) := by decide +kernel
theorem dX11_e_25 : decode cX11_e 25 = .ok (.getfield 290, 3) := by decide +kernel
theorem dX11_e_28 : decode cX11_e 28 = .ok (.ifCond .le 22, 3) := by decide +kernel
theorem dX11_e_31 : decode cX11_e 31 = .ok (.iload_n 1, 1) := by decide +kernel
theorem dX11_e_32 : decode cX11_e 32 = .ok (.ifCond .eq 10, 3) := by decide +kernel
theorem dX11_e_35 : decode cX11_e 35 = .ok (.aload_n 0, 1) := by decide +kernel
theorem dX11_e_36 : decode cX11_e 36 = .ok (.invokevirtual 300, 3) := by decide +kernel
theorem dX11_e_39 : decode cX11_e 39 = .ok (.goto 7, 3) := by decide +kernel
theorem dX11_e_42 : decode cX11_e 42 = .ok (.aload_n 0, 1) := by decide +kernel
theorem dX11_e_43 : decode cX11_e 43 = .ok (.invokevirtual 303, 3) := by decide +kernel
theorem dX11_e_46 : decode cX11_e 46 = .ok (.istore_n 1, 1) := by decide +kernel
theorem dX11_e_47 : decode cX11_e 47 = .ok (.goto (-30), 3) := by decide +kernel
theorem dX11_e_50 : decode cX11_e 50 = .ok (.return_, 1) := by decide +kernel
theorem dX11_one_0 : decode cX11_one 0 = .ok (.aload_n 0, 1) := by decide +kernel
theorem dX11_one_1 : decode cX11_one 1 = .ok (.bipush 40, 2) := by decide +kernel
theorem dX11_one_3 : decode cX11_one 3 = .ok (.invokevirtual 287, 3) := by decide +kernel
theorem dX11_one_6 : decode cX11_one 6 = .ok (.ifCond .ne 13, 3) := by decide +kernel
theorem dX11_one_9 : decode cX11_one 9 = .ok (.aload_n 0, 1) := by decide +kernel
theorem dX11_one_10 : decode cX11_one 10 = .ok (.ldc2_w 306, 3) := by decide +kernel
theorem dX11_one_13 : decode cX11_one 13 = .ok (.invokevirtual 236, 3) := by decide +kernel
theorem dX11_one_16 : decode cX11_one 16 = .ok (.ifCond .eq 50, 3) := by decide +kernel
theorem dX11_one_19 : decode cX11_one 19 = .ok (.aload_n 0, 1) := by decide +kernel
theorem dX11_one_20 : decode cX11_one 20 = .ok (.aload_n 0, 1) := by decide +kernel
theorem dX11_one_21 : decode cX11_one 21 = .ok (.bipush 40, 2) := by decide +kernel
theorem dX11_one_23 : decode cX11_one 23 = .ok (.invokevirtual 287, 3) := by decide +kernel
theorem dX11_one_26 : decode cX11_one 26 = .ok (.ifCond .eq 7, 3) := by decide +kernel
theorem dX11_one_29 : decode cX11_one 29 = .ok (.iconst 4, 1) := by decide +kernel
theorem dX11_one_30 : decode cX11_one 30 = .ok (.goto 4, 3) := by decide +kernel
theorem dX11_one_33 : decode cX11_one 33 = .ok (.iconst 3, 1) := by decide +kernel
theorem dX11_one_34 : decode cX11_one 34 = .ok (.invokevirtual 296, 3) := by decide +kernel
theorem dX11_one_37 : decode cX11_one 37 = .ok (.aload_n 0, 1) := by decide +kernel
theorem dX11_one_38 : decode cX11_one 38 = .ok (.invokevirtual 228, 3) := by decide +kernel
theorem dX11_one_41 : decode cX11_one 41 = .ok (.aload_n 0, 1) := by decide +kernel
theorem dX11_one_42 : decode cX11_one 42 = .ok (.dup, 1) := by decide +kernel
theorem dX11_one_43 : decode cX11_one 43 = .ok (.getfield 293, 3) := by decide +kernel
theorem dX11_one_46 : decode cX11_one 46 = .ok (.iconst 1, 1) := by decide +kernel
theorem dX11_one_47 : decode cX11_one 47 = .ok (.iadd, 1) := by decide +kernel
theorem dX11_one_48 : decode cX11_one 48 = .ok (.putfield 293, 3) := by decide +kernel
theorem dX11_one_51 : decode cX11_one 51 = .ok (.aload_n 0, 1) := by decide +kernel
theorem dX11_one_52 : decode cX11_one 52 = .ok (.getfield 293, 3) := by decide +kernel
theorem dX11_one_55 : decode cX11_one 55 = .ok (.bipush 8, 2) := by decide +kernel
theorem dX11_one_57 : decode cX11_one 57 = .ok (.if_icmp .lt 7, 3) := by decide +kernel
theorem dX11_one_60 : decode cX11_one 60 = .ok (.aload_n 0, 1) := by decide +kernel
theorem dX11_one_61 : decode cX11_one 61 = .ok (.invokevirtual 231, 3) := by decide +kernel
theorem dX11_one_64 : decode cX11_one 64 = .ok (.iconst 1, 1) := by decide +kernel
theorem dX11_one_65 : decode cX11_one 65 = .ok (.ireturn, 1) := by decide +kernel
theorem dX11_one_66 : decode cX11_one 66 = .ok (.aload_n 0, 1) := by decide +kernel
theorem dX11_one_67 : decode cX11_one 67 = .ok (.invokevirtual 308, 3) := by decide +kernel
theorem dX11_one_70 : decode cX11_one 70 = .ok (.aload_n 0, 1) := by decide +kernel
theorem dX11_one_71 : decode cX11_one 71 = .ok (.invokevirtual 224, 3) := by decide +kernel
theorem dX11_one_74 : decode cX11_one 74 = .ok (.ifCond .eq 34, 3) := by decide +kernel
theorem dX11_one_77 : decode cX11_one 77 = .ok (.aload_n 0, 1) := by decide +kernel
theorem dX11_one_78 : decode cX11_one 78 = .ok (.bipush 60, 2) := by decide +kernel
theorem dX11_one_80 : decode cX11_one 80 = .ok (.invokevirtual 287, 3) := by decide +kernel
theorem dX11_one_83 : decode cX11_one 83 = .ok (.ifCond .ne 25, 3) := by decide +kernel
theorem dX11_one_86 : decode cX11_one 86 = .ok (.aload_n 0, 1) := by decide +kernel
theorem dX11_one_87 : decode cX11_one 87 = .ok (.bipush 62, 2) := by decide +kernel
theorem dX11_one_89 : decode cX11_one 89 = .ok (.invokevirtual 287, 3) := by decide +kernel
theorem dX11_one_92 : decode cX11_one 92 = .ok (.ifCond .ne 16, 3) := by decide +kernel
theorem dX11_one_95 : decode cX11_one 95 = .ok (.aload_n 0, 1) := by decide +kernel
theorem dX11_one_96 : decode cX11_one 96 = .ok (.bipush 61, 2) := by decide +kernel
theorem dX11_one_98 : decode cX11_one 98 = .ok (.invokevirtual 287, 3) := by decide +kernel
theorem dX11_one_101 : decode cX11_one 101 = .ok (.ifCond .ne 7, 3) := by decide +kernel
theorem dX11_one_104 : decode cX11_one 104 = .ok (.aload_n 0, 1) := by decide +kernel
theorem dX11_one_105 : decode cX11_one 105 = .ok (.invokevirtual 231, 3) := by decide +kernel
theorem dX11_one_108 : decode cX11_one 108 = .ok (.aload_n 0, 1) := by decide +kernel
theorem dX11_one_109 : decode cX11_one 109 = .ok (.invokevirtual 224, 3) := by decide +kernel
theorem dX11_one_112 : decode cX11_one 112 = .ok (.ifCond .ne 5, 3) := by decide +kernel
theorem dX11_one_115 : decode cX11_one 115 = .ok (.iconst 1, 1) := by decide +kernel
theorem dX11_one_116 : decode cX11_one 116 = .ok (.ireturn, 1) := by decide +kernel
theorem dX11_one_117 : decode cX11_one 117 = .ok (.aload_n 0, 1) := by decide +kernel
theorem dX11_one_118 : decode cX11_one 118 = .ok (.aload_n 0, 1) := by decide +kernel
theorem dX11_one_119 : decode cX11_one 119 = .ok (.getfield 198, 3) := by decide +kernel
theorem dX11_one_122 : decode cX11_one 122 = .ok (.invokevirtual 201, 3) := by decide +kernel
theorem dX11_one_125 : decode cX11_one 125 = .ok (.istore_n 1, 1) := by decide +kernel
theorem dX11_one_126 : decode cX11_one 126 = .ok (.aload_n 0, 1) := by decide +kernel
theorem dX11_one_127 : decode cX11_one 127 = .ok (.invokevirtual 228, 3) := by decide +kernel
theorem dX11_one_130 : decode cX11_one 130 = .ok (.aload_n 0, 1) := by decide +kernel
theorem dX11_one_131 : decode cX11_one 131 = .ok (.invokevirtual 308, 3) := by decide +kernel
theorem dX11_one_134 : decode cX11_one 134 = .ok (.aload_n 0, 1) := by decide +kernel
theorem dX11_one_135 : decode cX11_one 135 = .ok (.invokevirtual 224, 3) := by decide +kernel
theorem dX11_one_138 : decode cX11_one 138 = .ok (.ifCond .eq 10, 3) := by decide +kernel
theorem dX11_one_141 : decode cX11_one 141 = .ok (.aload_n 0, 1) := by decide +kernel
theorem dX11_one_142 : decode cX11_one 142 = .ok (.iload_n 1, 1) := by decide +kernel
theorem dX11_one_143 : decode cX11_one 143 = .ok (.iconst 0, 1) := by decide +kernel
theorem dX11_one_144 : decode cX11_one 144 = .ok (.iconst 0, 1) := by decide +kernel
theorem dX11_one_145 : decode cX11_one 145 = .ok (.invokevirtual 311, 3) := by decide +kernel
theorem dX11_one_148 : decode cX11_one 148 = .ok (.iconst 0, 1) := by decide +kernel
theorem dX11_one_149 : decode cX11_one 149 = .ok (.ireturn, 1) := by decide +kernel
theorem dX11_readSum_0 : decode cX11_readSum 0 = .ok (.aload_n 0, 1) := by decide +kernel
theorem dX11_readSum_1 : decode cX11_readSum 1 = .ok (.invokevirtual 315, 3) := by decide +kernel
theorem dX11_readSum_4 : decode cX11_readSum 4 = .ok (.aload_n 0, 1) := by decide +kernel
theorem dX11_readSum_5 : decode cX11_readSum 5 = .ok (.invokevirtual 224, 3) := by decide +kernel
theorem dX11_readSum_8 : decode cX11_readSum 8 = .ok (.ifCond .eq 55, 3) := by decide +kernel
theorem dX11_readSum_11 : decode cX11_readSum 11 = .ok (.aload_n 0, 1) := by decide +kernel
theorem dX11_readSum_12 : decode cX11_readSum 12 = .ok (.bipush 43, 2) := by decide +kernel
theorem dX11_readSum_14 : decode cX11_readSum 14 = .ok (.invokevirtual 287, 3) := by decide +kernel
theorem dX11_readSum_17 : decode cX11_readSum 17 = .ok (.ifCond .ne 12, 3) := by decide +kernel
theorem dX11_readSum_20 : decode cX11_readSum 20 = .ok (.aload_n 0, 1) := by decide +kernel
theorem dX11_readSum_21 : decode cX11_readSum 21 = .ok (.bipush 45, 2) := by decide +kernel
theorem dX11_readSum_23 : decode cX11_readSum 23 = .ok (.invokevirtual 287, 3) := by decide +kernel
theorem dX11_readSum_26 : decode cX11_readSum 26 = .ok (.ifCond .eq 37, 3) := by decide +kernel
theorem dX11_readSum_29 : decode cX11_readSum 29 = .ok (.aload_n 0, 1) := by decide +kernel
theorem dX11_readSum_30 : decode cX11_readSum 30 = .ok (.aload_n 0, 1) := by decide +kernel
theorem dX11_readSum_31 : decode cX11_readSum 31 = .ok (.getfield 198, 3) := by decide +kernel
theorem dX11_readSum_34 : decode cX11_readSum 34 = .ok (.invokevirtual 201, 3) := by decide +kernel
theorem dX11_readSum_37 : decode cX11_readSum 37 = .ok (.istore_n 1, 1) := by decide +kernel
theorem dX11_readSum_38 : decode cX11_readSum 38 = .ok (.aload_n 0, 1) := by decide +kernel
theorem dX11_readSum_39 : decode cX11_readSum 39 = .ok (.invokevirtual 228, 3) := by decide +kernel
theorem dX11_readSum_42 : decode cX11_readSum 42 = .ok (.aload_n 0, 1) := by decide +kernel
theorem dX11_readSum_43 : decode cX11_readSum 43 = .ok (.invokevirtual 315, 3) := by decide +kernel
theorem dX11_readSum_46 : decode cX11_readSum 46 = .ok (.aload_n 0, 1) := by decide +kernel
theorem dX11_readSum_47 : decode cX11_readSum 47 = .ok (.invokevirtual 224, 3) := by decide +kernel
theorem dX11_readSum_50 : decode cX11_readSum 50 = .ok (.ifCond .eq 10, 3) := by decide +kernel
theorem dX11_readSum_53 : decode cX11_readSum 53 = .ok (.aload_n 0, 1) := by decide +kernel
theorem dX11_readSum_54 : decode cX11_readSum 54 = .ok (.iload_n 1, 1) := by decide +kernel
theorem dX11_readSum_55 : decode cX11_readSum 55 = .ok (.iconst 0, 1) := by decide +kernel
theorem dX11_readSum_56 : decode cX11_readSum 56 = .ok (.iconst 0, 1) := by decide +kernel
theorem dX11_readSum_57 : decode cX11_readSum 57 = .ok (.invokevirtual 311, 3) := by decide +kernel
theorem dX11_readSum_60 : decode cX11_readSum 60 = .ok (.goto (-56), 3) := by decide +kernel
theorem dX11_readSum_63 : decode cX11_readSum 63 = .ok (.return_, 1) := by decide +kernel
theorem dX11_term_0 : decode cX11_term 0 = .ok (.aload_n 0, 1) := by decide +kernel
theorem dX11_term_1 : decode cX11_term 1 = .ok (.ldc2_w 318, 3) := by decide +kernel
theorem dX11_term_4 : decode cX11_term 4 = .ok (.invokevirtual 236, 3) := by decide +kernel
theorem dX11_term_7 : decode cX11_term 7 = .ok (.ifCond .ne 13, 3) := by decide +kernel
theorem dX11_term_10 : decode cX11_term 10 = .ok (.aload_n 0, 1) := by decide +kernel
theorem dX11_term_11 : decode cX11_term 11 = .ok (.ldc2_w 320, 3) := by decide +kernel
theorem dX11_term_14 : decode cX11_term 14 = .ok (.invokevirtual 236, 3) := by decide +kernel
theorem dX11_term_17 : decode cX11_term 17 = .ok (.ifCond .eq 7, 3) := by decide +kernel
theorem dX11_term_20 : decode cX11_term 20 = .ok (.iconst 1, 1) := by decide +kernel
theorem dX11_term_21 : decode cX11_term 21 = .ok (.goto 4, 3) := by decide +kernel
theorem dX11_term_24 : decode cX11_term 24 = .ok (.iconst 0, 1) := by decide +kernel
theorem dX11_term_25 : decode cX11_term 25 = .ok (.istore_n 1, 1) := by decide +kernel
theorem dX11_term_26 : decode cX11_term 26 = .ok (.aload_n 0, 1) := by decide +kernel
theorem dX11_term_27 : decode cX11_term 27 = .ok (.ldc2_w 322, 3) := by decide +kernel
theorem dX11_term_30 : decode cX11_term 30 = .ok (.invokevirtual 236, 3) := by decide +kernel
theorem dX11_term_33 : decode cX11_term 33 = .ok (.ifCond .ne 13, 3) := by decide +kernel
theorem dX11_term_36 : decode cX11_term 36 = .ok (.aload_n 0, 1) := by decide +kernel
theorem dX11_term_37 : decode cX11_term 37 = .ok (.ldc2_w 324, 3) := by decide +kernel
theorem dX11_term_40 : decode cX11_term 40 = .ok (.invokevirtual 236, 3) := by decide +kernel
theorem dX11_term_43 : decode cX11_term 43 = .ok (.ifCond .eq 7, 3) := by decide +kernel
theorem dX11_term_46 : decode cX11_term 46 = .ok (.iconst 1, 1) := by decide +kernel
theorem dX11_term_47 : decode cX11_term 47 = .ok (.goto 4, 3) := by decide +kernel
theorem dX11_term_50 : decode cX11_term 50 = .ok (.iconst 0, 1) := by decide +kernel
theorem dX11_term_51 : decode cX11_term 51 = .ok (.istore_n 2, 1) := by decide +kernel
theorem dX11_term_52 : decode cX11_term 52 = .ok (.aload_n 0, 1) := by decide +kernel
theorem dX11_term_53 : decode cX11_term 53 = .ok (.getfield 204, 3) := by decide +kernel
theorem dX11_term_56 : decode cX11_term 56 = .ok (.iconst 3, 1) := by decide +kernel
theorem dX11_term_57 : decode cX11_term 57 = .ok (.if_icmp .eq 21, 3) := by decide +kernel
theorem dX11_term_60 : decode cX11_term 60 = .ok (.aload_n 0, 1) := by decide +kernel
theorem dX11_term_61 : decode cX11_term 61 = .ok (.ldc2_w 326, 3) := by decide +kernel
theorem dX11_term_64 : decode cX11_term 64 = .ok (.invokevirtual 236, 3) := by decide +kernel
theorem dX11_term_67 : decode cX11_term 67 = .ok (.ifCond .ne 11, 3) := by decide +kernel
theorem dX11_term_70 : decode cX11_term 70 = .ok (.iload_n 2, 1) := by decide +kernel
theorem dX11_term_71 : decode cX11_term 71 = .ok (.ifCond .ne 7, 3) := by decide +kernel
theorem dX11_term_74 : decode cX11_term 74 = .ok (.iload_n 1, 1) := by decide +kernel
theorem dX11_term_75 : decode cX11_term 75 = .ok (.ifCond .eq 12, 3) := by decide +kernel
theorem dX11_term_78 : decode cX11_term 78 = .ok (.aload_n 0, 1) := by decide +kernel
theorem dX11_term_79 : decode cX11_term 79 = .ok (.getfield 264, 3) := by decide +kernel
theorem dX11_term_82 : decode cX11_term 82 = .ok (.bipush 80, 2) := by decide +kernel
theorem dX11_term_84 : decode cX11_term 84 = .ok (.if_icmp .ne 7, 3) := by decide +kernel
theorem dX11_term_87 : decode cX11_term 87 = .ok (.aload_n 0, 1) := by decide +kernel
theorem dX11_term_88 : decode cX11_term 88 = .ok (.invokevirtual 231, 3) := by decide +kernel
theorem dX11_term_91 : decode cX11_term 91 = .ok (.aload_n 0, 1) := by decide +kernel
theorem dX11_term_92 : decode cX11_term 92 = .ok (.invokevirtual 224, 3) := by decide +kernel
theorem dX11_term_95 : decode cX11_term 95 = .ok (.ifCond .ne 4, 3) := by decide +kernel
theorem dX11_term_98 : decode cX11_term 98 = .ok (.return_, 1) := by decide +kernel
theorem dX11_term_99 : decode cX11_term 99 = .ok (.aload_n 0, 1) := by decide +kernel
theorem dX11_term_100 : decode cX11_term 100 = .ok (.dup, 1) := by decide +kernel
theorem dX11_term_101 : decode cX11_term 101 = .ok (.getfield 264, 3) := by decide +kernel
theorem dX11_term_104 : decode cX11_term 104 = .ok (.iconst 1, 1) := by decide +kernel
theorem dX11_term_105 : decode cX11_term 105 = .ok (.iadd, 1) := by decide +kernel
theorem dX11_term_106 : decode cX11_term 106 = .ok (.putfield 264, 3) := by decide +kernel
theorem dX11_term_109 : decode cX11_term 109 = .ok (.aload_n 0, 1) := by decide +kernel
theorem dX11_term_110 : decode cX11_term 110 = .ok (.getfield 204, 3) := by decide +kernel
theorem dX11_term_113 : decode cX11_term 113 = .ok (.iconst 3, 1) := by decide +kernel
theorem dX11_term_114 : decode cX11_term 114 = .ok (.if_icmp .ne 8, 3) := by decide +kernel
theorem dX11_term_117 : decode cX11_term 117 = .ok (.bipush 110, 2) := by decide +kernel
theorem dX11_term_119 : decode cX11_term 119 = .ok (.goto 65, 3) := by decide +kernel
theorem dX11_term_122 : decode cX11_term 122 = .ok (.aload_n 0, 1) := by decide +kernel
theorem dX11_term_123 : decode cX11_term 123 = .ok (.ldc2_w 326, 3) := by decide +kernel
theorem dX11_term_126 : decode cX11_term 126 = .ok (.invokevirtual 236, 3) := by decide +kernel
theorem dX11_term_129 : decode cX11_term 129 = .ok (.ifCond .eq 8, 3) := by decide +kernel
theorem dX11_term_132 : decode cX11_term 132 = .ok (.bipush 109, 2) := by decide +kernel
theorem dX11_term_134 : decode cX11_term 134 = .ok (.goto 50, 3) := by decide +kernel
theorem dX11_term_137 : decode cX11_term 137 = .ok (.aload_n 0, 1) := by decide +kernel
theorem dX11_term_138 : decode cX11_term 138 = .ok (.ldc2_w 322, 3) := by decide +kernel
theorem dX11_term_141 : decode cX11_term 141 = .ok (.invokevirtual 236, 3) := by decide +kernel
theorem dX11_term_144 : decode cX11_term 144 = .ok (.ifCond .eq 8, 3) := by decide +kernel
theorem dX11_term_147 : decode cX11_term 147 = .ok (.bipush 112, 2) := by decide +kernel
theorem dX11_term_149 : decode cX11_term 149 = .ok (.goto 35, 3) := by decide +kernel
theorem dX11_term_152 : decode cX11_term 152 = .ok (.aload_n 0, 1) := by decide +kernel
theorem dX11_term_153 : decode cX11_term 153 = .ok (.ldc2_w 318, 3) := by decide +kernel
theorem dX11_term_156 : decode cX11_term 156 = .ok (.invokevirtual 236, 3) := by decide +kernel
theorem dX11_term_159 : decode cX11_term 159 = .ok (.ifCond .eq 8, 3) := by decide +kernel
theorem dX11_term_162 : decode cX11_term 162 = .ok (.bipush 115, 2) := by decide +kernel
theorem dX11_term_164 : decode cX11_term 164 = .ok (.goto 20, 3) := by decide +kernel
theorem dX11_term_167 : decode cX11_term 167 = .ok (.aload_n 0, 1) := by decide +kernel
theorem dX11_term_168 : decode cX11_term 168 = .ok (.ldc2_w 320, 3) := by decide +kernel
theorem dX11_term_171 : decode cX11_term 171 = .ok (.invokevirtual 236, 3) := by decide +kernel
theorem dX11_term_174 : decode cX11_term 174 = .ok (.ifCond .eq 8, 3) := by decide +kernel
theorem dX11_term_177 : decode cX11_term 177 = .ok (.bipush 111, 2) := by decide +kernel
theorem dX11_term_179 : decode cX11_term 179 = .ok (.goto 5, 3) := by decide +kernel
theorem dX11_term_182 : decode cX11_term 182 = .ok (.bipush 114, 2) := by decide +kernel
theorem dX11_term_184 : decode cX11_term 184 = .ok (.istore_n 3, 1) := by decide +kernel
theorem dX11_term_185 : decode cX11_term 185 = .ok (.aload_n 0, 1) := by decide +kernel
theorem dX11_term_186 : decode cX11_term 186 = .ok (.getfield 213, 3) := by decide +kernel
theorem dX11_term_189 : decode cX11_term 189 = .ok (.istore 4, 2) := by decide +kernel
theorem dX11_term_191 : decode cX11_term 191 = .ok (.aload_n 0, 1) := by decide +kernel
theorem dX11_term_192 : decode cX11_term 192 = .ok (.invokevirtual 228, 3) := by decide +kernel
theorem dX11_term_195 : decode cX11_term 195 = .ok (.iload_n 2, 1) := by decide +kernel
theorem dX11_term_196 : decode cX11_term 196 = .ok (.ifCond .ne 7, 3) := by decide +kernel
theorem dX11_term_199 : decode cX11_term 199 = .ok (.iload_n 1, 1) := by decide +kernel
theorem dX11_term_200 : decode cX11_term 200 = .ok (.ifCond .eq 10, 3) := by decide +kernel
theorem dX11_term_203 : decode cX11_term 203 = .ok (.aload_n 0, 1) := by decide +kernel
theorem dX11_term_204 : decode cX11_term 204 = .ok (.iconst 4, 1) := by decide +kernel
theorem dX11_term_205 : decode cX11_term 205 = .ok (.invokevirtual 277, 3) := by decide +kernel
theorem dX11_term_208 : decode cX11_term 208 = .ok (.istore 4, 2) := by decide +kernel
theorem dX11_term_210 : decode cX11_term 210 = .ok (.iload_n 1, 1) := by decide +kernel
theorem dX11_term_211 : decode cX11_term 211 = .ok (.ifCond .eq 10, 3) := by decide +kernel
theorem dX11_term_214 : decode cX11_term 214 = .ok (.aload_n 0, 1) := by decide +kernel
theorem dX11_term_215 : decode cX11_term 215 = .ok (.invokevirtual 280, 3) := by decide +kernel
theorem dX11_term_218 : decode cX11_term 218 = .ok (.goto 4, 3) := by decide +kernel
theorem dX11_term_221 : decode cX11_term 221 = .ok (.iconst (-1), 1) := by decide +kernel
theorem dX11_term_222 : decode cX11_term 222 = .ok (.istore 5, 2) := by decide +kernel
theorem dX11_term_224 : decode cX11_term 224 = .ok (.aload_n 0, 1) := by decide +kernel
theorem dX11_term_225 : decode cX11_term 225 = .ok (.invokevirtual 224, 3) := by decide +kernel
theorem dX11_term_228 : decode cX11_term 228 = .ok (.ifCond .eq 12, 3) := by decide +kernel
theorem dX11_term_231 : decode cX11_term 231 = .ok (.aload_n 0, 1) := by decide +kernel
theorem dX11_term_232 : decode cX11_term 232 = .ok (.iload_n 3, 1) := by decide +kernel
theorem dX11_term_233 : decode cX11_term 233 = .ok (.iload 4, 2) := by decide +kernel
theorem dX11_term_235 : decode cX11_term 235 = .ok (.iload 5, 2) := by decide +kernel
theorem dX11_term_237 : decode cX11_term 237 = .ok (.invokevirtual 311, 3) := by decide +kernel
theorem dX11_term_240 : decode cX11_term 240 = .ok (.return_, 1) := by decide +kernel
theorem dX11_behind_0 : decode cX11_behind 0 = .ok (.aload_n 0, 1) := by decide +kernel
theorem dX11_behind_1 : decode cX11_behind 1 = .ok (.ldc2_w 328, 3) := by decide +kernel
theorem dX11_behind_4 : decode cX11_behind 4 = .ok (.invokevirtual 236, 3) := by decide +kernel
theorem dX11_behind_7 : decode cX11_behind 7 = .ok (.ifCond .eq 7, 3) := by decide +kernel
theorem dX11_behind_10 : decode cX11_behind 10 = .ok (.iconst 2, 1) := by decide +kernel
theorem dX11_behind_11 : decode cX11_behind 11 = .ok (.goto 18, 3) := by decide +kernel
theorem dX11_behind_14 : decode cX11_behind 14 = .ok (.aload_n 0, 1) := by decide +kernel
theorem dX11_behind_15 : decode cX11_behind 15 = .ok (.ldc2_w 330, 3) := by decide +kernel
theorem dX11_behind_18 : decode cX11_behind 18 = .ok (.invokevirtual 236, 3) := by decide +kernel
theorem dX11_behind_21 : decode cX11_behind 21 = .ok (.ifCond .eq 7, 3) := by decide +kernel
theorem dX11_behind_24 : decode cX11_behind 24 = .ok (.iconst 1, 1) := by decide +kernel
theorem dX11_behind_25 : decode cX11_behind 25 = .ok (.goto 4, 3) := by decide +kernel
theorem dX11_behind_28 : decode cX11_behind 28 = .ok (.iconst 0, 1) := by decide +kernel
theorem dX11_behind_29 : decode cX11_behind 29 = .ok (.istore_n 1, 1) := by decide +kernel
theorem dX11_behind_30 : decode cX11_behind 30 = .ok (.aload_n 0, 1) := by decide +kernel
theorem dX11_behind_31 : decode cX11_behind 31 = .ok (.getfield 72, 3) := by decide +kernel
theorem dX11_behind_34 : decode cX11_behind 34 = .ok (.aload_n 0, 1) := by decide +kernel
theorem dX11_behind_35 : decode cX11_behind 35 = .ok (.getfield 290, 3) := by decide +kernel
theorem dX11_behind_38 : decode cX11_behind 38 = .ok (.iconst 1, 1) := by decide +kernel
theorem dX11_behind_39 : decode cX11_behind 39 = .ok (.isub, 1) := by decide +kernel
theorem dX11_behind_40 : decode cX11_behind 40 = .ok (.iaload, 1) := by decide +kernel
theorem dX11_behind_41 : decode cX11_behind 41 = .ok (.iconst 3, 1) := by decide +kernel
theorem dX11_behind_42 : decode cX11_behind 42 = .ok (.if_icmp .gt 98, 3) := by decide +kernel
theorem dX11_behind_45 : decode cX11_behind 45 = .ok (.aload_n 0, 1) := by decide +kernel
theorem dX11_behind_46 : decode cX11_behind 46 = .ok (.getfield 72, 3) := by decide +kernel
theorem dX11_behind_49 : decode cX11_behind 49 = .ok (.aload_n 0, 1) := by decide +kernel
theorem dX11_behind_50 : decode cX11_behind 50 = .ok (.getfield 290, 3) := by decide +kernel
theorem dX11_behind_53 : decode cX11_behind 53 = .ok (.iconst 1, 1) := by decide +kernel
theorem dX11_behind_54 : decode cX11_behind 54 = .ok (.isub, 1) := by decide +kernel
theorem dX11_behind_55 : decode cX11_behind 55 = .ok (.iaload, 1) := by decide +kernel
theorem dX11_behind_56 : decode cX11_behind 56 = .ok (.iload_n 1, 1) := by decide +kernel
theorem dX11_behind_57 : decode cX11_behind 57 = .ok (.if_icmp .lt 83, 3) := by decide +kernel
theorem dX11_behind_60 : decode cX11_behind 60 = .ok (.aload_n 0, 1) := by decide +kernel
theorem dX11_behind_61 : decode cX11_behind 61 = .ok (.dup, 1) := by decide +kernel
theorem dX11_behind_62 : decode cX11_behind 62 = .ok (.getfield 290, 3) := by decide +kernel
theorem dX11_behind_65 : decode cX11_behind 65 = .ok (.iconst 1, 1) := by decide +kernel
theorem dX11_behind_66 : decode cX11_behind 66 = .ok (.isub, 1) := by decide +kernel
theorem dX11_behind_67 : decode cX11_behind 67 = .ok (.putfield 290, 3) := by decide +kernel
theorem dX11_behind_70 : decode cX11_behind 70 = .ok (.aload_n 0, 1) := by decide +kernel
theorem dX11_behind_71 : decode cX11_behind 71 = .ok (.getfield 72, 3) := by decide +kernel
theorem dX11_behind_74 : decode cX11_behind 74 = .ok (.aload_n 0, 1) := by decide +kernel
theorem dX11_behind_75 : decode cX11_behind 75 = .ok (.getfield 290, 3) := by decide +kernel
theorem dX11_behind_78 : decode cX11_behind 78 = .ok (.iaload, 1) := by decide +kernel
theorem dX11_behind_79 : decode cX11_behind 79 = .ok (.iconst 3, 1) := by decide +kernel
theorem dX11_behind_80 : decode cX11_behind 80 = .ok (.if_icmp .ne 13, 3) := by decide +kernel
theorem dX11_behind_83 : decode cX11_behind 83 = .ok (.aload_n 0, 1) := by decide +kernel
theorem dX11_behind_84 : decode cX11_behind 84 = .ok (.dup, 1) := by decide +kernel
theorem dX11_behind_85 : decode cX11_behind 85 = .ok (.getfield 293, 3) := by decide +kernel
theorem dX11_behind_88 : decode cX11_behind 88 = .ok (.iconst 1, 1) := by decide +kernel
theorem dX11_behind_89 : decode cX11_behind 89 = .ok (.isub, 1) := by decide +kernel

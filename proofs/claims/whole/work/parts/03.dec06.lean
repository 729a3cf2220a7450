theorem dX8_wordOf_116 : decode cX8_wordOf 116 = .ok (.iload_n 2, 1) := by decide +kernel
theorem dX8_wordOf_117 : decode cX8_wordOf 117 = .ok (.invokestatic 64, 3) := by decide +kernel
theorem dX8_wordOf_120 : decode cX8_wordOf 120 = .ok (.ifCond .eq 6, 3) := by decide +kernel
theorem dX8_wordOf_123 : decode cX8_wordOf 123 = .ok (.bipush 14, 2) := by decide +kernel
theorem dX8_wordOf_125 : decode cX8_wordOf 125 = .ok (.ireturn, 1) := by decide +kernel
theorem dX8_wordOf_126 : decode cX8_wordOf 126 = .ok (.ldc 90, 2) := by decide +kernel
theorem dX8_wordOf_128 : decode cX8_wordOf 128 = .ok (.aload_n 0, 1) := by decide +kernel
theorem dX8_wordOf_129 : decode cX8_wordOf 129 = .ok (.iload_n 1, 1) := by decide +kernel
theorem dX8_wordOf_130 : decode cX8_wordOf 130 = .ok (.iload_n 2, 1) := by decide +kernel
theorem dX8_wordOf_131 : decode cX8_wordOf 131 = .ok (.invokestatic 64, 3) := by decide +kernel
theorem dX8_wordOf_134 : decode cX8_wordOf 134 = .ok (.ifCond .eq 6, 3) := by decide +kernel
theorem dX8_wordOf_137 : decode cX8_wordOf 137 = .ok (.bipush 15, 2) := by decide +kernel
theorem dX8_wordOf_139 : decode cX8_wordOf 139 = .ok (.ireturn, 1) := by decide +kernel
theorem dX8_wordOf_140 : decode cX8_wordOf 140 = .ok (.ldc 92, 2) := by decide +kernel
theorem dX8_wordOf_142 : decode cX8_wordOf 142 = .ok (.aload_n 0, 1) := by decide +kernel
theorem dX8_wordOf_143 : decode cX8_wordOf 143 = .ok (.iload_n 1, 1) := by decide +kernel
theorem dX8_wordOf_144 : decode cX8_wordOf 144 = .ok (.iload_n 2, 1) := by decide +kernel
theorem dX8_wordOf_145 : decode cX8_wordOf 145 = .ok (.invokestatic 64, 3) := by decide +kernel
theorem dX8_wordOf_148 : decode cX8_wordOf 148 = .ok (.ifCond .eq 6, 3) := by decide +kernel
theorem dX8_wordOf_151 : decode cX8_wordOf 151 = .ok (.bipush 16, 2) := by decide +kernel
theorem dX8_wordOf_153 : decode cX8_wordOf 153 = .ok (.ireturn, 1) := by decide +kernel
theorem dX8_wordOf_154 : decode cX8_wordOf 154 = .ok (.ldc 94, 2) := by decide +kernel
theorem dX8_wordOf_156 : decode cX8_wordOf 156 = .ok (.aload_n 0, 1) := by decide +kernel
theorem dX8_wordOf_157 : decode cX8_wordOf 157 = .ok (.iload_n 1, 1) := by decide +kernel
theorem dX8_wordOf_158 : decode cX8_wordOf 158 = .ok (.iload_n 2, 1) := by decide +kernel
theorem dX8_wordOf_159 : decode cX8_wordOf 159 = .ok (.invokestatic 64, 3) := by decide +kernel
theorem dX8_wordOf_162 : decode cX8_wordOf 162 = .ok (.ifCond .eq 6, 3) := by decide +kernel
theorem dX8_wordOf_165 : decode cX8_wordOf 165 = .ok (.bipush 17, 2) := by decide +kernel
theorem dX8_wordOf_167 : decode cX8_wordOf 167 = .ok (.ireturn, 1) := by decide +kernel
theorem dX8_wordOf_168 : decode cX8_wordOf 168 = .ok (.iconst 5, 1) := by decide +kernel
theorem dX8_wordOf_169 : decode cX8_wordOf 169 = .ok (.ireturn, 1) := by decide +kernel
theorem dX8_spells_0 : decode cX8_spells 0 = .ok (.iload_n 3, 1) := by decide +kernel
theorem dX8_spells_1 : decode cX8_spells 1 = .ok (.iload_n 2, 1) := by decide +kernel
theorem dX8_spells_2 : decode cX8_spells 2 = .ok (.isub, 1) := by decide +kernel
theorem dX8_spells_3 : decode cX8_spells 3 = .ok (.aload_n 0, 1) := by decide +kernel
theorem dX8_spells_4 : decode cX8_spells 4 = .ok (.invokevirtual 96, 3) := by decide +kernel
theorem dX8_spells_7 : decode cX8_spells 7 = .ok (.if_icmp .ne 9, 3) := by decide +kernel
theorem dX8_spells_10 : decode cX8_spells 10 = .ok (.iload_n 3, 1) := by decide +kernel
theorem dX8_spells_11 : decode cX8_spells 11 = .ok (.aload_n 1, 1) := by decide +kernel
theorem dX8_spells_12 : decode cX8_spells 12 = .ok (.arraylength, 1) := by decide +kernel
theorem dX8_spells_13 : decode cX8_spells 13 = .ok (.if_icmp .le 5, 3) := by decide +kernel
theorem dX8_spells_16 : decode cX8_spells 16 = .ok (.iconst 0, 1) := by decide +kernel
theorem dX8_spells_17 : decode cX8_spells 17 = .ok (.ireturn, 1) := by decide +kernel
theorem dX8_spells_18 : decode cX8_spells 18 = .ok (.iconst 0, 1) := by decide +kernel
theorem dX8_spells_19 : decode cX8_spells 19 = .ok (.istore 4, 2) := by decide +kernel
theorem dX8_spells_21 : decode cX8_spells 21 = .ok (.iload 4, 2) := by decide +kernel
theorem dX8_spells_23 : decode cX8_spells 23 = .ok (.aload_n 0, 1) := by decide +kernel
theorem dX8_spells_24 : decode cX8_spells 24 = .ok (.invokevirtual 96, 3) := by decide +kernel
theorem dX8_spells_27 : decode cX8_spells 27 = .ok (.if_icmp .ge 26, 3) := by decide +kernel
theorem dX8_spells_30 : decode cX8_spells 30 = .ok (.aload_n 1, 1) := by decide +kernel
theorem dX8_spells_31 : decode cX8_spells 31 = .ok (.iload_n 2, 1) := by decide +kernel
theorem dX8_spells_32 : decode cX8_spells 32 = .ok (.iload 4, 2) := by decide +kernel
theorem dX8_spells_34 : decode cX8_spells 34 = .ok (.iadd, 1) := by decide +kernel
theorem dX8_spells_35 : decode cX8_spells 35 = .ok (.baload, 1) := by decide +kernel
theorem dX8_spells_36 : decode cX8_spells 36 = .ok (.aload_n 0, 1) := by decide +kernel
theorem dX8_spells_37 : decode cX8_spells 37 = .ok (.iload 4, 2) := by decide +kernel
theorem dX8_spells_39 : decode cX8_spells 39 = .ok (.invokevirtual 102, 3) := by decide +kernel
theorem dX8_spells_42 : decode cX8_spells 42 = .ok (.if_icmp .eq 5, 3) := by decide +kernel
theorem dX8_spells_45 : decode cX8_spells 45 = .ok (.iconst 0, 1) := by decide +kernel
theorem dX8_spells_46 : decode cX8_spells 46 = .ok (.ireturn, 1) := by decide +kernel
theorem dX8_spells_47 : decode cX8_spells 47 = .ok (.iinc 4 1, 3) := by decide +kernel
theorem dX8_spells_50 : decode cX8_spells 50 = .ok (.goto (-29), 3) := by decide +kernel
theorem dX8_spells_53 : decode cX8_spells 53 = .ok (.iconst 1, 1) := by decide +kernel
theorem dX8_spells_54 : decode cX8_spells 54 = .ok (.ireturn, 1) := by decide +kernel
theorem dX8_isLetter_0 : decode cX8_isLetter 0 = .ok (.iload_n 0, 1) := by decide +kernel
theorem dX8_isLetter_1 : decode cX8_isLetter 1 = .ok (.bipush 97, 2) := by decide +kernel
theorem dX8_isLetter_3 : decode cX8_isLetter 3 = .ok (.bipush 122, 2) := by decide +kernel
theorem dX8_isLetter_5 : decode cX8_isLetter 5 = .ok (.invokestatic 58, 3) := by decide +kernel
theorem dX8_isLetter_8 : decode cX8_isLetter 8 = .ok (.ireturn, 1) := by decide +kernel
theorem dX8_isDigit_0 : decode cX8_isDigit 0 = .ok (.iload_n 0, 1) := by decide +kernel
theorem dX8_isDigit_1 : decode cX8_isDigit 1 = .ok (.bipush 48, 2) := by decide +kernel
theorem dX8_isDigit_3 : decode cX8_isDigit 3 = .ok (.bipush 57, 2) := by decide +kernel
theorem dX8_isDigit_5 : decode cX8_isDigit 5 = .ok (.invokestatic 58, 3) := by decide +kernel
theorem dX8_isDigit_8 : decode cX8_isDigit 8 = .ok (.ireturn, 1) := by decide +kernel
theorem dX8_isSign_0 : decode cX8_isSign 0 = .ok (.iload_n 0, 1) := by decide +kernel
theorem dX8_isSign_1 : decode cX8_isSign 1 = .ok (.tableswitch 109 40 62 #[107, 107, 109, 107, 109, 107, 109, 109, 109, 109, 109, 109, 109, 109, 109, 109, 109, 109, 109, 107, 107, 107, 107], 107) := by decide +kernel
theorem dX8_isSign_108 : decode cX8_isSign 108 = .ok (.iconst 1, 1) := by decide +kernel
theorem dX8_isSign_109 : decode cX8_isSign 109 = .ok (.ireturn, 1) := by decide +kernel
theorem dX8_isSign_110 : decode cX8_isSign 110 = .ok (.iconst 0, 1) := by decide +kernel
theorem dX8_isSign_111 : decode cX8_isSign 111 = .ok (.ireturn, 1) := by decide +kernel
theorem dX9_init_0 : decode cX9_init 0 = .ok (.aload_n 0, 1) := by decide +kernel
theorem dX9_init_1 : decode cX9_init 1 = .ok (.invokespecial 3, 3) := by decide +kernel
theorem dX9_init_4 : decode cX9_init 4 = .ok (.aload_n 0, 1) := by decide +kernel
theorem dX9_init_5 : decode cX9_init 5 = .ok (.iconst 3, 1) := by decide +kernel
theorem dX9_init_6 : decode cX9_init 6 = .ok (.newarray .int, 2) := by decide +kernel
theorem dX9_init_8 : decode cX9_init 8 = .ok (.putfield 9, 3) := by decide +kernel
theorem dX9_init_11 : decode cX9_init 11 = .ok (.aload_n 0, 1) := by decide +kernel
theorem dX9_init_12 : decode cX9_init 12 = .ok (.iconst 3, 1) := by decide +kernel
theorem dX9_init_13 : decode cX9_init 13 = .ok (.bipush 61, 2) := by decide +kernel
theorem dX9_init_15 : decode cX9_init 15 = .ok (.multianewarray 15 2, 4) := by decide +kernel
theorem dX9_init_19 : decode cX9_init 19 = .ok (.putfield 17, 3) := by decide +kernel
theorem dX9_init_22 : decode cX9_init 22 = .ok (.return_, 1) := by decide +kernel
theorem dX9_roomLeft_0 : decode cX9_roomLeft 0 = .ok (.aload_n 0, 1) := by decide +kernel
theorem dX9_roomLeft_1 : decode cX9_roomLeft 1 = .ok (.getfield 20, 3) := by decide +kernel
theorem dX9_roomLeft_4 : decode cX9_roomLeft 4 = .ok (.aload_n 0, 1) := by decide +kernel
theorem dX9_roomLeft_5 : decode cX9_roomLeft 5 = .ok (.getfield 9, 3) := by decide +kernel
theorem dX9_roomLeft_8 : decode cX9_roomLeft 8 = .ok (.iconst 0, 1) := by decide +kernel
theorem dX9_roomLeft_9 : decode cX9_roomLeft 9 = .ok (.iaload, 1) := by decide +kernel
theorem dX9_roomLeft_10 : decode cX9_roomLeft 10 = .ok (.isub, 1) := by decide +kernel
theorem dX9_roomLeft_11 : decode cX9_roomLeft 11 = .ok (.aload_n 0, 1) := by decide +kernel
theorem dX9_roomLeft_12 : decode cX9_roomLeft 12 = .ok (.getfield 9, 3) := by decide +kernel
theorem dX9_roomLeft_15 : decode cX9_roomLeft 15 = .ok (.iconst 1, 1) := by decide +kernel
theorem dX9_roomLeft_16 : decode cX9_roomLeft 16 = .ok (.iaload, 1) := by decide +kernel
theorem dX9_roomLeft_17 : decode cX9_roomLeft 17 = .ok (.isub, 1) := by decide +kernel
theorem dX9_roomLeft_18 : decode cX9_roomLeft 18 = .ok (.aload_n 0, 1) := by decide +kernel
theorem dX9_roomLeft_19 : decode cX9_roomLeft 19 = .ok (.getfield 9, 3) := by decide +kernel
theorem dX9_roomLeft_22 : decode cX9_roomLeft 22 = .ok (.iconst 2, 1) := by decide +kernel
theorem dX9_roomLeft_23 : decode cX9_roomLeft 23 = .ok (.iaload, 1) := by decide +kernel
theorem dX9_roomLeft_24 : decode cX9_roomLeft 24 = .ok (.isub, 1) := by decide +kernel
theorem dX9_roomLeft_25 : decode cX9_roomLeft 25 = .ok (.ireturn, 1) := by decide +kernel
theorem dX9_store_0 : decode cX9_store 0 = .ok (.iload_n 3, 1) := by decide +kernel
theorem dX9_store_1 : decode cX9_store 1 = .ok (.aload_n 0, 1) := by decide +kernel
theorem dX9_store_2 : decode cX9_store 2 = .ok (.invokevirtual 24, 3) := by decide +kernel
theorem dX9_store_5 : decode cX9_store 5 = .ok (.invokestatic 28, 3) := by decide +kernel
theorem dX9_store_8 : decode cX9_store 8 = .ok (.istore 4, 2) := by decide +kernel
theorem dX9_store_10 : decode cX9_store 10 = .ok (.aload_n 0, 1) := by decide +kernel
theorem dX9_store_11 : decode cX9_store 11 = .ok (.getfield 17, 3) := by decide +kernel
theorem dX9_store_14 : decode cX9_store 14 = .ok (.iload_n 1, 1) := by decide +kernel
theorem dX9_store_15 : decode cX9_store 15 = .ok (.aaload, 1) := by decide +kernel
theorem dX9_store_16 : decode cX9_store 16 = .ok (.iload_n 2, 1) := by decide +kernel
theorem dX9_store_17 : decode cX9_store 17 = .ok (.dup2, 1) := by decide +kernel
theorem dX9_store_18 : decode cX9_store 18 = .ok (.iaload, 1) := by decide +kernel
theorem dX9_store_19 : decode cX9_store 19 = .ok (.iload 4, 2) := by decide +kernel
theorem dX9_store_21 : decode cX9_store 21 = .ok (.iadd, 1) := by decide +kernel
theorem dX9_store_22 : decode cX9_store 22 = .ok (.iastore, 1) := by decide +kernel
theorem dX9_store_23 : decode cX9_store 23 = .ok (.aload_n 0, 1) := by decide +kernel
theorem dX9_store_24 : decode cX9_store 24 = .ok (.getfield 9, 3) := by decide +kernel
theorem dX9_store_27 : decode cX9_store 27 = .ok (.iload_n 1, 1) := by decide +kernel
theorem dX9_store_28 : decode cX9_store 28 = .ok (.dup2, 1) := by decide +kernel
theorem dX9_store_29 : decode cX9_store 29 = .ok (.iaload, 1) := by decide +kernel
theorem dX9_store_30 : decode cX9_store 30 = .ok (.iload 4, 2) := by decide +kernel
theorem dX9_store_32 : decode cX9_store 32 = .ok (.iadd, 1) := by decide +kernel
theorem dX9_store_33 : decode cX9_store 33 = .ok (.iastore, 1) := by decide +kernel
theorem dX9_store_34 : decode cX9_store 34 = .ok (.iload 4, 2) := by decide +kernel
theorem dX9_store_36 : decode cX9_store 36 = .ok (.ireturn, 1) := by decide +kernel
theorem dX9_removeOfAge_0 : decode cX9_removeOfAge 0 = .ok (.iload_n 3, 1) := by decide +kernel
theorem dX9_removeOfAge_1 : decode cX9_removeOfAge 1 = .ok (.aload_n 0, 1) := by decide +kernel
theorem dX9_removeOfAge_2 : decode cX9_removeOfAge 2 = .ok (.getfield 17, 3) := by decide +kernel
theorem dX9_removeOfAge_5 : decode cX9_removeOfAge 5 = .ok (.iload_n 1, 1) := by decide +kernel
theorem dX9_removeOfAge_6 : decode cX9_removeOfAge 6 = .ok (.aaload, 1) := by decide +kernel
theorem dX9_removeOfAge_7 : decode cX9_removeOfAge 7 = .ok (.iload_n 2, 1) := by decide +kernel
theorem dX9_removeOfAge_8 : decode cX9_removeOfAge 8 = .ok (.iaload, 1) := by decide +kernel
theorem dX9_removeOfAge_9 : decode cX9_removeOfAge 9 = .ok (.invokestatic 28, 3) := by decide +kernel
theorem dX9_removeOfAge_12 : decode cX9_removeOfAge 12 = .ok (.istore 4, 2) := by decide +kernel
theorem dX9_removeOfAge_14 : decode cX9_removeOfAge 14 = .ok (.aload_n 0, 1) := by decide +kernel
theorem dX9_removeOfAge_15 : decode cX9_removeOfAge 15 = .ok (.getfield 17, 3) := by decide +kernel
theorem dX9_removeOfAge_18 : decode cX9_removeOfAge 18 = .ok (.iload_n 1, 1) := by decide +kernel
theorem dX9_removeOfAge_19 : decode cX9_removeOfAge 19 = .ok (.aaload, 1) := by decide +kernel
theorem dX9_removeOfAge_20 : decode cX9_removeOfAge 20 = .ok (.iload_n 2, 1) := by decide +kernel
theorem dX9_removeOfAge_21 : decode cX9_removeOfAge 21 = .ok (.dup2, 1) := by decide +kernel
theorem dX9_removeOfAge_22 : decode cX9_removeOfAge 22 = .ok (.iaload, 1) := by decide +kernel
theorem dX9_removeOfAge_23 : decode cX9_removeOfAge 23 = .ok (.iload 4, 2) := by decide +kernel
theorem dX9_removeOfAge_25 : decode cX9_removeOfAge 25 = .ok (.isub, 1) := by decide +kernel
theorem dX9_removeOfAge_26 : decode cX9_removeOfAge 26 = .ok (.iastore, 1) := by decide +kernel
theorem dX9_removeOfAge_27 : decode cX9_removeOfAge 27 = .ok (.aload_n 0, 1) := by decide +kernel
theorem dX9_removeOfAge_28 : decode cX9_removeOfAge 28 = .ok (.getfield 9, 3) := by decide +kernel
theorem dX9_removeOfAge_31 : decode cX9_removeOfAge 31 = .ok (.iload_n 1, 1) := by decide +kernel
theorem dX9_removeOfAge_32 : decode cX9_removeOfAge 32 = .ok (.dup2, 1) := by decide +kernel
theorem dX9_removeOfAge_33 : decode cX9_removeOfAge 33 = .ok (.iaload, 1) := by decide +kernel
theorem dX9_removeOfAge_34 : decode cX9_removeOfAge 34 = .ok (.iload 4, 2) := by decide +kernel
theorem dX9_removeOfAge_36 : decode cX9_removeOfAge 36 = .ok (.isub, 1) := by decide +kernel
theorem dX9_removeOfAge_37 : decode cX9_removeOfAge 37 = .ok (.iastore, 1) := by decide +kernel
theorem dX9_removeOfAge_38 : decode cX9_removeOfAge 38 = .ok (.iload 4, 2) := by decide +kernel
theorem dX9_removeOfAge_40 : decode cX9_removeOfAge 40 = .ok (.ireturn, 1) := by decide +kernel
theorem dX9_removeOldest_0 : decode cX9_removeOldest 0 = .ok (.iload_n 2, 1) := by decide +kernel
theorem dX9_removeOldest_1 : decode cX9_removeOldest 1 = .ok (.aload_n 0, 1) := by decide +kernel
theorem dX9_removeOldest_2 : decode cX9_removeOldest 2 = .ok (.getfield 9, 3) := by decide +kernel
theorem dX9_removeOldest_5 : decode cX9_removeOldest 5 = .ok (.iload_n 1, 1) := by decide +kernel
theorem dX9_removeOldest_6 : decode cX9_removeOldest 6 = .ok (.iaload, 1) := by decide +kernel
theorem dX9_removeOldest_7 : decode cX9_removeOldest 7 = .ok (.invokestatic 28, 3) := by decide +kernel
theorem dX9_removeOldest_10 : decode cX9_removeOldest 10 = .ok (.istore_n 3, 1) := by decide +kernel
theorem dX9_removeOldest_11 : decode cX9_removeOldest 11 = .ok (.iconst 0, 1) := by decide +kernel
theorem dX9_removeOldest_12 : decode cX9_removeOldest 12 = .ok (.istore 4, 2) := by decide +kernel
theorem dX9_removeOldest_14 : decode cX9_removeOldest 14 = .ok (.bipush 60, 2) := by decide +kernel
theorem dX9_removeOldest_16 : decode cX9_removeOldest 16 = .ok (.istore 5, 2) := by decide +kernel
theorem dX9_removeOldest_18 : decode cX9_removeOldest 18 = .ok (.iload 5, 2) := by decide +kernel
theorem dX9_removeOldest_20 : decode cX9_removeOldest 20 = .ok (.ifCond .lt 35, 3) := by decide +kernel
theorem dX9_removeOldest_23 : decode cX9_removeOldest 23 = .ok (.iload_n 3, 1) := by decide +kernel
theorem dX9_removeOldest_24 : decode cX9_removeOldest 24 = .ok (.ifCond .le 31, 3) := by decide +kernel
theorem dX9_removeOldest_27 : decode cX9_removeOldest 27 = .ok (.aload_n 0, 1) := by decide +kernel
theorem dX9_removeOldest_28 : decode cX9_removeOldest 28 = .ok (.iload_n 1, 1) := by decide +kernel
theorem dX9_removeOldest_29 : decode cX9_removeOldest 29 = .ok (.iload 5, 2) := by decide +kernel
theorem dX9_removeOldest_31 : decode cX9_removeOldest 31 = .ok (.iload_n 3, 1) := by decide +kernel
theorem dX9_removeOldest_32 : decode cX9_removeOldest 32 = .ok (.invokevirtual 34, 3) := by decide +kernel
theorem dX9_removeOldest_35 : decode cX9_removeOldest 35 = .ok (.istore 6, 2) := by decide +kernel
theorem dX9_removeOldest_37 : decode cX9_removeOldest 37 = .ok (.iload 4, 2) := by decide +kernel
theorem dX9_removeOldest_39 : decode cX9_removeOldest 39 = .ok (.iload 6, 2) := by decide +kernel
theorem dX9_removeOldest_41 : decode cX9_removeOldest 41 = .ok (.iadd, 1) := by decide +kernel
theorem dX9_removeOldest_42 : decode cX9_removeOldest 42 = .ok (.istore 4, 2) := by decide +kernel
theorem dX9_removeOldest_44 : decode cX9_removeOldest 44 = .ok (.iload_n 3, 1) := by decide +kernel
theorem dX9_removeOldest_45 : decode cX9_removeOldest 45 = .ok (.iload 6, 2) := by decide +kernel
theorem dX9_removeOldest_47 : decode cX9_removeOldest 47 = .ok (.isub, 1) := by decide +kernel
theorem dX9_removeOldest_48 : decode cX9_removeOldest 48 = .ok (.istore_n 3, 1) := by decide +kernel
theorem dX9_removeOldest_49 : decode cX9_removeOldest 49 = .ok (.iinc 5 (-1), 3) := by decide +kernel
theorem dX9_removeOldest_52 : decode cX9_removeOldest 52 = .ok (.goto (-34), 3) := by decide +kernel
theorem dX9_removeOldest_55 : decode cX9_removeOldest 55 = .ok (.iload 4, 2) := by decide +kernel
theorem dX9_removeOldest_57 : decode cX9_removeOldest 57 = .ok (.ireturn, 1) := by decide +kernel
theorem dX9_measuresOfTheOldest_0 : decode cX9_measuresOfTheOldest 0 = .ok (.bipush 60, 2) := by decide +kernel
theorem dX9_measuresOfTheOldest_2 : decode cX9_measuresOfTheOldest 2 = .ok (.istore_n 2, 1) := by decide +kernel
theorem dX9_measuresOfTheOldest_3 : decode cX9_measuresOfTheOldest 3 = .ok (.iload_n 2, 1) := by decide +kernel
theorem dX9_measuresOfTheOldest_4 : decode cX9_measuresOfTheOldest 4 = .ok (.ifCond .lt 38, 3) := by decide +kernel
theorem dX9_measuresOfTheOldest_7 : decode cX9_measuresOfTheOldest 7 = .ok (.aload_n 0, 1) := by decide +kernel
theorem dX9_measuresOfTheOldest_8 : decode cX9_measuresOfTheOldest 8 = .ok (.getfield 9, 3) := by decide +kernel
theorem dX9_measuresOfTheOldest_11 : decode cX9_measuresOfTheOldest 11 = .ok (.iload_n 1, 1) := by decide +kernel
theorem dX9_measuresOfTheOldest_12 : decode cX9_measuresOfTheOldest 12 = .ok (.iaload, 1) := by decide +kernel
theorem dX9_measuresOfTheOldest_13 : decode cX9_measuresOfTheOldest 13 = .ok (.ifCond .le 29, 3) := by decide +kernel
theorem dX9_measuresOfTheOldest_16 : decode cX9_measuresOfTheOldest 16 = .ok (.aload_n 0, 1) := by decide +kernel
theorem dX9_measuresOfTheOldest_17 : decode cX9_measuresOfTheOldest 17 = .ok (.getfield 17, 3) := by decide +kernel
theorem dX9_measuresOfTheOldest_20 : decode cX9_measuresOfTheOldest 20 = .ok (.iload_n 1, 1) := by decide +kernel
theorem dX9_measuresOfTheOldest_21 : decode cX9_measuresOfTheOldest 21 = .ok (.aaload, 1) := by decide +kernel
theorem dX9_measuresOfTheOldest_22 : decode cX9_measuresOfTheOldest 22 = .ok (.iload_n 2, 1) := by decide +kernel
theorem dX9_measuresOfTheOldest_23 : decode cX9_measuresOfTheOldest 23 = .ok (.iaload, 1) := by decide +kernel
theorem dX9_measuresOfTheOldest_24 : decode cX9_measuresOfTheOldest 24 = .ok (.ifCond .le 12, 3) := by decide +kernel
theorem dX9_measuresOfTheOldest_27 : decode cX9_measuresOfTheOldest 27 = .ok (.aload_n 0, 1) := by decide +kernel
theorem dX9_measuresOfTheOldest_28 : decode cX9_measuresOfTheOldest 28 = .ok (.getfield 17, 3) := by decide +kernel
theorem dX9_measuresOfTheOldest_31 : decode cX9_measuresOfTheOldest 31 = .ok (.iload_n 1, 1) := by decide +kernel
theorem dX9_measuresOfTheOldest_32 : decode cX9_measuresOfTheOldest 32 = .ok (.aaload, 1) := by decide +kernel
theorem dX9_measuresOfTheOldest_33 : decode cX9_measuresOfTheOldest 33 = .ok (.iload_n 2, 1) := by decide +kernel
theorem dX9_measuresOfTheOldest_34 : decode cX9_measuresOfTheOldest 34 = .ok (.iaload, 1) := by decide +kernel
theorem dX9_measuresOfTheOldest_35 : decode cX9_measuresOfTheOldest 35 = .ok (.ireturn, 1) := by decide +kernel
theorem dX9_measuresOfTheOldest_36 : decode cX9_measuresOfTheOldest 36 = .ok (.iinc 2 (-1), 3) := by decide +kernel
theorem dX9_measuresOfTheOldest_39 : decode cX9_measuresOfTheOldest 39 = .ok (.goto (-36), 3) := by decide +kernel
theorem dX9_measuresOfTheOldest_42 : decode cX9_measuresOfTheOldest 42 = .ok (.iconst 0, 1) := by decide +kernel
theorem dX9_measuresOfTheOldest_43 : decode cX9_measuresOfTheOldest 43 = .ok (.ireturn, 1) := by decide +kernel
theorem dX9_grow_0 : decode cX9_grow 0 = .ok (.aload_n 0, 1) := by decide +kernel
theorem dX9_grow_1 : decode cX9_grow 1 = .ok (.getfield 17, 3) := by decide +kernel
theorem dX9_grow_4 : decode cX9_grow 4 = .ok (.iload_n 1, 1) := by decide +kernel
theorem dX9_grow_5 : decode cX9_grow 5 = .ok (.aaload, 1) := by decide +kernel
theorem dX9_grow_6 : decode cX9_grow 6 = .ok (.astore_n 3, 1) := by decide +kernel
theorem dX9_grow_7 : decode cX9_grow 7 = .ok (.iconst 0, 1) := by decide +kernel
theorem dX9_grow_8 : decode cX9_grow 8 = .ok (.istore 4, 2) := by decide +kernel
theorem dX9_grow_10 : decode cX9_grow 10 = .ok (.bipush 60, 2) := by decide +kernel
theorem dX9_grow_12 : decode cX9_grow 12 = .ok (.istore 5, 2) := by decide +kernel
theorem dX9_grow_14 : decode cX9_grow 14 = .ok (.iload 5, 2) := by decide +kernel
theorem dX9_grow_16 : decode cX9_grow 16 = .ok (.ifCond .lt 60, 3) := by decide +kernel
theorem dX9_grow_19 : decode cX9_grow 19 = .ok (.aload_n 0, 1) := by decide +kernel
theorem dX9_grow_20 : decode cX9_grow 20 = .ok (.getfield 9, 3) := by decide +kernel
theorem dX9_grow_23 : decode cX9_grow 23 = .ok (.iload_n 1, 1) := by decide +kernel
theorem dX9_grow_24 : decode cX9_grow 24 = .ok (.iaload, 1) := by decide +kernel
theorem dX9_grow_25 : decode cX9_grow 25 = .ok (.ifCond .le 51, 3) := by decide +kernel
theorem dX9_grow_28 : decode cX9_grow 28 = .ok (.aload_n 3, 1) := by decide +kernel
theorem dX9_grow_29 : decode cX9_grow 29 = .ok (.iload 5, 2) := by decide +kernel
theorem dX9_grow_31 : decode cX9_grow 31 = .ok (.iaload, 1) := by decide +kernel
theorem dX9_grow_32 : decode cX9_grow 32 = .ok (.istore 6, 2) := by decide +kernel
theorem dX9_grow_34 : decode cX9_grow 34 = .ok (.aload_n 3, 1) := by decide +kernel
theorem dX9_grow_35 : decode cX9_grow 35 = .ok (.iload 5, 2) := by decide +kernel
theorem dX9_grow_37 : decode cX9_grow 37 = .ok (.iconst 0, 1) := by decide +kernel
theorem dX9_grow_38 : decode cX9_grow 38 = .ok (.iastore, 1) := by decide +kernel
theorem dX9_grow_39 : decode cX9_grow 39 = .ok (.iload 5, 2) := by decide +kernel
theorem dX9_grow_41 : decode cX9_grow 41 = .ok (.iload_n 2, 1) := by decide +kernel
theorem dX9_grow_42 : decode cX9_grow 42 = .ok (.if_icmp .ge 21, 3) := by decide +kernel
theorem dX9_grow_45 : decode cX9_grow 45 = .ok (.iload 5, 2) := by decide +kernel
theorem dX9_grow_47 : decode cX9_grow 47 = .ok (.bipush 60, 2) := by decide +kernel
theorem dX9_grow_49 : decode cX9_grow 49 = .ok (.if_icmp .ge 14, 3) := by decide +kernel
theorem dX9_grow_52 : decode cX9_grow 52 = .ok (.aload_n 3, 1) := by decide +kernel
theorem dX9_grow_53 : decode cX9_grow 53 = .ok (.iload 5, 2) := by decide +kernel
theorem dX9_grow_55 : decode cX9_grow 55 = .ok (.iconst 1, 1) := by decide +kernel
theorem dX9_grow_56 : decode cX9_grow 56 = .ok (.iadd, 1) := by decide +kernel
theorem dX9_grow_57 : decode cX9_grow 57 = .ok (.iload 6, 2) := by decide +kernel
theorem dX9_grow_59 : decode cX9_grow 59 = .ok (.iastore, 1) := by decide +kernel
theorem dX9_grow_60 : decode cX9_grow 60 = .ok (.goto 10, 3) := by decide +kernel
theorem dX9_grow_63 : decode cX9_grow 63 = .ok (.iload 4, 2) := by decide +kernel
theorem dX9_grow_65 : decode cX9_grow 65 = .ok (.iload 6, 2) := by decide +kernel
theorem dX9_grow_67 : decode cX9_grow 67 = .ok (.iadd, 1) := by decide +kernel
theorem dX9_grow_68 : decode cX9_grow 68 = .ok (.istore 4, 2) := by decide +kernel
theorem dX9_grow_70 : decode cX9_grow 70 = .ok (.iinc 5 (-1), 3) := by decide +kernel
theorem dX9_grow_73 : decode cX9_grow 73 = .ok (.goto (-59), 3) := by decide +kernel
theorem dX9_grow_76 : decode cX9_grow 76 = .ok (.aload_n 0, 1) := by decide +kernel
theorem dX9_grow_77 : decode cX9_grow 77 = .ok (.getfield 9, 3) := by decide +kernel
theorem dX9_grow_80 : decode cX9_grow 80 = .ok (.iload_n 1, 1) := by decide +kernel
theorem dX9_grow_81 : decode cX9_grow 81 = .ok (.dup2, 1) := by decide +kernel
theorem dX9_grow_82 : decode cX9_grow 82 = .ok (.iaload, 1) := by decide +kernel
theorem dX9_grow_83 : decode cX9_grow 83 = .ok (.iload 4, 2) := by decide +kernel
theorem dX9_grow_85 : decode cX9_grow 85 = .ok (.isub, 1) := by decide +kernel
theorem dX9_grow_86 : decode cX9_grow 86 = .ok (.iastore, 1) := by decide +kernel
theorem dX9_grow_87 : decode cX9_grow 87 = .ok (.iload 4, 2) := by decide +kernel
theorem dX9_grow_89 : decode cX9_grow 89 = .ok (.ireturn, 1) := by decide +kernel
theorem dX10_init_0 : decode cX10_init 0 = .ok (.aload_n 0, 1) := by decide +kernel
theorem dX10_init_1 : decode cX10_init 1 = .ok (.invokespecial 3, 3) := by decide +kernel
theorem dX10_init_4 : decode cX10_init 4 = .ok (.aload_n 0, 1) := by decide +kernel
theorem dX10_init_5 : decode cX10_init 5 = .ok (.new 9, 3) := by decide +kernel
theorem dX10_init_8 : decode cX10_init 8 = .ok (.dup, 1) := by decide +kernel
theorem dX10_init_9 : decode cX10_init 9 = .ok (.invokespecial 11, 3) := by decide +kernel
theorem dX10_init_12 : decode cX10_init 12 = .ok (.putfield 12, 3) := by decide +kernel
theorem dX10_init_15 : decode cX10_init 15 = .ok (.aload_n 0, 1) := by decide +kernel
theorem dX10_init_16 : decode cX10_init 16 = .ok (.new 16, 3) := by decide +kernel
theorem dX10_init_19 : decode cX10_init 19 = .ok (.dup, 1) := by decide +kernel
theorem dX10_init_20 : decode cX10_init 20 = .ok (.invokespecial 18, 3) := by decide +kernel
theorem dX10_init_23 : decode cX10_init 23 = .ok (.putfield 19, 3) := by decide +kernel
theorem dX10_init_26 : decode cX10_init 26 = .ok (.aload_n 0, 1) := by decide +kernel
theorem dX10_init_27 : decode cX10_init 27 = .ok (.new 23, 3) := by decide +kernel
theorem dX10_init_30 : decode cX10_init 30 = .ok (.dup, 1) := by decide +kernel
theorem dX10_init_31 : decode cX10_init 31 = .ok (.invokespecial 25, 3) := by decide +kernel
theorem dX10_init_34 : decode cX10_init 34 = .ok (.putfield 26, 3) := by decide +kernel
theorem dX10_init_37 : decode cX10_init 37 = .ok (.aload_n 0, 1) := by decide +kernel
theorem dX10_init_38 : decode cX10_init 38 = .ok (.sipush 1000, 3) := by decide +kernel
theorem dX10_init_41 : decode cX10_init 41 = .ok (.newarray .byte, 2) := by decide +kernel
theorem dX10_init_43 : decode cX10_init 43 = .ok (.putfield 30, 3) := by decide +kernel
theorem dX10_init_46 : decode cX10_init 46 = .ok (.aload_n 0, 1) := by decide +kernel
theorem dX10_init_47 : decode cX10_init 47 = .ok (.new 34, 3) := by decide +kernel
theorem dX10_init_50 : decode cX10_init 50 = .ok (.dup, 1) := by decide +kernel
theorem dX10_init_51 : decode cX10_init 51 = .ok (.invokespecial 36, 3) := by decide +kernel
theorem dX10_init_54 : decode cX10_init 54 = .ok (.putfield 37, 3) := by decide +kernel
theorem dX10_init_57 : decode cX10_init 57 = .ok (.aload_n 0, 1) := by decide +kernel
theorem dX10_init_58 : decode cX10_init 58 = .ok (.new 41, 3) := by decide +kernel
theorem dX10_init_61 : decode cX10_init 61 = .ok (.dup, 1) := by decide +kernel
theorem dX10_init_62 : decode cX10_init 62 = .ok (.invokespecial 43, 3) := by decide +kernel
theorem dX10_init_65 : decode cX10_init 65 = .ok (.putfield 44, 3) := by decide +kernel
theorem dX10_init_68 : decode cX10_init 68 = .ok (.aload_n 0, 1) := by decide +kernel
theorem dX10_init_69 : decode cX10_init 69 = .ok (.new 48, 3) := by decide +kernel
theorem dX10_init_72 : decode cX10_init 72 = .ok (.dup, 1) := by decide +kernel
theorem dX10_init_73 : decode cX10_init 73 = .ok (.invokespecial 50, 3) := by decide +kernel
theorem dX10_init_76 : decode cX10_init 76 = .ok (.putfield 51, 3) := by decide +kernel
theorem dX10_init_79 : decode cX10_init 79 = .ok (.aload_n 0, 1) := by decide +kernel
theorem dX10_init_80 : decode cX10_init 80 = .ok (.new 55, 3) := by decide +kernel
theorem dX10_init_83 : decode cX10_init 83 = .ok (.dup, 1) := by decide +kernel
theorem dX10_init_84 : decode cX10_init 84 = .ok (.invokespecial 57, 3) := by decide +kernel
theorem dX10_init_87 : decode cX10_init 87 = .ok (.putfield 58, 3) := by decide +kernel
theorem dX10_init_90 : decode cX10_init 90 = .ok (.return_, 1) := by decide +kernel
theorem dX10_town_0 : decode cX10_town 0 = .ok (.iload_n 1, 1) := by decide +kernel
theorem dX10_town_1 : decode cX10_town 1 = .ok (.iconst 0, 1) := by decide +kernel
theorem dX10_town_2 : decode cX10_town 2 = .ok (.ldc 62, 2) := by decide +kernel
theorem dX10_town_4 : decode cX10_town 4 = .ok (.invokestatic 63, 3) := by decide +kernel
theorem dX10_town_7 : decode cX10_town 7 = .ok (.ifCond .eq 25, 3) := by decide +kernel
theorem dX10_town_10 : decode cX10_town 10 = .ok (.iload_n 2, 1) := by decide +kernel
theorem dX10_town_11 : decode cX10_town 11 = .ok (.iconst 0, 1) := by decide +kernel
theorem dX10_town_12 : decode cX10_town 12 = .ok (.sipush 1000, 3) := by decide +kernel
theorem dX10_town_15 : decode cX10_town 15 = .ok (.invokestatic 63, 3) := by decide +kernel
theorem dX10_town_18 : decode cX10_town 18 = .ok (.ifCond .eq 14, 3) := by decide +kernel
theorem dX10_town_21 : decode cX10_town 21 = .ok (.iload_n 3, 1) := by decide +kernel
theorem dX10_town_22 : decode cX10_town 22 = .ok (.iconst 0, 1) := by decide +kernel
theorem dX10_town_23 : decode cX10_town 23 = .ok (.sipush 500, 3) := by decide +kernel
theorem dX10_town_26 : decode cX10_town 26 = .ok (.invokestatic 63, 3) := by decide +kernel
theorem dX10_town_29 : decode cX10_town 29 = .ok (.ifCond .ne 5, 3) := by decide +kernel
theorem dX10_town_32 : decode cX10_town 32 = .ok (.iconst (-1), 1) := by decide +kernel
theorem dX10_town_33 : decode cX10_town 33 = .ok (.ireturn, 1) := by decide +kernel
theorem dX10_town_34 : decode cX10_town 34 = .ok (.aload_n 0, 1) := by decide +kernel
theorem dX10_town_35 : decode cX10_town 35 = .ok (.getfield 12, 3) := by decide +kernel
theorem dX10_town_38 : decode cX10_town 38 = .ok (.iload_n 1, 1) := by decide +kernel
theorem dX10_town_39 : decode cX10_town 39 = .ok (.iload_n 2, 1) := by decide +kernel
theorem dX10_town_40 : decode cX10_town 40 = .ok (.iload_n 3, 1) := by decide +kernel
theorem dX10_town_41 : decode cX10_town 41 = .ok (.invokevirtual 67, 3) := by decide +kernel
theorem dX10_town_44 : decode cX10_town 44 = .ok (.ireturn, 1) := by decide +kernel
theorem dX10_way_0 : decode cX10_way 0 = .ok (.aload_n 0, 1) := by decide +kernel
theorem dX10_way_1 : decode cX10_way 1 = .ok (.getfield 12, 3) := by decide +kernel
theorem dX10_way_4 : decode cX10_way 4 = .ok (.iload_n 1, 1) := by decide +kernel
theorem dX10_way_5 : decode cX10_way 5 = .ok (.invokevirtual 71, 3) := by decide +kernel
theorem dX10_way_8 : decode cX10_way 8 = .ok (.ifCond .eq 19, 3) := by decide +kernel
theorem dX10_way_11 : decode cX10_way 11 = .ok (.aload_n 0, 1) := by decide +kernel
theorem dX10_way_12 : decode cX10_way 12 = .ok (.getfield 12, 3) := by decide +kernel
theorem dX10_way_15 : decode cX10_way 15 = .ok (.iload_n 2, 1) := by decide +kernel
theorem dX10_way_16 : decode cX10_way 16 = .ok (.invokevirtual 71, 3) := by decide +kernel
theorem dX10_way_19 : decode cX10_way 19 = .ok (.ifCond .eq 8, 3) := by decide +kernel
theorem dX10_way_22 : decode cX10_way 22 = .ok (.iload_n 1, 1) := by decide +kernel
theorem dX10_way_23 : decode cX10_way 23 = .ok (.iload_n 2, 1) := by decide +kernel
theorem dX10_way_24 : decode cX10_way 24 = .ok (.if_icmp .ne 5, 3) := by decide +kernel
theorem dX10_way_27 : decode cX10_way 27 = .ok (.iconst 0, 1) := by decide +kernel
theorem dX10_way_28 : decode cX10_way 28 = .ok (.ireturn, 1) := by decide +kernel
theorem dX10_way_29 : decode cX10_way 29 = .ok (.iload_n 3, 1) := by decide +kernel
theorem dX10_way_30 : decode cX10_way 30 = .ok (.iconst (-1), 1) := by decide +kernel
theorem dX10_way_31 : decode cX10_way 31 = .ok (.if_icmp .eq 16, 3) := by decide +kernel
theorem dX10_way_34 : decode cX10_way 34 = .ok (.iload_n 3, 1) := by decide +kernel
theorem dX10_way_35 : decode cX10_way 35 = .ok (.iconst 1, 1) := by decide +kernel
theorem dX10_way_36 : decode cX10_way 36 = .ok (.sipush 200, 3) := by decide +kernel
theorem dX10_way_39 : decode cX10_way 39 = .ok (.invokestatic 63, 3) := by decide +kernel
theorem dX10_way_42 : decode cX10_way 42 = .ok (.ifCond .ne 5, 3) := by decide +kernel
theorem dX10_way_45 : decode cX10_way 45 = .ok (.iconst 0, 1) := by decide +kernel
theorem dX10_way_46 : decode cX10_way 46 = .ok (.ireturn, 1) := by decide +kernel
theorem dX10_way_47 : decode cX10_way 47 = .ok (.aload_n 0, 1) := by decide +kernel
theorem dX10_way_48 : decode cX10_way 48 = .ok (.getfield 12, 3) := by decide +kernel
theorem dX10_way_51 : decode cX10_way 51 = .ok (.getfield 75, 3) := by decide +kernel
theorem dX10_way_54 : decode cX10_way 54 = .ok (.iload_n 1, 1) := by decide +kernel
theorem dX10_way_55 : decode cX10_way 55 = .ok (.aaload, 1) := by decide +kernel
theorem dX10_way_56 : decode cX10_way 56 = .ok (.iload_n 2, 1) := by decide +kernel
theorem dX10_way_57 : decode cX10_way 57 = .ok (.iload_n 3, 1) := by decide +kernel
theorem dX10_way_58 : decode cX10_way 58 = .ok (.iastore, 1) := by decide +kernel
theorem dX10_way_59 : decode cX10_way 59 = .ok (.aload_n 0, 1) := by decide +kernel
theorem dX10_way_60 : decode cX10_way 60 = .ok (.getfield 12, 3) := by decide +kernel
theorem dX10_way_63 : decode cX10_way 63 = .ok (.getfield 75, 3) := by decide +kernel
theorem dX10_way_66 : decode cX10_way 66 = .ok (.iload_n 2, 1) := by decide +kernel
theorem dX10_way_67 : decode cX10_way 67 = .ok (.aaload, 1) := by decide +kernel
theorem dX10_way_68 : decode cX10_way 68 = .ok (.iload_n 1, 1) := by decide +kernel
theorem dX10_way_69 : decode cX10_way 69 = .ok (.iload_n 3, 1) := by decide +kernel
theorem dX10_way_70 : decode cX10_way 70 = .ok (.iastore, 1) := by decide +kernel
theorem dX10_way_71 : decode cX10_way 71 = .ok (.iconst 1, 1) := by decide +kernel
theorem dX10_way_72 : decode cX10_way 72 = .ok (.ireturn, 1) := by decide +kernel
theorem dX10_keeps_0 : decode cX10_keeps 0 = .ok (.iload_n 1, 1) := by decide +kernel
theorem dX10_keeps_1 : decode cX10_keeps 1 = .ok (.invokestatic 79, 3) := by decide +kernel
theorem dX10_keeps_4 : decode cX10_keeps 4 = .ok (.ifCond .eq 13, 3) := by decide +kernel
theorem dX10_keeps_7 : decode cX10_keeps 7 = .ok (.iload_n 2, 1) := by decide +kernel
theorem dX10_keeps_8 : decode cX10_keeps 8 = .ok (.iconst 1, 1) := by decide +kernel
theorem dX10_keeps_9 : decode cX10_keeps 9 = .ok (.bipush 60, 2) := by decide +kernel
theorem dX10_keeps_11 : decode cX10_keeps 11 = .ok (.invokestatic 63, 3) := by decide +kernel
theorem dX10_keeps_14 : decode cX10_keeps 14 = .ok (.ifCond .ne 5, 3) := by decide +kernel
theorem dX10_keeps_17 : decode cX10_keeps 17 = .ok (.iconst 0, 1) := by decide +kernel
theorem dX10_keeps_18 : decode cX10_keeps 18 = .ok (.ireturn, 1) := by decide +kernel
theorem dX10_keeps_19 : decode cX10_keeps 19 = .ok (.aload_n 0, 1) := by decide +kernel
theorem dX10_keeps_20 : decode cX10_keeps 20 = .ok (.getfield 12, 3) := by decide +kernel
theorem dX10_keeps_23 : decode cX10_keeps 23 = .ok (.getfield 82, 3) := by decide +kernel
theorem dX10_keeps_26 : decode cX10_keeps 26 = .ok (.iload_n 1, 1) := by decide +kernel
theorem dX10_keeps_27 : decode cX10_keeps 27 = .ok (.iload_n 2, 1) := by decide +kernel
theorem dX10_keeps_28 : decode cX10_keeps 28 = .ok (.iastore, 1) := by decide +kernel
theorem dX10_keeps_29 : decode cX10_keeps 29 = .ok (.iconst 1, 1) := by decide +kernel
theorem dX10_keeps_30 : decode cX10_keeps 30 = .ok (.ireturn, 1) := by decide +kernel
theorem dX10_put_0 : decode cX10_put 0 = .ok (.aload_n 0, 1) := by decide +kernel
theorem dX10_put_1 : decode cX10_put 1 = .ok (.getfield 12, 3) := by decide +kernel
theorem dX10_put_4 : decode cX10_put 4 = .ok (.iload_n 1, 1) := by decide +kernel
theorem dX10_put_5 : decode cX10_put 5 = .ok (.invokevirtual 71, 3) := by decide +kernel
theorem dX10_put_8 : decode cX10_put 8 = .ok (.ifCond .eq 31, 3) := by decide +kernel
theorem dX10_put_11 : decode cX10_put 11 = .ok (.iload_n 2, 1) := by decide +kernel
theorem dX10_put_12 : decode cX10_put 12 = .ok (.invokestatic 79, 3) := by decide +kernel
theorem dX10_put_15 : decode cX10_put 15 = .ok (.ifCond .eq 24, 3) := by decide +kernel
theorem dX10_put_18 : decode cX10_put 18 = .ok (.iload_n 3, 1) := by decide +kernel
theorem dX10_put_19 : decode cX10_put 19 = .ok (.iconst 0, 1) := by decide +kernel
theorem dX10_put_20 : decode cX10_put 20 = .ok (.bipush 60, 2) := by decide +kernel
theorem dX10_put_22 : decode cX10_put 22 = .ok (.invokestatic 63, 3) := by decide +kernel
theorem dX10_put_25 : decode cX10_put 25 = .ok (.ifCond .eq 14, 3) := by decide +kernel
theorem dX10_put_28 : decode cX10_put 28 = .ok (.iload 4, 2) := by decide +kernel
theorem dX10_put_30 : decode cX10_put 30 = .ok (.iconst 1, 1) := by decide +kernel
theorem dX10_put_31 : decode cX10_put 31 = .ok (.ldc 62, 2) := by decide +kernel
theorem dX10_put_33 : decode cX10_put 33 = .ok (.invokestatic 63, 3) := by decide +kernel
theorem dX10_put_36 : decode cX10_put 36 = .ok (.ifCond .ne 5, 3) := by decide +kernel
theorem dX10_put_39 : decode cX10_put 39 = .ok (.iconst (-1), 1) := by decide +kernel
theorem dX10_put_40 : decode cX10_put 40 = .ok (.ireturn, 1) := by decide +kernel
theorem dX10_put_41 : decode cX10_put 41 = .ok (.aload_n 0, 1) := by decide +kernel
theorem dX10_put_42 : decode cX10_put 42 = .ok (.getfield 12, 3) := by decide +kernel
theorem dX10_put_45 : decode cX10_put 45 = .ok (.getfield 86, 3) := by decide +kernel
theorem dX10_put_48 : decode cX10_put 48 = .ok (.iload_n 1, 1) := by decide +kernel
theorem dX10_put_49 : decode cX10_put 49 = .ok (.aaload, 1) := by decide +kernel
theorem dX10_put_50 : decode cX10_put 50 = .ok (.iload_n 2, 1) := by decide +kernel
theorem dX10_put_51 : decode cX10_put 51 = .ok (.iload_n 3, 1) := by decide +kernel
theorem dX10_put_52 : decode cX10_put 52 = .ok (.iload 4, 2) := by decide +kernel
theorem dX10_put_54 : decode cX10_put 54 = .ok (.invokevirtual 90, 3) := by decide +kernel
theorem dX10_put_57 : decode cX10_put 57 = .ok (.istore 5, 2) := by decide +kernel
theorem dX10_put_59 : decode cX10_put 59 = .ok (.aload_n 0, 1) := by decide +kernel
theorem dX10_put_60 : decode cX10_put 60 = .ok (.getfield 19, 3) := by decide +kernel
theorem dX10_put_63 : decode cX10_put 63 = .ok (.dup, 1) := by decide +kernel
theorem dX10_put_64 : decode cX10_put 64 = .ok (.getfield 95, 3) := by decide +kernel
theorem dX10_put_67 : decode cX10_put 67 = .ok (.iload 4, 2) := by decide +kernel
theorem dX10_put_69 : decode cX10_put 69 = .ok (.iload 5, 2) := by decide +kernel
theorem dX10_put_71 : decode cX10_put 71 = .ok (.isub, 1) := by decide +kernel
theorem dX10_put_72 : decode cX10_put 72 = .ok (.iadd, 1) := by decide +kernel
theorem dX10_put_73 : decode cX10_put 73 = .ok (.putfield 95, 3) := by decide +kernel
theorem dX10_put_76 : decode cX10_put 76 = .ok (.iload 5, 2) := by decide +kernel
theorem dX10_put_78 : decode cX10_put 78 = .ok (.ireturn, 1) := by decide +kernel
theorem dX10_take_0 : decode cX10_take 0 = .ok (.aload_n 0, 1) := by decide +kernel
theorem dX10_take_1 : decode cX10_take 1 = .ok (.getfield 12, 3) := by decide +kernel
theorem dX10_take_4 : decode cX10_take 4 = .ok (.iload_n 1, 1) := by decide +kernel
theorem dX10_take_5 : decode cX10_take 5 = .ok (.invokevirtual 71, 3) := by decide +kernel
theorem dX10_take_8 : decode cX10_take 8 = .ok (.ifCond .eq 20, 3) := by decide +kernel

theorem dX6_giveAlong_104 : decode cX6_giveAlong 104 = .ok (.isub, 1) := by decide +kernel
theorem dX6_giveAlong_105 : decode cX6_giveAlong 105 = .ok (.iastore, 1) := by decide +kernel
theorem dX6_giveAlong_106 : decode cX6_giveAlong 106 = .ok (.aload_n 0, 1) := by decide +kernel
theorem dX6_giveAlong_107 : decode cX6_giveAlong 107 = .ok (.dup, 1) := by decide +kernel
theorem dX6_giveAlong_108 : decode cX6_giveAlong 108 = .ok (.getfield 51, 3) := by decide +kernel
theorem dX6_giveAlong_111 : decode cX6_giveAlong 111 = .ok (.iload_n 2, 1) := by decide +kernel
theorem dX6_giveAlong_112 : decode cX6_giveAlong 112 = .ok (.iadd, 1) := by decide +kernel
theorem dX6_giveAlong_113 : decode cX6_giveAlong 113 = .ok (.putfield 51, 3) := by decide +kernel
theorem dX6_giveAlong_116 : decode cX6_giveAlong 116 = .ok (.aload_n 0, 1) := by decide +kernel
theorem dX6_giveAlong_117 : decode cX6_giveAlong 117 = .ok (.dup, 1) := by decide +kernel
theorem dX6_giveAlong_118 : decode cX6_giveAlong 118 = .ok (.getfield 55, 3) := by decide +kernel
theorem dX6_giveAlong_121 : decode cX6_giveAlong 121 = .ok (.iload_n 2, 1) := by decide +kernel
theorem dX6_giveAlong_122 : decode cX6_giveAlong 122 = .ok (.aload_n 0, 1) := by decide +kernel
theorem dX6_giveAlong_123 : decode cX6_giveAlong 123 = .ok (.getfield 24, 3) := by decide +kernel
theorem dX6_giveAlong_126 : decode cX6_giveAlong 126 = .ok (.iload_n 1, 1) := by decide +kernel
theorem dX6_giveAlong_127 : decode cX6_giveAlong 127 = .ok (.iaload, 1) := by decide +kernel
theorem dX6_giveAlong_128 : decode cX6_giveAlong 128 = .ok (.imul, 1) := by decide +kernel
theorem dX6_giveAlong_129 : decode cX6_giveAlong 129 = .ok (.iadd, 1) := by decide +kernel
theorem dX6_giveAlong_130 : decode cX6_giveAlong 130 = .ok (.putfield 55, 3) := by decide +kernel
theorem dX6_giveAlong_133 : decode cX6_giveAlong 133 = .ok (.return_, 1) := by decide +kernel
theorem dX6_measuresAlong_0 : decode cX6_measuresAlong 0 = .ok (.aload_n 0, 1) := by decide +kernel
theorem dX6_measuresAlong_1 : decode cX6_measuresAlong 1 = .ok (.getfield 21, 3) := by decide +kernel
theorem dX6_measuresAlong_4 : decode cX6_measuresAlong 4 = .ok (.iload_n 1, 1) := by decide +kernel
theorem dX6_measuresAlong_5 : decode cX6_measuresAlong 5 = .ok (.iaload, 1) := by decide +kernel
theorem dX6_measuresAlong_6 : decode cX6_measuresAlong 6 = .ok (.istore_n 2, 1) := by decide +kernel
theorem dX6_measuresAlong_7 : decode cX6_measuresAlong 7 = .ok (.iload_n 1, 1) := by decide +kernel
theorem dX6_measuresAlong_8 : decode cX6_measuresAlong 8 = .ok (.istore_n 3, 1) := by decide +kernel
theorem dX6_measuresAlong_9 : decode cX6_measuresAlong 9 = .ok (.iconst 0, 1) := by decide +kernel
theorem dX6_measuresAlong_10 : decode cX6_measuresAlong 10 = .ok (.istore 4, 2) := by decide +kernel
theorem dX6_measuresAlong_12 : decode cX6_measuresAlong 12 = .ok (.iload 4, 2) := by decide +kernel
theorem dX6_measuresAlong_14 : decode cX6_measuresAlong 14 = .ok (.aload_n 0, 1) := by decide +kernel
theorem dX6_measuresAlong_15 : decode cX6_measuresAlong 15 = .ok (.getfield 79, 3) := by decide +kernel
theorem dX6_measuresAlong_18 : decode cX6_measuresAlong 18 = .ok (.if_icmp .gt 61, 3) := by decide +kernel
theorem dX6_measuresAlong_21 : decode cX6_measuresAlong 21 = .ok (.iload_n 3, 1) := by decide +kernel
theorem dX6_measuresAlong_22 : decode cX6_measuresAlong 22 = .ok (.iconst (-1), 1) := by decide +kernel
theorem dX6_measuresAlong_23 : decode cX6_measuresAlong 23 = .ok (.if_icmp .eq 56, 3) := by decide +kernel
theorem dX6_measuresAlong_26 : decode cX6_measuresAlong 26 = .ok (.aload_n 0, 1) := by decide +kernel
theorem dX6_measuresAlong_27 : decode cX6_measuresAlong 27 = .ok (.getfield 27, 3) := by decide +kernel
theorem dX6_measuresAlong_30 : decode cX6_measuresAlong 30 = .ok (.iload_n 3, 1) := by decide +kernel
theorem dX6_measuresAlong_31 : decode cX6_measuresAlong 31 = .ok (.iaload, 1) := by decide +kernel
theorem dX6_measuresAlong_32 : decode cX6_measuresAlong 32 = .ok (.istore 5, 2) := by decide +kernel
theorem dX6_measuresAlong_34 : decode cX6_measuresAlong 34 = .ok (.aload_n 0, 1) := by decide +kernel
theorem dX6_measuresAlong_35 : decode cX6_measuresAlong 35 = .ok (.getfield 42, 3) := by decide +kernel
theorem dX6_measuresAlong_38 : decode cX6_measuresAlong 38 = .ok (.iload 5, 2) := by decide +kernel
theorem dX6_measuresAlong_40 : decode cX6_measuresAlong 40 = .ok (.iaload, 1) := by decide +kernel
theorem dX6_measuresAlong_41 : decode cX6_measuresAlong 41 = .ok (.istore_n 3, 1) := by decide +kernel
theorem dX6_measuresAlong_42 : decode cX6_measuresAlong 42 = .ok (.iload_n 2, 1) := by decide +kernel
theorem dX6_measuresAlong_43 : decode cX6_measuresAlong 43 = .ok (.iload_n 3, 1) := by decide +kernel
theorem dX6_measuresAlong_44 : decode cX6_measuresAlong 44 = .ok (.iconst (-1), 1) := by decide +kernel
theorem dX6_measuresAlong_45 : decode cX6_measuresAlong 45 = .ok (.if_icmp .eq 17, 3) := by decide +kernel
theorem dX6_measuresAlong_48 : decode cX6_measuresAlong 48 = .ok (.aload_n 0, 1) := by decide +kernel
theorem dX6_measuresAlong_49 : decode cX6_measuresAlong 49 = .ok (.getfield 48, 3) := by decide +kernel
theorem dX6_measuresAlong_52 : decode cX6_measuresAlong 52 = .ok (.iload 5, 2) := by decide +kernel
theorem dX6_measuresAlong_54 : decode cX6_measuresAlong 54 = .ok (.iload_n 3, 1) := by decide +kernel
theorem dX6_measuresAlong_55 : decode cX6_measuresAlong 55 = .ok (.invokestatic 131, 3) := by decide +kernel
theorem dX6_measuresAlong_58 : decode cX6_measuresAlong 58 = .ok (.iaload, 1) := by decide +kernel
theorem dX6_measuresAlong_59 : decode cX6_measuresAlong 59 = .ok (.goto 10, 3) := by decide +kernel
theorem dX6_measuresAlong_62 : decode cX6_measuresAlong 62 = .ok (.aload_n 0, 1) := by decide +kernel
theorem dX6_measuresAlong_63 : decode cX6_measuresAlong 63 = .ok (.getfield 36, 3) := by decide +kernel
theorem dX6_measuresAlong_66 : decode cX6_measuresAlong 66 = .ok (.iload 5, 2) := by decide +kernel
theorem dX6_measuresAlong_68 : decode cX6_measuresAlong 68 = .ok (.iaload, 1) := by decide +kernel
theorem dX6_measuresAlong_69 : decode cX6_measuresAlong 69 = .ok (.invokestatic 152, 3) := by decide +kernel
theorem dX6_measuresAlong_72 : decode cX6_measuresAlong 72 = .ok (.istore_n 2, 1) := by decide +kernel
theorem dX6_measuresAlong_73 : decode cX6_measuresAlong 73 = .ok (.iinc 4 1, 3) := by decide +kernel
theorem dX6_measuresAlong_76 : decode cX6_measuresAlong 76 = .ok (.goto (-64), 3) := by decide +kernel
theorem dX6_measuresAlong_79 : decode cX6_measuresAlong 79 = .ok (.iload_n 2, 1) := by decide +kernel
theorem dX6_measuresAlong_80 : decode cX6_measuresAlong 80 = .ok (.ireturn, 1) := by decide +kernel
theorem dX7_init_0 : decode cX7_init 0 = .ok (.aload_n 0, 1) := by decide +kernel
theorem dX7_init_1 : decode cX7_init 1 = .ok (.invokespecial 1, 3) := by decide +kernel
theorem dX7_init_4 : decode cX7_init 4 = .ok (.return_, 1) := by decide +kernel
theorem dX8_init_0 : decode cX8_init 0 = .ok (.aload_n 0, 1) := by decide +kernel
theorem dX8_init_1 : decode cX8_init 1 = .ok (.invokespecial 3, 3) := by decide +kernel
theorem dX8_init_4 : decode cX8_init 4 = .ok (.aload_n 0, 1) := by decide +kernel
theorem dX8_init_5 : decode cX8_init 5 = .ok (.sipush 1002, 3) := by decide +kernel
theorem dX8_init_8 : decode cX8_init 8 = .ok (.newarray .byte, 2) := by decide +kernel
theorem dX8_init_10 : decode cX8_init 10 = .ok (.putfield 9, 3) := by decide +kernel
theorem dX8_init_13 : decode cX8_init 13 = .ok (.aload_n 0, 1) := by decide +kernel
theorem dX8_init_14 : decode cX8_init 14 = .ok (.sipush 1002, 3) := by decide +kernel
theorem dX8_init_17 : decode cX8_init 17 = .ok (.newarray .int, 2) := by decide +kernel
theorem dX8_init_19 : decode cX8_init 19 = .ok (.putfield 15, 3) := by decide +kernel
theorem dX8_init_22 : decode cX8_init 22 = .ok (.aload_n 0, 1) := by decide +kernel
theorem dX8_init_23 : decode cX8_init 23 = .ok (.sipush 1002, 3) := by decide +kernel
theorem dX8_init_26 : decode cX8_init 26 = .ok (.newarray .short, 2) := by decide +kernel
theorem dX8_init_28 : decode cX8_init 28 = .ok (.putfield 19, 3) := by decide +kernel
theorem dX8_init_31 : decode cX8_init 31 = .ok (.return_, 1) := by decide +kernel
theorem dX8_scan_0 : decode cX8_scan 0 = .ok (.aload_n 0, 1) := by decide +kernel
theorem dX8_scan_1 : decode cX8_scan 1 = .ok (.iconst 0, 1) := by decide +kernel
theorem dX8_scan_2 : decode cX8_scan 2 = .ok (.putfield 23, 3) := by decide +kernel
theorem dX8_scan_5 : decode cX8_scan 5 = .ok (.iconst 0, 1) := by decide +kernel
theorem dX8_scan_6 : decode cX8_scan 6 = .ok (.istore_n 3, 1) := by decide +kernel
theorem dX8_scan_7 : decode cX8_scan 7 = .ok (.iconst 0, 1) := by decide +kernel
theorem dX8_scan_8 : decode cX8_scan 8 = .ok (.istore 4, 2) := by decide +kernel
theorem dX8_scan_10 : decode cX8_scan 10 = .ok (.iload 4, 2) := by decide +kernel
theorem dX8_scan_12 : decode cX8_scan 12 = .ok (.iload_n 2, 1) := by decide +kernel
theorem dX8_scan_13 : decode cX8_scan 13 = .ok (.if_icmp .ge 108, 3) := by decide +kernel
theorem dX8_scan_16 : decode cX8_scan 16 = .ok (.iload_n 3, 1) := by decide +kernel
theorem dX8_scan_17 : decode cX8_scan 17 = .ok (.iload_n 2, 1) := by decide +kernel
theorem dX8_scan_18 : decode cX8_scan 18 = .ok (.if_icmp .ge 103, 3) := by decide +kernel
theorem dX8_scan_21 : decode cX8_scan 21 = .ok (.aload_n 1, 1) := by decide +kernel
theorem dX8_scan_22 : decode cX8_scan 22 = .ok (.iload_n 3, 1) := by decide +kernel
theorem dX8_scan_23 : decode cX8_scan 23 = .ok (.baload, 1) := by decide +kernel
theorem dX8_scan_24 : decode cX8_scan 24 = .ok (.istore 5, 2) := by decide +kernel
theorem dX8_scan_26 : decode cX8_scan 26 = .ok (.iload 5, 2) := by decide +kernel
theorem dX8_scan_28 : decode cX8_scan 28 = .ok (.invokestatic 27, 3) := by decide +kernel
theorem dX8_scan_31 : decode cX8_scan 31 = .ok (.ifCond .eq 14, 3) := by decide +kernel
theorem dX8_scan_34 : decode cX8_scan 34 = .ok (.aload_n 0, 1) := by decide +kernel
theorem dX8_scan_35 : decode cX8_scan 35 = .ok (.aload_n 1, 1) := by decide +kernel
theorem dX8_scan_36 : decode cX8_scan 36 = .ok (.iload_n 3, 1) := by decide +kernel
theorem dX8_scan_37 : decode cX8_scan 37 = .ok (.iload_n 2, 1) := by decide +kernel
theorem dX8_scan_38 : decode cX8_scan 38 = .ok (.invokevirtual 31, 3) := by decide +kernel
theorem dX8_scan_41 : decode cX8_scan 41 = .ok (.istore_n 3, 1) := by decide +kernel
theorem dX8_scan_42 : decode cX8_scan 42 = .ok (.goto 73, 3) := by decide +kernel
theorem dX8_scan_45 : decode cX8_scan 45 = .ok (.iload 5, 2) := by decide +kernel
theorem dX8_scan_47 : decode cX8_scan 47 = .ok (.invokestatic 35, 3) := by decide +kernel
theorem dX8_scan_50 : decode cX8_scan 50 = .ok (.ifCond .eq 14, 3) := by decide +kernel
theorem dX8_scan_53 : decode cX8_scan 53 = .ok (.aload_n 0, 1) := by decide +kernel
theorem dX8_scan_54 : decode cX8_scan 54 = .ok (.aload_n 1, 1) := by decide +kernel
theorem dX8_scan_55 : decode cX8_scan 55 = .ok (.iload_n 3, 1) := by decide +kernel
theorem dX8_scan_56 : decode cX8_scan 56 = .ok (.iload_n 2, 1) := by decide +kernel
theorem dX8_scan_57 : decode cX8_scan 57 = .ok (.invokevirtual 38, 3) := by decide +kernel
theorem dX8_scan_60 : decode cX8_scan 60 = .ok (.istore_n 3, 1) := by decide +kernel
theorem dX8_scan_61 : decode cX8_scan 61 = .ok (.goto 54, 3) := by decide +kernel
theorem dX8_scan_64 : decode cX8_scan 64 = .ok (.iload 5, 2) := by decide +kernel
theorem dX8_scan_66 : decode cX8_scan 66 = .ok (.invokestatic 41, 3) := by decide +kernel
theorem dX8_scan_69 : decode cX8_scan 69 = .ok (.ifCond .eq 17, 3) := by decide +kernel
theorem dX8_scan_72 : decode cX8_scan 72 = .ok (.aload_n 0, 1) := by decide +kernel
theorem dX8_scan_73 : decode cX8_scan 73 = .ok (.iload 5, 2) := by decide +kernel
theorem dX8_scan_75 : decode cX8_scan 75 = .ok (.iconst 0, 1) := by decide +kernel
theorem dX8_scan_76 : decode cX8_scan 76 = .ok (.iload_n 3, 1) := by decide +kernel
theorem dX8_scan_77 : decode cX8_scan 77 = .ok (.invokevirtual 44, 3) := by decide +kernel
theorem dX8_scan_80 : decode cX8_scan 80 = .ok (.iinc 3 1, 3) := by decide +kernel
theorem dX8_scan_83 : decode cX8_scan 83 = .ok (.goto 32, 3) := by decide +kernel
theorem dX8_scan_86 : decode cX8_scan 86 = .ok (.iload 5, 2) := by decide +kernel
theorem dX8_scan_88 : decode cX8_scan 88 = .ok (.bipush 32, 2) := by decide +kernel
theorem dX8_scan_90 : decode cX8_scan 90 = .ok (.if_icmp .eq 10, 3) := by decide +kernel
theorem dX8_scan_93 : decode cX8_scan 93 = .ok (.iload 5, 2) := by decide +kernel
theorem dX8_scan_95 : decode cX8_scan 95 = .ok (.bipush 10, 2) := by decide +kernel
theorem dX8_scan_97 : decode cX8_scan 97 = .ok (.if_icmp .ne 9, 3) := by decide +kernel
theorem dX8_scan_100 : decode cX8_scan 100 = .ok (.iinc 3 1, 3) := by decide +kernel
theorem dX8_scan_103 : decode cX8_scan 103 = .ok (.goto 12, 3) := by decide +kernel
theorem dX8_scan_106 : decode cX8_scan 106 = .ok (.aload_n 0, 1) := by decide +kernel
theorem dX8_scan_107 : decode cX8_scan 107 = .ok (.iconst 1, 1) := by decide +kernel
theorem dX8_scan_108 : decode cX8_scan 108 = .ok (.iconst 0, 1) := by decide +kernel
theorem dX8_scan_109 : decode cX8_scan 109 = .ok (.iload_n 3, 1) := by decide +kernel
theorem dX8_scan_110 : decode cX8_scan 110 = .ok (.invokevirtual 44, 3) := by decide +kernel
theorem dX8_scan_113 : decode cX8_scan 113 = .ok (.iload_n 2, 1) := by decide +kernel
theorem dX8_scan_114 : decode cX8_scan 114 = .ok (.istore_n 3, 1) := by decide +kernel
theorem dX8_scan_115 : decode cX8_scan 115 = .ok (.iinc 4 1, 3) := by decide +kernel
theorem dX8_scan_118 : decode cX8_scan 118 = .ok (.goto (-108), 3) := by decide +kernel
theorem dX8_scan_121 : decode cX8_scan 121 = .ok (.aload_n 0, 1) := by decide +kernel
theorem dX8_scan_122 : decode cX8_scan 122 = .ok (.iconst 0, 1) := by decide +kernel
theorem dX8_scan_123 : decode cX8_scan 123 = .ok (.iconst 0, 1) := by decide +kernel
theorem dX8_scan_124 : decode cX8_scan 124 = .ok (.iload_n 2, 1) := by decide +kernel
theorem dX8_scan_125 : decode cX8_scan 125 = .ok (.invokevirtual 44, 3) := by decide +kernel
theorem dX8_scan_128 : decode cX8_scan 128 = .ok (.return_, 1) := by decide +kernel
theorem dX8_add_0 : decode cX8_add 0 = .ok (.aload_n 0, 1) := by decide +kernel
theorem dX8_add_1 : decode cX8_add 1 = .ok (.getfield 23, 3) := by decide +kernel
theorem dX8_add_4 : decode cX8_add 4 = .ok (.aload_n 0, 1) := by decide +kernel
theorem dX8_add_5 : decode cX8_add 5 = .ok (.getfield 9, 3) := by decide +kernel
theorem dX8_add_8 : decode cX8_add 8 = .ok (.arraylength, 1) := by decide +kernel
theorem dX8_add_9 : decode cX8_add 9 = .ok (.if_icmp .ge 45, 3) := by decide +kernel
theorem dX8_add_12 : decode cX8_add 12 = .ok (.aload_n 0, 1) := by decide +kernel
theorem dX8_add_13 : decode cX8_add 13 = .ok (.getfield 9, 3) := by decide +kernel
theorem dX8_add_16 : decode cX8_add 16 = .ok (.aload_n 0, 1) := by decide +kernel
theorem dX8_add_17 : decode cX8_add 17 = .ok (.getfield 23, 3) := by decide +kernel
theorem dX8_add_20 : decode cX8_add 20 = .ok (.iload_n 1, 1) := by decide +kernel
theorem dX8_add_21 : decode cX8_add 21 = .ok (.i2b, 1) := by decide +kernel
theorem dX8_add_22 : decode cX8_add 22 = .ok (.bastore, 1) := by decide +kernel
theorem dX8_add_23 : decode cX8_add 23 = .ok (.aload_n 0, 1) := by decide +kernel
theorem dX8_add_24 : decode cX8_add 24 = .ok (.getfield 15, 3) := by decide +kernel
theorem dX8_add_27 : decode cX8_add 27 = .ok (.aload_n 0, 1) := by decide +kernel
theorem dX8_add_28 : decode cX8_add 28 = .ok (.getfield 23, 3) := by decide +kernel
theorem dX8_add_31 : decode cX8_add 31 = .ok (.iload_n 2, 1) := by decide +kernel
theorem dX8_add_32 : decode cX8_add 32 = .ok (.iastore, 1) := by decide +kernel
theorem dX8_add_33 : decode cX8_add 33 = .ok (.aload_n 0, 1) := by decide +kernel
theorem dX8_add_34 : decode cX8_add 34 = .ok (.getfield 19, 3) := by decide +kernel
theorem dX8_add_37 : decode cX8_add 37 = .ok (.aload_n 0, 1) := by decide +kernel
theorem dX8_add_38 : decode cX8_add 38 = .ok (.getfield 23, 3) := by decide +kernel
theorem dX8_add_41 : decode cX8_add 41 = .ok (.iload_n 3, 1) := by decide +kernel
theorem dX8_add_42 : decode cX8_add 42 = .ok (.i2s, 1) := by decide +kernel
theorem dX8_add_43 : decode cX8_add 43 = .ok (.sastore, 1) := by decide +kernel
theorem dX8_add_44 : decode cX8_add 44 = .ok (.aload_n 0, 1) := by decide +kernel
theorem dX8_add_45 : decode cX8_add 45 = .ok (.dup, 1) := by decide +kernel
theorem dX8_add_46 : decode cX8_add 46 = .ok (.getfield 23, 3) := by decide +kernel
theorem dX8_add_49 : decode cX8_add 49 = .ok (.iconst 1, 1) := by decide +kernel
theorem dX8_add_50 : decode cX8_add 50 = .ok (.iadd, 1) := by decide +kernel
theorem dX8_add_51 : decode cX8_add 51 = .ok (.putfield 23, 3) := by decide +kernel
theorem dX8_add_54 : decode cX8_add 54 = .ok (.return_, 1) := by decide +kernel
theorem dX8_addNumber_0 : decode cX8_addNumber 0 = .ok (.iconst 0, 1) := by decide +kernel
theorem dX8_addNumber_1 : decode cX8_addNumber 1 = .ok (.istore 4, 2) := by decide +kernel
theorem dX8_addNumber_3 : decode cX8_addNumber 3 = .ok (.iload_n 2, 1) := by decide +kernel
theorem dX8_addNumber_4 : decode cX8_addNumber 4 = .ok (.istore 5, 2) := by decide +kernel
theorem dX8_addNumber_6 : decode cX8_addNumber 6 = .ok (.iload 5, 2) := by decide +kernel
theorem dX8_addNumber_8 : decode cX8_addNumber 8 = .ok (.iload_n 3, 1) := by decide +kernel
theorem dX8_addNumber_9 : decode cX8_addNumber 9 = .ok (.if_icmp .ge 34, 3) := by decide +kernel
theorem dX8_addNumber_12 : decode cX8_addNumber 12 = .ok (.aload_n 1, 1) := by decide +kernel
theorem dX8_addNumber_13 : decode cX8_addNumber 13 = .ok (.iload 5, 2) := by decide +kernel
theorem dX8_addNumber_15 : decode cX8_addNumber 15 = .ok (.baload, 1) := by decide +kernel
theorem dX8_addNumber_16 : decode cX8_addNumber 16 = .ok (.invokestatic 35, 3) := by decide +kernel
theorem dX8_addNumber_19 : decode cX8_addNumber 19 = .ok (.ifCond .eq 24, 3) := by decide +kernel
theorem dX8_addNumber_22 : decode cX8_addNumber 22 = .ok (.iload 4, 2) := by decide +kernel
theorem dX8_addNumber_24 : decode cX8_addNumber 24 = .ok (.bipush 10, 2) := by decide +kernel
theorem dX8_addNumber_26 : decode cX8_addNumber 26 = .ok (.imul, 1) := by decide +kernel
theorem dX8_addNumber_27 : decode cX8_addNumber 27 = .ok (.aload_n 1, 1) := by decide +kernel
theorem dX8_addNumber_28 : decode cX8_addNumber 28 = .ok (.iload 5, 2) := by decide +kernel
theorem dX8_addNumber_30 : decode cX8_addNumber 30 = .ok (.baload, 1) := by decide +kernel
theorem dX8_addNumber_31 : decode cX8_addNumber 31 = .ok (.iadd, 1) := by decide +kernel
theorem dX8_addNumber_32 : decode cX8_addNumber 32 = .ok (.bipush 48, 2) := by decide +kernel
theorem dX8_addNumber_34 : decode cX8_addNumber 34 = .ok (.isub, 1) := by decide +kernel
theorem dX8_addNumber_35 : decode cX8_addNumber 35 = .ok (.istore 4, 2) := by decide +kernel
theorem dX8_addNumber_37 : decode cX8_addNumber 37 = .ok (.iinc 5 1, 3) := by decide +kernel
theorem dX8_addNumber_40 : decode cX8_addNumber 40 = .ok (.goto (-34), 3) := by decide +kernel
theorem dX8_addNumber_43 : decode cX8_addNumber 43 = .ok (.iload 5, 2) := by decide +kernel
theorem dX8_addNumber_45 : decode cX8_addNumber 45 = .ok (.iload_n 3, 1) := by decide +kernel
theorem dX8_addNumber_46 : decode cX8_addNumber 46 = .ok (.if_icmp .ge 17, 3) := by decide +kernel
theorem dX8_addNumber_49 : decode cX8_addNumber 49 = .ok (.aload_n 1, 1) := by decide +kernel
theorem dX8_addNumber_50 : decode cX8_addNumber 50 = .ok (.iload 5, 2) := by decide +kernel
theorem dX8_addNumber_52 : decode cX8_addNumber 52 = .ok (.baload, 1) := by decide +kernel
theorem dX8_addNumber_53 : decode cX8_addNumber 53 = .ok (.invokestatic 27, 3) := by decide +kernel
theorem dX8_addNumber_56 : decode cX8_addNumber 56 = .ok (.ifCond .eq 7, 3) := by decide +kernel
theorem dX8_addNumber_59 : decode cX8_addNumber 59 = .ok (.iconst 1, 1) := by decide +kernel
theorem dX8_addNumber_60 : decode cX8_addNumber 60 = .ok (.goto 4, 3) := by decide +kernel
theorem dX8_addNumber_63 : decode cX8_addNumber 63 = .ok (.iconst 0, 1) := by decide +kernel
theorem dX8_addNumber_64 : decode cX8_addNumber 64 = .ok (.istore 6, 2) := by decide +kernel
theorem dX8_addNumber_66 : decode cX8_addNumber 66 = .ok (.iload 5, 2) := by decide +kernel
theorem dX8_addNumber_68 : decode cX8_addNumber 68 = .ok (.iload_n 2, 1) := by decide +kernel
theorem dX8_addNumber_69 : decode cX8_addNumber 69 = .ok (.isub, 1) := by decide +kernel
theorem dX8_addNumber_70 : decode cX8_addNumber 70 = .ok (.bipush 6, 2) := by decide +kernel
theorem dX8_addNumber_72 : decode cX8_addNumber 72 = .ok (.if_icmp .gt 8, 3) := by decide +kernel
theorem dX8_addNumber_75 : decode cX8_addNumber 75 = .ok (.iload 6, 2) := by decide +kernel
theorem dX8_addNumber_77 : decode cX8_addNumber 77 = .ok (.ifCond .eq 12, 3) := by decide +kernel
theorem dX8_addNumber_80 : decode cX8_addNumber 80 = .ok (.aload_n 0, 1) := by decide +kernel
theorem dX8_addNumber_81 : decode cX8_addNumber 81 = .ok (.iconst 1, 1) := by decide +kernel
theorem dX8_addNumber_82 : decode cX8_addNumber 82 = .ok (.iconst 0, 1) := by decide +kernel
theorem dX8_addNumber_83 : decode cX8_addNumber 83 = .ok (.iload_n 2, 1) := by decide +kernel
theorem dX8_addNumber_84 : decode cX8_addNumber 84 = .ok (.invokevirtual 44, 3) := by decide +kernel
theorem dX8_addNumber_87 : decode cX8_addNumber 87 = .ok (.iload_n 3, 1) := by decide +kernel
theorem dX8_addNumber_88 : decode cX8_addNumber 88 = .ok (.ireturn, 1) := by decide +kernel
theorem dX8_addNumber_89 : decode cX8_addNumber 89 = .ok (.aload_n 0, 1) := by decide +kernel
theorem dX8_addNumber_90 : decode cX8_addNumber 90 = .ok (.iconst 2, 1) := by decide +kernel
theorem dX8_addNumber_91 : decode cX8_addNumber 91 = .ok (.iload 4, 2) := by decide +kernel
theorem dX8_addNumber_93 : decode cX8_addNumber 93 = .ok (.iload_n 2, 1) := by decide +kernel
theorem dX8_addNumber_94 : decode cX8_addNumber 94 = .ok (.invokevirtual 44, 3) := by decide +kernel
theorem dX8_addNumber_97 : decode cX8_addNumber 97 = .ok (.iload 5, 2) := by decide +kernel
theorem dX8_addNumber_99 : decode cX8_addNumber 99 = .ok (.ireturn, 1) := by decide +kernel
theorem dX8_addName_0 : decode cX8_addName 0 = .ok (.aload_n 1, 1) := by decide +kernel
theorem dX8_addName_1 : decode cX8_addName 1 = .ok (.iload_n 2, 1) := by decide +kernel
theorem dX8_addName_2 : decode cX8_addName 2 = .ok (.iload_n 3, 1) := by decide +kernel
theorem dX8_addName_3 : decode cX8_addName 3 = .ok (.invokestatic 48, 3) := by decide +kernel
theorem dX8_addName_6 : decode cX8_addName 6 = .ok (.ifCond .eq 21, 3) := by decide +kernel
theorem dX8_addName_9 : decode cX8_addName 9 = .ok (.aload_n 0, 1) := by decide +kernel
theorem dX8_addName_10 : decode cX8_addName 10 = .ok (.iconst 3, 1) := by decide +kernel
theorem dX8_addName_11 : decode cX8_addName 11 = .ok (.aload_n 1, 1) := by decide +kernel
theorem dX8_addName_12 : decode cX8_addName 12 = .ok (.iload_n 2, 1) := by decide +kernel
theorem dX8_addName_13 : decode cX8_addName 13 = .ok (.iconst 1, 1) := by decide +kernel
theorem dX8_addName_14 : decode cX8_addName 14 = .ok (.iadd, 1) := by decide +kernel
theorem dX8_addName_15 : decode cX8_addName 15 = .ok (.baload, 1) := by decide +kernel
theorem dX8_addName_16 : decode cX8_addName 16 = .ok (.bipush 48, 2) := by decide +kernel
theorem dX8_addName_18 : decode cX8_addName 18 = .ok (.isub, 1) := by decide +kernel
theorem dX8_addName_19 : decode cX8_addName 19 = .ok (.iload_n 2, 1) := by decide +kernel
theorem dX8_addName_20 : decode cX8_addName 20 = .ok (.invokevirtual 44, 3) := by decide +kernel
theorem dX8_addName_23 : decode cX8_addName 23 = .ok (.iload_n 2, 1) := by decide +kernel
theorem dX8_addName_24 : decode cX8_addName 24 = .ok (.iconst 2, 1) := by decide +kernel
theorem dX8_addName_25 : decode cX8_addName 25 = .ok (.iadd, 1) := by decide +kernel
theorem dX8_addName_26 : decode cX8_addName 26 = .ok (.ireturn, 1) := by decide +kernel
theorem dX8_addName_27 : decode cX8_addName 27 = .ok (.iload_n 2, 1) := by decide +kernel
theorem dX8_addName_28 : decode cX8_addName 28 = .ok (.istore 4, 2) := by decide +kernel
theorem dX8_addName_30 : decode cX8_addName 30 = .ok (.iload 4, 2) := by decide +kernel
theorem dX8_addName_32 : decode cX8_addName 32 = .ok (.iload_n 3, 1) := by decide +kernel
theorem dX8_addName_33 : decode cX8_addName 33 = .ok (.if_icmp .ge 19, 3) := by decide +kernel
theorem dX8_addName_36 : decode cX8_addName 36 = .ok (.aload_n 1, 1) := by decide +kernel
theorem dX8_addName_37 : decode cX8_addName 37 = .ok (.iload 4, 2) := by decide +kernel
theorem dX8_addName_39 : decode cX8_addName 39 = .ok (.baload, 1) := by decide +kernel
theorem dX8_addName_40 : decode cX8_addName 40 = .ok (.invokestatic 27, 3) := by decide +kernel
theorem dX8_addName_43 : decode cX8_addName 43 = .ok (.ifCond .eq 9, 3) := by decide +kernel
theorem dX8_addName_46 : decode cX8_addName 46 = .ok (.iinc 4 1, 3) := by decide +kernel
theorem dX8_addName_49 : decode cX8_addName 49 = .ok (.goto (-19), 3) := by decide +kernel
theorem dX8_addName_52 : decode cX8_addName 52 = .ok (.iload 4, 2) := by decide +kernel
theorem dX8_addName_54 : decode cX8_addName 54 = .ok (.iload_n 2, 1) := by decide +kernel
theorem dX8_addName_55 : decode cX8_addName 55 = .ok (.isub, 1) := by decide +kernel
theorem dX8_addName_56 : decode cX8_addName 56 = .ok (.bipush 8, 2) := by decide +kernel
theorem dX8_addName_58 : decode cX8_addName 58 = .ok (.if_icmp .le 12, 3) := by decide +kernel
theorem dX8_addName_61 : decode cX8_addName 61 = .ok (.aload_n 0, 1) := by decide +kernel
theorem dX8_addName_62 : decode cX8_addName 62 = .ok (.iconst 1, 1) := by decide +kernel
theorem dX8_addName_63 : decode cX8_addName 63 = .ok (.iconst 0, 1) := by decide +kernel
theorem dX8_addName_64 : decode cX8_addName 64 = .ok (.iload_n 2, 1) := by decide +kernel
theorem dX8_addName_65 : decode cX8_addName 65 = .ok (.invokevirtual 44, 3) := by decide +kernel
theorem dX8_addName_68 : decode cX8_addName 68 = .ok (.iload_n 3, 1) := by decide +kernel
theorem dX8_addName_69 : decode cX8_addName 69 = .ok (.ireturn, 1) := by decide +kernel
theorem dX8_addName_70 : decode cX8_addName 70 = .ok (.aload_n 1, 1) := by decide +kernel
theorem dX8_addName_71 : decode cX8_addName 71 = .ok (.iload_n 2, 1) := by decide +kernel
theorem dX8_addName_72 : decode cX8_addName 72 = .ok (.iload 4, 2) := by decide +kernel
theorem dX8_addName_74 : decode cX8_addName 74 = .ok (.invokestatic 52, 3) := by decide +kernel
theorem dX8_addName_77 : decode cX8_addName 77 = .ok (.istore 5, 2) := by decide +kernel
theorem dX8_addName_79 : decode cX8_addName 79 = .ok (.iload 5, 2) := by decide +kernel
theorem dX8_addName_81 : decode cX8_addName 81 = .ok (.iconst (-1), 1) := by decide +kernel
theorem dX8_addName_82 : decode cX8_addName 82 = .ok (.if_icmp .eq 14, 3) := by decide +kernel
theorem dX8_addName_85 : decode cX8_addName 85 = .ok (.aload_n 0, 1) := by decide +kernel
theorem dX8_addName_86 : decode cX8_addName 86 = .ok (.iconst 4, 1) := by decide +kernel
theorem dX8_addName_87 : decode cX8_addName 87 = .ok (.iload 5, 2) := by decide +kernel
theorem dX8_addName_89 : decode cX8_addName 89 = .ok (.iload_n 2, 1) := by decide +kernel
theorem dX8_addName_90 : decode cX8_addName 90 = .ok (.invokevirtual 44, 3) := by decide +kernel
theorem dX8_addName_93 : decode cX8_addName 93 = .ok (.goto 16, 3) := by decide +kernel
theorem dX8_addName_96 : decode cX8_addName 96 = .ok (.aload_n 0, 1) := by decide +kernel
theorem dX8_addName_97 : decode cX8_addName 97 = .ok (.aload_n 1, 1) := by decide +kernel
theorem dX8_addName_98 : decode cX8_addName 98 = .ok (.iload_n 2, 1) := by decide +kernel
theorem dX8_addName_99 : decode cX8_addName 99 = .ok (.iload 4, 2) := by decide +kernel
theorem dX8_addName_101 : decode cX8_addName 101 = .ok (.invokestatic 55, 3) := by decide +kernel
theorem dX8_addName_104 : decode cX8_addName 104 = .ok (.iconst 0, 1) := by decide +kernel
theorem dX8_addName_105 : decode cX8_addName 105 = .ok (.iload_n 2, 1) := by decide +kernel
theorem dX8_addName_106 : decode cX8_addName 106 = .ok (.invokevirtual 44, 3) := by decide +kernel
theorem dX8_addName_109 : decode cX8_addName 109 = .ok (.iload 4, 2) := by decide +kernel
theorem dX8_addName_111 : decode cX8_addName 111 = .ok (.ireturn, 1) := by decide +kernel
theorem dX8_isTownName_0 : decode cX8_isTownName 0 = .ok (.aload_n 0, 1) := by decide +kernel
theorem dX8_isTownName_1 : decode cX8_isTownName 1 = .ok (.iload_n 1, 1) := by decide +kernel
theorem dX8_isTownName_2 : decode cX8_isTownName 2 = .ok (.baload, 1) := by decide +kernel
theorem dX8_isTownName_3 : decode cX8_isTownName 3 = .ok (.bipush 116, 2) := by decide +kernel
theorem dX8_isTownName_5 : decode cX8_isTownName 5 = .ok (.if_icmp .ne 25, 3) := by decide +kernel
theorem dX8_isTownName_8 : decode cX8_isTownName 8 = .ok (.iload_n 1, 1) := by decide +kernel
theorem dX8_isTownName_9 : decode cX8_isTownName 9 = .ok (.iconst 1, 1) := by decide +kernel
theorem dX8_isTownName_10 : decode cX8_isTownName 10 = .ok (.iadd, 1) := by decide +kernel
theorem dX8_isTownName_11 : decode cX8_isTownName 11 = .ok (.iload_n 2, 1) := by decide +kernel
theorem dX8_isTownName_12 : decode cX8_isTownName 12 = .ok (.if_icmp .ge 18, 3) := by decide +kernel
theorem dX8_isTownName_15 : decode cX8_isTownName 15 = .ok (.aload_n 0, 1) := by decide +kernel
theorem dX8_isTownName_16 : decode cX8_isTownName 16 = .ok (.iload_n 1, 1) := by decide +kernel
theorem dX8_isTownName_17 : decode cX8_isTownName 17 = .ok (.iconst 1, 1) := by decide +kernel
theorem dX8_isTownName_18 : decode cX8_isTownName 18 = .ok (.iadd, 1) := by decide +kernel
theorem dX8_isTownName_19 : decode cX8_isTownName 19 = .ok (.baload, 1) := by decide +kernel
theorem dX8_isTownName_20 : decode cX8_isTownName 20 = .ok (.bipush 48, 2) := by decide +kernel
theorem dX8_isTownName_22 : decode cX8_isTownName 22 = .ok (.bipush 55, 2) := by decide +kernel
theorem dX8_isTownName_24 : decode cX8_isTownName 24 = .ok (.invokestatic 58, 3) := by decide +kernel
theorem dX8_isTownName_27 : decode cX8_isTownName 27 = .ok (.ifCond .ne 5, 3) := by decide +kernel
theorem dX8_isTownName_30 : decode cX8_isTownName 30 = .ok (.iconst 0, 1) := by decide +kernel
theorem dX8_isTownName_31 : decode cX8_isTownName 31 = .ok (.ireturn, 1) := by decide +kernel
theorem dX8_isTownName_32 : decode cX8_isTownName 32 = .ok (.iload_n 1, 1) := by decide +kernel
theorem dX8_isTownName_33 : decode cX8_isTownName 33 = .ok (.iconst 2, 1) := by decide +kernel
theorem dX8_isTownName_34 : decode cX8_isTownName 34 = .ok (.iadd, 1) := by decide +kernel
theorem dX8_isTownName_35 : decode cX8_isTownName 35 = .ok (.iload_n 2, 1) := by decide +kernel
theorem dX8_isTownName_36 : decode cX8_isTownName 36 = .ok (.if_icmp .ge 25, 3) := by decide +kernel
theorem dX8_isTownName_39 : decode cX8_isTownName 39 = .ok (.aload_n 0, 1) := by decide +kernel
theorem dX8_isTownName_40 : decode cX8_isTownName 40 = .ok (.iload_n 1, 1) := by decide +kernel
theorem dX8_isTownName_41 : decode cX8_isTownName 41 = .ok (.iconst 2, 1) := by decide +kernel
theorem dX8_isTownName_42 : decode cX8_isTownName 42 = .ok (.iadd, 1) := by decide +kernel
theorem dX8_isTownName_43 : decode cX8_isTownName 43 = .ok (.baload, 1) := by decide +kernel
theorem dX8_isTownName_44 : decode cX8_isTownName 44 = .ok (.invokestatic 27, 3) := by decide +kernel
theorem dX8_isTownName_47 : decode cX8_isTownName 47 = .ok (.ifCond .ne 18, 3) := by decide +kernel
theorem dX8_isTownName_50 : decode cX8_isTownName 50 = .ok (.aload_n 0, 1) := by decide +kernel
theorem dX8_isTownName_51 : decode cX8_isTownName 51 = .ok (.iload_n 1, 1) := by decide +kernel
theorem dX8_isTownName_52 : decode cX8_isTownName 52 = .ok (.iconst 2, 1) := by decide +kernel
theorem dX8_isTownName_53 : decode cX8_isTownName 53 = .ok (.iadd, 1) := by decide +kernel
theorem dX8_isTownName_54 : decode cX8_isTownName 54 = .ok (.baload, 1) := by decide +kernel
theorem dX8_isTownName_55 : decode cX8_isTownName 55 = .ok (.invokestatic 35, 3) := by decide +kernel
theorem dX8_isTownName_58 : decode cX8_isTownName 58 = .ok (.ifCond .ne 7, 3) := by decide +kernel
theorem dX8_isTownName_61 : decode cX8_isTownName 61 = .ok (.iconst 1, 1) := by decide +kernel
theorem dX8_isTownName_62 : decode cX8_isTownName 62 = .ok (.goto 4, 3) := by decide +kernel
theorem dX8_isTownName_65 : decode cX8_isTownName 65 = .ok (.iconst 0, 1) := by decide +kernel
theorem dX8_isTownName_66 : decode cX8_isTownName 66 = .ok (.ireturn, 1) := by decide +kernel
theorem dX8_kindOf_0 : decode cX8_kindOf 0 = .ok (.ldc 62, 2) := by decide +kernel
theorem dX8_kindOf_2 : decode cX8_kindOf 2 = .ok (.aload_n 0, 1) := by decide +kernel
theorem dX8_kindOf_3 : decode cX8_kindOf 3 = .ok (.iload_n 1, 1) := by decide +kernel
theorem dX8_kindOf_4 : decode cX8_kindOf 4 = .ok (.iload_n 2, 1) := by decide +kernel
theorem dX8_kindOf_5 : decode cX8_kindOf 5 = .ok (.invokestatic 64, 3) := by decide +kernel
theorem dX8_kindOf_8 : decode cX8_kindOf 8 = .ok (.ifCond .eq 5, 3) := by decide +kernel
theorem dX8_kindOf_11 : decode cX8_kindOf 11 = .ok (.iconst 0, 1) := by decide +kernel
theorem dX8_kindOf_12 : decode cX8_kindOf 12 = .ok (.ireturn, 1) := by decide +kernel
theorem dX8_kindOf_13 : decode cX8_kindOf 13 = .ok (.ldc 68, 2) := by decide +kernel
theorem dX8_kindOf_15 : decode cX8_kindOf 15 = .ok (.aload_n 0, 1) := by decide +kernel
theorem dX8_kindOf_16 : decode cX8_kindOf 16 = .ok (.iload_n 1, 1) := by decide +kernel
theorem dX8_kindOf_17 : decode cX8_kindOf 17 = .ok (.iload_n 2, 1) := by decide +kernel
theorem dX8_kindOf_18 : decode cX8_kindOf 18 = .ok (.invokestatic 64, 3) := by decide +kernel
theorem dX8_kindOf_21 : decode cX8_kindOf 21 = .ok (.ifCond .eq 5, 3) := by decide +kernel
theorem dX8_kindOf_24 : decode cX8_kindOf 24 = .ok (.iconst 1, 1) := by decide +kernel
theorem dX8_kindOf_25 : decode cX8_kindOf 25 = .ok (.ireturn, 1) := by decide +kernel
theorem dX8_kindOf_26 : decode cX8_kindOf 26 = .ok (.ldc 70, 2) := by decide +kernel
theorem dX8_kindOf_28 : decode cX8_kindOf 28 = .ok (.aload_n 0, 1) := by decide +kernel
theorem dX8_kindOf_29 : decode cX8_kindOf 29 = .ok (.iload_n 1, 1) := by decide +kernel
theorem dX8_kindOf_30 : decode cX8_kindOf 30 = .ok (.iload_n 2, 1) := by decide +kernel
theorem dX8_kindOf_31 : decode cX8_kindOf 31 = .ok (.invokestatic 64, 3) := by decide +kernel
theorem dX8_kindOf_34 : decode cX8_kindOf 34 = .ok (.ifCond .eq 5, 3) := by decide +kernel
theorem dX8_kindOf_37 : decode cX8_kindOf 37 = .ok (.iconst 2, 1) := by decide +kernel
theorem dX8_kindOf_38 : decode cX8_kindOf 38 = .ok (.ireturn, 1) := by decide +kernel
theorem dX8_kindOf_39 : decode cX8_kindOf 39 = .ok (.iconst (-1), 1) := by decide +kernel
theorem dX8_kindOf_40 : decode cX8_kindOf 40 = .ok (.ireturn, 1) := by decide +kernel
theorem dX8_wordOf_0 : decode cX8_wordOf 0 = .ok (.ldc 72, 2) := by decide +kernel
theorem dX8_wordOf_2 : decode cX8_wordOf 2 = .ok (.aload_n 0, 1) := by decide +kernel
theorem dX8_wordOf_3 : decode cX8_wordOf 3 = .ok (.iload_n 1, 1) := by decide +kernel
theorem dX8_wordOf_4 : decode cX8_wordOf 4 = .ok (.iload_n 2, 1) := by decide +kernel
theorem dX8_wordOf_5 : decode cX8_wordOf 5 = .ok (.invokestatic 64, 3) := by decide +kernel
theorem dX8_wordOf_8 : decode cX8_wordOf 8 = .ok (.ifCond .eq 6, 3) := by decide +kernel
theorem dX8_wordOf_11 : decode cX8_wordOf 11 = .ok (.bipush 6, 2) := by decide +kernel
theorem dX8_wordOf_13 : decode cX8_wordOf 13 = .ok (.ireturn, 1) := by decide +kernel
theorem dX8_wordOf_14 : decode cX8_wordOf 14 = .ok (.ldc 74, 2) := by decide +kernel
theorem dX8_wordOf_16 : decode cX8_wordOf 16 = .ok (.aload_n 0, 1) := by decide +kernel
theorem dX8_wordOf_17 : decode cX8_wordOf 17 = .ok (.iload_n 1, 1) := by decide +kernel
theorem dX8_wordOf_18 : decode cX8_wordOf 18 = .ok (.iload_n 2, 1) := by decide +kernel
theorem dX8_wordOf_19 : decode cX8_wordOf 19 = .ok (.invokestatic 64, 3) := by decide +kernel
theorem dX8_wordOf_22 : decode cX8_wordOf 22 = .ok (.ifCond .eq 6, 3) := by decide +kernel
theorem dX8_wordOf_25 : decode cX8_wordOf 25 = .ok (.bipush 7, 2) := by decide +kernel
theorem dX8_wordOf_27 : decode cX8_wordOf 27 = .ok (.ireturn, 1) := by decide +kernel
theorem dX8_wordOf_28 : decode cX8_wordOf 28 = .ok (.ldc 76, 2) := by decide +kernel
theorem dX8_wordOf_30 : decode cX8_wordOf 30 = .ok (.aload_n 0, 1) := by decide +kernel
theorem dX8_wordOf_31 : decode cX8_wordOf 31 = .ok (.iload_n 1, 1) := by decide +kernel
theorem dX8_wordOf_32 : decode cX8_wordOf 32 = .ok (.iload_n 2, 1) := by decide +kernel
theorem dX8_wordOf_33 : decode cX8_wordOf 33 = .ok (.invokestatic 64, 3) := by decide +kernel
theorem dX8_wordOf_36 : decode cX8_wordOf 36 = .ok (.ifCond .eq 6, 3) := by decide +kernel
theorem dX8_wordOf_39 : decode cX8_wordOf 39 = .ok (.bipush 8, 2) := by decide +kernel
theorem dX8_wordOf_41 : decode cX8_wordOf 41 = .ok (.ireturn, 1) := by decide +kernel
theorem dX8_wordOf_42 : decode cX8_wordOf 42 = .ok (.ldc 78, 2) := by decide +kernel
theorem dX8_wordOf_44 : decode cX8_wordOf 44 = .ok (.aload_n 0, 1) := by decide +kernel
theorem dX8_wordOf_45 : decode cX8_wordOf 45 = .ok (.iload_n 1, 1) := by decide +kernel
theorem dX8_wordOf_46 : decode cX8_wordOf 46 = .ok (.iload_n 2, 1) := by decide +kernel
theorem dX8_wordOf_47 : decode cX8_wordOf 47 = .ok (.invokestatic 64, 3) := by decide +kernel
theorem dX8_wordOf_50 : decode cX8_wordOf 50 = .ok (.ifCond .eq 6, 3) := by decide +kernel
theorem dX8_wordOf_53 : decode cX8_wordOf 53 = .ok (.bipush 9, 2) := by decide +kernel
theorem dX8_wordOf_55 : decode cX8_wordOf 55 = .ok (.ireturn, 1) := by decide +kernel
theorem dX8_wordOf_56 : decode cX8_wordOf 56 = .ok (.ldc 80, 2) := by decide +kernel
theorem dX8_wordOf_58 : decode cX8_wordOf 58 = .ok (.aload_n 0, 1) := by decide +kernel
theorem dX8_wordOf_59 : decode cX8_wordOf 59 = .ok (.iload_n 1, 1) := by decide +kernel
theorem dX8_wordOf_60 : decode cX8_wordOf 60 = .ok (.iload_n 2, 1) := by decide +kernel
theorem dX8_wordOf_61 : decode cX8_wordOf 61 = .ok (.invokestatic 64, 3) := by decide +kernel
theorem dX8_wordOf_64 : decode cX8_wordOf 64 = .ok (.ifCond .eq 6, 3) := by decide +kernel
theorem dX8_wordOf_67 : decode cX8_wordOf 67 = .ok (.bipush 10, 2) := by decide +kernel
theorem dX8_wordOf_69 : decode cX8_wordOf 69 = .ok (.ireturn, 1) := by decide +kernel
theorem dX8_wordOf_70 : decode cX8_wordOf 70 = .ok (.ldc 82, 2) := by decide +kernel
theorem dX8_wordOf_72 : decode cX8_wordOf 72 = .ok (.aload_n 0, 1) := by decide +kernel
theorem dX8_wordOf_73 : decode cX8_wordOf 73 = .ok (.iload_n 1, 1) := by decide +kernel
theorem dX8_wordOf_74 : decode cX8_wordOf 74 = .ok (.iload_n 2, 1) := by decide +kernel
theorem dX8_wordOf_75 : decode cX8_wordOf 75 = .ok (.invokestatic 64, 3) := by decide +kernel
theorem dX8_wordOf_78 : decode cX8_wordOf 78 = .ok (.ifCond .eq 6, 3) := by decide +kernel
theorem dX8_wordOf_81 : decode cX8_wordOf 81 = .ok (.bipush 11, 2) := by decide +kernel
theorem dX8_wordOf_83 : decode cX8_wordOf 83 = .ok (.ireturn, 1) := by decide +kernel
theorem dX8_wordOf_84 : decode cX8_wordOf 84 = .ok (.ldc 84, 2) := by decide +kernel
theorem dX8_wordOf_86 : decode cX8_wordOf 86 = .ok (.aload_n 0, 1) := by decide +kernel
theorem dX8_wordOf_87 : decode cX8_wordOf 87 = .ok (.iload_n 1, 1) := by decide +kernel
theorem dX8_wordOf_88 : decode cX8_wordOf 88 = .ok (.iload_n 2, 1) := by decide +kernel
theorem dX8_wordOf_89 : decode cX8_wordOf 89 = .ok (.invokestatic 64, 3) := by decide +kernel
theorem dX8_wordOf_92 : decode cX8_wordOf 92 = .ok (.ifCond .eq 6, 3) := by decide +kernel
theorem dX8_wordOf_95 : decode cX8_wordOf 95 = .ok (.bipush 12, 2) := by decide +kernel
theorem dX8_wordOf_97 : decode cX8_wordOf 97 = .ok (.ireturn, 1) := by decide +kernel
theorem dX8_wordOf_98 : decode cX8_wordOf 98 = .ok (.ldc 86, 2) := by decide +kernel
theorem dX8_wordOf_100 : decode cX8_wordOf 100 = .ok (.aload_n 0, 1) := by decide +kernel
theorem dX8_wordOf_101 : decode cX8_wordOf 101 = .ok (.iload_n 1, 1) := by decide +kernel
theorem dX8_wordOf_102 : decode cX8_wordOf 102 = .ok (.iload_n 2, 1) := by decide +kernel
theorem dX8_wordOf_103 : decode cX8_wordOf 103 = .ok (.invokestatic 64, 3) := by decide +kernel
theorem dX8_wordOf_106 : decode cX8_wordOf 106 = .ok (.ifCond .eq 6, 3) := by decide +kernel
theorem dX8_wordOf_109 : decode cX8_wordOf 109 = .ok (.bipush 13, 2) := by decide +kernel
theorem dX8_wordOf_111 : decode cX8_wordOf 111 = .ok (.ireturn, 1) := by decide +kernel
theorem dX8_wordOf_112 : decode cX8_wordOf 112 = .ok (.ldc 88, 2) := by decide +kernel
theorem dX8_wordOf_114 : decode cX8_wordOf 114 = .ok (.aload_n 0, 1) := by decide +kernel
theorem dX8_wordOf_115 : decode cX8_wordOf 115 = .ok (.iload_n 1, 1) := by decide +kernel

theorem dX11_call_14 : decode cX11_call 14 = .ok (.getfield 16, 3) := by decide +kernel
theorem dX11_call_17 : decode cX11_call 17 = .ok (.iload_n 3, 1) := by decide +kernel
theorem dX11_call_18 : decode cX11_call 18 = .ok (.iaload, 1) := by decide +kernel
theorem dX11_call_19 : decode cX11_call 19 = .ok (.iadd, 1) := by decide +kernel
theorem dX11_call_20 : decode cX11_call 20 = .ok (.istore_n 2, 1) := by decide +kernel
theorem dX11_call_21 : decode cX11_call 21 = .ok (.iinc 3 1, 3) := by decide +kernel
theorem dX11_call_24 : decode cX11_call 24 = .ok (.goto (-20), 3) := by decide +kernel
theorem dX11_call_27 : decode cX11_call 27 = .ok (.iload_n 1, 1) := by decide +kernel
theorem dX11_call_28 : decode cX11_call 28 = .ok (.iconst 1, 1) := by decide +kernel
theorem dX11_call_29 : decode cX11_call 29 = .ok (.if_icmp .lt 25, 3) := by decide +kernel
theorem dX11_call_32 : decode cX11_call 32 = .ok (.iload_n 1, 1) := by decide +kernel
theorem dX11_call_33 : decode cX11_call 33 = .ok (.sipush 1000, 3) := by decide +kernel
theorem dX11_call_36 : decode cX11_call 36 = .ok (.if_icmp .gt 18, 3) := by decide +kernel
theorem dX11_call_39 : decode cX11_call 39 = .ok (.iload_n 2, 1) := by decide +kernel
theorem dX11_call_40 : decode cX11_call 40 = .ok (.ifCond .eq 14, 3) := by decide +kernel
theorem dX11_call_43 : decode cX11_call 43 = .ok (.aload_n 0, 1) := by decide +kernel
theorem dX11_call_44 : decode cX11_call 44 = .ok (.getfield 394, 3) := by decide +kernel
theorem dX11_call_47 : decode cX11_call 47 = .ok (.iload_n 1, 1) := by decide +kernel
theorem dX11_call_48 : decode cX11_call 48 = .ok (.iadd, 1) := by decide +kernel
theorem dX11_call_49 : decode cX11_call 49 = .ok (.ldc 156, 2) := by decide +kernel
theorem dX11_call_51 : decode cX11_call 51 = .ok (.if_icmp .le 5, 3) := by decide +kernel
theorem dX11_call_54 : decode cX11_call 54 = .ok (.iconst (-1), 1) := by decide +kernel
theorem dX11_call_55 : decode cX11_call 55 = .ok (.ireturn, 1) := by decide +kernel
theorem dX11_call_56 : decode cX11_call 56 = .ok (.iconst 0, 1) := by decide +kernel
theorem dX11_call_57 : decode cX11_call 57 = .ok (.istore_n 3, 1) := by decide +kernel
theorem dX11_call_58 : decode cX11_call 58 = .ok (.iload_n 3, 1) := by decide +kernel
theorem dX11_call_59 : decode cX11_call 59 = .ok (.iload_n 1, 1) := by decide +kernel
theorem dX11_call_60 : decode cX11_call 60 = .ok (.if_icmp .ge 87, 3) := by decide +kernel
theorem dX11_call_63 : decode cX11_call 63 = .ok (.aload_n 0, 1) := by decide +kernel
theorem dX11_call_64 : decode cX11_call 64 = .ok (.dup, 1) := by decide +kernel
theorem dX11_call_65 : decode cX11_call 65 = .ok (.getfield 394, 3) := by decide +kernel
theorem dX11_call_68 : decode cX11_call 68 = .ok (.iconst 1, 1) := by decide +kernel
theorem dX11_call_69 : decode cX11_call 69 = .ok (.iadd, 1) := by decide +kernel
theorem dX11_call_70 : decode cX11_call 70 = .ok (.putfield 394, 3) := by decide +kernel
theorem dX11_call_73 : decode cX11_call 73 = .ok (.iconst (-1), 1) := by decide +kernel
theorem dX11_call_74 : decode cX11_call 74 = .ok (.istore 4, 2) := by decide +kernel
theorem dX11_call_76 : decode cX11_call 76 = .ok (.iconst 0, 1) := by decide +kernel
theorem dX11_call_77 : decode cX11_call 77 = .ok (.istore 5, 2) := by decide +kernel
theorem dX11_call_79 : decode cX11_call 79 = .ok (.iload 5, 2) := by decide +kernel
theorem dX11_call_81 : decode cX11_call 81 = .ok (.aload_n 0, 1) := by decide +kernel
theorem dX11_call_82 : decode cX11_call 82 = .ok (.getfield 153, 3) := by decide +kernel
theorem dX11_call_85 : decode cX11_call 85 = .ok (.if_icmp .ge 45, 3) := by decide +kernel
theorem dX11_call_88 : decode cX11_call 88 = .ok (.aload_n 0, 1) := by decide +kernel
theorem dX11_call_89 : decode cX11_call 89 = .ok (.getfield 16, 3) := by decide +kernel
theorem dX11_call_92 : decode cX11_call 92 = .ok (.iload 5, 2) := by decide +kernel
theorem dX11_call_94 : decode cX11_call 94 = .ok (.iaload, 1) := by decide +kernel
theorem dX11_call_95 : decode cX11_call 95 = .ok (.ifCond .le 29, 3) := by decide +kernel
theorem dX11_call_98 : decode cX11_call 98 = .ok (.iload 4, 2) := by decide +kernel
theorem dX11_call_100 : decode cX11_call 100 = .ok (.ifCond .lt 20, 3) := by decide +kernel
theorem dX11_call_103 : decode cX11_call 103 = .ok (.aload_n 0, 1) := by decide +kernel
theorem dX11_call_104 : decode cX11_call 104 = .ok (.iload 5, 2) := by decide +kernel
theorem dX11_call_106 : decode cX11_call 106 = .ok (.iload_n 2, 1) := by decide +kernel
theorem dX11_call_107 : decode cX11_call 107 = .ok (.invokevirtual 397, 3) := by decide +kernel
theorem dX11_call_110 : decode cX11_call 110 = .ok (.aload_n 0, 1) := by decide +kernel
theorem dX11_call_111 : decode cX11_call 111 = .ok (.iload 4, 2) := by decide +kernel
theorem dX11_call_113 : decode cX11_call 113 = .ok (.iload_n 2, 1) := by decide +kernel
theorem dX11_call_114 : decode cX11_call 114 = .ok (.invokevirtual 397, 3) := by decide +kernel
theorem dX11_call_117 : decode cX11_call 117 = .ok (.if_icmp .le 7, 3) := by decide +kernel
theorem dX11_call_120 : decode cX11_call 120 = .ok (.iload 5, 2) := by decide +kernel
theorem dX11_call_122 : decode cX11_call 122 = .ok (.istore 4, 2) := by decide +kernel
theorem dX11_call_124 : decode cX11_call 124 = .ok (.iinc 5 1, 3) := by decide +kernel
theorem dX11_call_127 : decode cX11_call 127 = .ok (.goto (-48), 3) := by decide +kernel
theorem dX11_call_130 : decode cX11_call 130 = .ok (.aload_n 0, 1) := by decide +kernel
theorem dX11_call_131 : decode cX11_call 131 = .ok (.getfield 126, 3) := by decide +kernel
theorem dX11_call_134 : decode cX11_call 134 = .ok (.iload 4, 2) := by decide +kernel
theorem dX11_call_136 : decode cX11_call 136 = .ok (.dup2, 1) := by decide +kernel
theorem dX11_call_137 : decode cX11_call 137 = .ok (.iaload, 1) := by decide +kernel
theorem dX11_call_138 : decode cX11_call 138 = .ok (.iconst 1, 1) := by decide +kernel
theorem dX11_call_139 : decode cX11_call 139 = .ok (.iadd, 1) := by decide +kernel
theorem dX11_call_140 : decode cX11_call 140 = .ok (.iastore, 1) := by decide +kernel
theorem dX11_call_141 : decode cX11_call 141 = .ok (.iinc 3 1, 3) := by decide +kernel
theorem dX11_call_144 : decode cX11_call 144 = .ok (.goto (-86), 3) := by decide +kernel
theorem dX11_call_147 : decode cX11_call 147 = .ok (.aload_n 0, 1) := by decide +kernel
theorem dX11_call_148 : decode cX11_call 148 = .ok (.getfield 394, 3) := by decide +kernel
theorem dX11_call_151 : decode cX11_call 151 = .ok (.ireturn, 1) := by decide +kernel
theorem dX11_lacks_0 : decode cX11_lacks 0 = .ok (.aload_n 0, 1) := by decide +kernel
theorem dX11_lacks_1 : decode cX11_lacks 1 = .ok (.getfield 16, 3) := by decide +kernel
theorem dX11_lacks_4 : decode cX11_lacks 4 = .ok (.iload_n 1, 1) := by decide +kernel
theorem dX11_lacks_5 : decode cX11_lacks 5 = .ok (.iaload, 1) := by decide +kernel
theorem dX11_lacks_6 : decode cX11_lacks 6 = .ok (.aload_n 0, 1) := by decide +kernel
theorem dX11_lacks_7 : decode cX11_lacks 7 = .ok (.getfield 394, 3) := by decide +kernel
theorem dX11_lacks_10 : decode cX11_lacks 10 = .ok (.imul, 1) := by decide +kernel
theorem dX11_lacks_11 : decode cX11_lacks 11 = .ok (.iload_n 2, 1) := by decide +kernel
theorem dX11_lacks_12 : decode cX11_lacks 12 = .ok (.aload_n 0, 1) := by decide +kernel
theorem dX11_lacks_13 : decode cX11_lacks 13 = .ok (.getfield 126, 3) := by decide +kernel
theorem dX11_lacks_16 : decode cX11_lacks 16 = .ok (.iload_n 1, 1) := by decide +kernel
theorem dX11_lacks_17 : decode cX11_lacks 17 = .ok (.iaload, 1) := by decide +kernel
theorem dX11_lacks_18 : decode cX11_lacks 18 = .ok (.imul, 1) := by decide +kernel
theorem dX11_lacks_19 : decode cX11_lacks 19 = .ok (.isub, 1) := by decide +kernel
theorem dX11_lacks_20 : decode cX11_lacks 20 = .ok (.ireturn, 1) := by decide +kernel
theorem dX11_gave_0 : decode cX11_gave 0 = .ok (.aload_n 0, 1) := by decide +kernel
theorem dX11_gave_1 : decode cX11_gave 1 = .ok (.iload_n 1, 1) := by decide +kernel
theorem dX11_gave_2 : decode cX11_gave 2 = .ok (.invokevirtual 157, 3) := by decide +kernel
theorem dX11_gave_5 : decode cX11_gave 5 = .ok (.ifCond .eq 12, 3) := by decide +kernel
theorem dX11_gave_8 : decode cX11_gave 8 = .ok (.aload_n 0, 1) := by decide +kernel
theorem dX11_gave_9 : decode cX11_gave 9 = .ok (.getfield 126, 3) := by decide +kernel
theorem dX11_gave_12 : decode cX11_gave 12 = .ok (.iload_n 1, 1) := by decide +kernel
theorem dX11_gave_13 : decode cX11_gave 13 = .ok (.iaload, 1) := by decide +kernel
theorem dX11_gave_14 : decode cX11_gave 14 = .ok (.goto 4, 3) := by decide +kernel
theorem dX11_gave_17 : decode cX11_gave 17 = .ok (.iconst (-1), 1) := by decide +kernel
theorem dX11_gave_18 : decode cX11_gave 18 = .ok (.ireturn, 1) := by decide +kernel
theorem dX11_tell_0 : decode cX11_tell 0 = .ok (.iload_n 1, 1) := by decide +kernel
theorem dX11_tell_1 : decode cX11_tell 1 = .ok (.ifCond .lt 59, 3) := by decide +kernel
theorem dX11_tell_4 : decode cX11_tell 4 = .ok (.iload_n 1, 1) := by decide +kernel
theorem dX11_tell_5 : decode cX11_tell 5 = .ok (.iconst 5, 1) := by decide +kernel
theorem dX11_tell_6 : decode cX11_tell 6 = .ok (.if_icmp .ge 54, 3) := by decide +kernel
theorem dX11_tell_9 : decode cX11_tell 9 = .ok (.aload_n 0, 1) := by decide +kernel
theorem dX11_tell_10 : decode cX11_tell 10 = .ok (.iload_n 2, 1) := by decide +kernel
theorem dX11_tell_11 : decode cX11_tell 11 = .ok (.invokevirtual 157, 3) := by decide +kernel
theorem dX11_tell_14 : decode cX11_tell 14 = .ok (.ifCond .eq 46, 3) := by decide +kernel
theorem dX11_tell_17 : decode cX11_tell 17 = .ok (.iload_n 3, 1) := by decide +kernel
theorem dX11_tell_18 : decode cX11_tell 18 = .ok (.invokestatic 161, 3) := by decide +kernel
theorem dX11_tell_21 : decode cX11_tell 21 = .ok (.ifCond .eq 39, 3) := by decide +kernel
theorem dX11_tell_24 : decode cX11_tell 24 = .ok (.iload 4, 2) := by decide +kernel
theorem dX11_tell_26 : decode cX11_tell 26 = .ok (.ifCond .lt 34, 3) := by decide +kernel
theorem dX11_tell_29 : decode cX11_tell 29 = .ok (.iload 4, 2) := by decide +kernel
theorem dX11_tell_31 : decode cX11_tell 31 = .ok (.aload_n 0, 1) := by decide +kernel
theorem dX11_tell_32 : decode cX11_tell 32 = .ok (.getfield 332, 3) := by decide +kernel
theorem dX11_tell_35 : decode cX11_tell 35 = .ok (.if_icmp .gt 25, 3) := by decide +kernel
theorem dX11_tell_38 : decode cX11_tell 38 = .ok (.iload 5, 2) := by decide +kernel
theorem dX11_tell_40 : decode cX11_tell 40 = .ok (.ifCond .lt 20, 3) := by decide +kernel
theorem dX11_tell_43 : decode cX11_tell 43 = .ok (.iload 5, 2) := by decide +kernel
theorem dX11_tell_45 : decode cX11_tell 45 = .ok (.ldc_w 400, 3) := by decide +kernel
theorem dX11_tell_48 : decode cX11_tell 48 = .ok (.if_icmp .gt 12, 3) := by decide +kernel
theorem dX11_tell_51 : decode cX11_tell 51 = .ok (.aload_n 0, 1) := by decide +kernel
theorem dX11_tell_52 : decode cX11_tell 52 = .ok (.getfield 401, 3) := by decide +kernel
theorem dX11_tell_55 : decode cX11_tell 55 = .ok (.bipush 60, 2) := by decide +kernel
theorem dX11_tell_57 : decode cX11_tell 57 = .ok (.if_icmp .ne 5, 3) := by decide +kernel
theorem dX11_tell_60 : decode cX11_tell 60 = .ok (.iconst (-1), 1) := by decide +kernel
theorem dX11_tell_61 : decode cX11_tell 61 = .ok (.ireturn, 1) := by decide +kernel
theorem dX11_tell_62 : decode cX11_tell 62 = .ok (.aload_n 0, 1) := by decide +kernel
theorem dX11_tell_63 : decode cX11_tell 63 = .ok (.getfield 129, 3) := by decide +kernel
theorem dX11_tell_66 : decode cX11_tell 66 = .ok (.aload_n 0, 1) := by decide +kernel
theorem dX11_tell_67 : decode cX11_tell 67 = .ok (.getfield 401, 3) := by decide +kernel
theorem dX11_tell_70 : decode cX11_tell 70 = .ok (.iload_n 1, 1) := by decide +kernel
theorem dX11_tell_71 : decode cX11_tell 71 = .ok (.iastore, 1) := by decide +kernel
theorem dX11_tell_72 : decode cX11_tell 72 = .ok (.aload_n 0, 1) := by decide +kernel
theorem dX11_tell_73 : decode cX11_tell 73 = .ok (.getfield 132, 3) := by decide +kernel
theorem dX11_tell_76 : decode cX11_tell 76 = .ok (.aload_n 0, 1) := by decide +kernel
theorem dX11_tell_77 : decode cX11_tell 77 = .ok (.getfield 401, 3) := by decide +kernel
theorem dX11_tell_80 : decode cX11_tell 80 = .ok (.iload_n 2, 1) := by decide +kernel
theorem dX11_tell_81 : decode cX11_tell 81 = .ok (.iastore, 1) := by decide +kernel
theorem dX11_tell_82 : decode cX11_tell 82 = .ok (.aload_n 0, 1) := by decide +kernel
theorem dX11_tell_83 : decode cX11_tell 83 = .ok (.getfield 135, 3) := by decide +kernel
theorem dX11_tell_86 : decode cX11_tell 86 = .ok (.aload_n 0, 1) := by decide +kernel
theorem dX11_tell_87 : decode cX11_tell 87 = .ok (.getfield 401, 3) := by decide +kernel
theorem dX11_tell_90 : decode cX11_tell 90 = .ok (.iload_n 3, 1) := by decide +kernel
theorem dX11_tell_91 : decode cX11_tell 91 = .ok (.iastore, 1) := by decide +kernel
theorem dX11_tell_92 : decode cX11_tell 92 = .ok (.aload_n 0, 1) := by decide +kernel
theorem dX11_tell_93 : decode cX11_tell 93 = .ok (.getfield 138, 3) := by decide +kernel
theorem dX11_tell_96 : decode cX11_tell 96 = .ok (.aload_n 0, 1) := by decide +kernel
theorem dX11_tell_97 : decode cX11_tell 97 = .ok (.getfield 401, 3) := by decide +kernel
theorem dX11_tell_100 : decode cX11_tell 100 = .ok (.iload 4, 2) := by decide +kernel
theorem dX11_tell_102 : decode cX11_tell 102 = .ok (.iastore, 1) := by decide +kernel
theorem dX11_tell_103 : decode cX11_tell 103 = .ok (.aload_n 0, 1) := by decide +kernel
theorem dX11_tell_104 : decode cX11_tell 104 = .ok (.getfield 141, 3) := by decide +kernel
theorem dX11_tell_107 : decode cX11_tell 107 = .ok (.aload_n 0, 1) := by decide +kernel
theorem dX11_tell_108 : decode cX11_tell 108 = .ok (.getfield 401, 3) := by decide +kernel
theorem dX11_tell_111 : decode cX11_tell 111 = .ok (.iload 5, 2) := by decide +kernel
theorem dX11_tell_113 : decode cX11_tell 113 = .ok (.iastore, 1) := by decide +kernel
theorem dX11_tell_114 : decode cX11_tell 114 = .ok (.aload_n 0, 1) := by decide +kernel
theorem dX11_tell_115 : decode cX11_tell 115 = .ok (.getfield 144, 3) := by decide +kernel
theorem dX11_tell_118 : decode cX11_tell 118 = .ok (.aload_n 0, 1) := by decide +kernel
theorem dX11_tell_119 : decode cX11_tell 119 = .ok (.getfield 401, 3) := by decide +kernel
theorem dX11_tell_122 : decode cX11_tell 122 = .ok (.aload_n 0, 1) := by decide +kernel
theorem dX11_tell_123 : decode cX11_tell 123 = .ok (.getfield 332, 3) := by decide +kernel
theorem dX11_tell_126 : decode cX11_tell 126 = .ok (.iastore, 1) := by decide +kernel
theorem dX11_tell_127 : decode cX11_tell 127 = .ok (.aload_n 0, 1) := by decide +kernel
theorem dX11_tell_128 : decode cX11_tell 128 = .ok (.getfield 147, 3) := by decide +kernel
theorem dX11_tell_131 : decode cX11_tell 131 = .ok (.aload_n 0, 1) := by decide +kernel
theorem dX11_tell_132 : decode cX11_tell 132 = .ok (.getfield 401, 3) := by decide +kernel
theorem dX11_tell_135 : decode cX11_tell 135 = .ok (.iconst (-1), 1) := by decide +kernel
theorem dX11_tell_136 : decode cX11_tell 136 = .ok (.iastore, 1) := by decide +kernel
theorem dX11_tell_137 : decode cX11_tell 137 = .ok (.aload_n 0, 1) := by decide +kernel
theorem dX11_tell_138 : decode cX11_tell 138 = .ok (.dup, 1) := by decide +kernel
theorem dX11_tell_139 : decode cX11_tell 139 = .ok (.getfield 401, 3) := by decide +kernel
theorem dX11_tell_142 : decode cX11_tell 142 = .ok (.iconst 1, 1) := by decide +kernel
theorem dX11_tell_143 : decode cX11_tell 143 = .ok (.iadd, 1) := by decide +kernel
theorem dX11_tell_144 : decode cX11_tell 144 = .ok (.putfield 401, 3) := by decide +kernel
theorem dX11_tell_147 : decode cX11_tell 147 = .ok (.aload_n 0, 1) := by decide +kernel
theorem dX11_tell_148 : decode cX11_tell 148 = .ok (.getfield 401, 3) := by decide +kernel
theorem dX11_tell_151 : decode cX11_tell 151 = .ok (.iconst 1, 1) := by decide +kernel
theorem dX11_tell_152 : decode cX11_tell 152 = .ok (.isub, 1) := by decide +kernel
theorem dX11_tell_153 : decode cX11_tell 153 = .ok (.ireturn, 1) := by decide +kernel
theorem dX11_untell_0 : decode cX11_untell 0 = .ok (.iload_n 1, 1) := by decide +kernel
theorem dX11_untell_1 : decode cX11_untell 1 = .ok (.ifCond .lt 20, 3) := by decide +kernel
theorem dX11_untell_4 : decode cX11_untell 4 = .ok (.iload_n 1, 1) := by decide +kernel
theorem dX11_untell_5 : decode cX11_untell 5 = .ok (.aload_n 0, 1) := by decide +kernel
theorem dX11_untell_6 : decode cX11_untell 6 = .ok (.getfield 401, 3) := by decide +kernel
theorem dX11_untell_9 : decode cX11_untell 9 = .ok (.if_icmp .ge 12, 3) := by decide +kernel
theorem dX11_untell_12 : decode cX11_untell 12 = .ok (.aload_n 0, 1) := by decide +kernel
theorem dX11_untell_13 : decode cX11_untell 13 = .ok (.getfield 147, 3) := by decide +kernel
theorem dX11_untell_16 : decode cX11_untell 16 = .ok (.iload_n 1, 1) := by decide +kernel
theorem dX11_untell_17 : decode cX11_untell 17 = .ok (.iaload, 1) := by decide +kernel
theorem dX11_untell_18 : decode cX11_untell 18 = .ok (.ifCond .lt 5, 3) := by decide +kernel
theorem dX11_untell_21 : decode cX11_untell 21 = .ok (.iconst 0, 1) := by decide +kernel
theorem dX11_untell_22 : decode cX11_untell 22 = .ok (.ireturn, 1) := by decide +kernel
theorem dX11_untell_23 : decode cX11_untell 23 = .ok (.aload_n 0, 1) := by decide +kernel
theorem dX11_untell_24 : decode cX11_untell 24 = .ok (.getfield 147, 3) := by decide +kernel
theorem dX11_untell_27 : decode cX11_untell 27 = .ok (.iload_n 1, 1) := by decide +kernel
theorem dX11_untell_28 : decode cX11_untell 28 = .ok (.aload_n 0, 1) := by decide +kernel
theorem dX11_untell_29 : decode cX11_untell 29 = .ok (.getfield 332, 3) := by decide +kernel
theorem dX11_untell_32 : decode cX11_untell 32 = .ok (.iastore, 1) := by decide +kernel
theorem dX11_untell_33 : decode cX11_untell 33 = .ok (.iconst 1, 1) := by decide +kernel
theorem dX11_untell_34 : decode cX11_untell 34 = .ok (.ireturn, 1) := by decide +kernel
theorem dX11_count_0 : decode cX11_count 0 = .ok (.iconst 0, 1) := by decide +kernel
theorem dX11_count_1 : decode cX11_count 1 = .ok (.istore 5, 2) := by decide +kernel
theorem dX11_count_3 : decode cX11_count 3 = .ok (.iload 5, 2) := by decide +kernel
theorem dX11_count_5 : decode cX11_count 5 = .ok (.iconst 5, 1) := by decide +kernel
theorem dX11_count_6 : decode cX11_count 6 = .ok (.if_icmp .ge 17, 3) := by decide +kernel
theorem dX11_count_9 : decode cX11_count 9 = .ok (.aload_n 0, 1) := by decide +kernel
theorem dX11_count_10 : decode cX11_count 10 = .ok (.getfield 150, 3) := by decide +kernel
theorem dX11_count_13 : decode cX11_count 13 = .ok (.iload 5, 2) := by decide +kernel
theorem dX11_count_15 : decode cX11_count 15 = .ok (.iconst (-1), 1) := by decide +kernel
theorem dX11_count_16 : decode cX11_count 16 = .ok (.iastore, 1) := by decide +kernel
theorem dX11_count_17 : decode cX11_count 17 = .ok (.iinc 5 1, 3) := by decide +kernel
theorem dX11_count_20 : decode cX11_count 20 = .ok (.goto (-17), 3) := by decide +kernel
theorem dX11_count_23 : decode cX11_count 23 = .ok (.iconst 0, 1) := by decide +kernel
theorem dX11_count_24 : decode cX11_count 24 = .ok (.istore 5, 2) := by decide +kernel
theorem dX11_count_26 : decode cX11_count 26 = .ok (.iload 5, 2) := by decide +kernel
theorem dX11_count_28 : decode cX11_count 28 = .ok (.aload_n 0, 1) := by decide +kernel
theorem dX11_count_29 : decode cX11_count 29 = .ok (.getfield 401, 3) := by decide +kernel
theorem dX11_count_32 : decode cX11_count 32 = .ok (.if_icmp .ge 95, 3) := by decide +kernel
theorem dX11_count_35 : decode cX11_count 35 = .ok (.aload_n 0, 1) := by decide +kernel
theorem dX11_count_36 : decode cX11_count 36 = .ok (.getfield 132, 3) := by decide +kernel
theorem dX11_count_39 : decode cX11_count 39 = .ok (.iload 5, 2) := by decide +kernel
theorem dX11_count_41 : decode cX11_count 41 = .ok (.iaload, 1) := by decide +kernel
theorem dX11_count_42 : decode cX11_count 42 = .ok (.iload_n 1, 1) := by decide +kernel
theorem dX11_count_43 : decode cX11_count 43 = .ok (.if_icmp .ne 78, 3) := by decide +kernel
theorem dX11_count_46 : decode cX11_count 46 = .ok (.aload_n 0, 1) := by decide +kernel
theorem dX11_count_47 : decode cX11_count 47 = .ok (.getfield 135, 3) := by decide +kernel
theorem dX11_count_50 : decode cX11_count 50 = .ok (.iload 5, 2) := by decide +kernel
theorem dX11_count_52 : decode cX11_count 52 = .ok (.iaload, 1) := by decide +kernel
theorem dX11_count_53 : decode cX11_count 53 = .ok (.iload_n 2, 1) := by decide +kernel
theorem dX11_count_54 : decode cX11_count 54 = .ok (.if_icmp .ne 67, 3) := by decide +kernel
theorem dX11_count_57 : decode cX11_count 57 = .ok (.aload_n 0, 1) := by decide +kernel
theorem dX11_count_58 : decode cX11_count 58 = .ok (.getfield 138, 3) := by decide +kernel
theorem dX11_count_61 : decode cX11_count 61 = .ok (.iload 5, 2) := by decide +kernel
theorem dX11_count_63 : decode cX11_count 63 = .ok (.iaload, 1) := by decide +kernel
theorem dX11_count_64 : decode cX11_count 64 = .ok (.iload_n 3, 1) := by decide +kernel
theorem dX11_count_65 : decode cX11_count 65 = .ok (.if_icmp .ne 56, 3) := by decide +kernel
theorem dX11_count_68 : decode cX11_count 68 = .ok (.aload_n 0, 1) := by decide +kernel
theorem dX11_count_69 : decode cX11_count 69 = .ok (.getfield 144, 3) := by decide +kernel
theorem dX11_count_72 : decode cX11_count 72 = .ok (.iload 5, 2) := by decide +kernel
theorem dX11_count_74 : decode cX11_count 74 = .ok (.iaload, 1) := by decide +kernel
theorem dX11_count_75 : decode cX11_count 75 = .ok (.iload 4, 2) := by decide +kernel
theorem dX11_count_77 : decode cX11_count 77 = .ok (.if_icmp .gt 44, 3) := by decide +kernel
theorem dX11_count_80 : decode cX11_count 80 = .ok (.aload_n 0, 1) := by decide +kernel
theorem dX11_count_81 : decode cX11_count 81 = .ok (.getfield 147, 3) := by decide +kernel
theorem dX11_count_84 : decode cX11_count 84 = .ok (.iload 5, 2) := by decide +kernel
theorem dX11_count_86 : decode cX11_count 86 = .ok (.iaload, 1) := by decide +kernel
theorem dX11_count_87 : decode cX11_count 87 = .ok (.ifCond .lt 15, 3) := by decide +kernel
theorem dX11_count_90 : decode cX11_count 90 = .ok (.aload_n 0, 1) := by decide +kernel
theorem dX11_count_91 : decode cX11_count 91 = .ok (.getfield 147, 3) := by decide +kernel
theorem dX11_count_94 : decode cX11_count 94 = .ok (.iload 5, 2) := by decide +kernel
theorem dX11_count_96 : decode cX11_count 96 = .ok (.iaload, 1) := by decide +kernel
theorem dX11_count_97 : decode cX11_count 97 = .ok (.iload 4, 2) := by decide +kernel
theorem dX11_count_99 : decode cX11_count 99 = .ok (.if_icmp .le 22, 3) := by decide +kernel
theorem dX11_count_102 : decode cX11_count 102 = .ok (.aload_n 0, 1) := by decide +kernel
theorem dX11_count_103 : decode cX11_count 103 = .ok (.getfield 150, 3) := by decide +kernel
theorem dX11_count_106 : decode cX11_count 106 = .ok (.aload_n 0, 1) := by decide +kernel
theorem dX11_count_107 : decode cX11_count 107 = .ok (.getfield 129, 3) := by decide +kernel
theorem dX11_count_110 : decode cX11_count 110 = .ok (.iload 5, 2) := by decide +kernel
theorem dX11_count_112 : decode cX11_count 112 = .ok (.iaload, 1) := by decide +kernel
theorem dX11_count_113 : decode cX11_count 113 = .ok (.aload_n 0, 1) := by decide +kernel
theorem dX11_count_114 : decode cX11_count 114 = .ok (.getfield 141, 3) := by decide +kernel
theorem dX11_count_117 : decode cX11_count 117 = .ok (.iload 5, 2) := by decide +kernel
theorem dX11_count_119 : decode cX11_count 119 = .ok (.iaload, 1) := by decide +kernel
theorem dX11_count_120 : decode cX11_count 120 = .ok (.iastore, 1) := by decide +kernel
theorem dX11_count_121 : decode cX11_count 121 = .ok (.iinc 5 1, 3) := by decide +kernel
theorem dX11_count_124 : decode cX11_count 124 = .ok (.goto (-98), 3) := by decide +kernel
theorem dX11_count_127 : decode cX11_count 127 = .ok (.iconst (-1), 1) := by decide +kernel
theorem dX11_count_128 : decode cX11_count 128 = .ok (.istore 5, 2) := by decide +kernel
theorem dX11_count_130 : decode cX11_count 130 = .ok (.aload_n 0, 1) := by decide +kernel
theorem dX11_count_131 : decode cX11_count 131 = .ok (.iconst 0, 1) := by decide +kernel
theorem dX11_count_132 : decode cX11_count 132 = .ok (.putfield 404, 3) := by decide +kernel
theorem dX11_count_135 : decode cX11_count 135 = .ok (.iconst 0, 1) := by decide +kernel
theorem dX11_count_136 : decode cX11_count 136 = .ok (.istore 6, 2) := by decide +kernel
theorem dX11_count_138 : decode cX11_count 138 = .ok (.iload 6, 2) := by decide +kernel
theorem dX11_count_140 : decode cX11_count 140 = .ok (.iconst 5, 1) := by decide +kernel
theorem dX11_count_141 : decode cX11_count 141 = .ok (.if_icmp .ge 117, 3) := by decide +kernel
theorem dX11_count_144 : decode cX11_count 144 = .ok (.iconst 0, 1) := by decide +kernel
theorem dX11_count_145 : decode cX11_count 145 = .ok (.istore 7, 2) := by decide +kernel
theorem dX11_count_147 : decode cX11_count 147 = .ok (.iconst 0, 1) := by decide +kernel
theorem dX11_count_148 : decode cX11_count 148 = .ok (.istore 8, 2) := by decide +kernel
theorem dX11_count_150 : decode cX11_count 150 = .ok (.iload 8, 2) := by decide +kernel
theorem dX11_count_152 : decode cX11_count 152 = .ok (.iconst 5, 1) := by decide +kernel
theorem dX11_count_153 : decode cX11_count 153 = .ok (.if_icmp .ge 46, 3) := by decide +kernel
theorem dX11_count_156 : decode cX11_count 156 = .ok (.iload 7, 2) := by decide +kernel
theorem dX11_count_158 : decode cX11_count 158 = .ok (.aload_n 0, 1) := by decide +kernel
theorem dX11_count_159 : decode cX11_count 159 = .ok (.getfield 150, 3) := by decide +kernel
theorem dX11_count_162 : decode cX11_count 162 = .ok (.iload 6, 2) := by decide +kernel
theorem dX11_count_164 : decode cX11_count 164 = .ok (.iaload, 1) := by decide +kernel
theorem dX11_count_165 : decode cX11_count 165 = .ok (.ifCond .lt 24, 3) := by decide +kernel
theorem dX11_count_168 : decode cX11_count 168 = .ok (.aload_n 0, 1) := by decide +kernel
theorem dX11_count_169 : decode cX11_count 169 = .ok (.getfield 150, 3) := by decide +kernel
theorem dX11_count_172 : decode cX11_count 172 = .ok (.iload 8, 2) := by decide +kernel
theorem dX11_count_174 : decode cX11_count 174 = .ok (.iaload, 1) := by decide +kernel
theorem dX11_count_175 : decode cX11_count 175 = .ok (.aload_n 0, 1) := by decide +kernel
theorem dX11_count_176 : decode cX11_count 176 = .ok (.getfield 150, 3) := by decide +kernel
theorem dX11_count_179 : decode cX11_count 179 = .ok (.iload 6, 2) := by decide +kernel
theorem dX11_count_181 : decode cX11_count 181 = .ok (.iaload, 1) := by decide +kernel
theorem dX11_count_182 : decode cX11_count 182 = .ok (.if_icmp .ne 7, 3) := by decide +kernel
theorem dX11_count_185 : decode cX11_count 185 = .ok (.iconst 1, 1) := by decide +kernel
theorem dX11_count_186 : decode cX11_count 186 = .ok (.goto 4, 3) := by decide +kernel
theorem dX11_count_189 : decode cX11_count 189 = .ok (.iconst 0, 1) := by decide +kernel
theorem dX11_count_190 : decode cX11_count 190 = .ok (.iadd, 1) := by decide +kernel
theorem dX11_count_191 : decode cX11_count 191 = .ok (.istore 7, 2) := by decide +kernel
theorem dX11_count_193 : decode cX11_count 193 = .ok (.iinc 8 1, 3) := by decide +kernel
theorem dX11_count_196 : decode cX11_count 196 = .ok (.goto (-46), 3) := by decide +kernel
theorem dX11_count_199 : decode cX11_count 199 = .ok (.iload 7, 2) := by decide +kernel
theorem dX11_count_201 : decode cX11_count 201 = .ok (.aload_n 0, 1) := by decide +kernel
theorem dX11_count_202 : decode cX11_count 202 = .ok (.getfield 404, 3) := by decide +kernel
theorem dX11_count_205 : decode cX11_count 205 = .ok (.if_icmp .lt 47, 3) := by decide +kernel
theorem dX11_count_208 : decode cX11_count 208 = .ok (.iload 7, 2) := by decide +kernel
theorem dX11_count_210 : decode cX11_count 210 = .ok (.ifCond .eq 42, 3) := by decide +kernel
theorem dX11_count_213 : decode cX11_count 213 = .ok (.iload 7, 2) := by decide +kernel
theorem dX11_count_215 : decode cX11_count 215 = .ok (.aload_n 0, 1) := by decide +kernel
theorem dX11_count_216 : decode cX11_count 216 = .ok (.getfield 404, 3) := by decide +kernel
theorem dX11_count_219 : decode cX11_count 219 = .ok (.if_icmp .ne 18, 3) := by decide +kernel
theorem dX11_count_222 : decode cX11_count 222 = .ok (.aload_n 0, 1) := by decide +kernel
theorem dX11_count_223 : decode cX11_count 223 = .ok (.getfield 150, 3) := by decide +kernel
theorem dX11_count_226 : decode cX11_count 226 = .ok (.iload 6, 2) := by decide +kernel
theorem dX11_count_228 : decode cX11_count 228 = .ok (.iaload, 1) := by decide +kernel
theorem dX11_count_229 : decode cX11_count 229 = .ok (.iload 5, 2) := by decide +kernel
theorem dX11_count_231 : decode cX11_count 231 = .ok (.if_icmp .lt 6, 3) := by decide +kernel
theorem dX11_count_234 : decode cX11_count 234 = .ok (.goto 18, 3) := by decide +kernel
theorem dX11_count_237 : decode cX11_count 237 = .ok (.aload_n 0, 1) := by decide +kernel
theorem dX11_count_238 : decode cX11_count 238 = .ok (.iload 7, 2) := by decide +kernel
theorem dX11_count_240 : decode cX11_count 240 = .ok (.putfield 404, 3) := by decide +kernel
theorem dX11_count_243 : decode cX11_count 243 = .ok (.aload_n 0, 1) := by decide +kernel
theorem dX11_count_244 : decode cX11_count 244 = .ok (.getfield 150, 3) := by decide +kernel
theorem dX11_count_247 : decode cX11_count 247 = .ok (.iload 6, 2) := by decide +kernel
theorem dX11_count_249 : decode cX11_count 249 = .ok (.iaload, 1) := by decide +kernel
theorem dX11_count_250 : decode cX11_count 250 = .ok (.istore 5, 2) := by decide +kernel
theorem dX11_count_252 : decode cX11_count 252 = .ok (.iinc 6 1, 3) := by decide +kernel
theorem dX11_count_255 : decode cX11_count 255 = .ok (.goto (-117), 3) := by decide +kernel
theorem dX11_count_258 : decode cX11_count 258 = .ok (.iload 5, 2) := by decide +kernel
theorem dX11_count_260 : decode cX11_count 260 = .ok (.ireturn, 1) := by decide +kernel
theorem dX11_agree_0 : decode cX11_agree 0 = .ok (.aload_n 0, 1) := by decide +kernel
theorem dX11_agree_1 : decode cX11_agree 1 = .ok (.iload_n 1, 1) := by decide +kernel
theorem dX11_agree_2 : decode cX11_agree 2 = .ok (.iload_n 2, 1) := by decide +kernel
theorem dX11_agree_3 : decode cX11_agree 3 = .ok (.iload_n 3, 1) := by decide +kernel
theorem dX11_agree_4 : decode cX11_agree 4 = .ok (.iload 4, 2) := by decide +kernel
theorem dX11_agree_6 : decode cX11_agree 6 = .ok (.invokevirtual 407, 3) := by decide +kernel
theorem dX11_agree_9 : decode cX11_agree 9 = .ok (.pop, 1) := by decide +kernel
theorem dX11_agree_10 : decode cX11_agree 10 = .ok (.aload_n 0, 1) := by decide +kernel
theorem dX11_agree_11 : decode cX11_agree 11 = .ok (.getfield 404, 3) := by decide +kernel
theorem dX11_agree_14 : decode cX11_agree 14 = .ok (.ireturn, 1) := by decide +kernel
theorem dX11_of_0 : decode cX11_of 0 = .ok (.aload_n 0, 1) := by decide +kernel
theorem dX11_of_1 : decode cX11_of 1 = .ok (.iload_n 1, 1) := by decide +kernel
theorem dX11_of_2 : decode cX11_of 2 = .ok (.invokevirtual 157, 3) := by decide +kernel
theorem dX11_of_5 : decode cX11_of 5 = .ok (.ifCond .ne 5, 3) := by decide +kernel
theorem dX11_of_8 : decode cX11_of 8 = .ok (.iconst (-1), 1) := by decide +kernel
theorem dX11_of_9 : decode cX11_of 9 = .ok (.ireturn, 1) := by decide +kernel
theorem dX11_of_10 : decode cX11_of 10 = .ok (.iload_n 2, 1) := by decide +kernel
theorem dX11_of_11 : decode cX11_of 11 = .ok (.tableswitch 56 0 3 #[29, 36, 43, 50], 29) := by decide +kernel
theorem dX11_of_40 : decode cX11_of 40 = .ok (.aload_n 0, 1) := by decide +kernel
theorem dX11_of_41 : decode cX11_of 41 = .ok (.getfield 7, 3) := by decide +kernel
theorem dX11_of_44 : decode cX11_of 44 = .ok (.iload_n 1, 1) := by decide +kernel
theorem dX11_of_45 : decode cX11_of 45 = .ok (.iaload, 1) := by decide +kernel
theorem dX11_of_46 : decode cX11_of 46 = .ok (.ireturn, 1) := by decide +kernel
theorem dX11_of_47 : decode cX11_of 47 = .ok (.aload_n 0, 1) := by decide +kernel
theorem dX11_of_48 : decode cX11_of 48 = .ok (.getfield 13, 3) := by decide +kernel
theorem dX11_of_51 : decode cX11_of 51 = .ok (.iload_n 1, 1) := by decide +kernel
theorem dX11_of_52 : decode cX11_of 52 = .ok (.iaload, 1) := by decide +kernel
theorem dX11_of_53 : decode cX11_of 53 = .ok (.ireturn, 1) := by decide +kernel
theorem dX11_of_54 : decode cX11_of 54 = .ok (.aload_n 0, 1) := by decide +kernel
theorem dX11_of_55 : decode cX11_of 55 = .ok (.getfield 16, 3) := by decide +kernel
theorem dX11_of_58 : decode cX11_of 58 = .ok (.iload_n 1, 1) := by decide +kernel
theorem dX11_of_59 : decode cX11_of 59 = .ok (.iaload, 1) := by decide +kernel
theorem dX11_of_60 : decode cX11_of 60 = .ok (.ireturn, 1) := by decide +kernel
theorem dX11_of_61 : decode cX11_of 61 = .ok (.aload_n 0, 1) := by decide +kernel
theorem dX11_of_62 : decode cX11_of 62 = .ok (.iload_n 1, 1) := by decide +kernel
theorem dX11_of_63 : decode cX11_of 63 = .ok (.invokevirtual 172, 3) := by decide +kernel
theorem dX11_of_66 : decode cX11_of 66 = .ok (.ireturn, 1) := by decide +kernel
theorem dX11_of_67 : decode cX11_of 67 = .ok (.aload_n 0, 1) := by decide +kernel
theorem dX11_of_68 : decode cX11_of 68 = .ok (.iload_n 2, 1) := by decide +kernel
theorem dX11_of_69 : decode cX11_of 69 = .ok (.bipush 10, 2) := by decide +kernel
theorem dX11_of_71 : decode cX11_of 71 = .ok (.isub, 1) := by decide +kernel
theorem dX11_of_72 : decode cX11_of 72 = .ok (.invokevirtual 157, 3) := by decide +kernel
theorem dX11_of_75 : decode cX11_of 75 = .ok (.ifCond .eq 20, 3) := by decide +kernel
theorem dX11_of_78 : decode cX11_of 78 = .ok (.aload_n 0, 1) := by decide +kernel
theorem dX11_of_79 : decode cX11_of 79 = .ok (.getfield 19, 3) := by decide +kernel
theorem dX11_of_82 : decode cX11_of 82 = .ok (.bipush 8, 2) := by decide +kernel
theorem dX11_of_84 : decode cX11_of 84 = .ok (.iload_n 1, 1) := by decide +kernel
theorem dX11_of_85 : decode cX11_of 85 = .ok (.imul, 1) := by decide +kernel
theorem dX11_of_86 : decode cX11_of 86 = .ok (.iload_n 2, 1) := by decide +kernel
theorem dX11_of_87 : decode cX11_of 87 = .ok (.iadd, 1) := by decide +kernel
theorem dX11_of_88 : decode cX11_of 88 = .ok (.bipush 10, 2) := by decide +kernel
theorem dX11_of_90 : decode cX11_of 90 = .ok (.isub, 1) := by decide +kernel
theorem dX11_of_91 : decode cX11_of 91 = .ok (.iaload, 1) := by decide +kernel
theorem dX11_of_92 : decode cX11_of 92 = .ok (.goto 4, 3) := by decide +kernel
theorem dX11_of_95 : decode cX11_of 95 = .ok (.iconst (-1), 1) := by decide +kernel
theorem dX11_of_96 : decode cX11_of 96 = .ok (.ireturn, 1) := by decide +kernel
theorem dX11_about_0 : decode cX11_about 0 = .ok (.iload_n 1, 1) := by decide +kernel
theorem dX11_about_1 : decode cX11_about 1 = .ok (.tableswitch 83 0 6 #[43, 48, 53, 63, 68, 73, 78], 43) := by decide +kernel
theorem dX11_about_44 : decode cX11_about 44 = .ok (.aload_n 0, 1) := by decide +kernel
theorem dX11_about_45 : decode cX11_about 45 = .ok (.getfield 332, 3) := by decide +kernel
theorem dX11_about_48 : decode cX11_about 48 = .ok (.ireturn, 1) := by decide +kernel
theorem dX11_about_49 : decode cX11_about 49 = .ok (.aload_n 0, 1) := by decide +kernel
theorem dX11_about_50 : decode cX11_about 50 = .ok (.getfield 153, 3) := by decide +kernel
theorem dX11_about_53 : decode cX11_about 53 = .ok (.ireturn, 1) := by decide +kernel
theorem dX11_about_54 : decode cX11_about 54 = .ok (.aload_n 0, 1) := by decide +kernel
theorem dX11_about_55 : decode cX11_about 55 = .ok (.getfield 42, 3) := by decide +kernel
theorem dX11_about_58 : decode cX11_about 58 = .ok (.aload_n 0, 1) := by decide +kernel
theorem dX11_about_59 : decode cX11_about 59 = .ok (.getfield 255, 3) := by decide +kernel
theorem dX11_about_62 : decode cX11_about 62 = .ok (.iaload, 1) := by decide +kernel
theorem dX11_about_63 : decode cX11_about 63 = .ok (.ireturn, 1) := by decide +kernel
theorem dX11_about_64 : decode cX11_about 64 = .ok (.aload_n 0, 1) := by decide +kernel
theorem dX11_about_65 : decode cX11_about 65 = .ok (.getfield 365, 3) := by decide +kernel
theorem dX11_about_68 : decode cX11_about 68 = .ok (.ireturn, 1) := by decide +kernel
theorem dX11_about_69 : decode cX11_about 69 = .ok (.aload_n 0, 1) := by decide +kernel
theorem dX11_about_70 : decode cX11_about 70 = .ok (.getfield 394, 3) := by decide +kernel
theorem dX11_about_73 : decode cX11_about 73 = .ok (.ireturn, 1) := by decide +kernel
theorem dX11_about_74 : decode cX11_about 74 = .ok (.aload_n 0, 1) := by decide +kernel
theorem dX11_about_75 : decode cX11_about 75 = .ok (.getfield 401, 3) := by decide +kernel
theorem dX11_about_78 : decode cX11_about 78 = .ok (.ireturn, 1) := by decide +kernel
theorem dX11_about_79 : decode cX11_about 79 = .ok (.aload_n 0, 1) := by decide +kernel
theorem dX11_about_80 : decode cX11_about 80 = .ok (.getfield 252, 3) := by decide +kernel
theorem dX11_about_83 : decode cX11_about 83 = .ok (.ireturn, 1) := by decide +kernel
theorem dX11_about_84 : decode cX11_about 84 = .ok (.iload_n 1, 1) := by decide +kernel
theorem dX11_about_85 : decode cX11_about 85 = .ok (.bipush 10, 2) := by decide +kernel
theorem dX11_about_87 : decode cX11_about 87 = .ok (.isub, 1) := by decide +kernel
theorem dX11_about_88 : decode cX11_about 88 = .ok (.invokestatic 161, 3) := by decide +kernel
theorem dX11_about_91 : decode cX11_about 91 = .ok (.ifCond .eq 15, 3) := by decide +kernel
theorem dX11_about_94 : decode cX11_about 94 = .ok (.aload_n 0, 1) := by decide +kernel
theorem dX11_about_95 : decode cX11_about 95 = .ok (.getfield 22, 3) := by decide +kernel
theorem dX11_about_98 : decode cX11_about 98 = .ok (.iload_n 1, 1) := by decide +kernel
theorem dX11_about_99 : decode cX11_about 99 = .ok (.bipush 10, 2) := by decide +kernel
theorem dX11_about_101 : decode cX11_about 101 = .ok (.isub, 1) := by decide +kernel
theorem dX11_about_102 : decode cX11_about 102 = .ok (.iaload, 1) := by decide +kernel
theorem dX11_about_103 : decode cX11_about 103 = .ok (.goto 4, 3) := by decide +kernel
theorem dX11_about_106 : decode cX11_about 106 = .ok (.iconst (-1), 1) := by decide +kernel
theorem dX11_about_107 : decode cX11_about 107 = .ok (.ireturn, 1) := by decide +kernel
theorem dX11_feed_0 : decode cX11_feed 0 = .ok (.aload_n 0, 1) := by decide +kernel
theorem dX11_feed_1 : decode cX11_feed 1 = .ok (.getfield 252, 3) := by decide +kernel
theorem dX11_feed_4 : decode cX11_feed 4 = .ok (.bipush 20, 2) := by decide +kernel
theorem dX11_feed_6 : decode cX11_feed 6 = .ok (.iadd, 1) := by decide +kernel
theorem dX11_feed_7 : decode cX11_feed 7 = .ok (.sipush 1000, 3) := by decide +kernel
theorem dX11_feed_10 : decode cX11_feed 10 = .ok (.if_icmp .le 5, 3) := by decide +kernel
theorem dX11_feed_13 : decode cX11_feed 13 = .ok (.iconst (-1), 1) := by decide +kernel
theorem dX11_feed_14 : decode cX11_feed 14 = .ok (.ireturn, 1) := by decide +kernel
theorem dX11_feed_15 : decode cX11_feed 15 = .ok (.iconst 0, 1) := by decide +kernel
theorem dX11_feed_16 : decode cX11_feed 16 = .ok (.istore 6, 2) := by decide +kernel
theorem dX11_feed_18 : decode cX11_feed 18 = .ok (.iload 6, 2) := by decide +kernel
theorem dX11_feed_20 : decode cX11_feed 20 = .ok (.bipush 20, 2) := by decide +kernel
theorem dX11_feed_22 : decode cX11_feed 22 = .ok (.if_icmp .ge 83, 3) := by decide +kernel
theorem dX11_feed_25 : decode cX11_feed 25 = .ok (.iload 6, 2) := by decide +kernel
theorem dX11_feed_27 : decode cX11_feed 27 = .ok (.iconst 4, 1) := by decide +kernel

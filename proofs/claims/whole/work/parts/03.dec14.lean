theorem dX11_feedAll_72 : decode cX11_feedAll 72 = .ok (.iastore, 1) := by decide +kernel
theorem dX11_feedAll_73 : decode cX11_feedAll 73 = .ok (.iinc 3 1, 3) := by decide +kernel
theorem dX11_feedAll_76 : decode cX11_feedAll 76 = .ok (.goto (-21), 3) := by decide +kernel
theorem dX11_feedAll_79 : decode cX11_feedAll 79 = .ok (.iinc 2 1, 3) := by decide +kernel
theorem dX11_feedAll_82 : decode cX11_feedAll 82 = .ok (.goto (-63), 3) := by decide +kernel
theorem dX11_feedAll_85 : decode cX11_feedAll 85 = .ok (.iconst 0, 1) := by decide +kernel
theorem dX11_feedAll_86 : decode cX11_feedAll 86 = .ok (.istore_n 2, 1) := by decide +kernel
theorem dX11_feedAll_87 : decode cX11_feedAll 87 = .ok (.iload_n 2, 1) := by decide +kernel
theorem dX11_feedAll_88 : decode cX11_feedAll 88 = .ok (.aload_n 0, 1) := by decide +kernel
theorem dX11_feedAll_89 : decode cX11_feedAll 89 = .ok (.getfield 365, 3) := by decide +kernel
theorem dX11_feedAll_92 : decode cX11_feedAll 92 = .ok (.if_icmp .ge 35, 3) := by decide +kernel
theorem dX11_feedAll_95 : decode cX11_feedAll 95 = .ok (.aload_n 0, 1) := by decide +kernel
theorem dX11_feedAll_96 : decode cX11_feedAll 96 = .ok (.getfield 111, 3) := by decide +kernel
theorem dX11_feedAll_99 : decode cX11_feedAll 99 = .ok (.iload_n 2, 1) := by decide +kernel
theorem dX11_feedAll_100 : decode cX11_feedAll 100 = .ok (.aload_n 0, 1) := by decide +kernel
theorem dX11_feedAll_101 : decode cX11_feedAll 101 = .ok (.getfield 99, 3) := by decide +kernel
theorem dX11_feedAll_104 : decode cX11_feedAll 104 = .ok (.iload_n 2, 1) := by decide +kernel
theorem dX11_feedAll_105 : decode cX11_feedAll 105 = .ok (.iaload, 1) := by decide +kernel
theorem dX11_feedAll_106 : decode cX11_feedAll 106 = .ok (.iload_n 1, 1) := by decide +kernel
theorem dX11_feedAll_107 : decode cX11_feedAll 107 = .ok (.if_icmp .ne 12, 3) := by decide +kernel
theorem dX11_feedAll_110 : decode cX11_feedAll 110 = .ok (.aload_n 0, 1) := by decide +kernel
theorem dX11_feedAll_111 : decode cX11_feedAll 111 = .ok (.getfield 102, 3) := by decide +kernel
theorem dX11_feedAll_114 : decode cX11_feedAll 114 = .ok (.iload_n 2, 1) := by decide +kernel
theorem dX11_feedAll_115 : decode cX11_feedAll 115 = .ok (.iaload, 1) := by decide +kernel
theorem dX11_feedAll_116 : decode cX11_feedAll 116 = .ok (.goto 4, 3) := by decide +kernel
theorem dX11_feedAll_119 : decode cX11_feedAll 119 = .ok (.iconst 0, 1) := by decide +kernel
theorem dX11_feedAll_120 : decode cX11_feedAll 120 = .ok (.iastore, 1) := by decide +kernel
theorem dX11_feedAll_121 : decode cX11_feedAll 121 = .ok (.iinc 2 1, 3) := by decide +kernel
theorem dX11_feedAll_124 : decode cX11_feedAll 124 = .ok (.goto (-37), 3) := by decide +kernel
theorem dX11_feedAll_127 : decode cX11_feedAll 127 = .ok (.iconst 1, 1) := by decide +kernel
theorem dX11_feedAll_128 : decode cX11_feedAll 128 = .ok (.istore_n 2, 1) := by decide +kernel
theorem dX11_feedAll_129 : decode cX11_feedAll 129 = .ok (.iload_n 2, 1) := by decide +kernel
theorem dX11_feedAll_130 : decode cX11_feedAll 130 = .ok (.ifCond .eq 12, 3) := by decide +kernel
theorem dX11_feedAll_133 : decode cX11_feedAll 133 = .ok (.aload_n 0, 1) := by decide +kernel
theorem dX11_feedAll_134 : decode cX11_feedAll 134 = .ok (.iload_n 1, 1) := by decide +kernel
theorem dX11_feedAll_135 : decode cX11_feedAll 135 = .ok (.invokevirtual 374, 3) := by decide +kernel
theorem dX11_feedAll_138 : decode cX11_feedAll 138 = .ok (.istore_n 2, 1) := by decide +kernel
theorem dX11_feedAll_139 : decode cX11_feedAll 139 = .ok (.goto (-10), 3) := by decide +kernel
theorem dX11_feedAll_142 : decode cX11_feedAll 142 = .ok (.iinc 1 1, 3) := by decide +kernel
theorem dX11_feedAll_145 : decode cX11_feedAll 145 = .ok (.goto (-133), 3) := by decide +kernel
theorem dX11_feedAll_148 : decode cX11_feedAll 148 = .ok (.return_, 1) := by decide +kernel
theorem dX11_measure_0 : decode cX11_measure 0 = .ok (.iconst 0, 1) := by decide +kernel
theorem dX11_measure_1 : decode cX11_measure 1 = .ok (.istore_n 2, 1) := by decide +kernel
theorem dX11_measure_2 : decode cX11_measure 2 = .ok (.iload_n 2, 1) := by decide +kernel
theorem dX11_measure_3 : decode cX11_measure 3 = .ok (.bipush 61, 2) := by decide +kernel
theorem dX11_measure_5 : decode cX11_measure 5 = .ok (.aload_n 0, 1) := by decide +kernel
theorem dX11_measure_6 : decode cX11_measure 6 = .ok (.getfield 153, 3) := by decide +kernel
theorem dX11_measure_9 : decode cX11_measure 9 = .ok (.imul, 1) := by decide +kernel
theorem dX11_measure_10 : decode cX11_measure 10 = .ok (.if_icmp .ge 38, 3) := by decide +kernel
theorem dX11_measure_13 : decode cX11_measure 13 = .ok (.aload_n 0, 1) := by decide +kernel
theorem dX11_measure_14 : decode cX11_measure 14 = .ok (.getfield 114, 3) := by decide +kernel
theorem dX11_measure_17 : decode cX11_measure 17 = .ok (.iload_n 2, 1) := by decide +kernel
theorem dX11_measure_18 : decode cX11_measure 18 = .ok (.aload_n 0, 1) := by decide +kernel
theorem dX11_measure_19 : decode cX11_measure 19 = .ok (.getfield 105, 3) := by decide +kernel
theorem dX11_measure_22 : decode cX11_measure 22 = .ok (.iload_n 2, 1) := by decide +kernel
theorem dX11_measure_23 : decode cX11_measure 23 = .ok (.iaload, 1) := by decide +kernel
theorem dX11_measure_24 : decode cX11_measure 24 = .ok (.ifCond .le 7, 3) := by decide +kernel
theorem dX11_measure_27 : decode cX11_measure 27 = .ok (.iconst 0, 1) := by decide +kernel
theorem dX11_measure_28 : decode cX11_measure 28 = .ok (.goto 6, 3) := by decide +kernel
theorem dX11_measure_31 : decode cX11_measure 31 = .ok (.ldc_w 377, 3) := by decide +kernel
theorem dX11_measure_34 : decode cX11_measure 34 = .ok (.iastore, 1) := by decide +kernel
theorem dX11_measure_35 : decode cX11_measure 35 = .ok (.aload_n 0, 1) := by decide +kernel
theorem dX11_measure_36 : decode cX11_measure 36 = .ok (.getfield 120, 3) := by decide +kernel
theorem dX11_measure_39 : decode cX11_measure 39 = .ok (.iload_n 2, 1) := by decide +kernel
theorem dX11_measure_40 : decode cX11_measure 40 = .ok (.iconst (-1), 1) := by decide +kernel
theorem dX11_measure_41 : decode cX11_measure 41 = .ok (.iastore, 1) := by decide +kernel
theorem dX11_measure_42 : decode cX11_measure 42 = .ok (.iinc 2 1, 3) := by decide +kernel
theorem dX11_measure_45 : decode cX11_measure 45 = .ok (.goto (-43), 3) := by decide +kernel
theorem dX11_measure_48 : decode cX11_measure 48 = .ok (.iconst 0, 1) := by decide +kernel
theorem dX11_measure_49 : decode cX11_measure 49 = .ok (.istore_n 2, 1) := by decide +kernel
theorem dX11_measure_50 : decode cX11_measure 50 = .ok (.iload_n 2, 1) := by decide +kernel
theorem dX11_measure_51 : decode cX11_measure 51 = .ok (.aload_n 0, 1) := by decide +kernel
theorem dX11_measure_52 : decode cX11_measure 52 = .ok (.getfield 365, 3) := by decide +kernel
theorem dX11_measure_55 : decode cX11_measure 55 = .ok (.if_icmp .ge 18, 3) := by decide +kernel
theorem dX11_measure_58 : decode cX11_measure 58 = .ok (.aload_n 0, 1) := by decide +kernel
theorem dX11_measure_59 : decode cX11_measure 59 = .ok (.getfield 117, 3) := by decide +kernel
theorem dX11_measure_62 : decode cX11_measure 62 = .ok (.iload_n 2, 1) := by decide +kernel
theorem dX11_measure_63 : decode cX11_measure 63 = .ok (.ldc_w 377, 3) := by decide +kernel
theorem dX11_measure_66 : decode cX11_measure 66 = .ok (.iastore, 1) := by decide +kernel
theorem dX11_measure_67 : decode cX11_measure 67 = .ok (.iinc 2 1, 3) := by decide +kernel
theorem dX11_measure_70 : decode cX11_measure 70 = .ok (.goto (-20), 3) := by decide +kernel
theorem dX11_measure_73 : decode cX11_measure 73 = .ok (.iconst 1, 1) := by decide +kernel
theorem dX11_measure_74 : decode cX11_measure 74 = .ok (.istore_n 2, 1) := by decide +kernel
theorem dX11_measure_75 : decode cX11_measure 75 = .ok (.iload_n 2, 1) := by decide +kernel
theorem dX11_measure_76 : decode cX11_measure 76 = .ok (.ifCond .eq 52, 3) := by decide +kernel
theorem dX11_measure_79 : decode cX11_measure 79 = .ok (.iconst 0, 1) := by decide +kernel
theorem dX11_measure_80 : decode cX11_measure 80 = .ok (.istore_n 2, 1) := by decide +kernel
theorem dX11_measure_81 : decode cX11_measure 81 = .ok (.iconst 0, 1) := by decide +kernel
theorem dX11_measure_82 : decode cX11_measure 82 = .ok (.istore_n 3, 1) := by decide +kernel
theorem dX11_measure_83 : decode cX11_measure 83 = .ok (.iload_n 3, 1) := by decide +kernel
theorem dX11_measure_84 : decode cX11_measure 84 = .ok (.aload_n 0, 1) := by decide +kernel
theorem dX11_measure_85 : decode cX11_measure 85 = .ok (.getfield 365, 3) := by decide +kernel
theorem dX11_measure_88 : decode cX11_measure 88 = .ok (.if_icmp .ge 37, 3) := by decide +kernel
theorem dX11_measure_91 : decode cX11_measure 91 = .ok (.aload_n 0, 1) := by decide +kernel
theorem dX11_measure_92 : decode cX11_measure 92 = .ok (.getfield 99, 3) := by decide +kernel
theorem dX11_measure_95 : decode cX11_measure 95 = .ok (.iload_n 3, 1) := by decide +kernel
theorem dX11_measure_96 : decode cX11_measure 96 = .ok (.iaload, 1) := by decide +kernel
theorem dX11_measure_97 : decode cX11_measure 97 = .ok (.iload_n 1, 1) := by decide +kernel
theorem dX11_measure_98 : decode cX11_measure 98 = .ok (.if_icmp .ne 21, 3) := by decide +kernel
theorem dX11_measure_101 : decode cX11_measure 101 = .ok (.aload_n 0, 1) := by decide +kernel
theorem dX11_measure_102 : decode cX11_measure 102 = .ok (.iload_n 3, 1) := by decide +kernel
theorem dX11_measure_103 : decode cX11_measure 103 = .ok (.invokevirtual 378, 3) := by decide +kernel
theorem dX11_measure_106 : decode cX11_measure 106 = .ok (.ifCond .ne 7, 3) := by decide +kernel
theorem dX11_measure_109 : decode cX11_measure 109 = .ok (.iload_n 2, 1) := by decide +kernel
theorem dX11_measure_110 : decode cX11_measure 110 = .ok (.ifCond .eq 7, 3) := by decide +kernel
theorem dX11_measure_113 : decode cX11_measure 113 = .ok (.iconst 1, 1) := by decide +kernel
theorem dX11_measure_114 : decode cX11_measure 114 = .ok (.goto 4, 3) := by decide +kernel
theorem dX11_measure_117 : decode cX11_measure 117 = .ok (.iconst 0, 1) := by decide +kernel
theorem dX11_measure_118 : decode cX11_measure 118 = .ok (.istore_n 2, 1) := by decide +kernel
theorem dX11_measure_119 : decode cX11_measure 119 = .ok (.iinc 3 1, 3) := by decide +kernel
theorem dX11_measure_122 : decode cX11_measure 122 = .ok (.goto (-39), 3) := by decide +kernel
theorem dX11_measure_125 : decode cX11_measure 125 = .ok (.goto (-50), 3) := by decide +kernel
theorem dX11_measure_128 : decode cX11_measure 128 = .ok (.return_, 1) := by decide +kernel
theorem dX11_nearer_0 : decode cX11_nearer 0 = .ok (.iconst 0, 1) := by decide +kernel
theorem dX11_nearer_1 : decode cX11_nearer 1 = .ok (.istore_n 2, 1) := by decide +kernel
theorem dX11_nearer_2 : decode cX11_nearer 2 = .ok (.iconst 0, 1) := by decide +kernel
theorem dX11_nearer_3 : decode cX11_nearer 3 = .ok (.istore_n 3, 1) := by decide +kernel
theorem dX11_nearer_4 : decode cX11_nearer 4 = .ok (.iload_n 3, 1) := by decide +kernel
theorem dX11_nearer_5 : decode cX11_nearer 5 = .ok (.bipush 61, 2) := by decide +kernel
theorem dX11_nearer_7 : decode cX11_nearer 7 = .ok (.aload_n 0, 1) := by decide +kernel
theorem dX11_nearer_8 : decode cX11_nearer 8 = .ok (.getfield 153, 3) := by decide +kernel
theorem dX11_nearer_11 : decode cX11_nearer 11 = .ok (.imul, 1) := by decide +kernel
theorem dX11_nearer_12 : decode cX11_nearer 12 = .ok (.if_icmp .ge 83, 3) := by decide +kernel
theorem dX11_nearer_15 : decode cX11_nearer 15 = .ok (.aload_n 0, 1) := by decide +kernel
theorem dX11_nearer_16 : decode cX11_nearer 16 = .ok (.getfield 114, 3) := by decide +kernel
theorem dX11_nearer_19 : decode cX11_nearer 19 = .ok (.iload_n 3, 1) := by decide +kernel
theorem dX11_nearer_20 : decode cX11_nearer 20 = .ok (.iaload, 1) := by decide +kernel
theorem dX11_nearer_21 : decode cX11_nearer 21 = .ok (.ldc_w 377, 3) := by decide +kernel
theorem dX11_nearer_24 : decode cX11_nearer 24 = .ok (.if_icmp .ge 65, 3) := by decide +kernel
theorem dX11_nearer_27 : decode cX11_nearer 27 = .ok (.aload_n 0, 1) := by decide +kernel
theorem dX11_nearer_28 : decode cX11_nearer 28 = .ok (.iload_n 3, 1) := by decide +kernel
theorem dX11_nearer_29 : decode cX11_nearer 29 = .ok (.iload_n 1, 1) := by decide +kernel
theorem dX11_nearer_30 : decode cX11_nearer 30 = .ok (.invokevirtual 381, 3) := by decide +kernel
theorem dX11_nearer_33 : decode cX11_nearer 33 = .ok (.ifCond .eq 56, 3) := by decide +kernel
theorem dX11_nearer_36 : decode cX11_nearer 36 = .ok (.aload_n 0, 1) := by decide +kernel
theorem dX11_nearer_37 : decode cX11_nearer 37 = .ok (.getfield 114, 3) := by decide +kernel
theorem dX11_nearer_40 : decode cX11_nearer 40 = .ok (.iload_n 3, 1) := by decide +kernel
theorem dX11_nearer_41 : decode cX11_nearer 41 = .ok (.iaload, 1) := by decide +kernel
theorem dX11_nearer_42 : decode cX11_nearer 42 = .ok (.aload_n 0, 1) := by decide +kernel
theorem dX11_nearer_43 : decode cX11_nearer 43 = .ok (.iload_n 3, 1) := by decide +kernel
theorem dX11_nearer_44 : decode cX11_nearer 44 = .ok (.iload_n 1, 1) := by decide +kernel
theorem dX11_nearer_45 : decode cX11_nearer 45 = .ok (.invokevirtual 385, 3) := by decide +kernel
theorem dX11_nearer_48 : decode cX11_nearer 48 = .ok (.iadd, 1) := by decide +kernel
theorem dX11_nearer_49 : decode cX11_nearer 49 = .ok (.aload_n 0, 1) := by decide +kernel
theorem dX11_nearer_50 : decode cX11_nearer 50 = .ok (.getfield 117, 3) := by decide +kernel
theorem dX11_nearer_53 : decode cX11_nearer 53 = .ok (.iload_n 1, 1) := by decide +kernel
theorem dX11_nearer_54 : decode cX11_nearer 54 = .ok (.iaload, 1) := by decide +kernel
theorem dX11_nearer_55 : decode cX11_nearer 55 = .ok (.if_icmp .lt 6, 3) := by decide +kernel
theorem dX11_nearer_58 : decode cX11_nearer 58 = .ok (.goto 31, 3) := by decide +kernel
theorem dX11_nearer_61 : decode cX11_nearer 61 = .ok (.aload_n 0, 1) := by decide +kernel
theorem dX11_nearer_62 : decode cX11_nearer 62 = .ok (.getfield 117, 3) := by decide +kernel
theorem dX11_nearer_65 : decode cX11_nearer 65 = .ok (.iload_n 1, 1) := by decide +kernel
theorem dX11_nearer_66 : decode cX11_nearer 66 = .ok (.aload_n 0, 1) := by decide +kernel
theorem dX11_nearer_67 : decode cX11_nearer 67 = .ok (.getfield 114, 3) := by decide +kernel
theorem dX11_nearer_70 : decode cX11_nearer 70 = .ok (.iload_n 3, 1) := by decide +kernel
theorem dX11_nearer_71 : decode cX11_nearer 71 = .ok (.iaload, 1) := by decide +kernel
theorem dX11_nearer_72 : decode cX11_nearer 72 = .ok (.aload_n 0, 1) := by decide +kernel
theorem dX11_nearer_73 : decode cX11_nearer 73 = .ok (.iload_n 3, 1) := by decide +kernel
theorem dX11_nearer_74 : decode cX11_nearer 74 = .ok (.iload_n 1, 1) := by decide +kernel
theorem dX11_nearer_75 : decode cX11_nearer 75 = .ok (.invokevirtual 385, 3) := by decide +kernel
theorem dX11_nearer_78 : decode cX11_nearer 78 = .ok (.iadd, 1) := by decide +kernel
theorem dX11_nearer_79 : decode cX11_nearer 79 = .ok (.iastore, 1) := by decide +kernel
theorem dX11_nearer_80 : decode cX11_nearer 80 = .ok (.aload_n 0, 1) := by decide +kernel
theorem dX11_nearer_81 : decode cX11_nearer 81 = .ok (.getfield 123, 3) := by decide +kernel
theorem dX11_nearer_84 : decode cX11_nearer 84 = .ok (.iload_n 1, 1) := by decide +kernel
theorem dX11_nearer_85 : decode cX11_nearer 85 = .ok (.iload_n 3, 1) := by decide +kernel
theorem dX11_nearer_86 : decode cX11_nearer 86 = .ok (.iastore, 1) := by decide +kernel
theorem dX11_nearer_87 : decode cX11_nearer 87 = .ok (.iconst 1, 1) := by decide +kernel
theorem dX11_nearer_88 : decode cX11_nearer 88 = .ok (.istore_n 2, 1) := by decide +kernel
theorem dX11_nearer_89 : decode cX11_nearer 89 = .ok (.iinc 3 1, 3) := by decide +kernel
theorem dX11_nearer_92 : decode cX11_nearer 92 = .ok (.goto (-88), 3) := by decide +kernel
theorem dX11_nearer_95 : decode cX11_nearer 95 = .ok (.iconst 0, 1) := by decide +kernel
theorem dX11_nearer_96 : decode cX11_nearer 96 = .ok (.istore_n 3, 1) := by decide +kernel
theorem dX11_nearer_97 : decode cX11_nearer 97 = .ok (.iload_n 3, 1) := by decide +kernel
theorem dX11_nearer_98 : decode cX11_nearer 98 = .ok (.bipush 61, 2) := by decide +kernel
theorem dX11_nearer_100 : decode cX11_nearer 100 = .ok (.aload_n 0, 1) := by decide +kernel
theorem dX11_nearer_101 : decode cX11_nearer 101 = .ok (.getfield 153, 3) := by decide +kernel
theorem dX11_nearer_104 : decode cX11_nearer 104 = .ok (.imul, 1) := by decide +kernel
theorem dX11_nearer_105 : decode cX11_nearer 105 = .ok (.if_icmp .ge 76, 3) := by decide +kernel
theorem dX11_nearer_108 : decode cX11_nearer 108 = .ok (.aload_n 0, 1) := by decide +kernel
theorem dX11_nearer_109 : decode cX11_nearer 109 = .ok (.getfield 108, 3) := by decide +kernel
theorem dX11_nearer_112 : decode cX11_nearer 112 = .ok (.bipush 10, 2) := by decide +kernel
theorem dX11_nearer_114 : decode cX11_nearer 114 = .ok (.iload_n 3, 1) := by decide +kernel
theorem dX11_nearer_115 : decode cX11_nearer 115 = .ok (.imul, 1) := by decide +kernel
theorem dX11_nearer_116 : decode cX11_nearer 116 = .ok (.iload_n 1, 1) := by decide +kernel
theorem dX11_nearer_117 : decode cX11_nearer 117 = .ok (.iadd, 1) := by decide +kernel
theorem dX11_nearer_118 : decode cX11_nearer 118 = .ok (.iaload, 1) := by decide +kernel
theorem dX11_nearer_119 : decode cX11_nearer 119 = .ok (.ifCond .eq 56, 3) := by decide +kernel
theorem dX11_nearer_122 : decode cX11_nearer 122 = .ok (.aload_n 0, 1) := by decide +kernel
theorem dX11_nearer_123 : decode cX11_nearer 123 = .ok (.getfield 117, 3) := by decide +kernel
theorem dX11_nearer_126 : decode cX11_nearer 126 = .ok (.iload_n 1, 1) := by decide +kernel
theorem dX11_nearer_127 : decode cX11_nearer 127 = .ok (.iaload, 1) := by decide +kernel
theorem dX11_nearer_128 : decode cX11_nearer 128 = .ok (.aload_n 0, 1) := by decide +kernel
theorem dX11_nearer_129 : decode cX11_nearer 129 = .ok (.iload_n 3, 1) := by decide +kernel
theorem dX11_nearer_130 : decode cX11_nearer 130 = .ok (.iload_n 1, 1) := by decide +kernel
theorem dX11_nearer_131 : decode cX11_nearer 131 = .ok (.invokevirtual 385, 3) := by decide +kernel
theorem dX11_nearer_134 : decode cX11_nearer 134 = .ok (.isub, 1) := by decide +kernel
theorem dX11_nearer_135 : decode cX11_nearer 135 = .ok (.aload_n 0, 1) := by decide +kernel
theorem dX11_nearer_136 : decode cX11_nearer 136 = .ok (.getfield 114, 3) := by decide +kernel
theorem dX11_nearer_139 : decode cX11_nearer 139 = .ok (.iload_n 3, 1) := by decide +kernel
theorem dX11_nearer_140 : decode cX11_nearer 140 = .ok (.iaload, 1) := by decide +kernel
theorem dX11_nearer_141 : decode cX11_nearer 141 = .ok (.if_icmp .lt 6, 3) := by decide +kernel
theorem dX11_nearer_144 : decode cX11_nearer 144 = .ok (.goto 31, 3) := by decide +kernel
theorem dX11_nearer_147 : decode cX11_nearer 147 = .ok (.aload_n 0, 1) := by decide +kernel
theorem dX11_nearer_148 : decode cX11_nearer 148 = .ok (.getfield 114, 3) := by decide +kernel
theorem dX11_nearer_151 : decode cX11_nearer 151 = .ok (.iload_n 3, 1) := by decide +kernel
theorem dX11_nearer_152 : decode cX11_nearer 152 = .ok (.aload_n 0, 1) := by decide +kernel
theorem dX11_nearer_153 : decode cX11_nearer 153 = .ok (.getfield 117, 3) := by decide +kernel
theorem dX11_nearer_156 : decode cX11_nearer 156 = .ok (.iload_n 1, 1) := by decide +kernel
theorem dX11_nearer_157 : decode cX11_nearer 157 = .ok (.iaload, 1) := by decide +kernel
theorem dX11_nearer_158 : decode cX11_nearer 158 = .ok (.aload_n 0, 1) := by decide +kernel
theorem dX11_nearer_159 : decode cX11_nearer 159 = .ok (.iload_n 3, 1) := by decide +kernel
theorem dX11_nearer_160 : decode cX11_nearer 160 = .ok (.iload_n 1, 1) := by decide +kernel
theorem dX11_nearer_161 : decode cX11_nearer 161 = .ok (.invokevirtual 385, 3) := by decide +kernel
theorem dX11_nearer_164 : decode cX11_nearer 164 = .ok (.isub, 1) := by decide +kernel
theorem dX11_nearer_165 : decode cX11_nearer 165 = .ok (.iastore, 1) := by decide +kernel
theorem dX11_nearer_166 : decode cX11_nearer 166 = .ok (.aload_n 0, 1) := by decide +kernel
theorem dX11_nearer_167 : decode cX11_nearer 167 = .ok (.getfield 120, 3) := by decide +kernel
theorem dX11_nearer_170 : decode cX11_nearer 170 = .ok (.iload_n 3, 1) := by decide +kernel
theorem dX11_nearer_171 : decode cX11_nearer 171 = .ok (.iload_n 1, 1) := by decide +kernel
theorem dX11_nearer_172 : decode cX11_nearer 172 = .ok (.iastore, 1) := by decide +kernel
theorem dX11_nearer_173 : decode cX11_nearer 173 = .ok (.iconst 1, 1) := by decide +kernel
theorem dX11_nearer_174 : decode cX11_nearer 174 = .ok (.istore_n 2, 1) := by decide +kernel
theorem dX11_nearer_175 : decode cX11_nearer 175 = .ok (.iinc 3 1, 3) := by decide +kernel
theorem dX11_nearer_178 : decode cX11_nearer 178 = .ok (.goto (-81), 3) := by decide +kernel
theorem dX11_nearer_181 : decode cX11_nearer 181 = .ok (.iload_n 2, 1) := by decide +kernel
theorem dX11_nearer_182 : decode cX11_nearer 182 = .ok (.ireturn, 1) := by decide +kernel
theorem dX11_giveMore_0 : decode cX11_giveMore 0 = .ok (.aload_n 0, 1) := by decide +kernel
theorem dX11_giveMore_1 : decode cX11_giveMore 1 = .ok (.iload_n 1, 1) := by decide +kernel
theorem dX11_giveMore_2 : decode cX11_giveMore 2 = .ok (.invokevirtual 388, 3) := by decide +kernel
theorem dX11_giveMore_5 : decode cX11_giveMore 5 = .ok (.iconst (-1), 1) := by decide +kernel
theorem dX11_giveMore_6 : decode cX11_giveMore 6 = .ok (.istore_n 2, 1) := by decide +kernel
theorem dX11_giveMore_7 : decode cX11_giveMore 7 = .ok (.iconst 0, 1) := by decide +kernel
theorem dX11_giveMore_8 : decode cX11_giveMore 8 = .ok (.istore_n 3, 1) := by decide +kernel
theorem dX11_giveMore_9 : decode cX11_giveMore 9 = .ok (.iload_n 3, 1) := by decide +kernel
theorem dX11_giveMore_10 : decode cX11_giveMore 10 = .ok (.aload_n 0, 1) := by decide +kernel
theorem dX11_giveMore_11 : decode cX11_giveMore 11 = .ok (.getfield 365, 3) := by decide +kernel
theorem dX11_giveMore_14 : decode cX11_giveMore 14 = .ok (.if_icmp .ge 61, 3) := by decide +kernel
theorem dX11_giveMore_17 : decode cX11_giveMore 17 = .ok (.aload_n 0, 1) := by decide +kernel
theorem dX11_giveMore_18 : decode cX11_giveMore 18 = .ok (.getfield 99, 3) := by decide +kernel
theorem dX11_giveMore_21 : decode cX11_giveMore 21 = .ok (.iload_n 3, 1) := by decide +kernel
theorem dX11_giveMore_22 : decode cX11_giveMore 22 = .ok (.iaload, 1) := by decide +kernel
theorem dX11_giveMore_23 : decode cX11_giveMore 23 = .ok (.iload_n 1, 1) := by decide +kernel
theorem dX11_giveMore_24 : decode cX11_giveMore 24 = .ok (.if_icmp .ne 45, 3) := by decide +kernel
theorem dX11_giveMore_27 : decode cX11_giveMore 27 = .ok (.aload_n 0, 1) := by decide +kernel
theorem dX11_giveMore_28 : decode cX11_giveMore 28 = .ok (.getfield 111, 3) := by decide +kernel
theorem dX11_giveMore_31 : decode cX11_giveMore 31 = .ok (.iload_n 3, 1) := by decide +kernel
theorem dX11_giveMore_32 : decode cX11_giveMore 32 = .ok (.iaload, 1) := by decide +kernel
theorem dX11_giveMore_33 : decode cX11_giveMore 33 = .ok (.ifCond .le 36, 3) := by decide +kernel
theorem dX11_giveMore_36 : decode cX11_giveMore 36 = .ok (.aload_n 0, 1) := by decide +kernel
theorem dX11_giveMore_37 : decode cX11_giveMore 37 = .ok (.getfield 117, 3) := by decide +kernel
theorem dX11_giveMore_40 : decode cX11_giveMore 40 = .ok (.iload_n 3, 1) := by decide +kernel
theorem dX11_giveMore_41 : decode cX11_giveMore 41 = .ok (.iaload, 1) := by decide +kernel
theorem dX11_giveMore_42 : decode cX11_giveMore 42 = .ok (.ldc_w 377, 3) := by decide +kernel
theorem dX11_giveMore_45 : decode cX11_giveMore 45 = .ok (.if_icmp .ge 24, 3) := by decide +kernel
theorem dX11_giveMore_48 : decode cX11_giveMore 48 = .ok (.iload_n 2, 1) := by decide +kernel
theorem dX11_giveMore_49 : decode cX11_giveMore 49 = .ok (.ifCond .lt 18, 3) := by decide +kernel
theorem dX11_giveMore_52 : decode cX11_giveMore 52 = .ok (.aload_n 0, 1) := by decide +kernel
theorem dX11_giveMore_53 : decode cX11_giveMore 53 = .ok (.getfield 117, 3) := by decide +kernel
theorem dX11_giveMore_56 : decode cX11_giveMore 56 = .ok (.iload_n 3, 1) := by decide +kernel
theorem dX11_giveMore_57 : decode cX11_giveMore 57 = .ok (.iaload, 1) := by decide +kernel
theorem dX11_giveMore_58 : decode cX11_giveMore 58 = .ok (.aload_n 0, 1) := by decide +kernel
theorem dX11_giveMore_59 : decode cX11_giveMore 59 = .ok (.getfield 117, 3) := by decide +kernel
theorem dX11_giveMore_62 : decode cX11_giveMore 62 = .ok (.iload_n 2, 1) := by decide +kernel
theorem dX11_giveMore_63 : decode cX11_giveMore 63 = .ok (.iaload, 1) := by decide +kernel
theorem dX11_giveMore_64 : decode cX11_giveMore 64 = .ok (.if_icmp .ge 5, 3) := by decide +kernel
theorem dX11_giveMore_67 : decode cX11_giveMore 67 = .ok (.iload_n 3, 1) := by decide +kernel
theorem dX11_giveMore_68 : decode cX11_giveMore 68 = .ok (.istore_n 2, 1) := by decide +kernel
theorem dX11_giveMore_69 : decode cX11_giveMore 69 = .ok (.iinc 3 1, 3) := by decide +kernel
theorem dX11_giveMore_72 : decode cX11_giveMore 72 = .ok (.goto (-63), 3) := by decide +kernel
theorem dX11_giveMore_75 : decode cX11_giveMore 75 = .ok (.iload_n 2, 1) := by decide +kernel
theorem dX11_giveMore_76 : decode cX11_giveMore 76 = .ok (.ifCond .ge 5, 3) := by decide +kernel
theorem dX11_giveMore_79 : decode cX11_giveMore 79 = .ok (.iconst 0, 1) := by decide +kernel
theorem dX11_giveMore_80 : decode cX11_giveMore 80 = .ok (.ireturn, 1) := by decide +kernel
theorem dX11_giveMore_81 : decode cX11_giveMore 81 = .ok (.aload_n 0, 1) := by decide +kernel
theorem dX11_giveMore_82 : decode cX11_giveMore 82 = .ok (.getfield 111, 3) := by decide +kernel
theorem dX11_giveMore_85 : decode cX11_giveMore 85 = .ok (.iload_n 2, 1) := by decide +kernel
theorem dX11_giveMore_86 : decode cX11_giveMore 86 = .ok (.iaload, 1) := by decide +kernel
theorem dX11_giveMore_87 : decode cX11_giveMore 87 = .ok (.istore_n 3, 1) := by decide +kernel
theorem dX11_giveMore_88 : decode cX11_giveMore 88 = .ok (.iload_n 2, 1) := by decide +kernel
theorem dX11_giveMore_89 : decode cX11_giveMore 89 = .ok (.istore 4, 2) := by decide +kernel
theorem dX11_giveMore_91 : decode cX11_giveMore 91 = .ok (.aload_n 0, 1) := by decide +kernel
theorem dX11_giveMore_92 : decode cX11_giveMore 92 = .ok (.getfield 123, 3) := by decide +kernel
theorem dX11_giveMore_95 : decode cX11_giveMore 95 = .ok (.iload 4, 2) := by decide +kernel
theorem dX11_giveMore_97 : decode cX11_giveMore 97 = .ok (.iaload, 1) := by decide +kernel
theorem dX11_giveMore_98 : decode cX11_giveMore 98 = .ok (.istore 5, 2) := by decide +kernel
theorem dX11_giveMore_100 : decode cX11_giveMore 100 = .ok (.aload_n 0, 1) := by decide +kernel
theorem dX11_giveMore_101 : decode cX11_giveMore 101 = .ok (.getfield 120, 3) := by decide +kernel
theorem dX11_giveMore_104 : decode cX11_giveMore 104 = .ok (.iload 5, 2) := by decide +kernel
theorem dX11_giveMore_106 : decode cX11_giveMore 106 = .ok (.iaload, 1) := by decide +kernel
theorem dX11_giveMore_107 : decode cX11_giveMore 107 = .ok (.ifCond .lt 59, 3) := by decide +kernel
theorem dX11_giveMore_110 : decode cX11_giveMore 110 = .ok (.aload_n 0, 1) := by decide +kernel
theorem dX11_giveMore_111 : decode cX11_giveMore 111 = .ok (.getfield 120, 3) := by decide +kernel
theorem dX11_giveMore_114 : decode cX11_giveMore 114 = .ok (.iload 5, 2) := by decide +kernel
theorem dX11_giveMore_116 : decode cX11_giveMore 116 = .ok (.iaload, 1) := by decide +kernel
theorem dX11_giveMore_117 : decode cX11_giveMore 117 = .ok (.istore 4, 2) := by decide +kernel
theorem dX11_giveMore_119 : decode cX11_giveMore 119 = .ok (.aload_n 0, 1) := by decide +kernel
theorem dX11_giveMore_120 : decode cX11_giveMore 120 = .ok (.getfield 108, 3) := by decide +kernel
theorem dX11_giveMore_123 : decode cX11_giveMore 123 = .ok (.bipush 10, 2) := by decide +kernel
theorem dX11_giveMore_125 : decode cX11_giveMore 125 = .ok (.iload 5, 2) := by decide +kernel
theorem dX11_giveMore_127 : decode cX11_giveMore 127 = .ok (.imul, 1) := by decide +kernel
theorem dX11_giveMore_128 : decode cX11_giveMore 128 = .ok (.iload 4, 2) := by decide +kernel
theorem dX11_giveMore_130 : decode cX11_giveMore 130 = .ok (.iadd, 1) := by decide +kernel
theorem dX11_giveMore_131 : decode cX11_giveMore 131 = .ok (.iaload, 1) := by decide +kernel
theorem dX11_giveMore_132 : decode cX11_giveMore 132 = .ok (.iload_n 3, 1) := by decide +kernel
theorem dX11_giveMore_133 : decode cX11_giveMore 133 = .ok (.if_icmp .ge 19, 3) := by decide +kernel
theorem dX11_giveMore_136 : decode cX11_giveMore 136 = .ok (.aload_n 0, 1) := by decide +kernel
theorem dX11_giveMore_137 : decode cX11_giveMore 137 = .ok (.getfield 108, 3) := by decide +kernel
theorem dX11_giveMore_140 : decode cX11_giveMore 140 = .ok (.bipush 10, 2) := by decide +kernel
theorem dX11_giveMore_142 : decode cX11_giveMore 142 = .ok (.iload 5, 2) := by decide +kernel
theorem dX11_giveMore_144 : decode cX11_giveMore 144 = .ok (.imul, 1) := by decide +kernel
theorem dX11_giveMore_145 : decode cX11_giveMore 145 = .ok (.iload 4, 2) := by decide +kernel
theorem dX11_giveMore_147 : decode cX11_giveMore 147 = .ok (.iadd, 1) := by decide +kernel
theorem dX11_giveMore_148 : decode cX11_giveMore 148 = .ok (.iaload, 1) := by decide +kernel
theorem dX11_giveMore_149 : decode cX11_giveMore 149 = .ok (.goto 4, 3) := by decide +kernel
theorem dX11_giveMore_152 : decode cX11_giveMore 152 = .ok (.iload_n 3, 1) := by decide +kernel
theorem dX11_giveMore_153 : decode cX11_giveMore 153 = .ok (.istore_n 3, 1) := by decide +kernel
theorem dX11_giveMore_154 : decode cX11_giveMore 154 = .ok (.aload_n 0, 1) := by decide +kernel
theorem dX11_giveMore_155 : decode cX11_giveMore 155 = .ok (.getfield 123, 3) := by decide +kernel
theorem dX11_giveMore_158 : decode cX11_giveMore 158 = .ok (.iload 4, 2) := by decide +kernel
theorem dX11_giveMore_160 : decode cX11_giveMore 160 = .ok (.iaload, 1) := by decide +kernel
theorem dX11_giveMore_161 : decode cX11_giveMore 161 = .ok (.istore 5, 2) := by decide +kernel
theorem dX11_giveMore_163 : decode cX11_giveMore 163 = .ok (.goto (-63), 3) := by decide +kernel
theorem dX11_giveMore_166 : decode cX11_giveMore 166 = .ok (.aload_n 0, 1) := by decide +kernel
theorem dX11_giveMore_167 : decode cX11_giveMore 167 = .ok (.getfield 105, 3) := by decide +kernel
theorem dX11_giveMore_170 : decode cX11_giveMore 170 = .ok (.iload 5, 2) := by decide +kernel
theorem dX11_giveMore_172 : decode cX11_giveMore 172 = .ok (.iaload, 1) := by decide +kernel
theorem dX11_giveMore_173 : decode cX11_giveMore 173 = .ok (.iload_n 3, 1) := by decide +kernel
theorem dX11_giveMore_174 : decode cX11_giveMore 174 = .ok (.if_icmp .ge 13, 3) := by decide +kernel
theorem dX11_giveMore_177 : decode cX11_giveMore 177 = .ok (.aload_n 0, 1) := by decide +kernel
theorem dX11_giveMore_178 : decode cX11_giveMore 178 = .ok (.getfield 105, 3) := by decide +kernel
theorem dX11_giveMore_181 : decode cX11_giveMore 181 = .ok (.iload 5, 2) := by decide +kernel
theorem dX11_giveMore_183 : decode cX11_giveMore 183 = .ok (.iaload, 1) := by decide +kernel
theorem dX11_giveMore_184 : decode cX11_giveMore 184 = .ok (.goto 4, 3) := by decide +kernel
theorem dX11_giveMore_187 : decode cX11_giveMore 187 = .ok (.iload_n 3, 1) := by decide +kernel
theorem dX11_giveMore_188 : decode cX11_giveMore 188 = .ok (.istore_n 3, 1) := by decide +kernel
theorem dX11_giveMore_189 : decode cX11_giveMore 189 = .ok (.aload_n 0, 1) := by decide +kernel
theorem dX11_giveMore_190 : decode cX11_giveMore 190 = .ok (.getfield 111, 3) := by decide +kernel
theorem dX11_giveMore_193 : decode cX11_giveMore 193 = .ok (.iload_n 2, 1) := by decide +kernel
theorem dX11_giveMore_194 : decode cX11_giveMore 194 = .ok (.dup2, 1) := by decide +kernel
theorem dX11_giveMore_195 : decode cX11_giveMore 195 = .ok (.iaload, 1) := by decide +kernel
theorem dX11_giveMore_196 : decode cX11_giveMore 196 = .ok (.iload_n 3, 1) := by decide +kernel
theorem dX11_giveMore_197 : decode cX11_giveMore 197 = .ok (.isub, 1) := by decide +kernel
theorem dX11_giveMore_198 : decode cX11_giveMore 198 = .ok (.iastore, 1) := by decide +kernel
theorem dX11_giveMore_199 : decode cX11_giveMore 199 = .ok (.aload_n 0, 1) := by decide +kernel
theorem dX11_giveMore_200 : decode cX11_giveMore 200 = .ok (.dup, 1) := by decide +kernel
theorem dX11_giveMore_201 : decode cX11_giveMore 201 = .ok (.getfield 368, 3) := by decide +kernel
theorem dX11_giveMore_204 : decode cX11_giveMore 204 = .ok (.iload_n 3, 1) := by decide +kernel
theorem dX11_giveMore_205 : decode cX11_giveMore 205 = .ok (.iadd, 1) := by decide +kernel
theorem dX11_giveMore_206 : decode cX11_giveMore 206 = .ok (.putfield 368, 3) := by decide +kernel
theorem dX11_giveMore_209 : decode cX11_giveMore 209 = .ok (.aload_n 0, 1) := by decide +kernel
theorem dX11_giveMore_210 : decode cX11_giveMore 210 = .ok (.dup, 1) := by decide +kernel
theorem dX11_giveMore_211 : decode cX11_giveMore 211 = .ok (.getfield 371, 3) := by decide +kernel
theorem dX11_giveMore_214 : decode cX11_giveMore 214 = .ok (.iload_n 3, 1) := by decide +kernel
theorem dX11_giveMore_215 : decode cX11_giveMore 215 = .ok (.aload_n 0, 1) := by decide +kernel
theorem dX11_giveMore_216 : decode cX11_giveMore 216 = .ok (.getfield 117, 3) := by decide +kernel
theorem dX11_giveMore_219 : decode cX11_giveMore 219 = .ok (.iload_n 2, 1) := by decide +kernel
theorem dX11_giveMore_220 : decode cX11_giveMore 220 = .ok (.iaload, 1) := by decide +kernel
theorem dX11_giveMore_221 : decode cX11_giveMore 221 = .ok (.imul, 1) := by decide +kernel
theorem dX11_giveMore_222 : decode cX11_giveMore 222 = .ok (.iadd, 1) := by decide +kernel
theorem dX11_giveMore_223 : decode cX11_giveMore 223 = .ok (.putfield 371, 3) := by decide +kernel
theorem dX11_giveMore_226 : decode cX11_giveMore 226 = .ok (.iload_n 2, 1) := by decide +kernel
theorem dX11_giveMore_227 : decode cX11_giveMore 227 = .ok (.istore 4, 2) := by decide +kernel
theorem dX11_giveMore_229 : decode cX11_giveMore 229 = .ok (.aload_n 0, 1) := by decide +kernel
theorem dX11_giveMore_230 : decode cX11_giveMore 230 = .ok (.getfield 123, 3) := by decide +kernel
theorem dX11_giveMore_233 : decode cX11_giveMore 233 = .ok (.iload 4, 2) := by decide +kernel
theorem dX11_giveMore_235 : decode cX11_giveMore 235 = .ok (.iaload, 1) := by decide +kernel
theorem dX11_giveMore_236 : decode cX11_giveMore 236 = .ok (.istore 5, 2) := by decide +kernel
theorem dX11_giveMore_238 : decode cX11_giveMore 238 = .ok (.aload_n 0, 1) := by decide +kernel
theorem dX11_giveMore_239 : decode cX11_giveMore 239 = .ok (.getfield 108, 3) := by decide +kernel
theorem dX11_giveMore_242 : decode cX11_giveMore 242 = .ok (.bipush 10, 2) := by decide +kernel
theorem dX11_giveMore_244 : decode cX11_giveMore 244 = .ok (.iload 5, 2) := by decide +kernel
theorem dX11_giveMore_246 : decode cX11_giveMore 246 = .ok (.imul, 1) := by decide +kernel
theorem dX11_giveMore_247 : decode cX11_giveMore 247 = .ok (.iload 4, 2) := by decide +kernel
theorem dX11_giveMore_249 : decode cX11_giveMore 249 = .ok (.iadd, 1) := by decide +kernel
theorem dX11_giveMore_250 : decode cX11_giveMore 250 = .ok (.dup2, 1) := by decide +kernel
theorem dX11_giveMore_251 : decode cX11_giveMore 251 = .ok (.iaload, 1) := by decide +kernel
theorem dX11_giveMore_252 : decode cX11_giveMore 252 = .ok (.iload_n 3, 1) := by decide +kernel
theorem dX11_giveMore_253 : decode cX11_giveMore 253 = .ok (.iadd, 1) := by decide +kernel
theorem dX11_giveMore_254 : decode cX11_giveMore 254 = .ok (.iastore, 1) := by decide +kernel
theorem dX11_giveMore_255 : decode cX11_giveMore 255 = .ok (.aload_n 0, 1) := by decide +kernel
theorem dX11_giveMore_256 : decode cX11_giveMore 256 = .ok (.getfield 120, 3) := by decide +kernel
theorem dX11_giveMore_259 : decode cX11_giveMore 259 = .ok (.iload 5, 2) := by decide +kernel
theorem dX11_giveMore_261 : decode cX11_giveMore 261 = .ok (.iaload, 1) := by decide +kernel
theorem dX11_giveMore_262 : decode cX11_giveMore 262 = .ok (.ifCond .lt 58, 3) := by decide +kernel
theorem dX11_giveMore_265 : decode cX11_giveMore 265 = .ok (.aload_n 0, 1) := by decide +kernel
theorem dX11_giveMore_266 : decode cX11_giveMore 266 = .ok (.getfield 120, 3) := by decide +kernel
theorem dX11_giveMore_269 : decode cX11_giveMore 269 = .ok (.iload 5, 2) := by decide +kernel
theorem dX11_giveMore_271 : decode cX11_giveMore 271 = .ok (.iaload, 1) := by decide +kernel
theorem dX11_giveMore_272 : decode cX11_giveMore 272 = .ok (.istore 4, 2) := by decide +kernel
theorem dX11_giveMore_274 : decode cX11_giveMore 274 = .ok (.aload_n 0, 1) := by decide +kernel
theorem dX11_giveMore_275 : decode cX11_giveMore 275 = .ok (.getfield 108, 3) := by decide +kernel
theorem dX11_giveMore_278 : decode cX11_giveMore 278 = .ok (.bipush 10, 2) := by decide +kernel
theorem dX11_giveMore_280 : decode cX11_giveMore 280 = .ok (.iload 5, 2) := by decide +kernel
theorem dX11_giveMore_282 : decode cX11_giveMore 282 = .ok (.imul, 1) := by decide +kernel
theorem dX11_giveMore_283 : decode cX11_giveMore 283 = .ok (.iload 4, 2) := by decide +kernel
theorem dX11_giveMore_285 : decode cX11_giveMore 285 = .ok (.iadd, 1) := by decide +kernel
theorem dX11_giveMore_286 : decode cX11_giveMore 286 = .ok (.dup2, 1) := by decide +kernel
theorem dX11_giveMore_287 : decode cX11_giveMore 287 = .ok (.iaload, 1) := by decide +kernel
theorem dX11_giveMore_288 : decode cX11_giveMore 288 = .ok (.iload_n 3, 1) := by decide +kernel
theorem dX11_giveMore_289 : decode cX11_giveMore 289 = .ok (.isub, 1) := by decide +kernel
theorem dX11_giveMore_290 : decode cX11_giveMore 290 = .ok (.iastore, 1) := by decide +kernel
theorem dX11_giveMore_291 : decode cX11_giveMore 291 = .ok (.aload_n 0, 1) := by decide +kernel
theorem dX11_giveMore_292 : decode cX11_giveMore 292 = .ok (.getfield 123, 3) := by decide +kernel
theorem dX11_giveMore_295 : decode cX11_giveMore 295 = .ok (.iload 4, 2) := by decide +kernel
theorem dX11_giveMore_297 : decode cX11_giveMore 297 = .ok (.iaload, 1) := by decide +kernel
theorem dX11_giveMore_298 : decode cX11_giveMore 298 = .ok (.istore 5, 2) := by decide +kernel
theorem dX11_giveMore_300 : decode cX11_giveMore 300 = .ok (.aload_n 0, 1) := by decide +kernel
theorem dX11_giveMore_301 : decode cX11_giveMore 301 = .ok (.getfield 108, 3) := by decide +kernel
theorem dX11_giveMore_304 : decode cX11_giveMore 304 = .ok (.bipush 10, 2) := by decide +kernel
theorem dX11_giveMore_306 : decode cX11_giveMore 306 = .ok (.iload 5, 2) := by decide +kernel
theorem dX11_giveMore_308 : decode cX11_giveMore 308 = .ok (.imul, 1) := by decide +kernel
theorem dX11_giveMore_309 : decode cX11_giveMore 309 = .ok (.iload 4, 2) := by decide +kernel
theorem dX11_giveMore_311 : decode cX11_giveMore 311 = .ok (.iadd, 1) := by decide +kernel
theorem dX11_giveMore_312 : decode cX11_giveMore 312 = .ok (.dup2, 1) := by decide +kernel
theorem dX11_giveMore_313 : decode cX11_giveMore 313 = .ok (.iaload, 1) := by decide +kernel
theorem dX11_giveMore_314 : decode cX11_giveMore 314 = .ok (.iload_n 3, 1) := by decide +kernel
theorem dX11_giveMore_315 : decode cX11_giveMore 315 = .ok (.iadd, 1) := by decide +kernel
theorem dX11_giveMore_316 : decode cX11_giveMore 316 = .ok (.iastore, 1) := by decide +kernel
theorem dX11_giveMore_317 : decode cX11_giveMore 317 = .ok (.goto (-62), 3) := by decide +kernel
theorem dX11_giveMore_320 : decode cX11_giveMore 320 = .ok (.aload_n 0, 1) := by decide +kernel
theorem dX11_giveMore_321 : decode cX11_giveMore 321 = .ok (.getfield 105, 3) := by decide +kernel
theorem dX11_giveMore_324 : decode cX11_giveMore 324 = .ok (.iload 5, 2) := by decide +kernel
theorem dX11_giveMore_326 : decode cX11_giveMore 326 = .ok (.dup2, 1) := by decide +kernel
theorem dX11_giveMore_327 : decode cX11_giveMore 327 = .ok (.iaload, 1) := by decide +kernel
theorem dX11_giveMore_328 : decode cX11_giveMore 328 = .ok (.iload_n 3, 1) := by decide +kernel
theorem dX11_giveMore_329 : decode cX11_giveMore 329 = .ok (.isub, 1) := by decide +kernel
theorem dX11_giveMore_330 : decode cX11_giveMore 330 = .ok (.iastore, 1) := by decide +kernel
theorem dX11_giveMore_331 : decode cX11_giveMore 331 = .ok (.iconst 1, 1) := by decide +kernel
theorem dX11_giveMore_332 : decode cX11_giveMore 332 = .ok (.ireturn, 1) := by decide +kernel
theorem dX11_fed_0 : decode cX11_fed 0 = .ok (.aload_n 0, 1) := by decide +kernel
theorem dX11_fed_1 : decode cX11_fed 1 = .ok (.invokevirtual 391, 3) := by decide +kernel
theorem dX11_fed_4 : decode cX11_fed 4 = .ok (.aload_n 0, 1) := by decide +kernel
theorem dX11_fed_5 : decode cX11_fed 5 = .ok (.getfield 368, 3) := by decide +kernel
theorem dX11_fed_8 : decode cX11_fed 8 = .ok (.ireturn, 1) := by decide +kernel
theorem dX11_carried_0 : decode cX11_carried 0 = .ok (.aload_n 0, 1) := by decide +kernel
theorem dX11_carried_1 : decode cX11_carried 1 = .ok (.invokevirtual 391, 3) := by decide +kernel
theorem dX11_carried_4 : decode cX11_carried 4 = .ok (.aload_n 0, 1) := by decide +kernel
theorem dX11_carried_5 : decode cX11_carried 5 = .ok (.getfield 371, 3) := by decide +kernel
theorem dX11_carried_8 : decode cX11_carried 8 = .ok (.ireturn, 1) := by decide +kernel
theorem dX11_call_0 : decode cX11_call 0 = .ok (.iconst 0, 1) := by decide +kernel
theorem dX11_call_1 : decode cX11_call 1 = .ok (.istore_n 2, 1) := by decide +kernel
theorem dX11_call_2 : decode cX11_call 2 = .ok (.iconst 0, 1) := by decide +kernel
theorem dX11_call_3 : decode cX11_call 3 = .ok (.istore_n 3, 1) := by decide +kernel
theorem dX11_call_4 : decode cX11_call 4 = .ok (.iload_n 3, 1) := by decide +kernel
theorem dX11_call_5 : decode cX11_call 5 = .ok (.aload_n 0, 1) := by decide +kernel
theorem dX11_call_6 : decode cX11_call 6 = .ok (.getfield 153, 3) := by decide +kernel
theorem dX11_call_9 : decode cX11_call 9 = .ok (.if_icmp .ge 18, 3) := by decide +kernel
theorem dX11_call_12 : decode cX11_call 12 = .ok (.iload_n 2, 1) := by decide +kernel
theorem dX11_call_13 : decode cX11_call 13 = .ok (.aload_n 0, 1) := by decide +kernel

theorem dX0_init_0 : decode cX0_init 0 = .ok (.aload_n 0, 1) := by decide +kernel
theorem dX0_init_1 : decode cX0_init 1 = .ok (.invokespecial 3, 3) := by decide +kernel
theorem dX0_init_4 : decode cX0_init 4 = .ok (.aload_n 0, 1) := by decide +kernel
theorem dX0_init_5 : decode cX0_init 5 = .ok (.bipush 60, 2) := by decide +kernel
theorem dX0_init_7 : decode cX0_init 7 = .ok (.newarray .int, 2) := by decide +kernel
theorem dX0_init_9 : decode cX0_init 9 = .ok (.putfield 9, 3) := by decide +kernel
theorem dX0_init_12 : decode cX0_init 12 = .ok (.aload_n 0, 1) := by decide +kernel
theorem dX0_init_13 : decode cX0_init 13 = .ok (.bipush 60, 2) := by decide +kernel
theorem dX0_init_15 : decode cX0_init 15 = .ok (.newarray .int, 2) := by decide +kernel
theorem dX0_init_17 : decode cX0_init 17 = .ok (.putfield 15, 3) := by decide +kernel
theorem dX0_init_20 : decode cX0_init 20 = .ok (.aload_n 0, 1) := by decide +kernel
theorem dX0_init_21 : decode cX0_init 21 = .ok (.bipush 60, 2) := by decide +kernel
theorem dX0_init_23 : decode cX0_init 23 = .ok (.newarray .int, 2) := by decide +kernel
theorem dX0_init_25 : decode cX0_init 25 = .ok (.putfield 18, 3) := by decide +kernel
theorem dX0_init_28 : decode cX0_init 28 = .ok (.aload_n 0, 1) := by decide +kernel
theorem dX0_init_29 : decode cX0_init 29 = .ok (.bipush 60, 2) := by decide +kernel
theorem dX0_init_31 : decode cX0_init 31 = .ok (.newarray .int, 2) := by decide +kernel
theorem dX0_init_33 : decode cX0_init 33 = .ok (.putfield 21, 3) := by decide +kernel
theorem dX0_init_36 : decode cX0_init 36 = .ok (.aload_n 0, 1) := by decide +kernel
theorem dX0_init_37 : decode cX0_init 37 = .ok (.bipush 60, 2) := by decide +kernel
theorem dX0_init_39 : decode cX0_init 39 = .ok (.newarray .int, 2) := by decide +kernel
theorem dX0_init_41 : decode cX0_init 41 = .ok (.putfield 24, 3) := by decide +kernel
theorem dX0_init_44 : decode cX0_init 44 = .ok (.return_, 1) := by decide +kernel
theorem dX0_send_0 : decode cX0_send 0 = .ok (.aload_n 0, 1) := by decide +kernel
theorem dX0_send_1 : decode cX0_send 1 = .ok (.getfield 27, 3) := by decide +kernel
theorem dX0_send_4 : decode cX0_send 4 = .ok (.bipush 60, 2) := by decide +kernel
theorem dX0_send_6 : decode cX0_send 6 = .ok (.if_icmp .lt 4, 3) := by decide +kernel
theorem dX0_send_9 : decode cX0_send 9 = .ok (.return_, 1) := by decide +kernel
theorem dX0_send_10 : decode cX0_send 10 = .ok (.aload_n 0, 1) := by decide +kernel
theorem dX0_send_11 : decode cX0_send 11 = .ok (.getfield 9, 3) := by decide +kernel
theorem dX0_send_14 : decode cX0_send 14 = .ok (.aload_n 0, 1) := by decide +kernel
theorem dX0_send_15 : decode cX0_send 15 = .ok (.getfield 27, 3) := by decide +kernel
theorem dX0_send_18 : decode cX0_send 18 = .ok (.iload_n 1, 1) := by decide +kernel
theorem dX0_send_19 : decode cX0_send 19 = .ok (.iastore, 1) := by decide +kernel
theorem dX0_send_20 : decode cX0_send 20 = .ok (.aload_n 0, 1) := by decide +kernel
theorem dX0_send_21 : decode cX0_send 21 = .ok (.getfield 15, 3) := by decide +kernel
theorem dX0_send_24 : decode cX0_send 24 = .ok (.aload_n 0, 1) := by decide +kernel
theorem dX0_send_25 : decode cX0_send 25 = .ok (.getfield 27, 3) := by decide +kernel
theorem dX0_send_28 : decode cX0_send 28 = .ok (.iload_n 2, 1) := by decide +kernel
theorem dX0_send_29 : decode cX0_send 29 = .ok (.iastore, 1) := by decide +kernel
theorem dX0_send_30 : decode cX0_send 30 = .ok (.aload_n 0, 1) := by decide +kernel
theorem dX0_send_31 : decode cX0_send 31 = .ok (.getfield 18, 3) := by decide +kernel
theorem dX0_send_34 : decode cX0_send 34 = .ok (.aload_n 0, 1) := by decide +kernel
theorem dX0_send_35 : decode cX0_send 35 = .ok (.getfield 27, 3) := by decide +kernel
theorem dX0_send_38 : decode cX0_send 38 = .ok (.iload_n 3, 1) := by decide +kernel
theorem dX0_send_39 : decode cX0_send 39 = .ok (.iastore, 1) := by decide +kernel
theorem dX0_send_40 : decode cX0_send 40 = .ok (.aload_n 0, 1) := by decide +kernel
theorem dX0_send_41 : decode cX0_send 41 = .ok (.getfield 21, 3) := by decide +kernel
theorem dX0_send_44 : decode cX0_send 44 = .ok (.aload_n 0, 1) := by decide +kernel
theorem dX0_send_45 : decode cX0_send 45 = .ok (.getfield 27, 3) := by decide +kernel
theorem dX0_send_48 : decode cX0_send 48 = .ok (.iload 4, 2) := by decide +kernel
theorem dX0_send_50 : decode cX0_send 50 = .ok (.iastore, 1) := by decide +kernel
theorem dX0_send_51 : decode cX0_send 51 = .ok (.aload_n 0, 1) := by decide +kernel
theorem dX0_send_52 : decode cX0_send 52 = .ok (.getfield 24, 3) := by decide +kernel
theorem dX0_send_55 : decode cX0_send 55 = .ok (.aload_n 0, 1) := by decide +kernel
theorem dX0_send_56 : decode cX0_send 56 = .ok (.getfield 27, 3) := by decide +kernel
theorem dX0_send_59 : decode cX0_send 59 = .ok (.iload 5, 2) := by decide +kernel
theorem dX0_send_61 : decode cX0_send 61 = .ok (.iastore, 1) := by decide +kernel
theorem dX0_send_62 : decode cX0_send 62 = .ok (.aload_n 0, 1) := by decide +kernel
theorem dX0_send_63 : decode cX0_send 63 = .ok (.dup, 1) := by decide +kernel
theorem dX0_send_64 : decode cX0_send 64 = .ok (.getfield 27, 3) := by decide +kernel
theorem dX0_send_67 : decode cX0_send 67 = .ok (.iconst 1, 1) := by decide +kernel
theorem dX0_send_68 : decode cX0_send 68 = .ok (.iadd, 1) := by decide +kernel
theorem dX0_send_69 : decode cX0_send 69 = .ok (.putfield 27, 3) := by decide +kernel
theorem dX0_send_72 : decode cX0_send 72 = .ok (.return_, 1) := by decide +kernel
theorem dX0_allMeasures_0 : decode cX0_allMeasures 0 = .ok (.iconst 0, 1) := by decide +kernel
theorem dX0_allMeasures_1 : decode cX0_allMeasures 1 = .ok (.istore_n 1, 1) := by decide +kernel
theorem dX0_allMeasures_2 : decode cX0_allMeasures 2 = .ok (.iconst 0, 1) := by decide +kernel
theorem dX0_allMeasures_3 : decode cX0_allMeasures 3 = .ok (.istore_n 2, 1) := by decide +kernel
theorem dX0_allMeasures_4 : decode cX0_allMeasures 4 = .ok (.iload_n 2, 1) := by decide +kernel
theorem dX0_allMeasures_5 : decode cX0_allMeasures 5 = .ok (.aload_n 0, 1) := by decide +kernel
theorem dX0_allMeasures_6 : decode cX0_allMeasures 6 = .ok (.getfield 27, 3) := by decide +kernel
theorem dX0_allMeasures_9 : decode cX0_allMeasures 9 = .ok (.if_icmp .ge 18, 3) := by decide +kernel
theorem dX0_allMeasures_12 : decode cX0_allMeasures 12 = .ok (.iload_n 1, 1) := by decide +kernel
theorem dX0_allMeasures_13 : decode cX0_allMeasures 13 = .ok (.aload_n 0, 1) := by decide +kernel
theorem dX0_allMeasures_14 : decode cX0_allMeasures 14 = .ok (.getfield 21, 3) := by decide +kernel
theorem dX0_allMeasures_17 : decode cX0_allMeasures 17 = .ok (.iload_n 2, 1) := by decide +kernel
theorem dX0_allMeasures_18 : decode cX0_allMeasures 18 = .ok (.iaload, 1) := by decide +kernel
theorem dX0_allMeasures_19 : decode cX0_allMeasures 19 = .ok (.iadd, 1) := by decide +kernel
theorem dX0_allMeasures_20 : decode cX0_allMeasures 20 = .ok (.istore_n 1, 1) := by decide +kernel
theorem dX0_allMeasures_21 : decode cX0_allMeasures 21 = .ok (.iinc 2 1, 3) := by decide +kernel
theorem dX0_allMeasures_24 : decode cX0_allMeasures 24 = .ok (.goto (-20), 3) := by decide +kernel
theorem dX0_allMeasures_27 : decode cX0_allMeasures 27 = .ok (.iload_n 1, 1) := by decide +kernel
theorem dX0_allMeasures_28 : decode cX0_allMeasures 28 = .ok (.ireturn, 1) := by decide +kernel
theorem dX0_grow_0 : decode cX0_grow 0 = .ok (.iconst 0, 1) := by decide +kernel
theorem dX0_grow_1 : decode cX0_grow 1 = .ok (.istore_n 1, 1) := by decide +kernel
theorem dX0_grow_2 : decode cX0_grow 2 = .ok (.iload_n 1, 1) := by decide +kernel
theorem dX0_grow_3 : decode cX0_grow 3 = .ok (.aload_n 0, 1) := by decide +kernel
theorem dX0_grow_4 : decode cX0_grow 4 = .ok (.getfield 27, 3) := by decide +kernel
theorem dX0_grow_7 : decode cX0_grow 7 = .ok (.if_icmp .ge 19, 3) := by decide +kernel
theorem dX0_grow_10 : decode cX0_grow 10 = .ok (.aload_n 0, 1) := by decide +kernel
theorem dX0_grow_11 : decode cX0_grow 11 = .ok (.getfield 18, 3) := by decide +kernel
theorem dX0_grow_14 : decode cX0_grow 14 = .ok (.iload_n 1, 1) := by decide +kernel
theorem dX0_grow_15 : decode cX0_grow 15 = .ok (.dup2, 1) := by decide +kernel
theorem dX0_grow_16 : decode cX0_grow 16 = .ok (.iaload, 1) := by decide +kernel
theorem dX0_grow_17 : decode cX0_grow 17 = .ok (.iconst 1, 1) := by decide +kernel
theorem dX0_grow_18 : decode cX0_grow 18 = .ok (.iadd, 1) := by decide +kernel
theorem dX0_grow_19 : decode cX0_grow 19 = .ok (.iastore, 1) := by decide +kernel
theorem dX0_grow_20 : decode cX0_grow 20 = .ok (.iinc 1 1, 3) := by decide +kernel
theorem dX0_grow_23 : decode cX0_grow 23 = .ok (.goto (-21), 3) := by decide +kernel
theorem dX0_grow_26 : decode cX0_grow 26 = .ok (.return_, 1) := by decide +kernel
theorem dX0_arrive_0 : decode cX0_arrive 0 = .ok (.aload_n 0, 1) := by decide +kernel
theorem dX0_arrive_1 : decode cX0_arrive 1 = .ok (.getfield 27, 3) := by decide +kernel
theorem dX0_arrive_4 : decode cX0_arrive 4 = .ok (.istore_n 3, 1) := by decide +kernel
theorem dX0_arrive_5 : decode cX0_arrive 5 = .ok (.aload_n 0, 1) := by decide +kernel
theorem dX0_arrive_6 : decode cX0_arrive 6 = .ok (.iconst 0, 1) := by decide +kernel
theorem dX0_arrive_7 : decode cX0_arrive 7 = .ok (.putfield 27, 3) := by decide +kernel
theorem dX0_arrive_10 : decode cX0_arrive 10 = .ok (.iconst 0, 1) := by decide +kernel
theorem dX0_arrive_11 : decode cX0_arrive 11 = .ok (.istore 4, 2) := by decide +kernel
theorem dX0_arrive_13 : decode cX0_arrive 13 = .ok (.iload 4, 2) := by decide +kernel
theorem dX0_arrive_15 : decode cX0_arrive 15 = .ok (.iload_n 3, 1) := by decide +kernel
theorem dX0_arrive_16 : decode cX0_arrive 16 = .ok (.if_icmp .ge 73, 3) := by decide +kernel
theorem dX0_arrive_19 : decode cX0_arrive 19 = .ok (.aload_n 0, 1) := by decide +kernel
theorem dX0_arrive_20 : decode cX0_arrive 20 = .ok (.getfield 24, 3) := by decide +kernel
theorem dX0_arrive_23 : decode cX0_arrive 23 = .ok (.iload 4, 2) := by decide +kernel
theorem dX0_arrive_25 : decode cX0_arrive 25 = .ok (.iaload, 1) := by decide +kernel
theorem dX0_arrive_26 : decode cX0_arrive 26 = .ok (.aload_n 1, 1) := by decide +kernel
theorem dX0_arrive_27 : decode cX0_arrive 27 = .ok (.getfield 31, 3) := by decide +kernel
theorem dX0_arrive_30 : decode cX0_arrive 30 = .ok (.if_icmp .gt 14, 3) := by decide +kernel
theorem dX0_arrive_33 : decode cX0_arrive 33 = .ok (.aload_n 0, 1) := by decide +kernel
theorem dX0_arrive_34 : decode cX0_arrive 34 = .ok (.iload 4, 2) := by decide +kernel
theorem dX0_arrive_36 : decode cX0_arrive 36 = .ok (.aload_n 1, 1) := by decide +kernel
theorem dX0_arrive_37 : decode cX0_arrive 37 = .ok (.aload_n 2, 1) := by decide +kernel
theorem dX0_arrive_38 : decode cX0_arrive 38 = .ok (.invokevirtual 36, 3) := by decide +kernel
theorem dX0_arrive_41 : decode cX0_arrive 41 = .ok (.goto 42, 3) := by decide +kernel
theorem dX0_arrive_44 : decode cX0_arrive 44 = .ok (.aload_n 0, 1) := by decide +kernel
theorem dX0_arrive_45 : decode cX0_arrive 45 = .ok (.aload_n 0, 1) := by decide +kernel
theorem dX0_arrive_46 : decode cX0_arrive 46 = .ok (.getfield 9, 3) := by decide +kernel
theorem dX0_arrive_49 : decode cX0_arrive 49 = .ok (.iload 4, 2) := by decide +kernel
theorem dX0_arrive_51 : decode cX0_arrive 51 = .ok (.iaload, 1) := by decide +kernel
theorem dX0_arrive_52 : decode cX0_arrive 52 = .ok (.aload_n 0, 1) := by decide +kernel
theorem dX0_arrive_53 : decode cX0_arrive 53 = .ok (.getfield 15, 3) := by decide +kernel
theorem dX0_arrive_56 : decode cX0_arrive 56 = .ok (.iload 4, 2) := by decide +kernel
theorem dX0_arrive_58 : decode cX0_arrive 58 = .ok (.iaload, 1) := by decide +kernel
theorem dX0_arrive_59 : decode cX0_arrive 59 = .ok (.aload_n 0, 1) := by decide +kernel
theorem dX0_arrive_60 : decode cX0_arrive 60 = .ok (.getfield 18, 3) := by decide +kernel
theorem dX0_arrive_63 : decode cX0_arrive 63 = .ok (.iload 4, 2) := by decide +kernel
theorem dX0_arrive_65 : decode cX0_arrive 65 = .ok (.iaload, 1) := by decide +kernel
theorem dX0_arrive_66 : decode cX0_arrive 66 = .ok (.aload_n 0, 1) := by decide +kernel
theorem dX0_arrive_67 : decode cX0_arrive 67 = .ok (.getfield 21, 3) := by decide +kernel
theorem dX0_arrive_70 : decode cX0_arrive 70 = .ok (.iload 4, 2) := by decide +kernel
theorem dX0_arrive_72 : decode cX0_arrive 72 = .ok (.iaload, 1) := by decide +kernel
theorem dX0_arrive_73 : decode cX0_arrive 73 = .ok (.aload_n 0, 1) := by decide +kernel
theorem dX0_arrive_74 : decode cX0_arrive 74 = .ok (.getfield 24, 3) := by decide +kernel
theorem dX0_arrive_77 : decode cX0_arrive 77 = .ok (.iload 4, 2) := by decide +kernel
theorem dX0_arrive_79 : decode cX0_arrive 79 = .ok (.iaload, 1) := by decide +kernel
theorem dX0_arrive_80 : decode cX0_arrive 80 = .ok (.invokevirtual 40, 3) := by decide +kernel
theorem dX0_arrive_83 : decode cX0_arrive 83 = .ok (.iinc 4 1, 3) := by decide +kernel
theorem dX0_arrive_86 : decode cX0_arrive 86 = .ok (.goto (-73), 3) := by decide +kernel
theorem dX0_arrive_89 : decode cX0_arrive 89 = .ok (.return_, 1) := by decide +kernel
theorem dX0_unload_0 : decode cX0_unload 0 = .ok (.aload_n 0, 1) := by decide +kernel
theorem dX0_unload_1 : decode cX0_unload 1 = .ok (.getfield 21, 3) := by decide +kernel
theorem dX0_unload_4 : decode cX0_unload 4 = .ok (.iload_n 1, 1) := by decide +kernel
theorem dX0_unload_5 : decode cX0_unload 5 = .ok (.iaload, 1) := by decide +kernel
theorem dX0_unload_6 : decode cX0_unload 6 = .ok (.istore 4, 2) := by decide +kernel
theorem dX0_unload_8 : decode cX0_unload 8 = .ok (.aload_n 3, 1) := by decide +kernel
theorem dX0_unload_9 : decode cX0_unload 9 = .ok (.dup, 1) := by decide +kernel
theorem dX0_unload_10 : decode cX0_unload 10 = .ok (.getfield 44, 3) := by decide +kernel
theorem dX0_unload_13 : decode cX0_unload 13 = .ok (.iload 4, 2) := by decide +kernel
theorem dX0_unload_15 : decode cX0_unload 15 = .ok (.iadd, 1) := by decide +kernel
theorem dX0_unload_16 : decode cX0_unload 16 = .ok (.putfield 44, 3) := by decide +kernel
theorem dX0_unload_19 : decode cX0_unload 19 = .ok (.aload_n 0, 1) := by decide +kernel
theorem dX0_unload_20 : decode cX0_unload 20 = .ok (.getfield 18, 3) := by decide +kernel
theorem dX0_unload_23 : decode cX0_unload 23 = .ok (.iload_n 1, 1) := by decide +kernel
theorem dX0_unload_24 : decode cX0_unload 24 = .ok (.iaload, 1) := by decide +kernel
theorem dX0_unload_25 : decode cX0_unload 25 = .ok (.aload_n 2, 1) := by decide +kernel
theorem dX0_unload_26 : decode cX0_unload 26 = .ok (.getfield 49, 3) := by decide +kernel
theorem dX0_unload_29 : decode cX0_unload 29 = .ok (.aload_n 0, 1) := by decide +kernel
theorem dX0_unload_30 : decode cX0_unload 30 = .ok (.getfield 15, 3) := by decide +kernel
theorem dX0_unload_33 : decode cX0_unload 33 = .ok (.iload_n 1, 1) := by decide +kernel
theorem dX0_unload_34 : decode cX0_unload 34 = .ok (.iaload, 1) := by decide +kernel
theorem dX0_unload_35 : decode cX0_unload 35 = .ok (.iaload, 1) := by decide +kernel
theorem dX0_unload_36 : decode cX0_unload 36 = .ok (.if_icmp .le 15, 3) := by decide +kernel
theorem dX0_unload_39 : decode cX0_unload 39 = .ok (.aload_n 3, 1) := by decide +kernel
theorem dX0_unload_40 : decode cX0_unload 40 = .ok (.dup, 1) := by decide +kernel
theorem dX0_unload_41 : decode cX0_unload 41 = .ok (.getfield 52, 3) := by decide +kernel
theorem dX0_unload_44 : decode cX0_unload 44 = .ok (.iload 4, 2) := by decide +kernel
theorem dX0_unload_46 : decode cX0_unload 46 = .ok (.iadd, 1) := by decide +kernel
theorem dX0_unload_47 : decode cX0_unload 47 = .ok (.putfield 52, 3) := by decide +kernel
theorem dX0_unload_50 : decode cX0_unload 50 = .ok (.return_, 1) := by decide +kernel
theorem dX0_unload_51 : decode cX0_unload 51 = .ok (.aload_n 2, 1) := by decide +kernel
theorem dX0_unload_52 : decode cX0_unload 52 = .ok (.getfield 55, 3) := by decide +kernel
theorem dX0_unload_55 : decode cX0_unload 55 = .ok (.aload_n 0, 1) := by decide +kernel
theorem dX0_unload_56 : decode cX0_unload 56 = .ok (.getfield 9, 3) := by decide +kernel
theorem dX0_unload_59 : decode cX0_unload 59 = .ok (.iload_n 1, 1) := by decide +kernel
theorem dX0_unload_60 : decode cX0_unload 60 = .ok (.iaload, 1) := by decide +kernel
theorem dX0_unload_61 : decode cX0_unload 61 = .ok (.aaload, 1) := by decide +kernel
theorem dX0_unload_62 : decode cX0_unload 62 = .ok (.aload_n 0, 1) := by decide +kernel
theorem dX0_unload_63 : decode cX0_unload 63 = .ok (.getfield 15, 3) := by decide +kernel
theorem dX0_unload_66 : decode cX0_unload 66 = .ok (.iload_n 1, 1) := by decide +kernel
theorem dX0_unload_67 : decode cX0_unload 67 = .ok (.iaload, 1) := by decide +kernel
theorem dX0_unload_68 : decode cX0_unload 68 = .ok (.aload_n 0, 1) := by decide +kernel
theorem dX0_unload_69 : decode cX0_unload 69 = .ok (.getfield 18, 3) := by decide +kernel
theorem dX0_unload_72 : decode cX0_unload 72 = .ok (.iload_n 1, 1) := by decide +kernel
theorem dX0_unload_73 : decode cX0_unload 73 = .ok (.iaload, 1) := by decide +kernel
theorem dX0_unload_74 : decode cX0_unload 74 = .ok (.iload 4, 2) := by decide +kernel
theorem dX0_unload_76 : decode cX0_unload 76 = .ok (.invokevirtual 59, 3) := by decide +kernel
theorem dX0_unload_79 : decode cX0_unload 79 = .ok (.istore 5, 2) := by decide +kernel
theorem dX0_unload_81 : decode cX0_unload 81 = .ok (.aload_n 3, 1) := by decide +kernel
theorem dX0_unload_82 : decode cX0_unload 82 = .ok (.dup, 1) := by decide +kernel
theorem dX0_unload_83 : decode cX0_unload 83 = .ok (.getfield 65, 3) := by decide +kernel
theorem dX0_unload_86 : decode cX0_unload 86 = .ok (.iload 4, 2) := by decide +kernel
theorem dX0_unload_88 : decode cX0_unload 88 = .ok (.iload 5, 2) := by decide +kernel
theorem dX0_unload_90 : decode cX0_unload 90 = .ok (.isub, 1) := by decide +kernel
theorem dX0_unload_91 : decode cX0_unload 91 = .ok (.iadd, 1) := by decide +kernel
theorem dX0_unload_92 : decode cX0_unload 92 = .ok (.putfield 65, 3) := by decide +kernel
theorem dX0_unload_95 : decode cX0_unload 95 = .ok (.return_, 1) := by decide +kernel
theorem dX1_init_0 : decode cX1_init 0 = .ok (.aload_n 0, 1) := by decide +kernel
theorem dX1_init_1 : decode cX1_init 1 = .ok (.invokespecial 3, 3) := by decide +kernel
theorem dX1_init_4 : decode cX1_init 4 = .ok (.aload_n 0, 1) := by decide +kernel
theorem dX1_init_5 : decode cX1_init 5 = .ok (.bipush 10, 2) := by decide +kernel
theorem dX1_init_7 : decode cX1_init 7 = .ok (.newarray .int, 2) := by decide +kernel
theorem dX1_init_9 : decode cX1_init 9 = .ok (.putfield 9, 3) := by decide +kernel
theorem dX1_init_12 : decode cX1_init 12 = .ok (.aload_n 0, 1) := by decide +kernel
theorem dX1_init_13 : decode cX1_init 13 = .ok (.bipush 10, 2) := by decide +kernel
theorem dX1_init_15 : decode cX1_init 15 = .ok (.newarray .int, 2) := by decide +kernel
theorem dX1_init_17 : decode cX1_init 17 = .ok (.putfield 15, 3) := by decide +kernel
theorem dX1_init_20 : decode cX1_init 20 = .ok (.aload_n 0, 1) := by decide +kernel
theorem dX1_init_21 : decode cX1_init 21 = .ok (.bipush 10, 2) := by decide +kernel
theorem dX1_init_23 : decode cX1_init 23 = .ok (.newarray .int, 2) := by decide +kernel
theorem dX1_init_25 : decode cX1_init 25 = .ok (.putfield 18, 3) := by decide +kernel
theorem dX1_init_28 : decode cX1_init 28 = .ok (.aload_n 0, 1) := by decide +kernel
theorem dX1_init_29 : decode cX1_init 29 = .ok (.bipush 10, 2) := by decide +kernel
theorem dX1_init_31 : decode cX1_init 31 = .ok (.newarray .int, 2) := by decide +kernel
theorem dX1_init_33 : decode cX1_init 33 = .ok (.putfield 21, 3) := by decide +kernel
theorem dX1_init_36 : decode cX1_init 36 = .ok (.return_, 1) := by decide +kernel
theorem dX1_add_0 : decode cX1_add 0 = .ok (.aload_n 0, 1) := by decide +kernel
theorem dX1_add_1 : decode cX1_add 1 = .ok (.getfield 24, 3) := by decide +kernel
theorem dX1_add_4 : decode cX1_add 4 = .ok (.bipush 10, 2) := by decide +kernel
theorem dX1_add_6 : decode cX1_add 6 = .ok (.if_icmp .lt 5, 3) := by decide +kernel
theorem dX1_add_9 : decode cX1_add 9 = .ok (.iconst (-1), 1) := by decide +kernel
theorem dX1_add_10 : decode cX1_add 10 = .ok (.ireturn, 1) := by decide +kernel
theorem dX1_add_11 : decode cX1_add 11 = .ok (.aload_n 0, 1) := by decide +kernel
theorem dX1_add_12 : decode cX1_add 12 = .ok (.getfield 9, 3) := by decide +kernel
theorem dX1_add_15 : decode cX1_add 15 = .ok (.aload_n 0, 1) := by decide +kernel
theorem dX1_add_16 : decode cX1_add 16 = .ok (.getfield 24, 3) := by decide +kernel
theorem dX1_add_19 : decode cX1_add 19 = .ok (.iload_n 1, 1) := by decide +kernel
theorem dX1_add_20 : decode cX1_add 20 = .ok (.iastore, 1) := by decide +kernel
theorem dX1_add_21 : decode cX1_add 21 = .ok (.aload_n 0, 1) := by decide +kernel
theorem dX1_add_22 : decode cX1_add 22 = .ok (.getfield 15, 3) := by decide +kernel
theorem dX1_add_25 : decode cX1_add 25 = .ok (.aload_n 0, 1) := by decide +kernel
theorem dX1_add_26 : decode cX1_add 26 = .ok (.getfield 24, 3) := by decide +kernel
theorem dX1_add_29 : decode cX1_add 29 = .ok (.iload_n 2, 1) := by decide +kernel
theorem dX1_add_30 : decode cX1_add 30 = .ok (.iastore, 1) := by decide +kernel
theorem dX1_add_31 : decode cX1_add 31 = .ok (.aload_n 0, 1) := by decide +kernel
theorem dX1_add_32 : decode cX1_add 32 = .ok (.getfield 18, 3) := by decide +kernel
theorem dX1_add_35 : decode cX1_add 35 = .ok (.aload_n 0, 1) := by decide +kernel
theorem dX1_add_36 : decode cX1_add 36 = .ok (.getfield 24, 3) := by decide +kernel
theorem dX1_add_39 : decode cX1_add 39 = .ok (.iload_n 3, 1) := by decide +kernel
theorem dX1_add_40 : decode cX1_add 40 = .ok (.iastore, 1) := by decide +kernel
theorem dX1_add_41 : decode cX1_add 41 = .ok (.aload_n 0, 1) := by decide +kernel
theorem dX1_add_42 : decode cX1_add 42 = .ok (.getfield 21, 3) := by decide +kernel
theorem dX1_add_45 : decode cX1_add 45 = .ok (.aload_n 0, 1) := by decide +kernel
theorem dX1_add_46 : decode cX1_add 46 = .ok (.getfield 24, 3) := by decide +kernel
theorem dX1_add_49 : decode cX1_add 49 = .ok (.iload 4, 2) := by decide +kernel
theorem dX1_add_51 : decode cX1_add 51 = .ok (.iastore, 1) := by decide +kernel
theorem dX1_add_52 : decode cX1_add 52 = .ok (.aload_n 0, 1) := by decide +kernel
theorem dX1_add_53 : decode cX1_add 53 = .ok (.dup, 1) := by decide +kernel
theorem dX1_add_54 : decode cX1_add 54 = .ok (.getfield 24, 3) := by decide +kernel
theorem dX1_add_57 : decode cX1_add 57 = .ok (.iconst 1, 1) := by decide +kernel
theorem dX1_add_58 : decode cX1_add 58 = .ok (.iadd, 1) := by decide +kernel
theorem dX1_add_59 : decode cX1_add 59 = .ok (.putfield 24, 3) := by decide +kernel
theorem dX1_add_62 : decode cX1_add 62 = .ok (.aload_n 0, 1) := by decide +kernel
theorem dX1_add_63 : decode cX1_add 63 = .ok (.getfield 24, 3) := by decide +kernel
theorem dX1_add_66 : decode cX1_add 66 = .ok (.iconst 1, 1) := by decide +kernel
theorem dX1_add_67 : decode cX1_add 67 = .ok (.isub, 1) := by decide +kernel
theorem dX1_add_68 : decode cX1_add 68 = .ok (.ireturn, 1) := by decide +kernel
theorem dX2_init_0 : decode cX2_init 0 = .ok (.aload_n 0, 1) := by decide +kernel
theorem dX2_init_1 : decode cX2_init 1 = .ok (.invokespecial 3, 3) := by decide +kernel
theorem dX2_init_4 : decode cX2_init 4 = .ok (.aload_n 0, 1) := by decide +kernel
theorem dX2_init_5 : decode cX2_init 5 = .ok (.bipush 8, 2) := by decide +kernel
theorem dX2_init_7 : decode cX2_init 7 = .ok (.anewarray 9, 3) := by decide +kernel
theorem dX2_init_10 : decode cX2_init 10 = .ok (.putfield 11, 3) := by decide +kernel
theorem dX2_init_13 : decode cX2_init 13 = .ok (.aload_n 0, 1) := by decide +kernel
theorem dX2_init_14 : decode cX2_init 14 = .ok (.bipush 8, 2) := by decide +kernel
theorem dX2_init_16 : decode cX2_init 16 = .ok (.bipush 8, 2) := by decide +kernel
theorem dX2_init_18 : decode cX2_init 18 = .ok (.multianewarray 17 2, 4) := by decide +kernel
theorem dX2_init_22 : decode cX2_init 22 = .ok (.putfield 19, 3) := by decide +kernel
theorem dX2_init_25 : decode cX2_init 25 = .ok (.aload_n 0, 1) := by decide +kernel
theorem dX2_init_26 : decode cX2_init 26 = .ok (.iconst 3, 1) := by decide +kernel
theorem dX2_init_27 : decode cX2_init 27 = .ok (.newarray .int, 2) := by decide +kernel
theorem dX2_init_29 : decode cX2_init 29 = .ok (.putfield 22, 3) := by decide +kernel
theorem dX2_init_32 : decode cX2_init 32 = .ok (.iconst 0, 1) := by decide +kernel
theorem dX2_init_33 : decode cX2_init 33 = .ok (.istore_n 1, 1) := by decide +kernel
theorem dX2_init_34 : decode cX2_init 34 = .ok (.iload_n 1, 1) := by decide +kernel
theorem dX2_init_35 : decode cX2_init 35 = .ok (.bipush 8, 2) := by decide +kernel
theorem dX2_init_37 : decode cX2_init 37 = .ok (.if_icmp .ge 41, 3) := by decide +kernel
theorem dX2_init_40 : decode cX2_init 40 = .ok (.aload_n 0, 1) := by decide +kernel
theorem dX2_init_41 : decode cX2_init 41 = .ok (.getfield 11, 3) := by decide +kernel
theorem dX2_init_44 : decode cX2_init 44 = .ok (.iload_n 1, 1) := by decide +kernel
theorem dX2_init_45 : decode cX2_init 45 = .ok (.new 9, 3) := by decide +kernel
theorem dX2_init_48 : decode cX2_init 48 = .ok (.dup, 1) := by decide +kernel
theorem dX2_init_49 : decode cX2_init 49 = .ok (.invokespecial 26, 3) := by decide +kernel
theorem dX2_init_52 : decode cX2_init 52 = .ok (.aastore, 1) := by decide +kernel
theorem dX2_init_53 : decode cX2_init 53 = .ok (.aload_n 0, 1) := by decide +kernel
theorem dX2_init_54 : decode cX2_init 54 = .ok (.getfield 19, 3) := by decide +kernel
theorem dX2_init_57 : decode cX2_init 57 = .ok (.iload_n 1, 1) := by decide +kernel
theorem dX2_init_58 : decode cX2_init 58 = .ok (.aaload, 1) := by decide +kernel
theorem dX2_init_59 : decode cX2_init 59 = .ok (.iconst (-1), 1) := by decide +kernel
theorem dX2_init_60 : decode cX2_init 60 = .ok (.invokestatic 27, 3) := by decide +kernel
theorem dX2_init_63 : decode cX2_init 63 = .ok (.aload_n 0, 1) := by decide +kernel
theorem dX2_init_64 : decode cX2_init 64 = .ok (.getfield 19, 3) := by decide +kernel
theorem dX2_init_67 : decode cX2_init 67 = .ok (.iload_n 1, 1) := by decide +kernel
theorem dX2_init_68 : decode cX2_init 68 = .ok (.aaload, 1) := by decide +kernel
theorem dX2_init_69 : decode cX2_init 69 = .ok (.iload_n 1, 1) := by decide +kernel
theorem dX2_init_70 : decode cX2_init 70 = .ok (.iconst 0, 1) := by decide +kernel
theorem dX2_init_71 : decode cX2_init 71 = .ok (.iastore, 1) := by decide +kernel
theorem dX2_init_72 : decode cX2_init 72 = .ok (.iinc 1 1, 3) := by decide +kernel
theorem dX2_init_75 : decode cX2_init 75 = .ok (.goto (-41), 3) := by decide +kernel
theorem dX2_init_78 : decode cX2_init 78 = .ok (.aload_n 0, 1) := by decide +kernel
theorem dX2_init_79 : decode cX2_init 79 = .ok (.getfield 22, 3) := by decide +kernel
theorem dX2_init_82 : decode cX2_init 82 = .ok (.iconst 0, 1) := by decide +kernel
theorem dX2_init_83 : decode cX2_init 83 = .ok (.bipush 12, 2) := by decide +kernel
theorem dX2_init_85 : decode cX2_init 85 = .ok (.iastore, 1) := by decide +kernel
theorem dX2_init_86 : decode cX2_init 86 = .ok (.aload_n 0, 1) := by decide +kernel
theorem dX2_init_87 : decode cX2_init 87 = .ok (.getfield 22, 3) := by decide +kernel
theorem dX2_init_90 : decode cX2_init 90 = .ok (.iconst 1, 1) := by decide +kernel
theorem dX2_init_91 : decode cX2_init 91 = .ok (.bipush 60, 2) := by decide +kernel
theorem dX2_init_93 : decode cX2_init 93 = .ok (.iastore, 1) := by decide +kernel
theorem dX2_init_94 : decode cX2_init 94 = .ok (.aload_n 0, 1) := by decide +kernel
theorem dX2_init_95 : decode cX2_init 95 = .ok (.getfield 22, 3) := by decide +kernel
theorem dX2_init_98 : decode cX2_init 98 = .ok (.iconst 2, 1) := by decide +kernel
theorem dX2_init_99 : decode cX2_init 99 = .ok (.bipush 24, 2) := by decide +kernel
theorem dX2_init_101 : decode cX2_init 101 = .ok (.iastore, 1) := by decide +kernel
theorem dX2_init_102 : decode cX2_init 102 = .ok (.return_, 1) := by decide +kernel
theorem dX2_hasTown_0 : decode cX2_hasTown 0 = .ok (.iload_n 1, 1) := by decide +kernel
theorem dX2_hasTown_1 : decode cX2_hasTown 1 = .ok (.iconst 0, 1) := by decide +kernel
theorem dX2_hasTown_2 : decode cX2_hasTown 2 = .ok (.aload_n 0, 1) := by decide +kernel
theorem dX2_hasTown_3 : decode cX2_hasTown 3 = .ok (.getfield 33, 3) := by decide +kernel
theorem dX2_hasTown_6 : decode cX2_hasTown 6 = .ok (.iconst 1, 1) := by decide +kernel
theorem dX2_hasTown_7 : decode cX2_hasTown 7 = .ok (.isub, 1) := by decide +kernel
theorem dX2_hasTown_8 : decode cX2_hasTown 8 = .ok (.invokestatic 37, 3) := by decide +kernel
theorem dX2_hasTown_11 : decode cX2_hasTown 11 = .ok (.ireturn, 1) := by decide +kernel
theorem dX2_found_0 : decode cX2_found 0 = .ok (.aload_n 0, 1) := by decide +kernel
theorem dX2_found_1 : decode cX2_found 1 = .ok (.getfield 33, 3) := by decide +kernel
theorem dX2_found_4 : decode cX2_found 4 = .ok (.bipush 8, 2) := by decide +kernel
theorem dX2_found_6 : decode cX2_found 6 = .ok (.if_icmp .lt 5, 3) := by decide +kernel
theorem dX2_found_9 : decode cX2_found 9 = .ok (.iconst (-1), 1) := by decide +kernel
theorem dX2_found_10 : decode cX2_found 10 = .ok (.ireturn, 1) := by decide +kernel
theorem dX2_found_11 : decode cX2_found 11 = .ok (.aload_n 0, 1) := by decide +kernel
theorem dX2_found_12 : decode cX2_found 12 = .ok (.getfield 11, 3) := by decide +kernel
theorem dX2_found_15 : decode cX2_found 15 = .ok (.aload_n 0, 1) := by decide +kernel
theorem dX2_found_16 : decode cX2_found 16 = .ok (.getfield 33, 3) := by decide +kernel
theorem dX2_found_19 : decode cX2_found 19 = .ok (.aaload, 1) := by decide +kernel
theorem dX2_found_20 : decode cX2_found 20 = .ok (.astore 4, 2) := by decide +kernel
theorem dX2_found_22 : decode cX2_found 22 = .ok (.aload 4, 2) := by decide +kernel
theorem dX2_found_24 : decode cX2_found 24 = .ok (.iload_n 1, 1) := by decide +kernel
theorem dX2_found_25 : decode cX2_found 25 = .ok (.putfield 41, 3) := by decide +kernel
theorem dX2_found_28 : decode cX2_found 28 = .ok (.aload 4, 2) := by decide +kernel
theorem dX2_found_30 : decode cX2_found 30 = .ok (.iload_n 2, 1) := by decide +kernel
theorem dX2_found_31 : decode cX2_found 31 = .ok (.putfield 44, 3) := by decide +kernel
theorem dX2_found_34 : decode cX2_found 34 = .ok (.aload 4, 2) := by decide +kernel
theorem dX2_found_36 : decode cX2_found 36 = .ok (.iload_n 3, 1) := by decide +kernel
theorem dX2_found_37 : decode cX2_found 37 = .ok (.putfield 47, 3) := by decide +kernel
theorem dX2_found_40 : decode cX2_found 40 = .ok (.aload_n 0, 1) := by decide +kernel
theorem dX2_found_41 : decode cX2_found 41 = .ok (.dup, 1) := by decide +kernel
theorem dX2_found_42 : decode cX2_found 42 = .ok (.getfield 33, 3) := by decide +kernel
theorem dX2_found_45 : decode cX2_found 45 = .ok (.iconst 1, 1) := by decide +kernel
theorem dX2_found_46 : decode cX2_found 46 = .ok (.iadd, 1) := by decide +kernel
theorem dX2_found_47 : decode cX2_found 47 = .ok (.putfield 33, 3) := by decide +kernel
theorem dX2_found_50 : decode cX2_found 50 = .ok (.aload_n 0, 1) := by decide +kernel
theorem dX2_found_51 : decode cX2_found 51 = .ok (.getfield 33, 3) := by decide +kernel
theorem dX2_found_54 : decode cX2_found 54 = .ok (.iconst 1, 1) := by decide +kernel
theorem dX2_found_55 : decode cX2_found 55 = .ok (.isub, 1) := by decide +kernel
theorem dX2_found_56 : decode cX2_found 56 = .ok (.ireturn, 1) := by decide +kernel
theorem dX2_growLots_0 : decode cX2_growLots 0 = .ok (.iconst 0, 1) := by decide +kernel
theorem dX2_growLots_1 : decode cX2_growLots 1 = .ok (.istore_n 2, 1) := by decide +kernel
theorem dX2_growLots_2 : decode cX2_growLots 2 = .ok (.iload_n 2, 1) := by decide +kernel
theorem dX2_growLots_3 : decode cX2_growLots 3 = .ok (.aload_n 0, 1) := by decide +kernel
theorem dX2_growLots_4 : decode cX2_growLots 4 = .ok (.getfield 33, 3) := by decide +kernel
theorem dX2_growLots_7 : decode cX2_growLots 7 = .ok (.if_icmp .ge 47, 3) := by decide +kernel
theorem dX2_growLots_10 : decode cX2_growLots 10 = .ok (.iconst 0, 1) := by decide +kernel
theorem dX2_growLots_11 : decode cX2_growLots 11 = .ok (.istore_n 3, 1) := by decide +kernel
theorem dX2_growLots_12 : decode cX2_growLots 12 = .ok (.iload_n 3, 1) := by decide +kernel
theorem dX2_growLots_13 : decode cX2_growLots 13 = .ok (.iconst 3, 1) := by decide +kernel
theorem dX2_growLots_14 : decode cX2_growLots 14 = .ok (.if_icmp .ge 34, 3) := by decide +kernel
theorem dX2_growLots_17 : decode cX2_growLots 17 = .ok (.aload_n 1, 1) := by decide +kernel
theorem dX2_growLots_18 : decode cX2_growLots 18 = .ok (.dup, 1) := by decide +kernel
theorem dX2_growLots_19 : decode cX2_growLots 19 = .ok (.getfield 50, 3) := by decide +kernel
theorem dX2_growLots_22 : decode cX2_growLots 22 = .ok (.aload_n 0, 1) := by decide +kernel
theorem dX2_growLots_23 : decode cX2_growLots 23 = .ok (.getfield 11, 3) := by decide +kernel
theorem dX2_growLots_26 : decode cX2_growLots 26 = .ok (.iload_n 2, 1) := by decide +kernel
theorem dX2_growLots_27 : decode cX2_growLots 27 = .ok (.aaload, 1) := by decide +kernel
theorem dX2_growLots_28 : decode cX2_growLots 28 = .ok (.iload_n 3, 1) := by decide +kernel
theorem dX2_growLots_29 : decode cX2_growLots 29 = .ok (.aload_n 0, 1) := by decide +kernel
theorem dX2_growLots_30 : decode cX2_growLots 30 = .ok (.getfield 22, 3) := by decide +kernel
theorem dX2_growLots_33 : decode cX2_growLots 33 = .ok (.iload_n 3, 1) := by decide +kernel
theorem dX2_growLots_34 : decode cX2_growLots 34 = .ok (.iaload, 1) := by decide +kernel
theorem dX2_growLots_35 : decode cX2_growLots 35 = .ok (.invokevirtual 55, 3) := by decide +kernel
theorem dX2_growLots_38 : decode cX2_growLots 38 = .ok (.iadd, 1) := by decide +kernel
theorem dX2_growLots_39 : decode cX2_growLots 39 = .ok (.putfield 50, 3) := by decide +kernel
theorem dX2_growLots_42 : decode cX2_growLots 42 = .ok (.iinc 3 1, 3) := by decide +kernel
theorem dX2_growLots_45 : decode cX2_growLots 45 = .ok (.goto (-33), 3) := by decide +kernel
theorem dX2_growLots_48 : decode cX2_growLots 48 = .ok (.iinc 2 1, 3) := by decide +kernel
theorem dX2_growLots_51 : decode cX2_growLots 51 = .ok (.goto (-49), 3) := by decide +kernel
theorem dX2_growLots_54 : decode cX2_growLots 54 = .ok (.return_, 1) := by decide +kernel
theorem dX2_eat_0 : decode cX2_eat 0 = .ok (.iconst 0, 1) := by decide +kernel
theorem dX2_eat_1 : decode cX2_eat 1 = .ok (.istore_n 2, 1) := by decide +kernel
theorem dX2_eat_2 : decode cX2_eat 2 = .ok (.iload_n 2, 1) := by decide +kernel
theorem dX2_eat_3 : decode cX2_eat 3 = .ok (.aload_n 0, 1) := by decide +kernel
theorem dX2_eat_4 : decode cX2_eat 4 = .ok (.getfield 33, 3) := by decide +kernel
theorem dX2_eat_7 : decode cX2_eat 7 = .ok (.if_icmp .ge 41, 3) := by decide +kernel
theorem dX2_eat_10 : decode cX2_eat 10 = .ok (.aload_n 0, 1) := by decide +kernel
theorem dX2_eat_11 : decode cX2_eat 11 = .ok (.getfield 11, 3) := by decide +kernel
theorem dX2_eat_14 : decode cX2_eat 14 = .ok (.iload_n 2, 1) := by decide +kernel
theorem dX2_eat_15 : decode cX2_eat 15 = .ok (.aaload, 1) := by decide +kernel
theorem dX2_eat_16 : decode cX2_eat 16 = .ok (.getfield 44, 3) := by decide +kernel
theorem dX2_eat_19 : decode cX2_eat 19 = .ok (.istore_n 3, 1) := by decide +kernel
theorem dX2_eat_20 : decode cX2_eat 20 = .ok (.aload_n 1, 1) := by decide +kernel
theorem dX2_eat_21 : decode cX2_eat 21 = .ok (.dup, 1) := by decide +kernel
theorem dX2_eat_22 : decode cX2_eat 22 = .ok (.getfield 59, 3) := by decide +kernel
theorem dX2_eat_25 : decode cX2_eat 25 = .ok (.iload_n 3, 1) := by decide +kernel
theorem dX2_eat_26 : decode cX2_eat 26 = .ok (.aload_n 0, 1) := by decide +kernel
theorem dX2_eat_27 : decode cX2_eat 27 = .ok (.getfield 11, 3) := by decide +kernel
theorem dX2_eat_30 : decode cX2_eat 30 = .ok (.iload_n 2, 1) := by decide +kernel
theorem dX2_eat_31 : decode cX2_eat 31 = .ok (.aaload, 1) := by decide +kernel
theorem dX2_eat_32 : decode cX2_eat 32 = .ok (.iconst 0, 1) := by decide +kernel
theorem dX2_eat_33 : decode cX2_eat 33 = .ok (.iload_n 3, 1) := by decide +kernel
theorem dX2_eat_34 : decode cX2_eat 34 = .ok (.invokevirtual 62, 3) := by decide +kernel
theorem dX2_eat_37 : decode cX2_eat 37 = .ok (.isub, 1) := by decide +kernel
theorem dX2_eat_38 : decode cX2_eat 38 = .ok (.iadd, 1) := by decide +kernel
theorem dX2_eat_39 : decode cX2_eat 39 = .ok (.putfield 59, 3) := by decide +kernel
theorem dX2_eat_42 : decode cX2_eat 42 = .ok (.iinc 2 1, 3) := by decide +kernel
theorem dX2_eat_45 : decode cX2_eat 45 = .ok (.goto (-43), 3) := by decide +kernel
theorem dX2_eat_48 : decode cX2_eat 48 = .ok (.return_, 1) := by decide +kernel
theorem dX2_allTens_0 : decode cX2_allTens 0 = .ok (.iconst 0, 1) := by decide +kernel
theorem dX2_allTens_1 : decode cX2_allTens 1 = .ok (.istore_n 1, 1) := by decide +kernel
theorem dX2_allTens_2 : decode cX2_allTens 2 = .ok (.iconst 0, 1) := by decide +kernel
theorem dX2_allTens_3 : decode cX2_allTens 3 = .ok (.istore_n 2, 1) := by decide +kernel
theorem dX2_allTens_4 : decode cX2_allTens 4 = .ok (.iload_n 2, 1) := by decide +kernel
theorem dX2_allTens_5 : decode cX2_allTens 5 = .ok (.aload_n 0, 1) := by decide +kernel
theorem dX2_allTens_6 : decode cX2_allTens 6 = .ok (.getfield 33, 3) := by decide +kernel
theorem dX2_allTens_9 : decode cX2_allTens 9 = .ok (.if_icmp .ge 21, 3) := by decide +kernel
theorem dX2_allTens_12 : decode cX2_allTens 12 = .ok (.iload_n 1, 1) := by decide +kernel
theorem dX2_allTens_13 : decode cX2_allTens 13 = .ok (.aload_n 0, 1) := by decide +kernel
theorem dX2_allTens_14 : decode cX2_allTens 14 = .ok (.getfield 11, 3) := by decide +kernel
theorem dX2_allTens_17 : decode cX2_allTens 17 = .ok (.iload_n 2, 1) := by decide +kernel
theorem dX2_allTens_18 : decode cX2_allTens 18 = .ok (.aaload, 1) := by decide +kernel
theorem dX2_allTens_19 : decode cX2_allTens 19 = .ok (.getfield 47, 3) := by decide +kernel
theorem dX2_allTens_22 : decode cX2_allTens 22 = .ok (.iadd, 1) := by decide +kernel
theorem dX2_allTens_23 : decode cX2_allTens 23 = .ok (.istore_n 1, 1) := by decide +kernel
theorem dX2_allTens_24 : decode cX2_allTens 24 = .ok (.iinc 2 1, 3) := by decide +kernel
theorem dX2_allTens_27 : decode cX2_allTens 27 = .ok (.goto (-23), 3) := by decide +kernel
theorem dX2_allTens_30 : decode cX2_allTens 30 = .ok (.iload_n 1, 1) := by decide +kernel
theorem dX2_allTens_31 : decode cX2_allTens 31 = .ok (.ireturn, 1) := by decide +kernel
theorem dX2_takeHand_0 : decode cX2_takeHand 0 = .ok (.aload_n 0, 1) := by decide +kernel
theorem dX2_takeHand_1 : decode cX2_takeHand 1 = .ok (.dup, 1) := by decide +kernel
theorem dX2_takeHand_2 : decode cX2_takeHand 2 = .ok (.getfield 65, 3) := by decide +kernel
theorem dX2_takeHand_5 : decode cX2_takeHand 5 = .ok (.iconst 1, 1) := by decide +kernel
theorem dX2_takeHand_6 : decode cX2_takeHand 6 = .ok (.iadd, 1) := by decide +kernel

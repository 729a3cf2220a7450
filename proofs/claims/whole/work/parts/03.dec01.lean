theorem dX2_takeHand_7 : decode cX2_takeHand 7 = .ok (.putfield 65, 3) := by decide +kernel
theorem dX2_takeHand_10 : decode cX2_takeHand 10 = .ok (.iconst (-1), 1) := by decide +kernel
theorem dX2_takeHand_11 : decode cX2_takeHand 11 = .ok (.istore_n 2, 1) := by decide +kernel
theorem dX2_takeHand_12 : decode cX2_takeHand 12 = .ok (.iconst 0, 1) := by decide +kernel
theorem dX2_takeHand_13 : decode cX2_takeHand 13 = .ok (.istore_n 3, 1) := by decide +kernel
theorem dX2_takeHand_14 : decode cX2_takeHand 14 = .ok (.iconst 0, 1) := by decide +kernel
theorem dX2_takeHand_15 : decode cX2_takeHand 15 = .ok (.istore 4, 2) := by decide +kernel
theorem dX2_takeHand_17 : decode cX2_takeHand 17 = .ok (.iload 4, 2) := by decide +kernel
theorem dX2_takeHand_19 : decode cX2_takeHand 19 = .ok (.aload_n 0, 1) := by decide +kernel
theorem dX2_takeHand_20 : decode cX2_takeHand 20 = .ok (.getfield 33, 3) := by decide +kernel
theorem dX2_takeHand_23 : decode cX2_takeHand 23 = .ok (.if_icmp .ge 65, 3) := by decide +kernel
theorem dX2_takeHand_26 : decode cX2_takeHand 26 = .ok (.aload_n 0, 1) := by decide +kernel
theorem dX2_takeHand_27 : decode cX2_takeHand 27 = .ok (.getfield 11, 3) := by decide +kernel
theorem dX2_takeHand_30 : decode cX2_takeHand 30 = .ok (.iload 4, 2) := by decide +kernel
theorem dX2_takeHand_32 : decode cX2_takeHand 32 = .ok (.aaload, 1) := by decide +kernel
theorem dX2_takeHand_33 : decode cX2_takeHand 33 = .ok (.getfield 47, 3) := by decide +kernel
theorem dX2_takeHand_36 : decode cX2_takeHand 36 = .ok (.istore 5, 2) := by decide +kernel
theorem dX2_takeHand_38 : decode cX2_takeHand 38 = .ok (.iload 5, 2) := by decide +kernel
theorem dX2_takeHand_40 : decode cX2_takeHand 40 = .ok (.aload_n 0, 1) := by decide +kernel
theorem dX2_takeHand_41 : decode cX2_takeHand 41 = .ok (.getfield 65, 3) := by decide +kernel
theorem dX2_takeHand_44 : decode cX2_takeHand 44 = .ok (.imul, 1) := by decide +kernel
theorem dX2_takeHand_45 : decode cX2_takeHand 45 = .ok (.iload_n 1, 1) := by decide +kernel
theorem dX2_takeHand_46 : decode cX2_takeHand 46 = .ok (.aload_n 0, 1) := by decide +kernel
theorem dX2_takeHand_47 : decode cX2_takeHand 47 = .ok (.getfield 11, 3) := by decide +kernel
theorem dX2_takeHand_50 : decode cX2_takeHand 50 = .ok (.iload 4, 2) := by decide +kernel
theorem dX2_takeHand_52 : decode cX2_takeHand 52 = .ok (.aaload, 1) := by decide +kernel
theorem dX2_takeHand_53 : decode cX2_takeHand 53 = .ok (.getfield 68, 3) := by decide +kernel
theorem dX2_takeHand_56 : decode cX2_takeHand 56 = .ok (.imul, 1) := by decide +kernel
theorem dX2_takeHand_57 : decode cX2_takeHand 57 = .ok (.isub, 1) := by decide +kernel
theorem dX2_takeHand_58 : decode cX2_takeHand 58 = .ok (.istore 6, 2) := by decide +kernel
theorem dX2_takeHand_60 : decode cX2_takeHand 60 = .ok (.iload 5, 2) := by decide +kernel
theorem dX2_takeHand_62 : decode cX2_takeHand 62 = .ok (.ifCond .le 20, 3) := by decide +kernel
theorem dX2_takeHand_65 : decode cX2_takeHand 65 = .ok (.iload_n 2, 1) := by decide +kernel
theorem dX2_takeHand_66 : decode cX2_takeHand 66 = .ok (.iconst (-1), 1) := by decide +kernel
theorem dX2_takeHand_67 : decode cX2_takeHand 67 = .ok (.if_icmp .eq 9, 3) := by decide +kernel
theorem dX2_takeHand_70 : decode cX2_takeHand 70 = .ok (.iload 6, 2) := by decide +kernel
theorem dX2_takeHand_72 : decode cX2_takeHand 72 = .ok (.iload_n 3, 1) := by decide +kernel
theorem dX2_takeHand_73 : decode cX2_takeHand 73 = .ok (.if_icmp .le 9, 3) := by decide +kernel
theorem dX2_takeHand_76 : decode cX2_takeHand 76 = .ok (.iload 4, 2) := by decide +kernel
theorem dX2_takeHand_78 : decode cX2_takeHand 78 = .ok (.istore_n 2, 1) := by decide +kernel
theorem dX2_takeHand_79 : decode cX2_takeHand 79 = .ok (.iload 6, 2) := by decide +kernel
theorem dX2_takeHand_81 : decode cX2_takeHand 81 = .ok (.istore_n 3, 1) := by decide +kernel
theorem dX2_takeHand_82 : decode cX2_takeHand 82 = .ok (.iinc 4 1, 3) := by decide +kernel
theorem dX2_takeHand_85 : decode cX2_takeHand 85 = .ok (.goto (-68), 3) := by decide +kernel
theorem dX2_takeHand_88 : decode cX2_takeHand 88 = .ok (.iload_n 2, 1) := by decide +kernel
theorem dX2_takeHand_89 : decode cX2_takeHand 89 = .ok (.iconst (-1), 1) := by decide +kernel
theorem dX2_takeHand_90 : decode cX2_takeHand 90 = .ok (.if_icmp .eq 18, 3) := by decide +kernel
theorem dX2_takeHand_93 : decode cX2_takeHand 93 = .ok (.aload_n 0, 1) := by decide +kernel
theorem dX2_takeHand_94 : decode cX2_takeHand 94 = .ok (.getfield 11, 3) := by decide +kernel
theorem dX2_takeHand_97 : decode cX2_takeHand 97 = .ok (.iload_n 2, 1) := by decide +kernel
theorem dX2_takeHand_98 : decode cX2_takeHand 98 = .ok (.aaload, 1) := by decide +kernel
theorem dX2_takeHand_99 : decode cX2_takeHand 99 = .ok (.dup, 1) := by decide +kernel
theorem dX2_takeHand_100 : decode cX2_takeHand 100 = .ok (.getfield 68, 3) := by decide +kernel
theorem dX2_takeHand_103 : decode cX2_takeHand 103 = .ok (.iconst 1, 1) := by decide +kernel
theorem dX2_takeHand_104 : decode cX2_takeHand 104 = .ok (.iadd, 1) := by decide +kernel
theorem dX2_takeHand_105 : decode cX2_takeHand 105 = .ok (.putfield 68, 3) := by decide +kernel
theorem dX2_takeHand_108 : decode cX2_takeHand 108 = .ok (.return_, 1) := by decide +kernel
theorem dX3_init_0 : decode cX3_init 0 = .ok (.aload_n 0, 1) := by decide +kernel
theorem dX3_init_1 : decode cX3_init 1 = .ok (.invokespecial 3, 3) := by decide +kernel
theorem dX3_init_4 : decode cX3_init 4 = .ok (.aload_n 0, 1) := by decide +kernel
theorem dX3_init_5 : decode cX3_init 5 = .ok (.bipush 60, 2) := by decide +kernel
theorem dX3_init_7 : decode cX3_init 7 = .ok (.newarray .int, 2) := by decide +kernel
theorem dX3_init_9 : decode cX3_init 9 = .ok (.putfield 9, 3) := by decide +kernel
theorem dX3_init_12 : decode cX3_init 12 = .ok (.aload_n 0, 1) := by decide +kernel
theorem dX3_init_13 : decode cX3_init 13 = .ok (.bipush 60, 2) := by decide +kernel
theorem dX3_init_15 : decode cX3_init 15 = .ok (.newarray .int, 2) := by decide +kernel
theorem dX3_init_17 : decode cX3_init 17 = .ok (.putfield 15, 3) := by decide +kernel
theorem dX3_init_20 : decode cX3_init 20 = .ok (.aload_n 0, 1) := by decide +kernel
theorem dX3_init_21 : decode cX3_init 21 = .ok (.bipush 60, 2) := by decide +kernel
theorem dX3_init_23 : decode cX3_init 23 = .ok (.newarray .int, 2) := by decide +kernel
theorem dX3_init_25 : decode cX3_init 25 = .ok (.putfield 18, 3) := by decide +kernel
theorem dX3_init_28 : decode cX3_init 28 = .ok (.aload_n 0, 1) := by decide +kernel
theorem dX3_init_29 : decode cX3_init 29 = .ok (.bipush 60, 2) := by decide +kernel
theorem dX3_init_31 : decode cX3_init 31 = .ok (.newarray .int, 2) := by decide +kernel
theorem dX3_init_33 : decode cX3_init 33 = .ok (.putfield 21, 3) := by decide +kernel
theorem dX3_init_36 : decode cX3_init 36 = .ok (.aload_n 0, 1) := by decide +kernel
theorem dX3_init_37 : decode cX3_init 37 = .ok (.bipush 60, 2) := by decide +kernel
theorem dX3_init_39 : decode cX3_init 39 = .ok (.newarray .int, 2) := by decide +kernel
theorem dX3_init_41 : decode cX3_init 41 = .ok (.putfield 24, 3) := by decide +kernel
theorem dX3_init_44 : decode cX3_init 44 = .ok (.aload_n 0, 1) := by decide +kernel
theorem dX3_init_45 : decode cX3_init 45 = .ok (.bipush 60, 2) := by decide +kernel
theorem dX3_init_47 : decode cX3_init 47 = .ok (.newarray .int, 2) := by decide +kernel
theorem dX3_init_49 : decode cX3_init 49 = .ok (.putfield 27, 3) := by decide +kernel
theorem dX3_init_52 : decode cX3_init 52 = .ok (.aload_n 0, 1) := by decide +kernel
theorem dX3_init_53 : decode cX3_init 53 = .ok (.iconst 5, 1) := by decide +kernel
theorem dX3_init_54 : decode cX3_init 54 = .ok (.newarray .int, 2) := by decide +kernel
theorem dX3_init_56 : decode cX3_init 56 = .ok (.putfield 30, 3) := by decide +kernel
theorem dX3_init_59 : decode cX3_init 59 = .ok (.aload_n 0, 1) := by decide +kernel
theorem dX3_init_60 : decode cX3_init 60 = .ok (.iconst (-1), 1) := by decide +kernel
theorem dX3_init_61 : decode cX3_init 61 = .ok (.putfield 33, 3) := by decide +kernel
theorem dX3_init_64 : decode cX3_init 64 = .ok (.return_, 1) := by decide +kernel
theorem dX3_add_0 : decode cX3_add 0 = .ok (.aload_n 0, 1) := by decide +kernel
theorem dX3_add_1 : decode cX3_add 1 = .ok (.getfield 37, 3) := by decide +kernel
theorem dX3_add_4 : decode cX3_add 4 = .ok (.bipush 60, 2) := by decide +kernel
theorem dX3_add_6 : decode cX3_add 6 = .ok (.if_icmp .lt 5, 3) := by decide +kernel
theorem dX3_add_9 : decode cX3_add 9 = .ok (.iconst (-1), 1) := by decide +kernel
theorem dX3_add_10 : decode cX3_add 10 = .ok (.ireturn, 1) := by decide +kernel
theorem dX3_add_11 : decode cX3_add 11 = .ok (.aload_n 0, 1) := by decide +kernel
theorem dX3_add_12 : decode cX3_add 12 = .ok (.getfield 9, 3) := by decide +kernel
theorem dX3_add_15 : decode cX3_add 15 = .ok (.aload_n 0, 1) := by decide +kernel
theorem dX3_add_16 : decode cX3_add 16 = .ok (.getfield 37, 3) := by decide +kernel
theorem dX3_add_19 : decode cX3_add 19 = .ok (.iload_n 1, 1) := by decide +kernel
theorem dX3_add_20 : decode cX3_add 20 = .ok (.iastore, 1) := by decide +kernel
theorem dX3_add_21 : decode cX3_add 21 = .ok (.aload_n 0, 1) := by decide +kernel
theorem dX3_add_22 : decode cX3_add 22 = .ok (.getfield 15, 3) := by decide +kernel
theorem dX3_add_25 : decode cX3_add 25 = .ok (.aload_n 0, 1) := by decide +kernel
theorem dX3_add_26 : decode cX3_add 26 = .ok (.getfield 37, 3) := by decide +kernel
theorem dX3_add_29 : decode cX3_add 29 = .ok (.iload_n 2, 1) := by decide +kernel
theorem dX3_add_30 : decode cX3_add 30 = .ok (.iastore, 1) := by decide +kernel
theorem dX3_add_31 : decode cX3_add 31 = .ok (.aload_n 0, 1) := by decide +kernel
theorem dX3_add_32 : decode cX3_add 32 = .ok (.getfield 18, 3) := by decide +kernel
theorem dX3_add_35 : decode cX3_add 35 = .ok (.aload_n 0, 1) := by decide +kernel
theorem dX3_add_36 : decode cX3_add 36 = .ok (.getfield 37, 3) := by decide +kernel
theorem dX3_add_39 : decode cX3_add 39 = .ok (.iload_n 3, 1) := by decide +kernel
theorem dX3_add_40 : decode cX3_add 40 = .ok (.iastore, 1) := by decide +kernel
theorem dX3_add_41 : decode cX3_add 41 = .ok (.aload_n 0, 1) := by decide +kernel
theorem dX3_add_42 : decode cX3_add 42 = .ok (.getfield 21, 3) := by decide +kernel
theorem dX3_add_45 : decode cX3_add 45 = .ok (.aload_n 0, 1) := by decide +kernel
theorem dX3_add_46 : decode cX3_add 46 = .ok (.getfield 37, 3) := by decide +kernel
theorem dX3_add_49 : decode cX3_add 49 = .ok (.iload 4, 2) := by decide +kernel
theorem dX3_add_51 : decode cX3_add 51 = .ok (.iastore, 1) := by decide +kernel
theorem dX3_add_52 : decode cX3_add 52 = .ok (.aload_n 0, 1) := by decide +kernel
theorem dX3_add_53 : decode cX3_add 53 = .ok (.getfield 24, 3) := by decide +kernel
theorem dX3_add_56 : decode cX3_add 56 = .ok (.aload_n 0, 1) := by decide +kernel
theorem dX3_add_57 : decode cX3_add 57 = .ok (.getfield 37, 3) := by decide +kernel
theorem dX3_add_60 : decode cX3_add 60 = .ok (.iload 5, 2) := by decide +kernel
theorem dX3_add_62 : decode cX3_add 62 = .ok (.iastore, 1) := by decide +kernel
theorem dX3_add_63 : decode cX3_add 63 = .ok (.aload_n 0, 1) := by decide +kernel
theorem dX3_add_64 : decode cX3_add 64 = .ok (.getfield 27, 3) := by decide +kernel
theorem dX3_add_67 : decode cX3_add 67 = .ok (.aload_n 0, 1) := by decide +kernel
theorem dX3_add_68 : decode cX3_add 68 = .ok (.getfield 37, 3) := by decide +kernel
theorem dX3_add_71 : decode cX3_add 71 = .ok (.iconst (-1), 1) := by decide +kernel
theorem dX3_add_72 : decode cX3_add 72 = .ok (.iastore, 1) := by decide +kernel
theorem dX3_add_73 : decode cX3_add 73 = .ok (.aload_n 0, 1) := by decide +kernel
theorem dX3_add_74 : decode cX3_add 74 = .ok (.dup, 1) := by decide +kernel
theorem dX3_add_75 : decode cX3_add 75 = .ok (.getfield 37, 3) := by decide +kernel
theorem dX3_add_78 : decode cX3_add 78 = .ok (.iconst 1, 1) := by decide +kernel
theorem dX3_add_79 : decode cX3_add 79 = .ok (.iadd, 1) := by decide +kernel
theorem dX3_add_80 : decode cX3_add 80 = .ok (.putfield 37, 3) := by decide +kernel
theorem dX3_add_83 : decode cX3_add 83 = .ok (.aload_n 0, 1) := by decide +kernel
theorem dX3_add_84 : decode cX3_add 84 = .ok (.getfield 37, 3) := by decide +kernel
theorem dX3_add_87 : decode cX3_add 87 = .ok (.iconst 1, 1) := by decide +kernel
theorem dX3_add_88 : decode cX3_add 88 = .ok (.isub, 1) := by decide +kernel
theorem dX3_add_89 : decode cX3_add 89 = .ok (.ireturn, 1) := by decide +kernel
theorem dX3_withdraw_0 : decode cX3_withdraw 0 = .ok (.iload_n 1, 1) := by decide +kernel
theorem dX3_withdraw_1 : decode cX3_withdraw 1 = .ok (.iconst 0, 1) := by decide +kernel
theorem dX3_withdraw_2 : decode cX3_withdraw 2 = .ok (.aload_n 0, 1) := by decide +kernel
theorem dX3_withdraw_3 : decode cX3_withdraw 3 = .ok (.getfield 37, 3) := by decide +kernel
theorem dX3_withdraw_6 : decode cX3_withdraw 6 = .ok (.iconst 1, 1) := by decide +kernel
theorem dX3_withdraw_7 : decode cX3_withdraw 7 = .ok (.isub, 1) := by decide +kernel
theorem dX3_withdraw_8 : decode cX3_withdraw 8 = .ok (.invokestatic 40, 3) := by decide +kernel
theorem dX3_withdraw_11 : decode cX3_withdraw 11 = .ok (.ifCond .eq 13, 3) := by decide +kernel
theorem dX3_withdraw_14 : decode cX3_withdraw 14 = .ok (.aload_n 0, 1) := by decide +kernel
theorem dX3_withdraw_15 : decode cX3_withdraw 15 = .ok (.getfield 27, 3) := by decide +kernel
theorem dX3_withdraw_18 : decode cX3_withdraw 18 = .ok (.iload_n 1, 1) := by decide +kernel
theorem dX3_withdraw_19 : decode cX3_withdraw 19 = .ok (.iaload, 1) := by decide +kernel
theorem dX3_withdraw_20 : decode cX3_withdraw 20 = .ok (.iconst (-1), 1) := by decide +kernel
theorem dX3_withdraw_21 : decode cX3_withdraw 21 = .ok (.if_icmp .eq 5, 3) := by decide +kernel
theorem dX3_withdraw_24 : decode cX3_withdraw 24 = .ok (.iconst 0, 1) := by decide +kernel
theorem dX3_withdraw_25 : decode cX3_withdraw 25 = .ok (.ireturn, 1) := by decide +kernel
theorem dX3_withdraw_26 : decode cX3_withdraw 26 = .ok (.aload_n 0, 1) := by decide +kernel
theorem dX3_withdraw_27 : decode cX3_withdraw 27 = .ok (.getfield 27, 3) := by decide +kernel
theorem dX3_withdraw_30 : decode cX3_withdraw 30 = .ok (.iload_n 1, 1) := by decide +kernel
theorem dX3_withdraw_31 : decode cX3_withdraw 31 = .ok (.iload_n 2, 1) := by decide +kernel
theorem dX3_withdraw_32 : decode cX3_withdraw 32 = .ok (.iastore, 1) := by decide +kernel
theorem dX3_withdraw_33 : decode cX3_withdraw 33 = .ok (.iconst 1, 1) := by decide +kernel
theorem dX3_withdraw_34 : decode cX3_withdraw 34 = .ok (.ireturn, 1) := by decide +kernel
theorem dX3_hear_0 : decode cX3_hear 0 = .ok (.aload_n 0, 1) := by decide +kernel
theorem dX3_hear_1 : decode cX3_hear 1 = .ok (.iload_n 1, 1) := by decide +kernel
theorem dX3_hear_2 : decode cX3_hear 2 = .ok (.iload_n 2, 1) := by decide +kernel
theorem dX3_hear_3 : decode cX3_hear 3 = .ok (.iload_n 3, 1) := by decide +kernel
theorem dX3_hear_4 : decode cX3_hear 4 = .ok (.invokevirtual 44, 3) := by decide +kernel
theorem dX3_hear_7 : decode cX3_hear 7 = .ok (.aload_n 0, 1) := by decide +kernel
theorem dX3_hear_8 : decode cX3_hear 8 = .ok (.iconst (-1), 1) := by decide +kernel
theorem dX3_hear_9 : decode cX3_hear 9 = .ok (.putfield 33, 3) := by decide +kernel
theorem dX3_hear_12 : decode cX3_hear 12 = .ok (.aload_n 0, 1) := by decide +kernel
theorem dX3_hear_13 : decode cX3_hear 13 = .ok (.iconst 0, 1) := by decide +kernel
theorem dX3_hear_14 : decode cX3_hear 14 = .ok (.putfield 48, 3) := by decide +kernel
theorem dX3_hear_17 : decode cX3_hear 17 = .ok (.iconst 0, 1) := by decide +kernel
theorem dX3_hear_18 : decode cX3_hear 18 = .ok (.istore 4, 2) := by decide +kernel
theorem dX3_hear_20 : decode cX3_hear 20 = .ok (.iload 4, 2) := by decide +kernel
theorem dX3_hear_22 : decode cX3_hear 22 = .ok (.iconst 5, 1) := by decide +kernel
theorem dX3_hear_23 : decode cX3_hear 23 = .ok (.if_icmp .ge 91, 3) := by decide +kernel
theorem dX3_hear_26 : decode cX3_hear 26 = .ok (.aload_n 0, 1) := by decide +kernel
theorem dX3_hear_27 : decode cX3_hear 27 = .ok (.getfield 30, 3) := by decide +kernel
theorem dX3_hear_30 : decode cX3_hear 30 = .ok (.iload 4, 2) := by decide +kernel
theorem dX3_hear_32 : decode cX3_hear 32 = .ok (.iaload, 1) := by decide +kernel
theorem dX3_hear_33 : decode cX3_hear 33 = .ok (.iconst (-1), 1) := by decide +kernel
theorem dX3_hear_34 : decode cX3_hear 34 = .ok (.if_icmp .ne 7, 3) := by decide +kernel
theorem dX3_hear_37 : decode cX3_hear 37 = .ok (.iconst 0, 1) := by decide +kernel
theorem dX3_hear_38 : decode cX3_hear 38 = .ok (.goto 14, 3) := by decide +kernel
theorem dX3_hear_41 : decode cX3_hear 41 = .ok (.aload_n 0, 1) := by decide +kernel
theorem dX3_hear_42 : decode cX3_hear 42 = .ok (.aload_n 0, 1) := by decide +kernel
theorem dX3_hear_43 : decode cX3_hear 43 = .ok (.getfield 30, 3) := by decide +kernel
theorem dX3_hear_46 : decode cX3_hear 46 = .ok (.iload 4, 2) := by decide +kernel
theorem dX3_hear_48 : decode cX3_hear 48 = .ok (.iaload, 1) := by decide +kernel
theorem dX3_hear_49 : decode cX3_hear 49 = .ok (.invokevirtual 51, 3) := by decide +kernel
theorem dX3_hear_52 : decode cX3_hear 52 = .ok (.istore 5, 2) := by decide +kernel
theorem dX3_hear_54 : decode cX3_hear 54 = .ok (.iload 5, 2) := by decide +kernel
theorem dX3_hear_56 : decode cX3_hear 56 = .ok (.aload_n 0, 1) := by decide +kernel
theorem dX3_hear_57 : decode cX3_hear 57 = .ok (.getfield 48, 3) := by decide +kernel
theorem dX3_hear_60 : decode cX3_hear 60 = .ok (.if_icmp .gt 31, 3) := by decide +kernel
theorem dX3_hear_63 : decode cX3_hear 63 = .ok (.iload 5, 2) := by decide +kernel
theorem dX3_hear_65 : decode cX3_hear 65 = .ok (.ifCond .le 43, 3) := by decide +kernel
theorem dX3_hear_68 : decode cX3_hear 68 = .ok (.iload 5, 2) := by decide +kernel
theorem dX3_hear_70 : decode cX3_hear 70 = .ok (.aload_n 0, 1) := by decide +kernel
theorem dX3_hear_71 : decode cX3_hear 71 = .ok (.getfield 48, 3) := by decide +kernel
theorem dX3_hear_74 : decode cX3_hear 74 = .ok (.if_icmp .ne 34, 3) := by decide +kernel
theorem dX3_hear_77 : decode cX3_hear 77 = .ok (.aload_n 0, 1) := by decide +kernel
theorem dX3_hear_78 : decode cX3_hear 78 = .ok (.getfield 30, 3) := by decide +kernel
theorem dX3_hear_81 : decode cX3_hear 81 = .ok (.iload 4, 2) := by decide +kernel
theorem dX3_hear_83 : decode cX3_hear 83 = .ok (.iaload, 1) := by decide +kernel
theorem dX3_hear_84 : decode cX3_hear 84 = .ok (.aload_n 0, 1) := by decide +kernel
theorem dX3_hear_85 : decode cX3_hear 85 = .ok (.getfield 33, 3) := by decide +kernel
theorem dX3_hear_88 : decode cX3_hear 88 = .ok (.if_icmp .ge 20, 3) := by decide +kernel
theorem dX3_hear_91 : decode cX3_hear 91 = .ok (.aload_n 0, 1) := by decide +kernel
theorem dX3_hear_92 : decode cX3_hear 92 = .ok (.aload_n 0, 1) := by decide +kernel
theorem dX3_hear_93 : decode cX3_hear 93 = .ok (.getfield 30, 3) := by decide +kernel
theorem dX3_hear_96 : decode cX3_hear 96 = .ok (.iload 4, 2) := by decide +kernel
theorem dX3_hear_98 : decode cX3_hear 98 = .ok (.iaload, 1) := by decide +kernel
theorem dX3_hear_99 : decode cX3_hear 99 = .ok (.putfield 33, 3) := by decide +kernel
theorem dX3_hear_102 : decode cX3_hear 102 = .ok (.aload_n 0, 1) := by decide +kernel
theorem dX3_hear_103 : decode cX3_hear 103 = .ok (.iload 5, 2) := by decide +kernel
theorem dX3_hear_105 : decode cX3_hear 105 = .ok (.putfield 48, 3) := by decide +kernel
theorem dX3_hear_108 : decode cX3_hear 108 = .ok (.iinc 4 1, 3) := by decide +kernel
theorem dX3_hear_111 : decode cX3_hear 111 = .ok (.goto (-91), 3) := by decide +kernel
theorem dX3_hear_114 : decode cX3_hear 114 = .ok (.return_, 1) := by decide +kernel
theorem dX3_gatherVoices_0 : decode cX3_gatherVoices 0 = .ok (.aload_n 0, 1) := by decide +kernel
theorem dX3_gatherVoices_1 : decode cX3_gatherVoices 1 = .ok (.getfield 30, 3) := by decide +kernel
theorem dX3_gatherVoices_4 : decode cX3_gatherVoices 4 = .ok (.iconst (-1), 1) := by decide +kernel
theorem dX3_gatherVoices_5 : decode cX3_gatherVoices 5 = .ok (.invokestatic 55, 3) := by decide +kernel
theorem dX3_gatherVoices_8 : decode cX3_gatherVoices 8 = .ok (.iconst 0, 1) := by decide +kernel
theorem dX3_gatherVoices_9 : decode cX3_gatherVoices 9 = .ok (.istore 4, 2) := by decide +kernel
theorem dX3_gatherVoices_11 : decode cX3_gatherVoices 11 = .ok (.iload 4, 2) := by decide +kernel
theorem dX3_gatherVoices_13 : decode cX3_gatherVoices 13 = .ok (.aload_n 0, 1) := by decide +kernel
theorem dX3_gatherVoices_14 : decode cX3_gatherVoices 14 = .ok (.getfield 37, 3) := by decide +kernel
theorem dX3_gatherVoices_17 : decode cX3_gatherVoices 17 = .ok (.if_icmp .ge 107, 3) := by decide +kernel
theorem dX3_gatherVoices_20 : decode cX3_gatherVoices 20 = .ok (.aload_n 0, 1) := by decide +kernel
theorem dX3_gatherVoices_21 : decode cX3_gatherVoices 21 = .ok (.getfield 15, 3) := by decide +kernel
theorem dX3_gatherVoices_24 : decode cX3_gatherVoices 24 = .ok (.iload 4, 2) := by decide +kernel
theorem dX3_gatherVoices_26 : decode cX3_gatherVoices 26 = .ok (.iaload, 1) := by decide +kernel
theorem dX3_gatherVoices_27 : decode cX3_gatherVoices 27 = .ok (.iload_n 1, 1) := by decide +kernel
theorem dX3_gatherVoices_28 : decode cX3_gatherVoices 28 = .ok (.if_icmp .ne 18, 3) := by decide +kernel
theorem dX3_gatherVoices_31 : decode cX3_gatherVoices 31 = .ok (.aload_n 0, 1) := by decide +kernel
theorem dX3_gatherVoices_32 : decode cX3_gatherVoices 32 = .ok (.getfield 18, 3) := by decide +kernel
theorem dX3_gatherVoices_35 : decode cX3_gatherVoices 35 = .ok (.iload 4, 2) := by decide +kernel
theorem dX3_gatherVoices_37 : decode cX3_gatherVoices 37 = .ok (.iaload, 1) := by decide +kernel
theorem dX3_gatherVoices_38 : decode cX3_gatherVoices 38 = .ok (.iload_n 2, 1) := by decide +kernel
theorem dX3_gatherVoices_39 : decode cX3_gatherVoices 39 = .ok (.if_icmp .ne 7, 3) := by decide +kernel
theorem dX3_gatherVoices_42 : decode cX3_gatherVoices 42 = .ok (.iconst 1, 1) := by decide +kernel
theorem dX3_gatherVoices_43 : decode cX3_gatherVoices 43 = .ok (.goto 4, 3) := by decide +kernel
theorem dX3_gatherVoices_46 : decode cX3_gatherVoices 46 = .ok (.iconst 0, 1) := by decide +kernel
theorem dX3_gatherVoices_47 : decode cX3_gatherVoices 47 = .ok (.istore 5, 2) := by decide +kernel
theorem dX3_gatherVoices_49 : decode cX3_gatherVoices 49 = .ok (.aload_n 0, 1) := by decide +kernel
theorem dX3_gatherVoices_50 : decode cX3_gatherVoices 50 = .ok (.getfield 27, 3) := by decide +kernel
theorem dX3_gatherVoices_53 : decode cX3_gatherVoices 53 = .ok (.iload 4, 2) := by decide +kernel
theorem dX3_gatherVoices_55 : decode cX3_gatherVoices 55 = .ok (.iaload, 1) := by decide +kernel
theorem dX3_gatherVoices_56 : decode cX3_gatherVoices 56 = .ok (.iconst (-1), 1) := by decide +kernel
theorem dX3_gatherVoices_57 : decode cX3_gatherVoices 57 = .ok (.if_icmp .eq 18, 3) := by decide +kernel
theorem dX3_gatherVoices_60 : decode cX3_gatherVoices 60 = .ok (.aload_n 0, 1) := by decide +kernel
theorem dX3_gatherVoices_61 : decode cX3_gatherVoices 61 = .ok (.getfield 27, 3) := by decide +kernel
theorem dX3_gatherVoices_64 : decode cX3_gatherVoices 64 = .ok (.iload 4, 2) := by decide +kernel
theorem dX3_gatherVoices_66 : decode cX3_gatherVoices 66 = .ok (.iaload, 1) := by decide +kernel
theorem dX3_gatherVoices_67 : decode cX3_gatherVoices 67 = .ok (.iload_n 3, 1) := by decide +kernel
theorem dX3_gatherVoices_68 : decode cX3_gatherVoices 68 = .ok (.if_icmp .gt 7, 3) := by decide +kernel
theorem dX3_gatherVoices_71 : decode cX3_gatherVoices 71 = .ok (.iconst 1, 1) := by decide +kernel
theorem dX3_gatherVoices_72 : decode cX3_gatherVoices 72 = .ok (.goto 4, 3) := by decide +kernel
theorem dX3_gatherVoices_75 : decode cX3_gatherVoices 75 = .ok (.iconst 0, 1) := by decide +kernel
theorem dX3_gatherVoices_76 : decode cX3_gatherVoices 76 = .ok (.istore 6, 2) := by decide +kernel
theorem dX3_gatherVoices_78 : decode cX3_gatherVoices 78 = .ok (.iload 5, 2) := by decide +kernel
theorem dX3_gatherVoices_80 : decode cX3_gatherVoices 80 = .ok (.ifCond .eq 38, 3) := by decide +kernel
theorem dX3_gatherVoices_83 : decode cX3_gatherVoices 83 = .ok (.aload_n 0, 1) := by decide +kernel
theorem dX3_gatherVoices_84 : decode cX3_gatherVoices 84 = .ok (.getfield 24, 3) := by decide +kernel
theorem dX3_gatherVoices_87 : decode cX3_gatherVoices 87 = .ok (.iload 4, 2) := by decide +kernel
theorem dX3_gatherVoices_89 : decode cX3_gatherVoices 89 = .ok (.iaload, 1) := by decide +kernel
theorem dX3_gatherVoices_90 : decode cX3_gatherVoices 90 = .ok (.iload_n 3, 1) := by decide +kernel
theorem dX3_gatherVoices_91 : decode cX3_gatherVoices 91 = .ok (.if_icmp .gt 27, 3) := by decide +kernel
theorem dX3_gatherVoices_94 : decode cX3_gatherVoices 94 = .ok (.iload 6, 2) := by decide +kernel
theorem dX3_gatherVoices_96 : decode cX3_gatherVoices 96 = .ok (.ifCond .ne 22, 3) := by decide +kernel
theorem dX3_gatherVoices_99 : decode cX3_gatherVoices 99 = .ok (.aload_n 0, 1) := by decide +kernel
theorem dX3_gatherVoices_100 : decode cX3_gatherVoices 100 = .ok (.getfield 30, 3) := by decide +kernel
theorem dX3_gatherVoices_103 : decode cX3_gatherVoices 103 = .ok (.aload_n 0, 1) := by decide +kernel
theorem dX3_gatherVoices_104 : decode cX3_gatherVoices 104 = .ok (.getfield 9, 3) := by decide +kernel
theorem dX3_gatherVoices_107 : decode cX3_gatherVoices 107 = .ok (.iload 4, 2) := by decide +kernel
theorem dX3_gatherVoices_109 : decode cX3_gatherVoices 109 = .ok (.iaload, 1) := by decide +kernel
theorem dX3_gatherVoices_110 : decode cX3_gatherVoices 110 = .ok (.aload_n 0, 1) := by decide +kernel
theorem dX3_gatherVoices_111 : decode cX3_gatherVoices 111 = .ok (.getfield 21, 3) := by decide +kernel
theorem dX3_gatherVoices_114 : decode cX3_gatherVoices 114 = .ok (.iload 4, 2) := by decide +kernel
theorem dX3_gatherVoices_116 : decode cX3_gatherVoices 116 = .ok (.iaload, 1) := by decide +kernel
theorem dX3_gatherVoices_117 : decode cX3_gatherVoices 117 = .ok (.iastore, 1) := by decide +kernel
theorem dX3_gatherVoices_118 : decode cX3_gatherVoices 118 = .ok (.iinc 4 1, 3) := by decide +kernel
theorem dX3_gatherVoices_121 : decode cX3_gatherVoices 121 = .ok (.goto (-110), 3) := by decide +kernel
theorem dX3_gatherVoices_124 : decode cX3_gatherVoices 124 = .ok (.return_, 1) := by decide +kernel
theorem dX3_voicesFor_0 : decode cX3_voicesFor 0 = .ok (.iconst 0, 1) := by decide +kernel
theorem dX3_voicesFor_1 : decode cX3_voicesFor 1 = .ok (.istore_n 2, 1) := by decide +kernel
theorem dX3_voicesFor_2 : decode cX3_voicesFor 2 = .ok (.iconst 0, 1) := by decide +kernel
theorem dX3_voicesFor_3 : decode cX3_voicesFor 3 = .ok (.istore_n 3, 1) := by decide +kernel
theorem dX3_voicesFor_4 : decode cX3_voicesFor 4 = .ok (.iload_n 3, 1) := by decide +kernel
theorem dX3_voicesFor_5 : decode cX3_voicesFor 5 = .ok (.iconst 5, 1) := by decide +kernel
theorem dX3_voicesFor_6 : decode cX3_voicesFor 6 = .ok (.if_icmp .ge 22, 3) := by decide +kernel
theorem dX3_voicesFor_9 : decode cX3_voicesFor 9 = .ok (.aload_n 0, 1) := by decide +kernel
theorem dX3_voicesFor_10 : decode cX3_voicesFor 10 = .ok (.getfield 30, 3) := by decide +kernel
theorem dX3_voicesFor_13 : decode cX3_voicesFor 13 = .ok (.iload_n 3, 1) := by decide +kernel
theorem dX3_voicesFor_14 : decode cX3_voicesFor 14 = .ok (.iaload, 1) := by decide +kernel
theorem dX3_voicesFor_15 : decode cX3_voicesFor 15 = .ok (.iload_n 1, 1) := by decide +kernel
theorem dX3_voicesFor_16 : decode cX3_voicesFor 16 = .ok (.if_icmp .ne 6, 3) := by decide +kernel
theorem dX3_voicesFor_19 : decode cX3_voicesFor 19 = .ok (.iinc 2 1, 3) := by decide +kernel
theorem dX3_voicesFor_22 : decode cX3_voicesFor 22 = .ok (.iinc 3 1, 3) := by decide +kernel
theorem dX3_voicesFor_25 : decode cX3_voicesFor 25 = .ok (.goto (-21), 3) := by decide +kernel
theorem dX3_voicesFor_28 : decode cX3_voicesFor 28 = .ok (.iload_n 2, 1) := by decide +kernel
theorem dX3_voicesFor_29 : decode cX3_voicesFor 29 = .ok (.ireturn, 1) := by decide +kernel
theorem dX4_init_0 : decode cX4_init 0 = .ok (.aload_n 0, 1) := by decide +kernel
theorem dX4_init_1 : decode cX4_init 1 = .ok (.invokespecial 3, 3) := by decide +kernel
theorem dX4_init_4 : decode cX4_init 4 = .ok (.aload_n 0, 1) := by decide +kernel
theorem dX4_init_5 : decode cX4_init 5 = .ok (.new 9, 3) := by decide +kernel
theorem dX4_init_8 : decode cX4_init 8 = .ok (.dup, 1) := by decide +kernel
theorem dX4_init_9 : decode cX4_init 9 = .ok (.invokespecial 11, 3) := by decide +kernel
theorem dX4_init_12 : decode cX4_init 12 = .ok (.putfield 12, 3) := by decide +kernel
theorem dX4_init_15 : decode cX4_init 15 = .ok (.aload_n 0, 1) := by decide +kernel
theorem dX4_init_16 : decode cX4_init 16 = .ok (.new 18, 3) := by decide +kernel
theorem dX4_init_19 : decode cX4_init 19 = .ok (.dup, 1) := by decide +kernel
theorem dX4_init_20 : decode cX4_init 20 = .ok (.invokespecial 20, 3) := by decide +kernel
theorem dX4_init_23 : decode cX4_init 23 = .ok (.putfield 21, 3) := by decide +kernel
theorem dX4_init_26 : decode cX4_init 26 = .ok (.aload_n 0, 1) := by decide +kernel
theorem dX4_init_27 : decode cX4_init 27 = .ok (.new 18, 3) := by decide +kernel
theorem dX4_init_30 : decode cX4_init 30 = .ok (.dup, 1) := by decide +kernel
theorem dX4_init_31 : decode cX4_init 31 = .ok (.invokespecial 20, 3) := by decide +kernel
theorem dX4_init_34 : decode cX4_init 34 = .ok (.putfield 25, 3) := by decide +kernel
theorem dX4_init_37 : decode cX4_init 37 = .ok (.aload_n 0, 1) := by decide +kernel
theorem dX4_init_38 : decode cX4_init 38 = .ok (.iconst (-1), 1) := by decide +kernel
theorem dX4_init_39 : decode cX4_init 39 = .ok (.putfield 28, 3) := by decide +kernel
theorem dX4_init_42 : decode cX4_init 42 = .ok (.return_, 1) := by decide +kernel
theorem dX4_read_0 : decode cX4_read 0 = .ok (.aload_n 0, 1) := by decide +kernel
theorem dX4_read_1 : decode cX4_read 1 = .ok (.getfield 12, 3) := by decide +kernel
theorem dX4_read_4 : decode cX4_read 4 = .ok (.aload_n 1, 1) := by decide +kernel
theorem dX4_read_5 : decode cX4_read 5 = .ok (.iload_n 2, 1) := by decide +kernel
theorem dX4_read_6 : decode cX4_read 6 = .ok (.invokevirtual 32, 3) := by decide +kernel
theorem dX4_read_9 : decode cX4_read 9 = .ok (.aload_n 0, 1) := by decide +kernel
theorem dX4_read_10 : decode cX4_read 10 = .ok (.getfield 25, 3) := by decide +kernel
theorem dX4_read_13 : decode cX4_read 13 = .ok (.invokevirtual 36, 3) := by decide +kernel
theorem dX4_read_16 : decode cX4_read 16 = .ok (.aload_n 0, 1) := by decide +kernel
theorem dX4_read_17 : decode cX4_read 17 = .ok (.iconst 0, 1) := by decide +kernel
theorem dX4_read_18 : decode cX4_read 18 = .ok (.putfield 39, 3) := by decide +kernel
theorem dX4_read_21 : decode cX4_read 21 = .ok (.aload_n 0, 1) := by decide +kernel
theorem dX4_read_22 : decode cX4_read 22 = .ok (.iconst 0, 1) := by decide +kernel
theorem dX4_read_23 : decode cX4_read 23 = .ok (.putfield 42, 3) := by decide +kernel
theorem dX4_read_26 : decode cX4_read 26 = .ok (.aload_n 0, 1) := by decide +kernel
theorem dX4_read_27 : decode cX4_read 27 = .ok (.iconst 0, 1) := by decide +kernel
theorem dX4_read_28 : decode cX4_read 28 = .ok (.putfield 45, 3) := by decide +kernel
theorem dX4_read_31 : decode cX4_read 31 = .ok (.iconst 1, 1) := by decide +kernel
theorem dX4_read_32 : decode cX4_read 32 = .ok (.istore_n 3, 1) := by decide +kernel
theorem dX4_read_33 : decode cX4_read 33 = .ok (.iconst 0, 1) := by decide +kernel
theorem dX4_read_34 : decode cX4_read 34 = .ok (.istore 4, 2) := by decide +kernel
theorem dX4_read_36 : decode cX4_read 36 = .ok (.iload 4, 2) := by decide +kernel
theorem dX4_read_38 : decode cX4_read 38 = .ok (.bipush 12, 2) := by decide +kernel
theorem dX4_read_40 : decode cX4_read 40 = .ok (.if_icmp .ge 25, 3) := by decide +kernel
theorem dX4_read_43 : decode cX4_read 43 = .ok (.iload_n 3, 1) := by decide +kernel
theorem dX4_read_44 : decode cX4_read 44 = .ok (.ifCond .eq 21, 3) := by decide +kernel
theorem dX4_read_47 : decode cX4_read 47 = .ok (.aload_n 0, 1) := by decide +kernel
theorem dX4_read_48 : decode cX4_read 48 = .ok (.invokevirtual 49, 3) := by decide +kernel
theorem dX4_read_51 : decode cX4_read 51 = .ok (.ifCond .eq 14, 3) := by decide +kernel
theorem dX4_read_54 : decode cX4_read 54 = .ok (.aload_n 0, 1) := by decide +kernel
theorem dX4_read_55 : decode cX4_read 55 = .ok (.invokevirtual 53, 3) := by decide +kernel
theorem dX4_read_58 : decode cX4_read 58 = .ok (.istore_n 3, 1) := by decide +kernel
theorem dX4_read_59 : decode cX4_read 59 = .ok (.iinc 4 1, 3) := by decide +kernel
theorem dX4_read_62 : decode cX4_read 62 = .ok (.goto (-26), 3) := by decide +kernel
theorem dX4_read_65 : decode cX4_read 65 = .ok (.iload_n 3, 1) := by decide +kernel
theorem dX4_read_66 : decode cX4_read 66 = .ok (.ifCond .eq 10, 3) := by decide +kernel
theorem dX4_read_69 : decode cX4_read 69 = .ok (.aload_n 0, 1) := by decide +kernel
theorem dX4_read_70 : decode cX4_read 70 = .ok (.invokevirtual 49, 3) := by decide +kernel
theorem dX4_read_73 : decode cX4_read 73 = .ok (.ifCond .eq 9, 3) := by decide +kernel
theorem dX4_read_76 : decode cX4_read 76 = .ok (.aload_n 0, 1) := by decide +kernel
theorem dX4_read_77 : decode cX4_read 77 = .ok (.invokevirtual 57, 3) := by decide +kernel
theorem dX4_read_80 : decode cX4_read 80 = .ok (.iconst (-1), 1) := by decide +kernel
theorem dX4_read_81 : decode cX4_read 81 = .ok (.ireturn, 1) := by decide +kernel
theorem dX4_read_82 : decode cX4_read 82 = .ok (.aload_n 0, 1) := by decide +kernel
theorem dX4_read_83 : decode cX4_read 83 = .ok (.iconst 0, 1) := by decide +kernel
theorem dX4_read_84 : decode cX4_read 84 = .ok (.putfield 60, 3) := by decide +kernel
theorem dX4_read_87 : decode cX4_read 87 = .ok (.aload_n 0, 1) := by decide +kernel
theorem dX4_read_88 : decode cX4_read 88 = .ok (.iconst (-1), 1) := by decide +kernel
theorem dX4_read_89 : decode cX4_read 89 = .ok (.putfield 28, 3) := by decide +kernel
theorem dX4_read_92 : decode cX4_read 92 = .ok (.aload_n 0, 1) := by decide +kernel
theorem dX4_read_93 : decode cX4_read 93 = .ok (.getfield 21, 3) := by decide +kernel
theorem dX4_read_96 : decode cX4_read 96 = .ok (.astore 4, 2) := by decide +kernel
theorem dX4_read_98 : decode cX4_read 98 = .ok (.aload_n 0, 1) := by decide +kernel
theorem dX4_read_99 : decode cX4_read 99 = .ok (.aload_n 0, 1) := by decide +kernel
theorem dX4_read_100 : decode cX4_read 100 = .ok (.getfield 25, 3) := by decide +kernel
theorem dX4_read_103 : decode cX4_read 103 = .ok (.putfield 21, 3) := by decide +kernel
theorem dX4_read_106 : decode cX4_read 106 = .ok (.aload_n 0, 1) := by decide +kernel
theorem dX4_read_107 : decode cX4_read 107 = .ok (.aload 4, 2) := by decide +kernel
theorem dX4_read_109 : decode cX4_read 109 = .ok (.putfield 25, 3) := by decide +kernel
theorem dX4_read_112 : decode cX4_read 112 = .ok (.aload_n 0, 1) := by decide +kernel
theorem dX4_read_113 : decode cX4_read 113 = .ok (.getfield 21, 3) := by decide +kernel
theorem dX4_read_116 : decode cX4_read 116 = .ok (.getfield 63, 3) := by decide +kernel
theorem dX4_read_119 : decode cX4_read 119 = .ok (.ireturn, 1) := by decide +kernel
theorem dX4_noteFault_0 : decode cX4_noteFault 0 = .ok (.aload_n 0, 1) := by decide +kernel
theorem dX4_noteFault_1 : decode cX4_noteFault 1 = .ok (.invokevirtual 49, 3) := by decide +kernel
theorem dX4_noteFault_4 : decode cX4_noteFault 4 = .ok (.iconst 1, 1) := by decide +kernel
theorem dX4_noteFault_5 : decode cX4_noteFault 5 = .ok (.if_icmp .ne 11, 3) := by decide +kernel
theorem dX4_noteFault_8 : decode cX4_noteFault 8 = .ok (.aload_n 0, 1) := by decide +kernel
theorem dX4_noteFault_9 : decode cX4_noteFault 9 = .ok (.iconst 1, 1) := by decide +kernel
theorem dX4_noteFault_10 : decode cX4_noteFault 10 = .ok (.putfield 60, 3) := by decide +kernel
theorem dX4_noteFault_13 : decode cX4_noteFault 13 = .ok (.goto 19, 3) := by decide +kernel
theorem dX4_noteFault_16 : decode cX4_noteFault 16 = .ok (.aload_n 0, 1) := by decide +kernel
theorem dX4_noteFault_17 : decode cX4_noteFault 17 = .ok (.aload_n 0, 1) := by decide +kernel
theorem dX4_noteFault_18 : decode cX4_noteFault 18 = .ok (.getfield 45, 3) := by decide +kernel
theorem dX4_noteFault_21 : decode cX4_noteFault 21 = .ok (.ifCond .eq 7, 3) := by decide +kernel
theorem dX4_noteFault_24 : decode cX4_noteFault 24 = .ok (.iconst 3, 1) := by decide +kernel
theorem dX4_noteFault_25 : decode cX4_noteFault 25 = .ok (.goto 4, 3) := by decide +kernel
theorem dX4_noteFault_28 : decode cX4_noteFault 28 = .ok (.iconst 2, 1) := by decide +kernel
theorem dX4_noteFault_29 : decode cX4_noteFault 29 = .ok (.putfield 60, 3) := by decide +kernel
theorem dX4_noteFault_32 : decode cX4_noteFault 32 = .ok (.aload_n 0, 1) := by decide +kernel
theorem dX4_noteFault_33 : decode cX4_noteFault 33 = .ok (.aload_n 0, 1) := by decide +kernel
theorem dX4_noteFault_34 : decode cX4_noteFault 34 = .ok (.getfield 39, 3) := by decide +kernel
theorem dX4_noteFault_37 : decode cX4_noteFault 37 = .ok (.aload_n 0, 1) := by decide +kernel
theorem dX4_noteFault_38 : decode cX4_noteFault 38 = .ok (.getfield 12, 3) := by decide +kernel
theorem dX4_noteFault_41 : decode cX4_noteFault 41 = .ok (.getfield 66, 3) := by decide +kernel
theorem dX4_noteFault_44 : decode cX4_noteFault 44 = .ok (.if_icmp .ge 18, 3) := by decide +kernel
theorem dX4_noteFault_47 : decode cX4_noteFault 47 = .ok (.aload_n 0, 1) := by decide +kernel
theorem dX4_noteFault_48 : decode cX4_noteFault 48 = .ok (.getfield 12, 3) := by decide +kernel
theorem dX4_noteFault_51 : decode cX4_noteFault 51 = .ok (.getfield 69, 3) := by decide +kernel
theorem dX4_noteFault_54 : decode cX4_noteFault 54 = .ok (.aload_n 0, 1) := by decide +kernel
theorem dX4_noteFault_55 : decode cX4_noteFault 55 = .ok (.getfield 39, 3) := by decide +kernel
theorem dX4_noteFault_58 : decode cX4_noteFault 58 = .ok (.saload, 1) := by decide +kernel
theorem dX4_noteFault_59 : decode cX4_noteFault 59 = .ok (.goto 4, 3) := by decide +kernel
theorem dX4_noteFault_62 : decode cX4_noteFault 62 = .ok (.iconst (-1), 1) := by decide +kernel
theorem dX4_noteFault_63 : decode cX4_noteFault 63 = .ok (.putfield 28, 3) := by decide +kernel
theorem dX4_noteFault_66 : decode cX4_noteFault 66 = .ok (.return_, 1) := by decide +kernel
theorem dX4_here_0 : decode cX4_here 0 = .ok (.aload_n 0, 1) := by decide +kernel
theorem dX4_here_1 : decode cX4_here 1 = .ok (.getfield 39, 3) := by decide +kernel
theorem dX4_here_4 : decode cX4_here 4 = .ok (.aload_n 0, 1) := by decide +kernel
theorem dX4_here_5 : decode cX4_here 5 = .ok (.getfield 12, 3) := by decide +kernel
theorem dX4_here_8 : decode cX4_here 8 = .ok (.getfield 66, 3) := by decide +kernel
theorem dX4_here_11 : decode cX4_here 11 = .ok (.if_icmp .ge 18, 3) := by decide +kernel
theorem dX4_here_14 : decode cX4_here 14 = .ok (.aload_n 0, 1) := by decide +kernel
theorem dX4_here_15 : decode cX4_here 15 = .ok (.getfield 12, 3) := by decide +kernel
theorem dX4_here_18 : decode cX4_here 18 = .ok (.getfield 73, 3) := by decide +kernel
theorem dX4_here_21 : decode cX4_here 21 = .ok (.aload_n 0, 1) := by decide +kernel
theorem dX4_here_22 : decode cX4_here 22 = .ok (.getfield 39, 3) := by decide +kernel
theorem dX4_here_25 : decode cX4_here 25 = .ok (.baload, 1) := by decide +kernel
theorem dX4_here_26 : decode cX4_here 26 = .ok (.goto 4, 3) := by decide +kernel
theorem dX4_here_29 : decode cX4_here 29 = .ok (.iconst 0, 1) := by decide +kernel
theorem dX4_here_30 : decode cX4_here 30 = .ok (.ireturn, 1) := by decide +kernel
theorem dX4_valueHere_0 : decode cX4_valueHere 0 = .ok (.aload_n 0, 1) := by decide +kernel
theorem dX4_valueHere_1 : decode cX4_valueHere 1 = .ok (.getfield 39, 3) := by decide +kernel
theorem dX4_valueHere_4 : decode cX4_valueHere 4 = .ok (.aload_n 0, 1) := by decide +kernel
theorem dX4_valueHere_5 : decode cX4_valueHere 5 = .ok (.getfield 12, 3) := by decide +kernel
theorem dX4_valueHere_8 : decode cX4_valueHere 8 = .ok (.getfield 66, 3) := by decide +kernel
theorem dX4_valueHere_11 : decode cX4_valueHere 11 = .ok (.if_icmp .ge 18, 3) := by decide +kernel
theorem dX4_valueHere_14 : decode cX4_valueHere 14 = .ok (.aload_n 0, 1) := by decide +kernel

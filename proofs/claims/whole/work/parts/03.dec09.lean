theorem dX11_init_428 : decode cX11_init 428 = .ok (.aload_n 0, 1) := by decide +kernel
theorem dX11_init_429 : decode cX11_init 429 = .ok (.getfield 22, 3) := by decide +kernel
theorem dX11_init_432 : decode cX11_init 432 = .ok (.iconst 1, 1) := by decide +kernel
theorem dX11_init_433 : decode cX11_init 433 = .ok (.bipush 60, 2) := by decide +kernel
theorem dX11_init_435 : decode cX11_init 435 = .ok (.iastore, 1) := by decide +kernel
theorem dX11_init_436 : decode cX11_init 436 = .ok (.aload_n 0, 1) := by decide +kernel
theorem dX11_init_437 : decode cX11_init 437 = .ok (.getfield 22, 3) := by decide +kernel
theorem dX11_init_440 : decode cX11_init 440 = .ok (.iconst 2, 1) := by decide +kernel
theorem dX11_init_441 : decode cX11_init 441 = .ok (.bipush 24, 2) := by decide +kernel
theorem dX11_init_443 : decode cX11_init 443 = .ok (.iastore, 1) := by decide +kernel
theorem dX11_init_444 : decode cX11_init 444 = .ok (.return_, 1) := by decide +kernel
theorem dX11_isTown_0 : decode cX11_isTown 0 = .ok (.iload_n 1, 1) := by decide +kernel
theorem dX11_isTown_1 : decode cX11_isTown 1 = .ok (.ifCond .lt 15, 3) := by decide +kernel
theorem dX11_isTown_4 : decode cX11_isTown 4 = .ok (.iload_n 1, 1) := by decide +kernel
theorem dX11_isTown_5 : decode cX11_isTown 5 = .ok (.aload_n 0, 1) := by decide +kernel
theorem dX11_isTown_6 : decode cX11_isTown 6 = .ok (.getfield 153, 3) := by decide +kernel
theorem dX11_isTown_9 : decode cX11_isTown 9 = .ok (.if_icmp .ge 7, 3) := by decide +kernel
theorem dX11_isTown_12 : decode cX11_isTown 12 = .ok (.iconst 1, 1) := by decide +kernel
theorem dX11_isTown_13 : decode cX11_isTown 13 = .ok (.goto 4, 3) := by decide +kernel
theorem dX11_isTown_16 : decode cX11_isTown 16 = .ok (.iconst 0, 1) := by decide +kernel
theorem dX11_isTown_17 : decode cX11_isTown 17 = .ok (.ireturn, 1) := by decide +kernel
theorem dX11_isKind_0 : decode cX11_isKind 0 = .ok (.iload_n 0, 1) := by decide +kernel
theorem dX11_isKind_1 : decode cX11_isKind 1 = .ok (.ifCond .lt 12, 3) := by decide +kernel
theorem dX11_isKind_4 : decode cX11_isKind 4 = .ok (.iload_n 0, 1) := by decide +kernel
theorem dX11_isKind_5 : decode cX11_isKind 5 = .ok (.iconst 3, 1) := by decide +kernel
theorem dX11_isKind_6 : decode cX11_isKind 6 = .ok (.if_icmp .ge 7, 3) := by decide +kernel
theorem dX11_isKind_9 : decode cX11_isKind 9 = .ok (.iconst 1, 1) := by decide +kernel
theorem dX11_isKind_10 : decode cX11_isKind 10 = .ok (.goto 4, 3) := by decide +kernel
theorem dX11_isKind_13 : decode cX11_isKind 13 = .ok (.iconst 0, 1) := by decide +kernel
theorem dX11_isKind_14 : decode cX11_isKind 14 = .ok (.ireturn, 1) := by decide +kernel
theorem dX11_lot_0 : decode cX11_lot 0 = .ok (.iload_n 0, 1) := by decide +kernel
theorem dX11_lot_1 : decode cX11_lot 1 = .ok (.iconst 3, 1) := by decide +kernel
theorem dX11_lot_2 : decode cX11_lot 2 = .ok (.imul, 1) := by decide +kernel
theorem dX11_lot_3 : decode cX11_lot 3 = .ok (.iload_n 1, 1) := by decide +kernel
theorem dX11_lot_4 : decode cX11_lot 4 = .ok (.iadd, 1) := by decide +kernel
theorem dX11_lot_5 : decode cX11_lot 5 = .ok (.bipush 61, 2) := by decide +kernel
theorem dX11_lot_7 : decode cX11_lot 7 = .ok (.imul, 1) := by decide +kernel
theorem dX11_lot_8 : decode cX11_lot 8 = .ok (.iload_n 2, 1) := by decide +kernel
theorem dX11_lot_9 : decode cX11_lot 9 = .ok (.iadd, 1) := by decide +kernel
theorem dX11_lot_10 : decode cX11_lot 10 = .ok (.ireturn, 1) := by decide +kernel
theorem dX11_town_0 : decode cX11_town 0 = .ok (.iload_n 1, 1) := by decide +kernel
theorem dX11_town_1 : decode cX11_town 1 = .ok (.ifCond .lt 40, 3) := by decide +kernel
theorem dX11_town_4 : decode cX11_town 4 = .ok (.iload_n 1, 1) := by decide +kernel
theorem dX11_town_5 : decode cX11_town 5 = .ok (.ldc 156, 2) := by decide +kernel
theorem dX11_town_7 : decode cX11_town 7 = .ok (.if_icmp .gt 34, 3) := by decide +kernel
theorem dX11_town_10 : decode cX11_town 10 = .ok (.iload_n 2, 1) := by decide +kernel
theorem dX11_town_11 : decode cX11_town 11 = .ok (.ifCond .lt 30, 3) := by decide +kernel
theorem dX11_town_14 : decode cX11_town 14 = .ok (.iload_n 2, 1) := by decide +kernel
theorem dX11_town_15 : decode cX11_town 15 = .ok (.sipush 1000, 3) := by decide +kernel
theorem dX11_town_18 : decode cX11_town 18 = .ok (.if_icmp .gt 23, 3) := by decide +kernel
theorem dX11_town_21 : decode cX11_town 21 = .ok (.iload_n 3, 1) := by decide +kernel
theorem dX11_town_22 : decode cX11_town 22 = .ok (.ifCond .lt 19, 3) := by decide +kernel
theorem dX11_town_25 : decode cX11_town 25 = .ok (.iload_n 3, 1) := by decide +kernel
theorem dX11_town_26 : decode cX11_town 26 = .ok (.sipush 500, 3) := by decide +kernel
theorem dX11_town_29 : decode cX11_town 29 = .ok (.if_icmp .gt 12, 3) := by decide +kernel
theorem dX11_town_32 : decode cX11_town 32 = .ok (.aload_n 0, 1) := by decide +kernel
theorem dX11_town_33 : decode cX11_town 33 = .ok (.getfield 153, 3) := by decide +kernel
theorem dX11_town_36 : decode cX11_town 36 = .ok (.bipush 8, 2) := by decide +kernel
theorem dX11_town_38 : decode cX11_town 38 = .ok (.if_icmp .ne 5, 3) := by decide +kernel
theorem dX11_town_41 : decode cX11_town 41 = .ok (.iconst (-1), 1) := by decide +kernel
theorem dX11_town_42 : decode cX11_town 42 = .ok (.ireturn, 1) := by decide +kernel
theorem dX11_town_43 : decode cX11_town 43 = .ok (.aload_n 0, 1) := by decide +kernel
theorem dX11_town_44 : decode cX11_town 44 = .ok (.getfield 7, 3) := by decide +kernel
theorem dX11_town_47 : decode cX11_town 47 = .ok (.aload_n 0, 1) := by decide +kernel
theorem dX11_town_48 : decode cX11_town 48 = .ok (.getfield 153, 3) := by decide +kernel
theorem dX11_town_51 : decode cX11_town 51 = .ok (.iload_n 1, 1) := by decide +kernel
theorem dX11_town_52 : decode cX11_town 52 = .ok (.iastore, 1) := by decide +kernel
theorem dX11_town_53 : decode cX11_town 53 = .ok (.aload_n 0, 1) := by decide +kernel
theorem dX11_town_54 : decode cX11_town 54 = .ok (.getfield 13, 3) := by decide +kernel
theorem dX11_town_57 : decode cX11_town 57 = .ok (.aload_n 0, 1) := by decide +kernel
theorem dX11_town_58 : decode cX11_town 58 = .ok (.getfield 153, 3) := by decide +kernel
theorem dX11_town_61 : decode cX11_town 61 = .ok (.iload_n 2, 1) := by decide +kernel
theorem dX11_town_62 : decode cX11_town 62 = .ok (.iastore, 1) := by decide +kernel
theorem dX11_town_63 : decode cX11_town 63 = .ok (.aload_n 0, 1) := by decide +kernel
theorem dX11_town_64 : decode cX11_town 64 = .ok (.getfield 16, 3) := by decide +kernel
theorem dX11_town_67 : decode cX11_town 67 = .ok (.aload_n 0, 1) := by decide +kernel
theorem dX11_town_68 : decode cX11_town 68 = .ok (.getfield 153, 3) := by decide +kernel
theorem dX11_town_71 : decode cX11_town 71 = .ok (.iload_n 3, 1) := by decide +kernel
theorem dX11_town_72 : decode cX11_town 72 = .ok (.iastore, 1) := by decide +kernel
theorem dX11_town_73 : decode cX11_town 73 = .ok (.aload_n 0, 1) := by decide +kernel
theorem dX11_town_74 : decode cX11_town 74 = .ok (.dup, 1) := by decide +kernel
theorem dX11_town_75 : decode cX11_town 75 = .ok (.getfield 153, 3) := by decide +kernel
theorem dX11_town_78 : decode cX11_town 78 = .ok (.iconst 1, 1) := by decide +kernel
theorem dX11_town_79 : decode cX11_town 79 = .ok (.iadd, 1) := by decide +kernel
theorem dX11_town_80 : decode cX11_town 80 = .ok (.putfield 153, 3) := by decide +kernel
theorem dX11_town_83 : decode cX11_town 83 = .ok (.aload_n 0, 1) := by decide +kernel
theorem dX11_town_84 : decode cX11_town 84 = .ok (.getfield 153, 3) := by decide +kernel
theorem dX11_town_87 : decode cX11_town 87 = .ok (.iconst 1, 1) := by decide +kernel
theorem dX11_town_88 : decode cX11_town 88 = .ok (.isub, 1) := by decide +kernel
theorem dX11_town_89 : decode cX11_town 89 = .ok (.ireturn, 1) := by decide +kernel
theorem dX11_way_0 : decode cX11_way 0 = .ok (.aload_n 0, 1) := by decide +kernel
theorem dX11_way_1 : decode cX11_way 1 = .ok (.iload_n 1, 1) := by decide +kernel
theorem dX11_way_2 : decode cX11_way 2 = .ok (.invokevirtual 157, 3) := by decide +kernel
theorem dX11_way_5 : decode cX11_way 5 = .ok (.ifCond .eq 32, 3) := by decide +kernel
theorem dX11_way_8 : decode cX11_way 8 = .ok (.aload_n 0, 1) := by decide +kernel
theorem dX11_way_9 : decode cX11_way 9 = .ok (.iload_n 2, 1) := by decide +kernel
theorem dX11_way_10 : decode cX11_way 10 = .ok (.invokevirtual 157, 3) := by decide +kernel
theorem dX11_way_13 : decode cX11_way 13 = .ok (.ifCond .eq 24, 3) := by decide +kernel
theorem dX11_way_16 : decode cX11_way 16 = .ok (.iload_n 1, 1) := by decide +kernel
theorem dX11_way_17 : decode cX11_way 17 = .ok (.iload_n 2, 1) := by decide +kernel
theorem dX11_way_18 : decode cX11_way 18 = .ok (.if_icmp .eq 19, 3) := by decide +kernel
theorem dX11_way_21 : decode cX11_way 21 = .ok (.iload_n 3, 1) := by decide +kernel
theorem dX11_way_22 : decode cX11_way 22 = .ok (.ifCond .eq 15, 3) := by decide +kernel
theorem dX11_way_25 : decode cX11_way 25 = .ok (.iload_n 3, 1) := by decide +kernel
theorem dX11_way_26 : decode cX11_way 26 = .ok (.iconst (-1), 1) := by decide +kernel
theorem dX11_way_27 : decode cX11_way 27 = .ok (.if_icmp .lt 10, 3) := by decide +kernel
theorem dX11_way_30 : decode cX11_way 30 = .ok (.iload_n 3, 1) := by decide +kernel
theorem dX11_way_31 : decode cX11_way 31 = .ok (.sipush 200, 3) := by decide +kernel
theorem dX11_way_34 : decode cX11_way 34 = .ok (.if_icmp .le 5, 3) := by decide +kernel
theorem dX11_way_37 : decode cX11_way 37 = .ok (.iconst 0, 1) := by decide +kernel
theorem dX11_way_38 : decode cX11_way 38 = .ok (.ireturn, 1) := by decide +kernel
theorem dX11_way_39 : decode cX11_way 39 = .ok (.aload_n 0, 1) := by decide +kernel
theorem dX11_way_40 : decode cX11_way 40 = .ok (.getfield 19, 3) := by decide +kernel
theorem dX11_way_43 : decode cX11_way 43 = .ok (.bipush 8, 2) := by decide +kernel
theorem dX11_way_45 : decode cX11_way 45 = .ok (.iload_n 1, 1) := by decide +kernel
theorem dX11_way_46 : decode cX11_way 46 = .ok (.imul, 1) := by decide +kernel
theorem dX11_way_47 : decode cX11_way 47 = .ok (.iload_n 2, 1) := by decide +kernel
theorem dX11_way_48 : decode cX11_way 48 = .ok (.iadd, 1) := by decide +kernel
theorem dX11_way_49 : decode cX11_way 49 = .ok (.iload_n 3, 1) := by decide +kernel
theorem dX11_way_50 : decode cX11_way 50 = .ok (.iastore, 1) := by decide +kernel
theorem dX11_way_51 : decode cX11_way 51 = .ok (.aload_n 0, 1) := by decide +kernel
theorem dX11_way_52 : decode cX11_way 52 = .ok (.getfield 19, 3) := by decide +kernel
theorem dX11_way_55 : decode cX11_way 55 = .ok (.bipush 8, 2) := by decide +kernel
theorem dX11_way_57 : decode cX11_way 57 = .ok (.iload_n 2, 1) := by decide +kernel
theorem dX11_way_58 : decode cX11_way 58 = .ok (.imul, 1) := by decide +kernel
theorem dX11_way_59 : decode cX11_way 59 = .ok (.iload_n 1, 1) := by decide +kernel
theorem dX11_way_60 : decode cX11_way 60 = .ok (.iadd, 1) := by decide +kernel
theorem dX11_way_61 : decode cX11_way 61 = .ok (.iload_n 3, 1) := by decide +kernel
theorem dX11_way_62 : decode cX11_way 62 = .ok (.iastore, 1) := by decide +kernel
theorem dX11_way_63 : decode cX11_way 63 = .ok (.iconst 1, 1) := by decide +kernel
theorem dX11_way_64 : decode cX11_way 64 = .ok (.ireturn, 1) := by decide +kernel
theorem dX11_keeps_0 : decode cX11_keeps 0 = .ok (.iload_n 1, 1) := by decide +kernel
theorem dX11_keeps_1 : decode cX11_keeps 1 = .ok (.invokestatic 161, 3) := by decide +kernel
theorem dX11_keeps_4 : decode cX11_keeps 4 = .ok (.ifCond .eq 14, 3) := by decide +kernel
theorem dX11_keeps_7 : decode cX11_keeps 7 = .ok (.iload_n 2, 1) := by decide +kernel
theorem dX11_keeps_8 : decode cX11_keeps 8 = .ok (.iconst 1, 1) := by decide +kernel
theorem dX11_keeps_9 : decode cX11_keeps 9 = .ok (.if_icmp .lt 9, 3) := by decide +kernel
theorem dX11_keeps_12 : decode cX11_keeps 12 = .ok (.iload_n 2, 1) := by decide +kernel
theorem dX11_keeps_13 : decode cX11_keeps 13 = .ok (.bipush 60, 2) := by decide +kernel
theorem dX11_keeps_15 : decode cX11_keeps 15 = .ok (.if_icmp .le 5, 3) := by decide +kernel
theorem dX11_keeps_18 : decode cX11_keeps 18 = .ok (.iconst 0, 1) := by decide +kernel
theorem dX11_keeps_19 : decode cX11_keeps 19 = .ok (.ireturn, 1) := by decide +kernel
theorem dX11_keeps_20 : decode cX11_keeps 20 = .ok (.aload_n 0, 1) := by decide +kernel
theorem dX11_keeps_21 : decode cX11_keeps 21 = .ok (.getfield 22, 3) := by decide +kernel
theorem dX11_keeps_24 : decode cX11_keeps 24 = .ok (.iload_n 1, 1) := by decide +kernel
theorem dX11_keeps_25 : decode cX11_keeps 25 = .ok (.iload_n 2, 1) := by decide +kernel
theorem dX11_keeps_26 : decode cX11_keeps 26 = .ok (.iastore, 1) := by decide +kernel
theorem dX11_keeps_27 : decode cX11_keeps 27 = .ok (.iconst 1, 1) := by decide +kernel
theorem dX11_keeps_28 : decode cX11_keeps 28 = .ok (.ireturn, 1) := by decide +kernel
theorem dX11_inStore_0 : decode cX11_inStore 0 = .ok (.iconst 0, 1) := by decide +kernel
theorem dX11_inStore_1 : decode cX11_inStore 1 = .ok (.istore_n 2, 1) := by decide +kernel
theorem dX11_inStore_2 : decode cX11_inStore 2 = .ok (.iload_n 1, 1) := by decide +kernel
theorem dX11_inStore_3 : decode cX11_inStore 3 = .ok (.iconst 0, 1) := by decide +kernel
theorem dX11_inStore_4 : decode cX11_inStore 4 = .ok (.iconst 0, 1) := by decide +kernel
theorem dX11_inStore_5 : decode cX11_inStore 5 = .ok (.invokestatic 164, 3) := by decide +kernel
theorem dX11_inStore_8 : decode cX11_inStore 8 = .ok (.istore_n 3, 1) := by decide +kernel
theorem dX11_inStore_9 : decode cX11_inStore 9 = .ok (.iload_n 3, 1) := by decide +kernel
theorem dX11_inStore_10 : decode cX11_inStore 10 = .ok (.iload_n 1, 1) := by decide +kernel
theorem dX11_inStore_11 : decode cX11_inStore 11 = .ok (.iconst 1, 1) := by decide +kernel
theorem dX11_inStore_12 : decode cX11_inStore 12 = .ok (.iadd, 1) := by decide +kernel
theorem dX11_inStore_13 : decode cX11_inStore 13 = .ok (.iconst 0, 1) := by decide +kernel
theorem dX11_inStore_14 : decode cX11_inStore 14 = .ok (.iconst 0, 1) := by decide +kernel
theorem dX11_inStore_15 : decode cX11_inStore 15 = .ok (.invokestatic 164, 3) := by decide +kernel
theorem dX11_inStore_18 : decode cX11_inStore 18 = .ok (.if_icmp .ge 18, 3) := by decide +kernel
theorem dX11_inStore_21 : decode cX11_inStore 21 = .ok (.iload_n 2, 1) := by decide +kernel
theorem dX11_inStore_22 : decode cX11_inStore 22 = .ok (.aload_n 0, 1) := by decide +kernel
theorem dX11_inStore_23 : decode cX11_inStore 23 = .ok (.getfield 25, 3) := by decide +kernel
theorem dX11_inStore_26 : decode cX11_inStore 26 = .ok (.iload_n 3, 1) := by decide +kernel
theorem dX11_inStore_27 : decode cX11_inStore 27 = .ok (.iaload, 1) := by decide +kernel
theorem dX11_inStore_28 : decode cX11_inStore 28 = .ok (.iadd, 1) := by decide +kernel
theorem dX11_inStore_29 : decode cX11_inStore 29 = .ok (.istore_n 2, 1) := by decide +kernel
theorem dX11_inStore_30 : decode cX11_inStore 30 = .ok (.iinc 3 1, 3) := by decide +kernel
theorem dX11_inStore_33 : decode cX11_inStore 33 = .ok (.goto (-24), 3) := by decide +kernel
theorem dX11_inStore_36 : decode cX11_inStore 36 = .ok (.iload_n 2, 1) := by decide +kernel
theorem dX11_inStore_37 : decode cX11_inStore 37 = .ok (.ireturn, 1) := by decide +kernel
theorem dX11_space_0 : decode cX11_space 0 = .ok (.aload_n 0, 1) := by decide +kernel
theorem dX11_space_1 : decode cX11_space 1 = .ok (.getfield 7, 3) := by decide +kernel
theorem dX11_space_4 : decode cX11_space 4 = .ok (.iload_n 1, 1) := by decide +kernel
theorem dX11_space_5 : decode cX11_space 5 = .ok (.iaload, 1) := by decide +kernel
theorem dX11_space_6 : decode cX11_space 6 = .ok (.aload_n 0, 1) := by decide +kernel
theorem dX11_space_7 : decode cX11_space 7 = .ok (.iload_n 1, 1) := by decide +kernel
theorem dX11_space_8 : decode cX11_space 8 = .ok (.invokevirtual 168, 3) := by decide +kernel
theorem dX11_space_11 : decode cX11_space 11 = .ok (.isub, 1) := by decide +kernel
theorem dX11_space_12 : decode cX11_space 12 = .ok (.ireturn, 1) := by decide +kernel
theorem dX11_comeIn_0 : decode cX11_comeIn 0 = .ok (.iload 4, 2) := by decide +kernel
theorem dX11_comeIn_2 : decode cX11_comeIn 2 = .ok (.aload_n 0, 1) := by decide +kernel
theorem dX11_comeIn_3 : decode cX11_comeIn 3 = .ok (.iload_n 1, 1) := by decide +kernel
theorem dX11_comeIn_4 : decode cX11_comeIn 4 = .ok (.invokevirtual 172, 3) := by decide +kernel
theorem dX11_comeIn_7 : decode cX11_comeIn 7 = .ok (.if_icmp .ge 8, 3) := by decide +kernel
theorem dX11_comeIn_10 : decode cX11_comeIn 10 = .ok (.iload 4, 2) := by decide +kernel
theorem dX11_comeIn_12 : decode cX11_comeIn 12 = .ok (.goto 8, 3) := by decide +kernel
theorem dX11_comeIn_15 : decode cX11_comeIn 15 = .ok (.aload_n 0, 1) := by decide +kernel
theorem dX11_comeIn_16 : decode cX11_comeIn 16 = .ok (.iload_n 1, 1) := by decide +kernel
theorem dX11_comeIn_17 : decode cX11_comeIn 17 = .ok (.invokevirtual 172, 3) := by decide +kernel
theorem dX11_comeIn_20 : decode cX11_comeIn 20 = .ok (.istore 5, 2) := by decide +kernel
theorem dX11_comeIn_22 : decode cX11_comeIn 22 = .ok (.aload_n 0, 1) := by decide +kernel
theorem dX11_comeIn_23 : decode cX11_comeIn 23 = .ok (.getfield 25, 3) := by decide +kernel
theorem dX11_comeIn_26 : decode cX11_comeIn 26 = .ok (.iload_n 1, 1) := by decide +kernel
theorem dX11_comeIn_27 : decode cX11_comeIn 27 = .ok (.iload_n 2, 1) := by decide +kernel
theorem dX11_comeIn_28 : decode cX11_comeIn 28 = .ok (.iload_n 3, 1) := by decide +kernel
theorem dX11_comeIn_29 : decode cX11_comeIn 29 = .ok (.invokestatic 164, 3) := by decide +kernel
theorem dX11_comeIn_32 : decode cX11_comeIn 32 = .ok (.dup2, 1) := by decide +kernel
theorem dX11_comeIn_33 : decode cX11_comeIn 33 = .ok (.iaload, 1) := by decide +kernel
theorem dX11_comeIn_34 : decode cX11_comeIn 34 = .ok (.iload 5, 2) := by decide +kernel
theorem dX11_comeIn_36 : decode cX11_comeIn 36 = .ok (.iadd, 1) := by decide +kernel
theorem dX11_comeIn_37 : decode cX11_comeIn 37 = .ok (.iastore, 1) := by decide +kernel
theorem dX11_comeIn_38 : decode cX11_comeIn 38 = .ok (.aload_n 0, 1) := by decide +kernel
theorem dX11_comeIn_39 : decode cX11_comeIn 39 = .ok (.getfield 28, 3) := by decide +kernel
theorem dX11_comeIn_42 : decode cX11_comeIn 42 = .ok (.iconst 2, 1) := by decide +kernel
theorem dX11_comeIn_43 : decode cX11_comeIn 43 = .ok (.dup2, 1) := by decide +kernel
theorem dX11_comeIn_44 : decode cX11_comeIn 44 = .ok (.iaload, 1) := by decide +kernel
theorem dX11_comeIn_45 : decode cX11_comeIn 45 = .ok (.iload 4, 2) := by decide +kernel
theorem dX11_comeIn_47 : decode cX11_comeIn 47 = .ok (.iload 5, 2) := by decide +kernel
theorem dX11_comeIn_49 : decode cX11_comeIn 49 = .ok (.isub, 1) := by decide +kernel
theorem dX11_comeIn_50 : decode cX11_comeIn 50 = .ok (.iadd, 1) := by decide +kernel
theorem dX11_comeIn_51 : decode cX11_comeIn 51 = .ok (.iastore, 1) := by decide +kernel
theorem dX11_comeIn_52 : decode cX11_comeIn 52 = .ok (.iload 5, 2) := by decide +kernel
theorem dX11_comeIn_54 : decode cX11_comeIn 54 = .ok (.ireturn, 1) := by decide +kernel
theorem dX11_areMeasures_0 : decode cX11_areMeasures 0 = .ok (.iload_n 0, 1) := by decide +kernel
theorem dX11_areMeasures_1 : decode cX11_areMeasures 1 = .ok (.iconst 1, 1) := by decide +kernel
theorem dX11_areMeasures_2 : decode cX11_areMeasures 2 = .ok (.if_icmp .lt 13, 3) := by decide +kernel
theorem dX11_areMeasures_5 : decode cX11_areMeasures 5 = .ok (.iload_n 0, 1) := by decide +kernel
theorem dX11_areMeasures_6 : decode cX11_areMeasures 6 = .ok (.ldc 156, 2) := by decide +kernel
theorem dX11_areMeasures_8 : decode cX11_areMeasures 8 = .ok (.if_icmp .gt 7, 3) := by decide +kernel
theorem dX11_areMeasures_11 : decode cX11_areMeasures 11 = .ok (.iconst 1, 1) := by decide +kernel
theorem dX11_areMeasures_12 : decode cX11_areMeasures 12 = .ok (.goto 4, 3) := by decide +kernel
theorem dX11_areMeasures_15 : decode cX11_areMeasures 15 = .ok (.iconst 0, 1) := by decide +kernel
theorem dX11_areMeasures_16 : decode cX11_areMeasures 16 = .ok (.ireturn, 1) := by decide +kernel
theorem dX11_put_0 : decode cX11_put 0 = .ok (.aload_n 0, 1) := by decide +kernel
theorem dX11_put_1 : decode cX11_put 1 = .ok (.iload_n 1, 1) := by decide +kernel
theorem dX11_put_2 : decode cX11_put 2 = .ok (.invokevirtual 157, 3) := by decide +kernel
theorem dX11_put_5 : decode cX11_put 5 = .ok (.ifCond .eq 28, 3) := by decide +kernel
theorem dX11_put_8 : decode cX11_put 8 = .ok (.iload_n 2, 1) := by decide +kernel
theorem dX11_put_9 : decode cX11_put 9 = .ok (.invokestatic 161, 3) := by decide +kernel
theorem dX11_put_12 : decode cX11_put 12 = .ok (.ifCond .eq 21, 3) := by decide +kernel
theorem dX11_put_15 : decode cX11_put 15 = .ok (.iload_n 3, 1) := by decide +kernel
theorem dX11_put_16 : decode cX11_put 16 = .ok (.ifCond .lt 17, 3) := by decide +kernel
theorem dX11_put_19 : decode cX11_put 19 = .ok (.iload_n 3, 1) := by decide +kernel
theorem dX11_put_20 : decode cX11_put 20 = .ok (.bipush 61, 2) := by decide +kernel
theorem dX11_put_22 : decode cX11_put 22 = .ok (.if_icmp .ge 11, 3) := by decide +kernel
theorem dX11_put_25 : decode cX11_put 25 = .ok (.iload 4, 2) := by decide +kernel
theorem dX11_put_27 : decode cX11_put 27 = .ok (.invokestatic 175, 3) := by decide +kernel
theorem dX11_put_30 : decode cX11_put 30 = .ok (.ifCond .ne 7, 3) := by decide +kernel
theorem dX11_put_33 : decode cX11_put 33 = .ok (.iconst (-1), 1) := by decide +kernel
theorem dX11_put_34 : decode cX11_put 34 = .ok (.goto 12, 3) := by decide +kernel
theorem dX11_put_37 : decode cX11_put 37 = .ok (.aload_n 0, 1) := by decide +kernel
theorem dX11_put_38 : decode cX11_put 38 = .ok (.iload_n 1, 1) := by decide +kernel
theorem dX11_put_39 : decode cX11_put 39 = .ok (.iload_n 2, 1) := by decide +kernel
theorem dX11_put_40 : decode cX11_put 40 = .ok (.iload_n 3, 1) := by decide +kernel
theorem dX11_put_41 : decode cX11_put 41 = .ok (.iload 4, 2) := by decide +kernel
theorem dX11_put_43 : decode cX11_put 43 = .ok (.invokevirtual 178, 3) := by decide +kernel
theorem dX11_put_46 : decode cX11_put 46 = .ok (.ireturn, 1) := by decide +kernel
theorem dX11_goOut_0 : decode cX11_goOut 0 = .ok (.iload_n 3, 1) := by decide +kernel
theorem dX11_goOut_1 : decode cX11_goOut 1 = .ok (.istore 4, 2) := by decide +kernel
theorem dX11_goOut_3 : decode cX11_goOut 3 = .ok (.bipush 60, 2) := by decide +kernel
theorem dX11_goOut_5 : decode cX11_goOut 5 = .ok (.istore 5, 2) := by decide +kernel
theorem dX11_goOut_7 : decode cX11_goOut 7 = .ok (.iload 5, 2) := by decide +kernel
theorem dX11_goOut_9 : decode cX11_goOut 9 = .ok (.ifCond .lt 63, 3) := by decide +kernel
theorem dX11_goOut_12 : decode cX11_goOut 12 = .ok (.iload_n 1, 1) := by decide +kernel
theorem dX11_goOut_13 : decode cX11_goOut 13 = .ok (.iload_n 2, 1) := by decide +kernel
theorem dX11_goOut_14 : decode cX11_goOut 14 = .ok (.iload 5, 2) := by decide +kernel
theorem dX11_goOut_16 : decode cX11_goOut 16 = .ok (.invokestatic 164, 3) := by decide +kernel
theorem dX11_goOut_19 : decode cX11_goOut 19 = .ok (.istore 6, 2) := by decide +kernel
theorem dX11_goOut_21 : decode cX11_goOut 21 = .ok (.iload 4, 2) := by decide +kernel
theorem dX11_goOut_23 : decode cX11_goOut 23 = .ok (.aload_n 0, 1) := by decide +kernel
theorem dX11_goOut_24 : decode cX11_goOut 24 = .ok (.getfield 25, 3) := by decide +kernel
theorem dX11_goOut_27 : decode cX11_goOut 27 = .ok (.iload 6, 2) := by decide +kernel
theorem dX11_goOut_29 : decode cX11_goOut 29 = .ok (.iaload, 1) := by decide +kernel
theorem dX11_goOut_30 : decode cX11_goOut 30 = .ok (.if_icmp .ge 8, 3) := by decide +kernel
theorem dX11_goOut_33 : decode cX11_goOut 33 = .ok (.iload 4, 2) := by decide +kernel
theorem dX11_goOut_35 : decode cX11_goOut 35 = .ok (.goto 10, 3) := by decide +kernel
theorem dX11_goOut_38 : decode cX11_goOut 38 = .ok (.aload_n 0, 1) := by decide +kernel
theorem dX11_goOut_39 : decode cX11_goOut 39 = .ok (.getfield 25, 3) := by decide +kernel
theorem dX11_goOut_42 : decode cX11_goOut 42 = .ok (.iload 6, 2) := by decide +kernel
theorem dX11_goOut_44 : decode cX11_goOut 44 = .ok (.iaload, 1) := by decide +kernel
theorem dX11_goOut_45 : decode cX11_goOut 45 = .ok (.istore 7, 2) := by decide +kernel
theorem dX11_goOut_47 : decode cX11_goOut 47 = .ok (.aload_n 0, 1) := by decide +kernel
theorem dX11_goOut_48 : decode cX11_goOut 48 = .ok (.getfield 25, 3) := by decide +kernel
theorem dX11_goOut_51 : decode cX11_goOut 51 = .ok (.iload 6, 2) := by decide +kernel
theorem dX11_goOut_53 : decode cX11_goOut 53 = .ok (.dup2, 1) := by decide +kernel
theorem dX11_goOut_54 : decode cX11_goOut 54 = .ok (.iaload, 1) := by decide +kernel
theorem dX11_goOut_55 : decode cX11_goOut 55 = .ok (.iload 7, 2) := by decide +kernel
theorem dX11_goOut_57 : decode cX11_goOut 57 = .ok (.isub, 1) := by decide +kernel
theorem dX11_goOut_58 : decode cX11_goOut 58 = .ok (.iastore, 1) := by decide +kernel
theorem dX11_goOut_59 : decode cX11_goOut 59 = .ok (.iload 4, 2) := by decide +kernel
theorem dX11_goOut_61 : decode cX11_goOut 61 = .ok (.iload 7, 2) := by decide +kernel
theorem dX11_goOut_63 : decode cX11_goOut 63 = .ok (.isub, 1) := by decide +kernel
theorem dX11_goOut_64 : decode cX11_goOut 64 = .ok (.istore 4, 2) := by decide +kernel
theorem dX11_goOut_66 : decode cX11_goOut 66 = .ok (.iinc 5 (-1), 3) := by decide +kernel
theorem dX11_goOut_69 : decode cX11_goOut 69 = .ok (.goto (-62), 3) := by decide +kernel
theorem dX11_goOut_72 : decode cX11_goOut 72 = .ok (.iload_n 3, 1) := by decide +kernel
theorem dX11_goOut_73 : decode cX11_goOut 73 = .ok (.iload 4, 2) := by decide +kernel
theorem dX11_goOut_75 : decode cX11_goOut 75 = .ok (.isub, 1) := by decide +kernel
theorem dX11_goOut_76 : decode cX11_goOut 76 = .ok (.ireturn, 1) := by decide +kernel
theorem dX11_take_0 : decode cX11_take 0 = .ok (.aload_n 0, 1) := by decide +kernel
theorem dX11_take_1 : decode cX11_take 1 = .ok (.iload_n 1, 1) := by decide +kernel
theorem dX11_take_2 : decode cX11_take 2 = .ok (.invokevirtual 157, 3) := by decide +kernel
theorem dX11_take_5 : decode cX11_take 5 = .ok (.ifCond .eq 17, 3) := by decide +kernel
theorem dX11_take_8 : decode cX11_take 8 = .ok (.iload_n 2, 1) := by decide +kernel
theorem dX11_take_9 : decode cX11_take 9 = .ok (.invokestatic 161, 3) := by decide +kernel
theorem dX11_take_12 : decode cX11_take 12 = .ok (.ifCond .eq 10, 3) := by decide +kernel
theorem dX11_take_15 : decode cX11_take 15 = .ok (.iload_n 3, 1) := by decide +kernel
theorem dX11_take_16 : decode cX11_take 16 = .ok (.invokestatic 175, 3) := by decide +kernel
theorem dX11_take_19 : decode cX11_take 19 = .ok (.ifCond .ne 7, 3) := by decide +kernel
theorem dX11_take_22 : decode cX11_take 22 = .ok (.iconst (-1), 1) := by decide +kernel
theorem dX11_take_23 : decode cX11_take 23 = .ok (.goto 10, 3) := by decide +kernel
theorem dX11_take_26 : decode cX11_take 26 = .ok (.aload_n 0, 1) := by decide +kernel
theorem dX11_take_27 : decode cX11_take 27 = .ok (.iload_n 1, 1) := by decide +kernel
theorem dX11_take_28 : decode cX11_take 28 = .ok (.iload_n 2, 1) := by decide +kernel
theorem dX11_take_29 : decode cX11_take 29 = .ok (.iload_n 3, 1) := by decide +kernel
theorem dX11_take_30 : decode cX11_take 30 = .ok (.invokevirtual 182, 3) := by decide +kernel
theorem dX11_take_33 : decode cX11_take 33 = .ok (.ireturn, 1) := by decide +kernel
theorem dX11_stockOf_0 : decode cX11_stockOf 0 = .ok (.iconst 0, 1) := by decide +kernel
theorem dX11_stockOf_1 : decode cX11_stockOf 1 = .ok (.istore_n 3, 1) := by decide +kernel
theorem dX11_stockOf_2 : decode cX11_stockOf 2 = .ok (.iconst 0, 1) := by decide +kernel
theorem dX11_stockOf_3 : decode cX11_stockOf 3 = .ok (.istore 4, 2) := by decide +kernel
theorem dX11_stockOf_5 : decode cX11_stockOf 5 = .ok (.iload 4, 2) := by decide +kernel
theorem dX11_stockOf_7 : decode cX11_stockOf 7 = .ok (.bipush 61, 2) := by decide +kernel
theorem dX11_stockOf_9 : decode cX11_stockOf 9 = .ok (.if_icmp .ge 24, 3) := by decide +kernel
theorem dX11_stockOf_12 : decode cX11_stockOf 12 = .ok (.iload_n 3, 1) := by decide +kernel
theorem dX11_stockOf_13 : decode cX11_stockOf 13 = .ok (.aload_n 0, 1) := by decide +kernel
theorem dX11_stockOf_14 : decode cX11_stockOf 14 = .ok (.getfield 25, 3) := by decide +kernel
theorem dX11_stockOf_17 : decode cX11_stockOf 17 = .ok (.iload_n 1, 1) := by decide +kernel
theorem dX11_stockOf_18 : decode cX11_stockOf 18 = .ok (.iload_n 2, 1) := by decide +kernel
theorem dX11_stockOf_19 : decode cX11_stockOf 19 = .ok (.iload 4, 2) := by decide +kernel
theorem dX11_stockOf_21 : decode cX11_stockOf 21 = .ok (.invokestatic 164, 3) := by decide +kernel
theorem dX11_stockOf_24 : decode cX11_stockOf 24 = .ok (.iaload, 1) := by decide +kernel
theorem dX11_stockOf_25 : decode cX11_stockOf 25 = .ok (.iadd, 1) := by decide +kernel
theorem dX11_stockOf_26 : decode cX11_stockOf 26 = .ok (.istore_n 3, 1) := by decide +kernel
theorem dX11_stockOf_27 : decode cX11_stockOf 27 = .ok (.iinc 4 1, 3) := by decide +kernel
theorem dX11_stockOf_30 : decode cX11_stockOf 30 = .ok (.goto (-25), 3) := by decide +kernel
theorem dX11_stockOf_33 : decode cX11_stockOf 33 = .ok (.iload_n 3, 1) := by decide +kernel
theorem dX11_stockOf_34 : decode cX11_stockOf 34 = .ok (.ireturn, 1) := by decide +kernel
theorem dX11_stock_0 : decode cX11_stock 0 = .ok (.aload_n 0, 1) := by decide +kernel
theorem dX11_stock_1 : decode cX11_stock 1 = .ok (.iload_n 1, 1) := by decide +kernel
theorem dX11_stock_2 : decode cX11_stock 2 = .ok (.invokevirtual 157, 3) := by decide +kernel
theorem dX11_stock_5 : decode cX11_stock 5 = .ok (.ifCond .eq 21, 3) := by decide +kernel
theorem dX11_stock_8 : decode cX11_stock 8 = .ok (.iload_n 2, 1) := by decide +kernel
theorem dX11_stock_9 : decode cX11_stock 9 = .ok (.invokestatic 161, 3) := by decide +kernel
theorem dX11_stock_12 : decode cX11_stock 12 = .ok (.ifCond .eq 14, 3) := by decide +kernel
theorem dX11_stock_15 : decode cX11_stock 15 = .ok (.iload_n 3, 1) := by decide +kernel
theorem dX11_stock_16 : decode cX11_stock 16 = .ok (.iconst (-1), 1) := by decide +kernel
theorem dX11_stock_17 : decode cX11_stock 17 = .ok (.if_icmp .lt 9, 3) := by decide +kernel
theorem dX11_stock_20 : decode cX11_stock 20 = .ok (.iload_n 3, 1) := by decide +kernel
theorem dX11_stock_21 : decode cX11_stock 21 = .ok (.bipush 61, 2) := by decide +kernel
theorem dX11_stock_23 : decode cX11_stock 23 = .ok (.if_icmp .lt 5, 3) := by decide +kernel
theorem dX11_stock_26 : decode cX11_stock 26 = .ok (.iconst (-1), 1) := by decide +kernel
theorem dX11_stock_27 : decode cX11_stock 27 = .ok (.ireturn, 1) := by decide +kernel
theorem dX11_stock_28 : decode cX11_stock 28 = .ok (.iload_n 3, 1) := by decide +kernel
theorem dX11_stock_29 : decode cX11_stock 29 = .ok (.iconst (-1), 1) := by decide +kernel
theorem dX11_stock_30 : decode cX11_stock 30 = .ok (.if_icmp .ne 12, 3) := by decide +kernel
theorem dX11_stock_33 : decode cX11_stock 33 = .ok (.aload_n 0, 1) := by decide +kernel
theorem dX11_stock_34 : decode cX11_stock 34 = .ok (.iload_n 1, 1) := by decide +kernel
theorem dX11_stock_35 : decode cX11_stock 35 = .ok (.iload_n 2, 1) := by decide +kernel
theorem dX11_stock_36 : decode cX11_stock 36 = .ok (.invokevirtual 185, 3) := by decide +kernel
theorem dX11_stock_39 : decode cX11_stock 39 = .ok (.goto 14, 3) := by decide +kernel
theorem dX11_stock_42 : decode cX11_stock 42 = .ok (.aload_n 0, 1) := by decide +kernel
theorem dX11_stock_43 : decode cX11_stock 43 = .ok (.getfield 25, 3) := by decide +kernel
theorem dX11_stock_46 : decode cX11_stock 46 = .ok (.iload_n 1, 1) := by decide +kernel
theorem dX11_stock_47 : decode cX11_stock 47 = .ok (.iload_n 2, 1) := by decide +kernel
theorem dX11_stock_48 : decode cX11_stock 48 = .ok (.iload_n 3, 1) := by decide +kernel
theorem dX11_stock_49 : decode cX11_stock 49 = .ok (.invokestatic 164, 3) := by decide +kernel
theorem dX11_stock_52 : decode cX11_stock 52 = .ok (.iaload, 1) := by decide +kernel
theorem dX11_stock_53 : decode cX11_stock 53 = .ok (.ireturn, 1) := by decide +kernel
theorem dX11_oldOf_0 : decode cX11_oldOf 0 = .ok (.bipush 60, 2) := by decide +kernel
theorem dX11_oldOf_2 : decode cX11_oldOf 2 = .ok (.istore_n 3, 1) := by decide +kernel
theorem dX11_oldOf_3 : decode cX11_oldOf 3 = .ok (.iload_n 3, 1) := by decide +kernel
theorem dX11_oldOf_4 : decode cX11_oldOf 4 = .ok (.ifCond .le 23, 3) := by decide +kernel
theorem dX11_oldOf_7 : decode cX11_oldOf 7 = .ok (.aload_n 0, 1) := by decide +kernel
theorem dX11_oldOf_8 : decode cX11_oldOf 8 = .ok (.getfield 25, 3) := by decide +kernel
theorem dX11_oldOf_11 : decode cX11_oldOf 11 = .ok (.iload_n 1, 1) := by decide +kernel
theorem dX11_oldOf_12 : decode cX11_oldOf 12 = .ok (.iload_n 2, 1) := by decide +kernel
theorem dX11_oldOf_13 : decode cX11_oldOf 13 = .ok (.iload_n 3, 1) := by decide +kernel
theorem dX11_oldOf_14 : decode cX11_oldOf 14 = .ok (.invokestatic 164, 3) := by decide +kernel
theorem dX11_oldOf_17 : decode cX11_oldOf 17 = .ok (.iaload, 1) := by decide +kernel
theorem dX11_oldOf_18 : decode cX11_oldOf 18 = .ok (.ifCond .ne 9, 3) := by decide +kernel
theorem dX11_oldOf_21 : decode cX11_oldOf 21 = .ok (.iinc 3 (-1), 3) := by decide +kernel
theorem dX11_oldOf_24 : decode cX11_oldOf 24 = .ok (.goto (-21), 3) := by decide +kernel
theorem dX11_oldOf_27 : decode cX11_oldOf 27 = .ok (.aload_n 0, 1) := by decide +kernel
theorem dX11_oldOf_28 : decode cX11_oldOf 28 = .ok (.getfield 25, 3) := by decide +kernel
theorem dX11_oldOf_31 : decode cX11_oldOf 31 = .ok (.iload_n 1, 1) := by decide +kernel
theorem dX11_oldOf_32 : decode cX11_oldOf 32 = .ok (.iload_n 2, 1) := by decide +kernel
theorem dX11_oldOf_33 : decode cX11_oldOf 33 = .ok (.iload_n 3, 1) := by decide +kernel
theorem dX11_oldOf_34 : decode cX11_oldOf 34 = .ok (.invokestatic 164, 3) := by decide +kernel
theorem dX11_oldOf_37 : decode cX11_oldOf 37 = .ok (.iaload, 1) := by decide +kernel
theorem dX11_oldOf_38 : decode cX11_oldOf 38 = .ok (.ireturn, 1) := by decide +kernel
theorem dX11_sign_0 : decode cX11_sign 0 = .ok (.iload_n 1, 1) := by decide +kernel
theorem dX11_sign_1 : decode cX11_sign 1 = .ok (.aload_n 0, 1) := by decide +kernel
theorem dX11_sign_2 : decode cX11_sign 2 = .ok (.getfield 189, 3) := by decide +kernel
theorem dX11_sign_5 : decode cX11_sign 5 = .ok (.if_icmp .ge 16, 3) := by decide +kernel
theorem dX11_sign_8 : decode cX11_sign 8 = .ok (.aload_n 0, 1) := by decide +kernel
theorem dX11_sign_9 : decode cX11_sign 9 = .ok (.getfield 35, 3) := by decide +kernel
theorem dX11_sign_12 : decode cX11_sign 12 = .ok (.iload_n 1, 1) := by decide +kernel
theorem dX11_sign_13 : decode cX11_sign 13 = .ok (.baload, 1) := by decide +kernel
theorem dX11_sign_14 : decode cX11_sign 14 = .ok (.sipush 255, 3) := by decide +kernel
theorem dX11_sign_17 : decode cX11_sign 17 = .ok (.iand, 1) := by decide +kernel
theorem dX11_sign_18 : decode cX11_sign 18 = .ok (.goto 4, 3) := by decide +kernel
theorem dX11_sign_21 : decode cX11_sign 21 = .ok (.iconst 0, 1) := by decide +kernel
theorem dX11_sign_22 : decode cX11_sign 22 = .ok (.ireturn, 1) := by decide +kernel
theorem dX11_isLetter_0 : decode cX11_isLetter 0 = .ok (.iload_n 0, 1) := by decide +kernel
theorem dX11_isLetter_1 : decode cX11_isLetter 1 = .ok (.bipush 97, 2) := by decide +kernel
theorem dX11_isLetter_3 : decode cX11_isLetter 3 = .ok (.if_icmp .lt 13, 3) := by decide +kernel
theorem dX11_isLetter_6 : decode cX11_isLetter 6 = .ok (.iload_n 0, 1) := by decide +kernel
theorem dX11_isLetter_7 : decode cX11_isLetter 7 = .ok (.bipush 122, 2) := by decide +kernel
theorem dX11_isLetter_9 : decode cX11_isLetter 9 = .ok (.if_icmp .gt 7, 3) := by decide +kernel
theorem dX11_isLetter_12 : decode cX11_isLetter 12 = .ok (.iconst 1, 1) := by decide +kernel
theorem dX11_isLetter_13 : decode cX11_isLetter 13 = .ok (.goto 4, 3) := by decide +kernel
theorem dX11_isLetter_16 : decode cX11_isLetter 16 = .ok (.iconst 0, 1) := by decide +kernel
theorem dX11_isLetter_17 : decode cX11_isLetter 17 = .ok (.ireturn, 1) := by decide +kernel
theorem dX11_isDigit_0 : decode cX11_isDigit 0 = .ok (.iload_n 0, 1) := by decide +kernel
theorem dX11_isDigit_1 : decode cX11_isDigit 1 = .ok (.bipush 48, 2) := by decide +kernel
theorem dX11_isDigit_3 : decode cX11_isDigit 3 = .ok (.if_icmp .lt 13, 3) := by decide +kernel
theorem dX11_isDigit_6 : decode cX11_isDigit 6 = .ok (.iload_n 0, 1) := by decide +kernel
theorem dX11_isDigit_7 : decode cX11_isDigit 7 = .ok (.bipush 57, 2) := by decide +kernel
theorem dX11_isDigit_9 : decode cX11_isDigit 9 = .ok (.if_icmp .gt 7, 3) := by decide +kernel
theorem dX11_isDigit_12 : decode cX11_isDigit 12 = .ok (.iconst 1, 1) := by decide +kernel
theorem dX11_isDigit_13 : decode cX11_isDigit 13 = .ok (.goto 4, 3) := by decide +kernel
theorem dX11_isDigit_16 : decode cX11_isDigit 16 = .ok (.iconst 0, 1) := by decide +kernel
theorem dX11_isDigit_17 : decode cX11_isDigit 17 = .ok (.ireturn, 1) := by decide +kernel
theorem dX11_fails_0 : decode cX11_fails 0 = .ok (.aload_n 0, 1) := by decide +kernel
theorem dX11_fails_1 : decode cX11_fails 1 = .ok (.getfield 192, 3) := by decide +kernel
theorem dX11_fails_4 : decode cX11_fails 4 = .ok (.ifCond .le 4, 3) := by decide +kernel
theorem dX11_fails_7 : decode cX11_fails 7 = .ok (.return_, 1) := by decide +kernel
theorem dX11_fails_8 : decode cX11_fails 8 = .ok (.aload_n 0, 1) := by decide +kernel
theorem dX11_fails_9 : decode cX11_fails 9 = .ok (.iload_n 1, 1) := by decide +kernel
theorem dX11_fails_10 : decode cX11_fails 10 = .ok (.putfield 192, 3) := by decide +kernel
theorem dX11_fails_13 : decode cX11_fails 13 = .ok (.aload_n 0, 1) := by decide +kernel
theorem dX11_fails_14 : decode cX11_fails 14 = .ok (.iload_n 2, 1) := by decide +kernel
theorem dX11_fails_15 : decode cX11_fails 15 = .ok (.putfield 38, 3) := by decide +kernel
theorem dX11_fails_18 : decode cX11_fails 18 = .ok (.return_, 1) := by decide +kernel
theorem dX11_isGood_0 : decode cX11_isGood 0 = .ok (.aload_n 0, 1) := by decide +kernel
theorem dX11_isGood_1 : decode cX11_isGood 1 = .ok (.getfield 192, 3) := by decide +kernel
theorem dX11_isGood_4 : decode cX11_isGood 4 = .ok (.ifCond .ne 7, 3) := by decide +kernel
theorem dX11_isGood_7 : decode cX11_isGood 7 = .ok (.iconst 1, 1) := by decide +kernel
theorem dX11_isGood_8 : decode cX11_isGood 8 = .ok (.goto 4, 3) := by decide +kernel
theorem dX11_isGood_11 : decode cX11_isGood 11 = .ok (.iconst 0, 1) := by decide +kernel
theorem dX11_isGood_12 : decode cX11_isGood 12 = .ok (.ireturn, 1) := by decide +kernel
theorem dX11_next_0 : decode cX11_next 0 = .ok (.aload_n 0, 1) := by decide +kernel
theorem dX11_next_1 : decode cX11_next 1 = .ok (.aload_n 0, 1) := by decide +kernel
theorem dX11_next_2 : decode cX11_next 2 = .ok (.getfield 195, 3) := by decide +kernel
theorem dX11_next_5 : decode cX11_next 5 = .ok (.putfield 198, 3) := by decide +kernel
theorem dX11_next_8 : decode cX11_next 8 = .ok (.aload_n 0, 1) := by decide +kernel
theorem dX11_next_9 : decode cX11_next 9 = .ok (.getfield 198, 3) := by decide +kernel
theorem dX11_next_12 : decode cX11_next 12 = .ok (.aload_n 0, 1) := by decide +kernel
theorem dX11_next_13 : decode cX11_next 13 = .ok (.getfield 189, 3) := by decide +kernel
theorem dX11_next_16 : decode cX11_next 16 = .ok (.if_icmp .ge 42, 3) := by decide +kernel
theorem dX11_next_19 : decode cX11_next 19 = .ok (.aload_n 0, 1) := by decide +kernel
theorem dX11_next_20 : decode cX11_next 20 = .ok (.aload_n 0, 1) := by decide +kernel
theorem dX11_next_21 : decode cX11_next 21 = .ok (.getfield 198, 3) := by decide +kernel
theorem dX11_next_24 : decode cX11_next 24 = .ok (.invokevirtual 201, 3) := by decide +kernel

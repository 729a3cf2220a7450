theorem dX10_take_11 : decode cX10_take 11 = .ok (.iload_n 2, 1) := by decide +kernel
theorem dX10_take_12 : decode cX10_take 12 = .ok (.invokestatic 79, 3) := by decide +kernel
theorem dX10_take_15 : decode cX10_take 15 = .ok (.ifCond .eq 13, 3) := by decide +kernel
theorem dX10_take_18 : decode cX10_take 18 = .ok (.iload_n 3, 1) := by decide +kernel
theorem dX10_take_19 : decode cX10_take 19 = .ok (.iconst 1, 1) := by decide +kernel
theorem dX10_take_20 : decode cX10_take 20 = .ok (.ldc 62, 2) := by decide +kernel
theorem dX10_take_22 : decode cX10_take 22 = .ok (.invokestatic 63, 3) := by decide +kernel
theorem dX10_take_25 : decode cX10_take 25 = .ok (.ifCond .ne 5, 3) := by decide +kernel
theorem dX10_take_28 : decode cX10_take 28 = .ok (.iconst (-1), 1) := by decide +kernel
theorem dX10_take_29 : decode cX10_take 29 = .ok (.ireturn, 1) := by decide +kernel
theorem dX10_take_30 : decode cX10_take 30 = .ok (.aload_n 0, 1) := by decide +kernel
theorem dX10_take_31 : decode cX10_take 31 = .ok (.getfield 12, 3) := by decide +kernel
theorem dX10_take_34 : decode cX10_take 34 = .ok (.getfield 86, 3) := by decide +kernel
theorem dX10_take_37 : decode cX10_take 37 = .ok (.iload_n 1, 1) := by decide +kernel
theorem dX10_take_38 : decode cX10_take 38 = .ok (.aaload, 1) := by decide +kernel
theorem dX10_take_39 : decode cX10_take 39 = .ok (.iload_n 2, 1) := by decide +kernel
theorem dX10_take_40 : decode cX10_take 40 = .ok (.iload_n 3, 1) := by decide +kernel
theorem dX10_take_41 : decode cX10_take 41 = .ok (.invokevirtual 99, 3) := by decide +kernel
theorem dX10_take_44 : decode cX10_take 44 = .ok (.ireturn, 1) := by decide +kernel
theorem dX10_stock_0 : decode cX10_stock 0 = .ok (.aload_n 0, 1) := by decide +kernel
theorem dX10_stock_1 : decode cX10_stock 1 = .ok (.getfield 12, 3) := by decide +kernel
theorem dX10_stock_4 : decode cX10_stock 4 = .ok (.iload_n 1, 1) := by decide +kernel
theorem dX10_stock_5 : decode cX10_stock 5 = .ok (.invokevirtual 71, 3) := by decide +kernel
theorem dX10_stock_8 : decode cX10_stock 8 = .ok (.ifCond .eq 10, 3) := by decide +kernel
theorem dX10_stock_11 : decode cX10_stock 11 = .ok (.iload_n 2, 1) := by decide +kernel
theorem dX10_stock_12 : decode cX10_stock 12 = .ok (.invokestatic 79, 3) := by decide +kernel
theorem dX10_stock_15 : decode cX10_stock 15 = .ok (.ifCond .ne 5, 3) := by decide +kernel
theorem dX10_stock_18 : decode cX10_stock 18 = .ok (.iconst (-1), 1) := by decide +kernel
theorem dX10_stock_19 : decode cX10_stock 19 = .ok (.ireturn, 1) := by decide +kernel
theorem dX10_stock_20 : decode cX10_stock 20 = .ok (.iload_n 3, 1) := by decide +kernel
theorem dX10_stock_21 : decode cX10_stock 21 = .ok (.iconst (-1), 1) := by decide +kernel
theorem dX10_stock_22 : decode cX10_stock 22 = .ok (.if_icmp .ne 18, 3) := by decide +kernel
theorem dX10_stock_25 : decode cX10_stock 25 = .ok (.aload_n 0, 1) := by decide +kernel
theorem dX10_stock_26 : decode cX10_stock 26 = .ok (.getfield 12, 3) := by decide +kernel
theorem dX10_stock_29 : decode cX10_stock 29 = .ok (.getfield 86, 3) := by decide +kernel
theorem dX10_stock_32 : decode cX10_stock 32 = .ok (.iload_n 1, 1) := by decide +kernel
theorem dX10_stock_33 : decode cX10_stock 33 = .ok (.aaload, 1) := by decide +kernel
theorem dX10_stock_34 : decode cX10_stock 34 = .ok (.getfield 103, 3) := by decide +kernel
theorem dX10_stock_37 : decode cX10_stock 37 = .ok (.iload_n 2, 1) := by decide +kernel
theorem dX10_stock_38 : decode cX10_stock 38 = .ok (.iaload, 1) := by decide +kernel
theorem dX10_stock_39 : decode cX10_stock 39 = .ok (.ireturn, 1) := by decide +kernel
theorem dX10_stock_40 : decode cX10_stock 40 = .ok (.iload_n 3, 1) := by decide +kernel
theorem dX10_stock_41 : decode cX10_stock 41 = .ok (.iconst 0, 1) := by decide +kernel
theorem dX10_stock_42 : decode cX10_stock 42 = .ok (.bipush 60, 2) := by decide +kernel
theorem dX10_stock_44 : decode cX10_stock 44 = .ok (.invokestatic 63, 3) := by decide +kernel
theorem dX10_stock_47 : decode cX10_stock 47 = .ok (.ifCond .eq 22, 3) := by decide +kernel
theorem dX10_stock_50 : decode cX10_stock 50 = .ok (.aload_n 0, 1) := by decide +kernel
theorem dX10_stock_51 : decode cX10_stock 51 = .ok (.getfield 12, 3) := by decide +kernel
theorem dX10_stock_54 : decode cX10_stock 54 = .ok (.getfield 86, 3) := by decide +kernel
theorem dX10_stock_57 : decode cX10_stock 57 = .ok (.iload_n 1, 1) := by decide +kernel
theorem dX10_stock_58 : decode cX10_stock 58 = .ok (.aaload, 1) := by decide +kernel
theorem dX10_stock_59 : decode cX10_stock 59 = .ok (.getfield 106, 3) := by decide +kernel
theorem dX10_stock_62 : decode cX10_stock 62 = .ok (.iload_n 2, 1) := by decide +kernel
theorem dX10_stock_63 : decode cX10_stock 63 = .ok (.aaload, 1) := by decide +kernel
theorem dX10_stock_64 : decode cX10_stock 64 = .ok (.iload_n 3, 1) := by decide +kernel
theorem dX10_stock_65 : decode cX10_stock 65 = .ok (.iaload, 1) := by decide +kernel
theorem dX10_stock_66 : decode cX10_stock 66 = .ok (.goto 4, 3) := by decide +kernel
theorem dX10_stock_69 : decode cX10_stock 69 = .ok (.iconst (-1), 1) := by decide +kernel
theorem dX10_stock_70 : decode cX10_stock 70 = .ok (.ireturn, 1) := by decide +kernel
theorem dX10_feed_0 : decode cX10_feed 0 = .ok (.aload_n 0, 1) := by decide +kernel
theorem dX10_feed_1 : decode cX10_feed 1 = .ok (.getfield 109, 3) := by decide +kernel
theorem dX10_feed_4 : decode cX10_feed 4 = .ok (.bipush 20, 2) := by decide +kernel
theorem dX10_feed_6 : decode cX10_feed 6 = .ok (.iadd, 1) := by decide +kernel
theorem dX10_feed_7 : decode cX10_feed 7 = .ok (.sipush 1000, 3) := by decide +kernel
theorem dX10_feed_10 : decode cX10_feed 10 = .ok (.if_icmp .le 5, 3) := by decide +kernel
theorem dX10_feed_13 : decode cX10_feed 13 = .ok (.iconst (-1), 1) := by decide +kernel
theorem dX10_feed_14 : decode cX10_feed 14 = .ok (.ireturn, 1) := by decide +kernel
theorem dX10_feed_15 : decode cX10_feed 15 = .ok (.aload_n 0, 1) := by decide +kernel
theorem dX10_feed_16 : decode cX10_feed 16 = .ok (.iload_n 1, 1) := by decide +kernel
theorem dX10_feed_17 : decode cX10_feed 17 = .ok (.invokevirtual 112, 3) := by decide +kernel
theorem dX10_feed_20 : decode cX10_feed 20 = .ok (.aload_n 0, 1) := by decide +kernel
theorem dX10_feed_21 : decode cX10_feed 21 = .ok (.iload_n 2, 1) := by decide +kernel
theorem dX10_feed_22 : decode cX10_feed 22 = .ok (.invokevirtual 112, 3) := by decide +kernel
theorem dX10_feed_25 : decode cX10_feed 25 = .ok (.aload_n 0, 1) := by decide +kernel
theorem dX10_feed_26 : decode cX10_feed 26 = .ok (.iload_n 3, 1) := by decide +kernel
theorem dX10_feed_27 : decode cX10_feed 27 = .ok (.invokevirtual 112, 3) := by decide +kernel
theorem dX10_feed_30 : decode cX10_feed 30 = .ok (.aload_n 0, 1) := by decide +kernel
theorem dX10_feed_31 : decode cX10_feed 31 = .ok (.iload 4, 2) := by decide +kernel
theorem dX10_feed_33 : decode cX10_feed 33 = .ok (.invokevirtual 112, 3) := by decide +kernel
theorem dX10_feed_36 : decode cX10_feed 36 = .ok (.aload_n 0, 1) := by decide +kernel
theorem dX10_feed_37 : decode cX10_feed 37 = .ok (.iload 5, 2) := by decide +kernel
theorem dX10_feed_39 : decode cX10_feed 39 = .ok (.invokevirtual 112, 3) := by decide +kernel
theorem dX10_feed_42 : decode cX10_feed 42 = .ok (.aload_n 0, 1) := by decide +kernel
theorem dX10_feed_43 : decode cX10_feed 43 = .ok (.getfield 109, 3) := by decide +kernel
theorem dX10_feed_46 : decode cX10_feed 46 = .ok (.ireturn, 1) := by decide +kernel
theorem dX10_end_0 : decode cX10_end 0 = .ok (.iload_n 1, 1) := by decide +kernel
theorem dX10_end_1 : decode cX10_end 1 = .ok (.iconst 0, 1) := by decide +kernel
theorem dX10_end_2 : decode cX10_end 2 = .ok (.aload_n 0, 1) := by decide +kernel
theorem dX10_end_3 : decode cX10_end 3 = .ok (.getfield 109, 3) := by decide +kernel
theorem dX10_end_6 : decode cX10_end 6 = .ok (.invokestatic 63, 3) := by decide +kernel
theorem dX10_end_9 : decode cX10_end 9 = .ok (.ifCond .ne 5, 3) := by decide +kernel
theorem dX10_end_12 : decode cX10_end 12 = .ok (.iconst (-1), 1) := by decide +kernel
theorem dX10_end_13 : decode cX10_end 13 = .ok (.ireturn, 1) := by decide +kernel
theorem dX10_end_14 : decode cX10_end 14 = .ok (.aload_n 0, 1) := by decide +kernel
theorem dX10_end_15 : decode cX10_end 15 = .ok (.iload_n 1, 1) := by decide +kernel
theorem dX10_end_16 : decode cX10_end 16 = .ok (.putfield 109, 3) := by decide +kernel
theorem dX10_end_19 : decode cX10_end 19 = .ok (.iload_n 1, 1) := by decide +kernel
theorem dX10_end_20 : decode cX10_end 20 = .ok (.ireturn, 1) := by decide +kernel
theorem dX10_orders_0 : decode cX10_orders 0 = .ok (.aload_n 0, 1) := by decide +kernel
theorem dX10_orders_1 : decode cX10_orders 1 = .ok (.getfield 109, 3) := by decide +kernel
theorem dX10_orders_4 : decode cX10_orders 4 = .ok (.istore_n 1, 1) := by decide +kernel
theorem dX10_orders_5 : decode cX10_orders 5 = .ok (.aload_n 0, 1) := by decide +kernel
theorem dX10_orders_6 : decode cX10_orders 6 = .ok (.iconst 0, 1) := by decide +kernel
theorem dX10_orders_7 : decode cX10_orders 7 = .ok (.putfield 109, 3) := by decide +kernel
theorem dX10_orders_10 : decode cX10_orders 10 = .ok (.aload_n 0, 1) := by decide +kernel
theorem dX10_orders_11 : decode cX10_orders 11 = .ok (.getfield 37, 3) := by decide +kernel
theorem dX10_orders_14 : decode cX10_orders 14 = .ok (.aload_n 0, 1) := by decide +kernel
theorem dX10_orders_15 : decode cX10_orders 15 = .ok (.getfield 30, 3) := by decide +kernel
theorem dX10_orders_18 : decode cX10_orders 18 = .ok (.iload_n 1, 1) := by decide +kernel
theorem dX10_orders_19 : decode cX10_orders 19 = .ok (.invokevirtual 116, 3) := by decide +kernel
theorem dX10_orders_22 : decode cX10_orders 22 = .ok (.ireturn, 1) := by decide +kernel
theorem dX10_fault_0 : decode cX10_fault 0 = .ok (.iload_n 1, 1) := by decide +kernel
theorem dX10_fault_1 : decode cX10_fault 1 = .ok (.lookupswitch 43 #[(0, 27), (1, 35)], 27) := by decide +kernel
theorem dX10_fault_28 : decode cX10_fault 28 = .ok (.aload_n 0, 1) := by decide +kernel
theorem dX10_fault_29 : decode cX10_fault 29 = .ok (.getfield 37, 3) := by decide +kernel
theorem dX10_fault_32 : decode cX10_fault 32 = .ok (.getfield 120, 3) := by decide +kernel
theorem dX10_fault_35 : decode cX10_fault 35 = .ok (.ireturn, 1) := by decide +kernel
theorem dX10_fault_36 : decode cX10_fault 36 = .ok (.aload_n 0, 1) := by decide +kernel
theorem dX10_fault_37 : decode cX10_fault 37 = .ok (.getfield 37, 3) := by decide +kernel
theorem dX10_fault_40 : decode cX10_fault 40 = .ok (.getfield 123, 3) := by decide +kernel
theorem dX10_fault_43 : decode cX10_fault 43 = .ok (.ireturn, 1) := by decide +kernel
theorem dX10_fault_44 : decode cX10_fault 44 = .ok (.iconst (-1), 1) := by decide +kernel
theorem dX10_fault_45 : decode cX10_fault 45 = .ok (.ireturn, 1) := by decide +kernel
theorem dX10_months_0 : decode cX10_months 0 = .ok (.iload_n 1, 1) := by decide +kernel
theorem dX10_months_1 : decode cX10_months 1 = .ok (.iconst 0, 1) := by decide +kernel
theorem dX10_months_2 : decode cX10_months 2 = .ok (.bipush 60, 2) := by decide +kernel
theorem dX10_months_4 : decode cX10_months 4 = .ok (.invokestatic 63, 3) := by decide +kernel
theorem dX10_months_7 : decode cX10_months 7 = .ok (.ifCond .eq 18, 3) := by decide +kernel
theorem dX10_months_10 : decode cX10_months 10 = .ok (.aload_n 0, 1) := by decide +kernel
theorem dX10_months_11 : decode cX10_months 11 = .ok (.getfield 12, 3) := by decide +kernel
theorem dX10_months_14 : decode cX10_months 14 = .ok (.getfield 126, 3) := by decide +kernel
theorem dX10_months_17 : decode cX10_months 17 = .ok (.iload_n 1, 1) := by decide +kernel
theorem dX10_months_18 : decode cX10_months 18 = .ok (.iadd, 1) := by decide +kernel
theorem dX10_months_19 : decode cX10_months 19 = .ok (.sipush 2000, 3) := by decide +kernel
theorem dX10_months_22 : decode cX10_months 22 = .ok (.if_icmp .le 5, 3) := by decide +kernel
theorem dX10_months_25 : decode cX10_months 25 = .ok (.iconst (-1), 1) := by decide +kernel
theorem dX10_months_26 : decode cX10_months 26 = .ok (.ireturn, 1) := by decide +kernel
theorem dX10_months_27 : decode cX10_months 27 = .ok (.iconst 0, 1) := by decide +kernel
theorem dX10_months_28 : decode cX10_months 28 = .ok (.istore_n 2, 1) := by decide +kernel
theorem dX10_months_29 : decode cX10_months 29 = .ok (.iload_n 2, 1) := by decide +kernel
theorem dX10_months_30 : decode cX10_months 30 = .ok (.iload_n 1, 1) := by decide +kernel
theorem dX10_months_31 : decode cX10_months 31 = .ok (.if_icmp .ge 13, 3) := by decide +kernel
theorem dX10_months_34 : decode cX10_months 34 = .ok (.aload_n 0, 1) := by decide +kernel
theorem dX10_months_35 : decode cX10_months 35 = .ok (.invokevirtual 129, 3) := by decide +kernel
theorem dX10_months_38 : decode cX10_months 38 = .ok (.iinc 2 1, 3) := by decide +kernel
theorem dX10_months_41 : decode cX10_months 41 = .ok (.goto (-12), 3) := by decide +kernel
theorem dX10_months_44 : decode cX10_months 44 = .ok (.aload_n 0, 1) := by decide +kernel
theorem dX10_months_45 : decode cX10_months 45 = .ok (.getfield 12, 3) := by decide +kernel
theorem dX10_months_48 : decode cX10_months 48 = .ok (.getfield 126, 3) := by decide +kernel
theorem dX10_months_51 : decode cX10_months 51 = .ok (.ireturn, 1) := by decide +kernel
theorem dX10_sum_0 : decode cX10_sum 0 = .ok (.iload_n 1, 1) := by decide +kernel
theorem dX10_sum_1 : decode cX10_sum 1 = .ok (.tableswitch 87 0 5 #[39, 47, 55, 63, 71, 79], 39) := by decide +kernel
theorem dX10_sum_40 : decode cX10_sum 40 = .ok (.aload_n 0, 1) := by decide +kernel
theorem dX10_sum_41 : decode cX10_sum 41 = .ok (.getfield 19, 3) := by decide +kernel
theorem dX10_sum_44 : decode cX10_sum 44 = .ok (.getfield 132, 3) := by decide +kernel
theorem dX10_sum_47 : decode cX10_sum 47 = .ok (.ireturn, 1) := by decide +kernel
theorem dX10_sum_48 : decode cX10_sum 48 = .ok (.aload_n 0, 1) := by decide +kernel
theorem dX10_sum_49 : decode cX10_sum 49 = .ok (.getfield 19, 3) := by decide +kernel
theorem dX10_sum_52 : decode cX10_sum 52 = .ok (.getfield 135, 3) := by decide +kernel
theorem dX10_sum_55 : decode cX10_sum 55 = .ok (.ireturn, 1) := by decide +kernel
theorem dX10_sum_56 : decode cX10_sum 56 = .ok (.aload_n 0, 1) := by decide +kernel
theorem dX10_sum_57 : decode cX10_sum 57 = .ok (.getfield 19, 3) := by decide +kernel
theorem dX10_sum_60 : decode cX10_sum 60 = .ok (.getfield 95, 3) := by decide +kernel
theorem dX10_sum_63 : decode cX10_sum 63 = .ok (.ireturn, 1) := by decide +kernel
theorem dX10_sum_64 : decode cX10_sum 64 = .ok (.aload_n 0, 1) := by decide +kernel
theorem dX10_sum_65 : decode cX10_sum 65 = .ok (.getfield 26, 3) := by decide +kernel
theorem dX10_sum_68 : decode cX10_sum 68 = .ok (.invokevirtual 138, 3) := by decide +kernel
theorem dX10_sum_71 : decode cX10_sum 71 = .ok (.ireturn, 1) := by decide +kernel
theorem dX10_sum_72 : decode cX10_sum 72 = .ok (.aload_n 0, 1) := by decide +kernel
theorem dX10_sum_73 : decode cX10_sum 73 = .ok (.getfield 26, 3) := by decide +kernel
theorem dX10_sum_76 : decode cX10_sum 76 = .ok (.getfield 142, 3) := by decide +kernel
theorem dX10_sum_79 : decode cX10_sum 79 = .ok (.ireturn, 1) := by decide +kernel
theorem dX10_sum_80 : decode cX10_sum 80 = .ok (.aload_n 0, 1) := by decide +kernel
theorem dX10_sum_81 : decode cX10_sum 81 = .ok (.getfield 19, 3) := by decide +kernel
theorem dX10_sum_84 : decode cX10_sum 84 = .ok (.getfield 145, 3) := by decide +kernel
theorem dX10_sum_87 : decode cX10_sum 87 = .ok (.ireturn, 1) := by decide +kernel
theorem dX10_sum_88 : decode cX10_sum 88 = .ok (.iconst (-1), 1) := by decide +kernel
theorem dX10_sum_89 : decode cX10_sum 89 = .ok (.ireturn, 1) := by decide +kernel
theorem dX10_feast_0 : decode cX10_feast 0 = .ok (.aload_n 0, 1) := by decide +kernel
theorem dX10_feast_1 : decode cX10_feast 1 = .ok (.getfield 12, 3) := by decide +kernel
theorem dX10_feast_4 : decode cX10_feast 4 = .ok (.iload_n 1, 1) := by decide +kernel
theorem dX10_feast_5 : decode cX10_feast 5 = .ok (.invokevirtual 71, 3) := by decide +kernel
theorem dX10_feast_8 : decode cX10_feast 8 = .ok (.ifCond .eq 20, 3) := by decide +kernel
theorem dX10_feast_11 : decode cX10_feast 11 = .ok (.iload_n 2, 1) := by decide +kernel
theorem dX10_feast_12 : decode cX10_feast 12 = .ok (.aload_n 0, 1) := by decide +kernel
theorem dX10_feast_13 : decode cX10_feast 13 = .ok (.getfield 12, 3) := by decide +kernel
theorem dX10_feast_16 : decode cX10_feast 16 = .ok (.getfield 126, 3) := by decide +kernel
theorem dX10_feast_19 : decode cX10_feast 19 = .ok (.sipush 2000, 3) := by decide +kernel
theorem dX10_feast_22 : decode cX10_feast 22 = .ok (.invokestatic 63, 3) := by decide +kernel
theorem dX10_feast_25 : decode cX10_feast 25 = .ok (.ifCond .ne 5, 3) := by decide +kernel
theorem dX10_feast_28 : decode cX10_feast 28 = .ok (.iconst (-1), 1) := by decide +kernel
theorem dX10_feast_29 : decode cX10_feast 29 = .ok (.ireturn, 1) := by decide +kernel
theorem dX10_feast_30 : decode cX10_feast 30 = .ok (.iload_n 3, 1) := by decide +kernel
theorem dX10_feast_31 : decode cX10_feast 31 = .ok (.invokestatic 79, 3) := by decide +kernel
theorem dX10_feast_34 : decode cX10_feast 34 = .ok (.ifCond .eq 15, 3) := by decide +kernel
theorem dX10_feast_37 : decode cX10_feast 37 = .ok (.iload 4, 2) := by decide +kernel
theorem dX10_feast_39 : decode cX10_feast 39 = .ok (.iconst 1, 1) := by decide +kernel
theorem dX10_feast_40 : decode cX10_feast 40 = .ok (.sipush 10000, 3) := by decide +kernel
theorem dX10_feast_43 : decode cX10_feast 43 = .ok (.invokestatic 63, 3) := by decide +kernel
theorem dX10_feast_46 : decode cX10_feast 46 = .ok (.ifCond .ne 5, 3) := by decide +kernel
theorem dX10_feast_49 : decode cX10_feast 49 = .ok (.iconst (-1), 1) := by decide +kernel
theorem dX10_feast_50 : decode cX10_feast 50 = .ok (.ireturn, 1) := by decide +kernel
theorem dX10_feast_51 : decode cX10_feast 51 = .ok (.aload_n 0, 1) := by decide +kernel
theorem dX10_feast_52 : decode cX10_feast 52 = .ok (.getfield 44, 3) := by decide +kernel
theorem dX10_feast_55 : decode cX10_feast 55 = .ok (.iload_n 1, 1) := by decide +kernel
theorem dX10_feast_56 : decode cX10_feast 56 = .ok (.iload_n 2, 1) := by decide +kernel
theorem dX10_feast_57 : decode cX10_feast 57 = .ok (.iload_n 3, 1) := by decide +kernel
theorem dX10_feast_58 : decode cX10_feast 58 = .ok (.iload 4, 2) := by decide +kernel
theorem dX10_feast_60 : decode cX10_feast 60 = .ok (.invokevirtual 148, 3) := by decide +kernel
theorem dX10_feast_63 : decode cX10_feast 63 = .ok (.ireturn, 1) := by decide +kernel
theorem dX10_cancel_0 : decode cX10_cancel 0 = .ok (.aload_n 0, 1) := by decide +kernel
theorem dX10_cancel_1 : decode cX10_cancel 1 = .ok (.getfield 44, 3) := by decide +kernel
theorem dX10_cancel_4 : decode cX10_cancel 4 = .ok (.getfield 152, 3) := by decide +kernel
theorem dX10_cancel_7 : decode cX10_cancel 7 = .ok (.ifCond .ne 5, 3) := by decide +kernel
theorem dX10_cancel_10 : decode cX10_cancel 10 = .ok (.iconst 0, 1) := by decide +kernel
theorem dX10_cancel_11 : decode cX10_cancel 11 = .ok (.ireturn, 1) := by decide +kernel
theorem dX10_cancel_12 : decode cX10_cancel 12 = .ok (.aload_n 0, 1) := by decide +kernel
theorem dX10_cancel_13 : decode cX10_cancel 13 = .ok (.getfield 44, 3) := by decide +kernel
theorem dX10_cancel_16 : decode cX10_cancel 16 = .ok (.dup, 1) := by decide +kernel
theorem dX10_cancel_17 : decode cX10_cancel 17 = .ok (.getfield 152, 3) := by decide +kernel
theorem dX10_cancel_20 : decode cX10_cancel 20 = .ok (.iconst 1, 1) := by decide +kernel
theorem dX10_cancel_21 : decode cX10_cancel 21 = .ok (.isub, 1) := by decide +kernel
theorem dX10_cancel_22 : decode cX10_cancel 22 = .ok (.putfield 152, 3) := by decide +kernel
theorem dX10_cancel_25 : decode cX10_cancel 25 = .ok (.iconst 1, 1) := by decide +kernel
theorem dX10_cancel_26 : decode cX10_cancel 26 = .ok (.ireturn, 1) := by decide +kernel
theorem dX10_fed_0 : decode cX10_fed 0 = .ok (.aload_n 0, 1) := by decide +kernel
theorem dX10_fed_1 : decode cX10_fed 1 = .ok (.getfield 51, 3) := by decide +kernel
theorem dX10_fed_4 : decode cX10_fed 4 = .ok (.aload_n 0, 1) := by decide +kernel
theorem dX10_fed_5 : decode cX10_fed 5 = .ok (.getfield 12, 3) := by decide +kernel
theorem dX10_fed_8 : decode cX10_fed 8 = .ok (.aload_n 0, 1) := by decide +kernel
theorem dX10_fed_9 : decode cX10_fed 9 = .ok (.getfield 44, 3) := by decide +kernel
theorem dX10_fed_12 : decode cX10_fed 12 = .ok (.invokevirtual 153, 3) := by decide +kernel
theorem dX10_fed_15 : decode cX10_fed 15 = .ok (.aload_n 0, 1) := by decide +kernel
theorem dX10_fed_16 : decode cX10_fed 16 = .ok (.getfield 51, 3) := by decide +kernel
theorem dX10_fed_19 : decode cX10_fed 19 = .ok (.getfield 157, 3) := by decide +kernel
theorem dX10_fed_22 : decode cX10_fed 22 = .ok (.ireturn, 1) := by decide +kernel
theorem dX10_carried_0 : decode cX10_carried 0 = .ok (.aload_n 0, 1) := by decide +kernel
theorem dX10_carried_1 : decode cX10_carried 1 = .ok (.getfield 51, 3) := by decide +kernel
theorem dX10_carried_4 : decode cX10_carried 4 = .ok (.aload_n 0, 1) := by decide +kernel
theorem dX10_carried_5 : decode cX10_carried 5 = .ok (.getfield 12, 3) := by decide +kernel
theorem dX10_carried_8 : decode cX10_carried 8 = .ok (.aload_n 0, 1) := by decide +kernel
theorem dX10_carried_9 : decode cX10_carried 9 = .ok (.getfield 44, 3) := by decide +kernel
theorem dX10_carried_12 : decode cX10_carried 12 = .ok (.invokevirtual 153, 3) := by decide +kernel
theorem dX10_carried_15 : decode cX10_carried 15 = .ok (.aload_n 0, 1) := by decide +kernel
theorem dX10_carried_16 : decode cX10_carried 16 = .ok (.getfield 51, 3) := by decide +kernel
theorem dX10_carried_19 : decode cX10_carried 19 = .ok (.getfield 160, 3) := by decide +kernel
theorem dX10_carried_22 : decode cX10_carried 22 = .ok (.ireturn, 1) := by decide +kernel
theorem dX10_call_0 : decode cX10_call 0 = .ok (.iload_n 1, 1) := by decide +kernel
theorem dX10_call_1 : decode cX10_call 1 = .ok (.iconst 1, 1) := by decide +kernel
theorem dX10_call_2 : decode cX10_call 2 = .ok (.sipush 1000, 3) := by decide +kernel
theorem dX10_call_5 : decode cX10_call 5 = .ok (.invokestatic 63, 3) := by decide +kernel
theorem dX10_call_8 : decode cX10_call 8 = .ok (.ifCond .eq 17, 3) := by decide +kernel
theorem dX10_call_11 : decode cX10_call 11 = .ok (.aload_n 0, 1) := by decide +kernel
theorem dX10_call_12 : decode cX10_call 12 = .ok (.getfield 12, 3) := by decide +kernel
theorem dX10_call_15 : decode cX10_call 15 = .ok (.getfield 163, 3) := by decide +kernel
theorem dX10_call_18 : decode cX10_call 18 = .ok (.iload_n 1, 1) := by decide +kernel
theorem dX10_call_19 : decode cX10_call 19 = .ok (.iadd, 1) := by decide +kernel
theorem dX10_call_20 : decode cX10_call 20 = .ok (.ldc 62, 2) := by decide +kernel
theorem dX10_call_22 : decode cX10_call 22 = .ok (.if_icmp .le 5, 3) := by decide +kernel
theorem dX10_call_25 : decode cX10_call 25 = .ok (.iconst (-1), 1) := by decide +kernel
theorem dX10_call_26 : decode cX10_call 26 = .ok (.ireturn, 1) := by decide +kernel
theorem dX10_call_27 : decode cX10_call 27 = .ok (.aload_n 0, 1) := by decide +kernel
theorem dX10_call_28 : decode cX10_call 28 = .ok (.getfield 12, 3) := by decide +kernel
theorem dX10_call_31 : decode cX10_call 31 = .ok (.invokevirtual 166, 3) := by decide +kernel
theorem dX10_call_34 : decode cX10_call 34 = .ok (.istore_n 2, 1) := by decide +kernel
theorem dX10_call_35 : decode cX10_call 35 = .ok (.iload_n 2, 1) := by decide +kernel
theorem dX10_call_36 : decode cX10_call 36 = .ok (.ifCond .ne 5, 3) := by decide +kernel
theorem dX10_call_39 : decode cX10_call 39 = .ok (.iconst (-1), 1) := by decide +kernel
theorem dX10_call_40 : decode cX10_call 40 = .ok (.ireturn, 1) := by decide +kernel
theorem dX10_call_41 : decode cX10_call 41 = .ok (.iconst 0, 1) := by decide +kernel
theorem dX10_call_42 : decode cX10_call 42 = .ok (.istore_n 3, 1) := by decide +kernel
theorem dX10_call_43 : decode cX10_call 43 = .ok (.iload_n 3, 1) := by decide +kernel
theorem dX10_call_44 : decode cX10_call 44 = .ok (.iload_n 1, 1) := by decide +kernel
theorem dX10_call_45 : decode cX10_call 45 = .ok (.if_icmp .ge 17, 3) := by decide +kernel
theorem dX10_call_48 : decode cX10_call 48 = .ok (.aload_n 0, 1) := by decide +kernel
theorem dX10_call_49 : decode cX10_call 49 = .ok (.getfield 12, 3) := by decide +kernel
theorem dX10_call_52 : decode cX10_call 52 = .ok (.iload_n 2, 1) := by decide +kernel
theorem dX10_call_53 : decode cX10_call 53 = .ok (.invokevirtual 169, 3) := by decide +kernel
theorem dX10_call_56 : decode cX10_call 56 = .ok (.iinc 3 1, 3) := by decide +kernel
theorem dX10_call_59 : decode cX10_call 59 = .ok (.goto (-16), 3) := by decide +kernel
theorem dX10_call_62 : decode cX10_call 62 = .ok (.aload_n 0, 1) := by decide +kernel
theorem dX10_call_63 : decode cX10_call 63 = .ok (.getfield 12, 3) := by decide +kernel
theorem dX10_call_66 : decode cX10_call 66 = .ok (.getfield 163, 3) := by decide +kernel
theorem dX10_call_69 : decode cX10_call 69 = .ok (.ireturn, 1) := by decide +kernel
theorem dX10_gave_0 : decode cX10_gave 0 = .ok (.aload_n 0, 1) := by decide +kernel
theorem dX10_gave_1 : decode cX10_gave 1 = .ok (.getfield 12, 3) := by decide +kernel
theorem dX10_gave_4 : decode cX10_gave 4 = .ok (.iload_n 1, 1) := by decide +kernel
theorem dX10_gave_5 : decode cX10_gave 5 = .ok (.invokevirtual 71, 3) := by decide +kernel
theorem dX10_gave_8 : decode cX10_gave 8 = .ok (.ifCond .eq 18, 3) := by decide +kernel
theorem dX10_gave_11 : decode cX10_gave 11 = .ok (.aload_n 0, 1) := by decide +kernel
theorem dX10_gave_12 : decode cX10_gave 12 = .ok (.getfield 12, 3) := by decide +kernel
theorem dX10_gave_15 : decode cX10_gave 15 = .ok (.getfield 86, 3) := by decide +kernel
theorem dX10_gave_18 : decode cX10_gave 18 = .ok (.iload_n 1, 1) := by decide +kernel
theorem dX10_gave_19 : decode cX10_gave 19 = .ok (.aaload, 1) := by decide +kernel
theorem dX10_gave_20 : decode cX10_gave 20 = .ok (.getfield 172, 3) := by decide +kernel
theorem dX10_gave_23 : decode cX10_gave 23 = .ok (.goto 4, 3) := by decide +kernel
theorem dX10_gave_26 : decode cX10_gave 26 = .ok (.iconst (-1), 1) := by decide +kernel
theorem dX10_gave_27 : decode cX10_gave 27 = .ok (.ireturn, 1) := by decide +kernel
theorem dX10_tell_0 : decode cX10_tell 0 = .ok (.iload_n 1, 1) := by decide +kernel
theorem dX10_tell_1 : decode cX10_tell 1 = .ok (.iconst 0, 1) := by decide +kernel
theorem dX10_tell_2 : decode cX10_tell 2 = .ok (.iconst 4, 1) := by decide +kernel
theorem dX10_tell_3 : decode cX10_tell 3 = .ok (.invokestatic 63, 3) := by decide +kernel
theorem dX10_tell_6 : decode cX10_tell 6 = .ok (.ifCond .eq 21, 3) := by decide +kernel
theorem dX10_tell_9 : decode cX10_tell 9 = .ok (.aload_n 0, 1) := by decide +kernel
theorem dX10_tell_10 : decode cX10_tell 10 = .ok (.getfield 12, 3) := by decide +kernel
theorem dX10_tell_13 : decode cX10_tell 13 = .ok (.iload_n 2, 1) := by decide +kernel
theorem dX10_tell_14 : decode cX10_tell 14 = .ok (.invokevirtual 71, 3) := by decide +kernel
theorem dX10_tell_17 : decode cX10_tell 17 = .ok (.ifCond .eq 10, 3) := by decide +kernel
theorem dX10_tell_20 : decode cX10_tell 20 = .ok (.iload_n 3, 1) := by decide +kernel
theorem dX10_tell_21 : decode cX10_tell 21 = .ok (.invokestatic 79, 3) := by decide +kernel
theorem dX10_tell_24 : decode cX10_tell 24 = .ok (.ifCond .ne 5, 3) := by decide +kernel
theorem dX10_tell_27 : decode cX10_tell 27 = .ok (.iconst (-1), 1) := by decide +kernel
theorem dX10_tell_28 : decode cX10_tell 28 = .ok (.ireturn, 1) := by decide +kernel
theorem dX10_tell_29 : decode cX10_tell 29 = .ok (.iload 4, 2) := by decide +kernel
theorem dX10_tell_31 : decode cX10_tell 31 = .ok (.iconst 0, 1) := by decide +kernel
theorem dX10_tell_32 : decode cX10_tell 32 = .ok (.aload_n 0, 1) := by decide +kernel
theorem dX10_tell_33 : decode cX10_tell 33 = .ok (.getfield 12, 3) := by decide +kernel
theorem dX10_tell_36 : decode cX10_tell 36 = .ok (.getfield 126, 3) := by decide +kernel
theorem dX10_tell_39 : decode cX10_tell 39 = .ok (.invokestatic 63, 3) := by decide +kernel
theorem dX10_tell_42 : decode cX10_tell 42 = .ok (.ifCond .eq 14, 3) := by decide +kernel
theorem dX10_tell_45 : decode cX10_tell 45 = .ok (.iload 5, 2) := by decide +kernel
theorem dX10_tell_47 : decode cX10_tell 47 = .ok (.iconst 0, 1) := by decide +kernel
theorem dX10_tell_48 : decode cX10_tell 48 = .ok (.ldc 175, 2) := by decide +kernel
theorem dX10_tell_50 : decode cX10_tell 50 = .ok (.invokestatic 63, 3) := by decide +kernel
theorem dX10_tell_53 : decode cX10_tell 53 = .ok (.ifCond .ne 5, 3) := by decide +kernel
theorem dX10_tell_56 : decode cX10_tell 56 = .ok (.iconst (-1), 1) := by decide +kernel
theorem dX10_tell_57 : decode cX10_tell 57 = .ok (.ireturn, 1) := by decide +kernel
theorem dX10_tell_58 : decode cX10_tell 58 = .ok (.aload_n 0, 1) := by decide +kernel
theorem dX10_tell_59 : decode cX10_tell 59 = .ok (.getfield 58, 3) := by decide +kernel
theorem dX10_tell_62 : decode cX10_tell 62 = .ok (.iload_n 1, 1) := by decide +kernel
theorem dX10_tell_63 : decode cX10_tell 63 = .ok (.iload_n 2, 1) := by decide +kernel
theorem dX10_tell_64 : decode cX10_tell 64 = .ok (.iload_n 3, 1) := by decide +kernel
theorem dX10_tell_65 : decode cX10_tell 65 = .ok (.invokestatic 176, 3) := by decide +kernel
theorem dX10_tell_68 : decode cX10_tell 68 = .ok (.iload 4, 2) := by decide +kernel
theorem dX10_tell_70 : decode cX10_tell 70 = .ok (.iload 5, 2) := by decide +kernel
theorem dX10_tell_72 : decode cX10_tell 72 = .ok (.aload_n 0, 1) := by decide +kernel
theorem dX10_tell_73 : decode cX10_tell 73 = .ok (.getfield 12, 3) := by decide +kernel
theorem dX10_tell_76 : decode cX10_tell 76 = .ok (.getfield 126, 3) := by decide +kernel
theorem dX10_tell_79 : decode cX10_tell 79 = .ok (.invokevirtual 179, 3) := by decide +kernel
theorem dX10_tell_82 : decode cX10_tell 82 = .ok (.ireturn, 1) := by decide +kernel
theorem dX10_untell_0 : decode cX10_untell 0 = .ok (.aload_n 0, 1) := by decide +kernel
theorem dX10_untell_1 : decode cX10_untell 1 = .ok (.getfield 58, 3) := by decide +kernel
theorem dX10_untell_4 : decode cX10_untell 4 = .ok (.iload_n 1, 1) := by decide +kernel
theorem dX10_untell_5 : decode cX10_untell 5 = .ok (.aload_n 0, 1) := by decide +kernel
theorem dX10_untell_6 : decode cX10_untell 6 = .ok (.getfield 12, 3) := by decide +kernel
theorem dX10_untell_9 : decode cX10_untell 9 = .ok (.getfield 126, 3) := by decide +kernel
theorem dX10_untell_12 : decode cX10_untell 12 = .ok (.invokevirtual 182, 3) := by decide +kernel
theorem dX10_untell_15 : decode cX10_untell 15 = .ok (.ireturn, 1) := by decide +kernel
theorem dX10_count_0 : decode cX10_count 0 = .ok (.aload_n 0, 1) := by decide +kernel
theorem dX10_count_1 : decode cX10_count 1 = .ok (.getfield 12, 3) := by decide +kernel
theorem dX10_count_4 : decode cX10_count 4 = .ok (.iload_n 1, 1) := by decide +kernel
theorem dX10_count_5 : decode cX10_count 5 = .ok (.invokevirtual 71, 3) := by decide +kernel
theorem dX10_count_8 : decode cX10_count 8 = .ok (.ifCond .eq 10, 3) := by decide +kernel
theorem dX10_count_11 : decode cX10_count 11 = .ok (.iload_n 2, 1) := by decide +kernel
theorem dX10_count_12 : decode cX10_count 12 = .ok (.invokestatic 79, 3) := by decide +kernel
theorem dX10_count_15 : decode cX10_count 15 = .ok (.ifCond .ne 5, 3) := by decide +kernel
theorem dX10_count_18 : decode cX10_count 18 = .ok (.iconst (-1), 1) := by decide +kernel
theorem dX10_count_19 : decode cX10_count 19 = .ok (.ireturn, 1) := by decide +kernel
theorem dX10_count_20 : decode cX10_count 20 = .ok (.aload_n 0, 1) := by decide +kernel
theorem dX10_count_21 : decode cX10_count 21 = .ok (.getfield 58, 3) := by decide +kernel
theorem dX10_count_24 : decode cX10_count 24 = .ok (.iload_n 1, 1) := by decide +kernel
theorem dX10_count_25 : decode cX10_count 25 = .ok (.iload_n 2, 1) := by decide +kernel
theorem dX10_count_26 : decode cX10_count 26 = .ok (.invokestatic 176, 3) := by decide +kernel
theorem dX10_count_29 : decode cX10_count 29 = .ok (.iload_n 3, 1) := by decide +kernel
theorem dX10_count_30 : decode cX10_count 30 = .ok (.iload 4, 2) := by decide +kernel
theorem dX10_count_32 : decode cX10_count 32 = .ok (.invokevirtual 186, 3) := by decide +kernel
theorem dX10_count_35 : decode cX10_count 35 = .ok (.aload_n 0, 1) := by decide +kernel
theorem dX10_count_36 : decode cX10_count 36 = .ok (.getfield 58, 3) := by decide +kernel
theorem dX10_count_39 : decode cX10_count 39 = .ok (.getfield 190, 3) := by decide +kernel
theorem dX10_count_42 : decode cX10_count 42 = .ok (.ireturn, 1) := by decide +kernel
theorem dX10_agree_0 : decode cX10_agree 0 = .ok (.aload_n 0, 1) := by decide +kernel
theorem dX10_agree_1 : decode cX10_agree 1 = .ok (.getfield 12, 3) := by decide +kernel
theorem dX10_agree_4 : decode cX10_agree 4 = .ok (.iload_n 1, 1) := by decide +kernel
theorem dX10_agree_5 : decode cX10_agree 5 = .ok (.invokevirtual 71, 3) := by decide +kernel
theorem dX10_agree_8 : decode cX10_agree 8 = .ok (.ifCond .eq 10, 3) := by decide +kernel
theorem dX10_agree_11 : decode cX10_agree 11 = .ok (.iload_n 2, 1) := by decide +kernel
theorem dX10_agree_12 : decode cX10_agree 12 = .ok (.invokestatic 79, 3) := by decide +kernel
theorem dX10_agree_15 : decode cX10_agree 15 = .ok (.ifCond .ne 5, 3) := by decide +kernel
theorem dX10_agree_18 : decode cX10_agree 18 = .ok (.iconst 0, 1) := by decide +kernel
theorem dX10_agree_19 : decode cX10_agree 19 = .ok (.ireturn, 1) := by decide +kernel
theorem dX10_agree_20 : decode cX10_agree 20 = .ok (.aload_n 0, 1) := by decide +kernel
theorem dX10_agree_21 : decode cX10_agree 21 = .ok (.getfield 58, 3) := by decide +kernel
theorem dX10_agree_24 : decode cX10_agree 24 = .ok (.iload_n 1, 1) := by decide +kernel
theorem dX10_agree_25 : decode cX10_agree 25 = .ok (.iload_n 2, 1) := by decide +kernel
theorem dX10_agree_26 : decode cX10_agree 26 = .ok (.invokestatic 176, 3) := by decide +kernel
theorem dX10_agree_29 : decode cX10_agree 29 = .ok (.iload_n 3, 1) := by decide +kernel
theorem dX10_agree_30 : decode cX10_agree 30 = .ok (.iload 4, 2) := by decide +kernel
theorem dX10_agree_32 : decode cX10_agree 32 = .ok (.invokevirtual 186, 3) := by decide +kernel
theorem dX10_agree_35 : decode cX10_agree 35 = .ok (.aload_n 0, 1) := by decide +kernel
theorem dX10_agree_36 : decode cX10_agree 36 = .ok (.getfield 58, 3) := by decide +kernel
theorem dX10_agree_39 : decode cX10_agree 39 = .ok (.getfield 193, 3) := by decide +kernel
theorem dX10_agree_42 : decode cX10_agree 42 = .ok (.ireturn, 1) := by decide +kernel
theorem dX10_of_0 : decode cX10_of 0 = .ok (.aload_n 0, 1) := by decide +kernel
theorem dX10_of_1 : decode cX10_of 1 = .ok (.getfield 12, 3) := by decide +kernel
theorem dX10_of_4 : decode cX10_of 4 = .ok (.iload_n 1, 1) := by decide +kernel
theorem dX10_of_5 : decode cX10_of 5 = .ok (.invokevirtual 71, 3) := by decide +kernel
theorem dX10_of_8 : decode cX10_of 8 = .ok (.ifCond .ne 5, 3) := by decide +kernel
theorem dX10_of_11 : decode cX10_of 11 = .ok (.iconst (-1), 1) := by decide +kernel
theorem dX10_of_12 : decode cX10_of 12 = .ok (.ireturn, 1) := by decide +kernel
theorem dX10_of_13 : decode cX10_of 13 = .ok (.aload_n 0, 1) := by decide +kernel
theorem dX10_of_14 : decode cX10_of 14 = .ok (.getfield 12, 3) := by decide +kernel
theorem dX10_of_17 : decode cX10_of 17 = .ok (.getfield 86, 3) := by decide +kernel
theorem dX10_of_20 : decode cX10_of 20 = .ok (.iload_n 1, 1) := by decide +kernel
theorem dX10_of_21 : decode cX10_of 21 = .ok (.aaload, 1) := by decide +kernel
theorem dX10_of_22 : decode cX10_of 22 = .ok (.astore_n 3, 1) := by decide +kernel
theorem dX10_of_23 : decode cX10_of 23 = .ok (.iload_n 2, 1) := by decide +kernel
theorem dX10_of_24 : decode cX10_of 24 = .ok (.tableswitch 52 0 3 #[32, 37, 42, 47], 32) := by decide +kernel
theorem dX10_of_56 : decode cX10_of 56 = .ok (.aload_n 3, 1) := by decide +kernel
theorem dX10_of_57 : decode cX10_of 57 = .ok (.getfield 196, 3) := by decide +kernel
theorem dX10_of_60 : decode cX10_of 60 = .ok (.ireturn, 1) := by decide +kernel
theorem dX10_of_61 : decode cX10_of 61 = .ok (.aload_n 3, 1) := by decide +kernel
theorem dX10_of_62 : decode cX10_of 62 = .ok (.getfield 199, 3) := by decide +kernel
theorem dX10_of_65 : decode cX10_of 65 = .ok (.ireturn, 1) := by decide +kernel
theorem dX10_of_66 : decode cX10_of 66 = .ok (.aload_n 3, 1) := by decide +kernel
theorem dX10_of_67 : decode cX10_of 67 = .ok (.getfield 202, 3) := by decide +kernel
theorem dX10_of_70 : decode cX10_of 70 = .ok (.ireturn, 1) := by decide +kernel
theorem dX10_of_71 : decode cX10_of 71 = .ok (.aload_n 3, 1) := by decide +kernel
theorem dX10_of_72 : decode cX10_of 72 = .ok (.invokevirtual 205, 3) := by decide +kernel
theorem dX10_of_75 : decode cX10_of 75 = .ok (.ireturn, 1) := by decide +kernel
theorem dX10_of_76 : decode cX10_of 76 = .ok (.iload_n 2, 1) := by decide +kernel
theorem dX10_of_77 : decode cX10_of 77 = .ok (.bipush 10, 2) := by decide +kernel
theorem dX10_of_79 : decode cX10_of 79 = .ok (.bipush 9, 2) := by decide +kernel
theorem dX10_of_81 : decode cX10_of 81 = .ok (.aload_n 0, 1) := by decide +kernel
theorem dX10_of_82 : decode cX10_of 82 = .ok (.getfield 12, 3) := by decide +kernel
theorem dX10_of_85 : decode cX10_of 85 = .ok (.getfield 208, 3) := by decide +kernel
theorem dX10_of_88 : decode cX10_of 88 = .ok (.iadd, 1) := by decide +kernel
theorem dX10_of_89 : decode cX10_of 89 = .ok (.invokestatic 63, 3) := by decide +kernel
theorem dX10_of_92 : decode cX10_of 92 = .ok (.ifCond .eq 20, 3) := by decide +kernel
theorem dX10_of_95 : decode cX10_of 95 = .ok (.aload_n 0, 1) := by decide +kernel
theorem dX10_of_96 : decode cX10_of 96 = .ok (.getfield 12, 3) := by decide +kernel
theorem dX10_of_99 : decode cX10_of 99 = .ok (.getfield 75, 3) := by decide +kernel
theorem dX10_of_102 : decode cX10_of 102 = .ok (.iload_n 1, 1) := by decide +kernel
theorem dX10_of_103 : decode cX10_of 103 = .ok (.aaload, 1) := by decide +kernel
theorem dX10_of_104 : decode cX10_of 104 = .ok (.iload_n 2, 1) := by decide +kernel
theorem dX10_of_105 : decode cX10_of 105 = .ok (.bipush 10, 2) := by decide +kernel
theorem dX10_of_107 : decode cX10_of 107 = .ok (.isub, 1) := by decide +kernel
theorem dX10_of_108 : decode cX10_of 108 = .ok (.iaload, 1) := by decide +kernel
theorem dX10_of_109 : decode cX10_of 109 = .ok (.goto 4, 3) := by decide +kernel
theorem dX10_of_112 : decode cX10_of 112 = .ok (.iconst (-1), 1) := by decide +kernel
theorem dX10_of_113 : decode cX10_of 113 = .ok (.ireturn, 1) := by decide +kernel
theorem dX10_about_0 : decode cX10_about 0 = .ok (.iload_n 1, 1) := by decide +kernel
theorem dX10_about_1 : decode cX10_about 1 = .ok (.tableswitch 99 0 6 #[43, 51, 59, 70, 78, 86, 94], 43) := by decide +kernel
theorem dX10_about_44 : decode cX10_about 44 = .ok (.aload_n 0, 1) := by decide +kernel
theorem dX10_about_45 : decode cX10_about 45 = .ok (.getfield 12, 3) := by decide +kernel
theorem dX10_about_48 : decode cX10_about 48 = .ok (.getfield 126, 3) := by decide +kernel
theorem dX10_about_51 : decode cX10_about 51 = .ok (.ireturn, 1) := by decide +kernel
theorem dX10_about_52 : decode cX10_about 52 = .ok (.aload_n 0, 1) := by decide +kernel
theorem dX10_about_53 : decode cX10_about 53 = .ok (.getfield 12, 3) := by decide +kernel
theorem dX10_about_56 : decode cX10_about 56 = .ok (.getfield 208, 3) := by decide +kernel
theorem dX10_about_59 : decode cX10_about 59 = .ok (.ireturn, 1) := by decide +kernel

theorem dX6_bump_12 : decode cX6_bump 12 = .ok (.getfield 16, 3) := by decide +kernel
theorem dX6_bump_15 : decode cX6_bump 15 = .ok (.aload_n 0, 1) := by decide +kernel
theorem dX6_bump_16 : decode cX6_bump 16 = .ok (.getfield 10, 3) := by decide +kernel
theorem dX6_bump_19 : decode cX6_bump 19 = .ok (.invokevirtual 130, 3) := by decide +kernel
theorem dX6_bump_22 : decode cX6_bump 22 = .ok (.iconst 0, 1) := by decide +kernel
theorem dX6_bump_23 : decode cX6_bump 23 = .ok (.istore_n 2, 1) := by decide +kernel
theorem dX6_bump_24 : decode cX6_bump 24 = .ok (.iconst (-1), 1) := by decide +kernel
theorem dX6_bump_25 : decode cX6_bump 25 = .ok (.istore_n 3, 1) := by decide +kernel
theorem dX6_bump_26 : decode cX6_bump 26 = .ok (.iconst 0, 1) := by decide +kernel
theorem dX6_bump_27 : decode cX6_bump 27 = .ok (.istore 4, 2) := by decide +kernel
theorem dX6_bump_29 : decode cX6_bump 29 = .ok (.iload 4, 2) := by decide +kernel
theorem dX6_bump_31 : decode cX6_bump 31 = .ok (.bipush 10, 2) := by decide +kernel
theorem dX6_bump_33 : decode cX6_bump 33 = .ok (.if_icmp .ge 29, 3) := by decide +kernel
theorem dX6_bump_36 : decode cX6_bump 36 = .ok (.aload_n 0, 1) := by decide +kernel
theorem dX6_bump_37 : decode cX6_bump 37 = .ok (.iload 4, 2) := by decide +kernel
theorem dX6_bump_39 : decode cX6_bump 39 = .ok (.invokevirtual 183, 3) := by decide +kernel
theorem dX6_bump_42 : decode cX6_bump 42 = .ok (.istore 5, 2) := by decide +kernel
theorem dX6_bump_44 : decode cX6_bump 44 = .ok (.iload 5, 2) := by decide +kernel
theorem dX6_bump_46 : decode cX6_bump 46 = .ok (.iload_n 3, 1) := by decide +kernel
theorem dX6_bump_47 : decode cX6_bump 47 = .ok (.if_icmp .le 9, 3) := by decide +kernel
theorem dX6_bump_50 : decode cX6_bump 50 = .ok (.iload 5, 2) := by decide +kernel
theorem dX6_bump_52 : decode cX6_bump 52 = .ok (.istore_n 3, 1) := by decide +kernel
theorem dX6_bump_53 : decode cX6_bump 53 = .ok (.iload 4, 2) := by decide +kernel
theorem dX6_bump_55 : decode cX6_bump 55 = .ok (.istore_n 2, 1) := by decide +kernel
theorem dX6_bump_56 : decode cX6_bump 56 = .ok (.iinc 4 1, 3) := by decide +kernel
theorem dX6_bump_59 : decode cX6_bump 59 = .ok (.goto (-30), 3) := by decide +kernel
theorem dX6_bump_62 : decode cX6_bump 62 = .ok (.iload_n 1, 1) := by decide +kernel
theorem dX6_bump_63 : decode cX6_bump 63 = .ok (.ifCond .ne 7, 3) := by decide +kernel
theorem dX6_bump_66 : decode cX6_bump 66 = .ok (.iload_n 2, 1) := by decide +kernel
theorem dX6_bump_67 : decode cX6_bump 67 = .ok (.goto 4, 3) := by decide +kernel
theorem dX6_bump_70 : decode cX6_bump 70 = .ok (.iload_n 3, 1) := by decide +kernel
theorem dX6_bump_71 : decode cX6_bump 71 = .ok (.ireturn, 1) := by decide +kernel
theorem dX6_throughWithoutBump_0 : decode cX6_throughWithoutBump 0 = .ok (.aload_n 0, 1) := by decide +kernel
theorem dX6_throughWithoutBump_1 : decode cX6_throughWithoutBump 1 = .ok (.getfield 16, 3) := by decide +kernel
theorem dX6_throughWithoutBump_4 : decode cX6_throughWithoutBump 4 = .ok (.getfield 104, 3) := by decide +kernel
theorem dX6_throughWithoutBump_7 : decode cX6_throughWithoutBump 7 = .ok (.iload_n 1, 1) := by decide +kernel
theorem dX6_throughWithoutBump_8 : decode cX6_throughWithoutBump 8 = .ok (.iaload, 1) := by decide +kernel
theorem dX6_throughWithoutBump_9 : decode cX6_throughWithoutBump 9 = .ok (.istore_n 2, 1) := by decide +kernel
theorem dX6_throughWithoutBump_10 : decode cX6_throughWithoutBump 10 = .ok (.aload_n 0, 1) := by decide +kernel
theorem dX6_throughWithoutBump_11 : decode cX6_throughWithoutBump 11 = .ok (.getfield 16, 3) := by decide +kernel
theorem dX6_throughWithoutBump_14 : decode cX6_throughWithoutBump 14 = .ok (.getfield 104, 3) := by decide +kernel
theorem dX6_throughWithoutBump_17 : decode cX6_throughWithoutBump 17 = .ok (.iload_n 1, 1) := by decide +kernel
theorem dX6_throughWithoutBump_18 : decode cX6_throughWithoutBump 18 = .ok (.iconst 0, 1) := by decide +kernel
theorem dX6_throughWithoutBump_19 : decode cX6_throughWithoutBump 19 = .ok (.iastore, 1) := by decide +kernel
theorem dX6_throughWithoutBump_20 : decode cX6_throughWithoutBump 20 = .ok (.iconst 0, 1) := by decide +kernel
theorem dX6_throughWithoutBump_21 : decode cX6_throughWithoutBump 21 = .ok (.istore_n 3, 1) := by decide +kernel
theorem dX6_throughWithoutBump_22 : decode cX6_throughWithoutBump 22 = .ok (.iconst 0, 1) := by decide +kernel
theorem dX6_throughWithoutBump_23 : decode cX6_throughWithoutBump 23 = .ok (.istore 4, 2) := by decide +kernel
theorem dX6_throughWithoutBump_25 : decode cX6_throughWithoutBump 25 = .ok (.iload 4, 2) := by decide +kernel
theorem dX6_throughWithoutBump_27 : decode cX6_throughWithoutBump 27 = .ok (.aload_n 0, 1) := by decide +kernel
theorem dX6_throughWithoutBump_28 : decode cX6_throughWithoutBump 28 = .ok (.getfield 16, 3) := by decide +kernel
theorem dX6_throughWithoutBump_31 : decode cX6_throughWithoutBump 31 = .ok (.getfield 134, 3) := by decide +kernel
theorem dX6_throughWithoutBump_34 : decode cX6_throughWithoutBump 34 = .ok (.if_icmp .ge 31, 3) := by decide +kernel
theorem dX6_throughWithoutBump_37 : decode cX6_throughWithoutBump 37 = .ok (.aload_n 0, 1) := by decide +kernel
theorem dX6_throughWithoutBump_38 : decode cX6_throughWithoutBump 38 = .ok (.getfield 16, 3) := by decide +kernel
theorem dX6_throughWithoutBump_41 : decode cX6_throughWithoutBump 41 = .ok (.iload 4, 2) := by decide +kernel
theorem dX6_throughWithoutBump_43 : decode cX6_throughWithoutBump 43 = .ok (.aload_n 0, 1) := by decide +kernel
theorem dX6_throughWithoutBump_44 : decode cX6_throughWithoutBump 44 = .ok (.getfield 49, 3) := by decide +kernel
theorem dX6_throughWithoutBump_47 : decode cX6_throughWithoutBump 47 = .ok (.invokevirtual 171, 3) := by decide +kernel
theorem dX6_throughWithoutBump_50 : decode cX6_throughWithoutBump 50 = .ok (.invokestatic 177, 3) := by decide +kernel
theorem dX6_throughWithoutBump_53 : decode cX6_throughWithoutBump 53 = .ok (.ifCond .eq 6, 3) := by decide +kernel
theorem dX6_throughWithoutBump_56 : decode cX6_throughWithoutBump 56 = .ok (.iinc 3 1, 3) := by decide +kernel
theorem dX6_throughWithoutBump_59 : decode cX6_throughWithoutBump 59 = .ok (.iinc 4 1, 3) := by decide +kernel
theorem dX6_throughWithoutBump_62 : decode cX6_throughWithoutBump 62 = .ok (.goto (-37), 3) := by decide +kernel
theorem dX6_throughWithoutBump_65 : decode cX6_throughWithoutBump 65 = .ok (.aload_n 0, 1) := by decide +kernel
theorem dX6_throughWithoutBump_66 : decode cX6_throughWithoutBump 66 = .ok (.getfield 16, 3) := by decide +kernel
theorem dX6_throughWithoutBump_69 : decode cX6_throughWithoutBump 69 = .ok (.getfield 104, 3) := by decide +kernel
theorem dX6_throughWithoutBump_72 : decode cX6_throughWithoutBump 72 = .ok (.iload_n 1, 1) := by decide +kernel
theorem dX6_throughWithoutBump_73 : decode cX6_throughWithoutBump 73 = .ok (.iload_n 2, 1) := by decide +kernel
theorem dX6_throughWithoutBump_74 : decode cX6_throughWithoutBump 74 = .ok (.iastore, 1) := by decide +kernel
theorem dX6_throughWithoutBump_75 : decode cX6_throughWithoutBump 75 = .ok (.iload_n 3, 1) := by decide +kernel
theorem dX6_throughWithoutBump_76 : decode cX6_throughWithoutBump 76 = .ok (.ireturn, 1) := by decide +kernel
theorem dX6_order_0 : decode cX6_order 0 = .ok (.iload_n 1, 1) := by decide +kernel
theorem dX6_order_1 : decode cX6_order 1 = .ok (.iconst (-1), 1) := by decide +kernel
theorem dX6_order_2 : decode cX6_order 2 = .ok (.if_icmp .ge 5, 3) := by decide +kernel
theorem dX6_order_5 : decode cX6_order 5 = .ok (.iconst (-1), 1) := by decide +kernel
theorem dX6_order_6 : decode cX6_order 6 = .ok (.ireturn, 1) := by decide +kernel
theorem dX6_order_7 : decode cX6_order 7 = .ok (.aload_n 0, 1) := by decide +kernel
theorem dX6_order_8 : decode cX6_order 8 = .ok (.invokevirtual 186, 3) := by decide +kernel
theorem dX6_order_11 : decode cX6_order 11 = .ok (.istore_n 2, 1) := by decide +kernel
theorem dX6_order_12 : decode cX6_order 12 = .ok (.iload_n 1, 1) := by decide +kernel
theorem dX6_order_13 : decode cX6_order 13 = .ok (.iconst (-1), 1) := by decide +kernel
theorem dX6_order_14 : decode cX6_order 14 = .ok (.if_icmp .ne 7, 3) := by decide +kernel
theorem dX6_order_17 : decode cX6_order 17 = .ok (.iload_n 2, 1) := by decide +kernel
theorem dX6_order_18 : decode cX6_order 18 = .ok (.goto 11, 3) := by decide +kernel
theorem dX6_order_21 : decode cX6_order 21 = .ok (.aload_n 0, 1) := by decide +kernel
theorem dX6_order_22 : decode cX6_order 22 = .ok (.getfield 60, 3) := by decide +kernel
theorem dX6_order_25 : decode cX6_order 25 = .ok (.iload_n 1, 1) := by decide +kernel
theorem dX6_order_26 : decode cX6_order 26 = .ok (.invokevirtual 189, 3) := by decide +kernel
theorem dX6_order_29 : decode cX6_order 29 = .ok (.ireturn, 1) := by decide +kernel
theorem dX6_findBestOrder_0 : decode cX6_findBestOrder 0 = .ok (.aload_n 0, 1) := by decide +kernel
theorem dX6_findBestOrder_1 : decode cX6_findBestOrder 1 = .ok (.getfield 56, 3) := by decide +kernel
theorem dX6_findBestOrder_4 : decode cX6_findBestOrder 4 = .ok (.aload_n 0, 1) := by decide +kernel
theorem dX6_findBestOrder_5 : decode cX6_findBestOrder 5 = .ok (.getfield 10, 3) := by decide +kernel
theorem dX6_findBestOrder_8 : decode cX6_findBestOrder 8 = .ok (.invokevirtual 192, 3) := by decide +kernel
theorem dX6_findBestOrder_11 : decode cX6_findBestOrder 11 = .ok (.iconst (-1), 1) := by decide +kernel
theorem dX6_findBestOrder_12 : decode cX6_findBestOrder 12 = .ok (.istore_n 1, 1) := by decide +kernel
theorem dX6_findBestOrder_13 : decode cX6_findBestOrder 13 = .ok (.iconst 1, 1) := by decide +kernel
theorem dX6_findBestOrder_14 : decode cX6_findBestOrder 14 = .ok (.istore_n 2, 1) := by decide +kernel
theorem dX6_findBestOrder_15 : decode cX6_findBestOrder 15 = .ok (.iconst 0, 1) := by decide +kernel
theorem dX6_findBestOrder_16 : decode cX6_findBestOrder 16 = .ok (.istore_n 3, 1) := by decide +kernel
theorem dX6_findBestOrder_17 : decode cX6_findBestOrder 17 = .ok (.iload_n 3, 1) := by decide +kernel
theorem dX6_findBestOrder_18 : decode cX6_findBestOrder 18 = .ok (.bipush 120, 2) := by decide +kernel
theorem dX6_findBestOrder_20 : decode cX6_findBestOrder 20 = .ok (.if_icmp .ge 51, 3) := by decide +kernel
theorem dX6_findBestOrder_23 : decode cX6_findBestOrder 23 = .ok (.iload_n 2, 1) := by decide +kernel
theorem dX6_findBestOrder_24 : decode cX6_findBestOrder 24 = .ok (.ifCond .eq 47, 3) := by decide +kernel
theorem dX6_findBestOrder_27 : decode cX6_findBestOrder 27 = .ok (.aload_n 0, 1) := by decide +kernel
theorem dX6_findBestOrder_28 : decode cX6_findBestOrder 28 = .ok (.aload_n 0, 1) := by decide +kernel
theorem dX6_findBestOrder_29 : decode cX6_findBestOrder 29 = .ok (.getfield 56, 3) := by decide +kernel
theorem dX6_findBestOrder_32 : decode cX6_findBestOrder 32 = .ok (.invokevirtual 195, 3) := by decide +kernel
theorem dX6_findBestOrder_35 : decode cX6_findBestOrder 35 = .ok (.istore 4, 2) := by decide +kernel
theorem dX6_findBestOrder_37 : decode cX6_findBestOrder 37 = .ok (.iload 4, 2) := by decide +kernel
theorem dX6_findBestOrder_39 : decode cX6_findBestOrder 39 = .ok (.iload_n 1, 1) := by decide +kernel
theorem dX6_findBestOrder_40 : decode cX6_findBestOrder 40 = .ok (.if_icmp .le 17, 3) := by decide +kernel
theorem dX6_findBestOrder_43 : decode cX6_findBestOrder 43 = .ok (.iload 4, 2) := by decide +kernel
theorem dX6_findBestOrder_45 : decode cX6_findBestOrder 45 = .ok (.istore_n 1, 1) := by decide +kernel
theorem dX6_findBestOrder_46 : decode cX6_findBestOrder 46 = .ok (.aload_n 0, 1) := by decide +kernel
theorem dX6_findBestOrder_47 : decode cX6_findBestOrder 47 = .ok (.getfield 60, 3) := by decide +kernel
theorem dX6_findBestOrder_50 : decode cX6_findBestOrder 50 = .ok (.aload_n 0, 1) := by decide +kernel
theorem dX6_findBestOrder_51 : decode cX6_findBestOrder 51 = .ok (.getfield 56, 3) := by decide +kernel
theorem dX6_findBestOrder_54 : decode cX6_findBestOrder 54 = .ok (.invokevirtual 199, 3) := by decide +kernel
theorem dX6_findBestOrder_57 : decode cX6_findBestOrder 57 = .ok (.aload_n 0, 1) := by decide +kernel
theorem dX6_findBestOrder_58 : decode cX6_findBestOrder 58 = .ok (.getfield 56, 3) := by decide +kernel
theorem dX6_findBestOrder_61 : decode cX6_findBestOrder 61 = .ok (.invokevirtual 202, 3) := by decide +kernel
theorem dX6_findBestOrder_64 : decode cX6_findBestOrder 64 = .ok (.istore_n 2, 1) := by decide +kernel
theorem dX6_findBestOrder_65 : decode cX6_findBestOrder 65 = .ok (.iinc 3 1, 3) := by decide +kernel
theorem dX6_findBestOrder_68 : decode cX6_findBestOrder 68 = .ok (.goto (-51), 3) := by decide +kernel
theorem dX6_findBestOrder_71 : decode cX6_findBestOrder 71 = .ok (.iload_n 1, 1) := by decide +kernel
theorem dX6_findBestOrder_72 : decode cX6_findBestOrder 72 = .ok (.ireturn, 1) := by decide +kernel
theorem dX6_throughBy_0 : decode cX6_throughBy 0 = .ok (.aload_n 0, 1) := by decide +kernel
theorem dX6_throughBy_1 : decode cX6_throughBy 1 = .ok (.getfield 16, 3) := by decide +kernel
theorem dX6_throughBy_4 : decode cX6_throughBy 4 = .ok (.aload_n 0, 1) := by decide +kernel
theorem dX6_throughBy_5 : decode cX6_throughBy 5 = .ok (.getfield 10, 3) := by decide +kernel
theorem dX6_throughBy_8 : decode cX6_throughBy 8 = .ok (.invokevirtual 130, 3) := by decide +kernel
theorem dX6_throughBy_11 : decode cX6_throughBy 11 = .ok (.iconst 0, 1) := by decide +kernel
theorem dX6_throughBy_12 : decode cX6_throughBy 12 = .ok (.istore_n 2, 1) := by decide +kernel
theorem dX6_throughBy_13 : decode cX6_throughBy 13 = .ok (.iload_n 2, 1) := by decide +kernel
theorem dX6_throughBy_14 : decode cX6_throughBy 14 = .ok (.aload_n 1, 1) := by decide +kernel
theorem dX6_throughBy_15 : decode cX6_throughBy 15 = .ok (.getfield 206, 3) := by decide +kernel
theorem dX6_throughBy_18 : decode cX6_throughBy 18 = .ok (.if_icmp .ge 26, 3) := by decide +kernel
theorem dX6_throughBy_21 : decode cX6_throughBy 21 = .ok (.aload_n 0, 1) := by decide +kernel
theorem dX6_throughBy_22 : decode cX6_throughBy 22 = .ok (.getfield 16, 3) := by decide +kernel
theorem dX6_throughBy_25 : decode cX6_throughBy 25 = .ok (.aload_n 1, 1) := by decide +kernel
theorem dX6_throughBy_26 : decode cX6_throughBy 26 = .ok (.iload_n 2, 1) := by decide +kernel
theorem dX6_throughBy_27 : decode cX6_throughBy 27 = .ok (.invokevirtual 189, 3) := by decide +kernel
theorem dX6_throughBy_30 : decode cX6_throughBy 30 = .ok (.aload_n 0, 1) := by decide +kernel
theorem dX6_throughBy_31 : decode cX6_throughBy 31 = .ok (.getfield 49, 3) := by decide +kernel
theorem dX6_throughBy_34 : decode cX6_throughBy 34 = .ok (.invokevirtual 160, 3) := by decide +kernel
theorem dX6_throughBy_37 : decode cX6_throughBy 37 = .ok (.pop, 1) := by decide +kernel
theorem dX6_throughBy_38 : decode cX6_throughBy 38 = .ok (.iinc 2 1, 3) := by decide +kernel
theorem dX6_throughBy_41 : decode cX6_throughBy 41 = .ok (.goto (-28), 3) := by decide +kernel
theorem dX6_throughBy_44 : decode cX6_throughBy 44 = .ok (.aload_n 0, 1) := by decide +kernel
theorem dX6_throughBy_45 : decode cX6_throughBy 45 = .ok (.getfield 16, 3) := by decide +kernel
theorem dX6_throughBy_48 : decode cX6_throughBy 48 = .ok (.invokevirtual 144, 3) := by decide +kernel
theorem dX6_throughBy_51 : decode cX6_throughBy 51 = .ok (.invokestatic 209, 3) := by decide +kernel
theorem dX6_throughBy_54 : decode cX6_throughBy 54 = .ok (.ireturn, 1) := by decide +kernel
theorem dX6_rain_0 : decode cX6_rain 0 = .ok (.aload_n 0, 1) := by decide +kernel
theorem dX6_rain_1 : decode cX6_rain 1 = .ok (.getfield 10, 3) := by decide +kernel
theorem dX6_rain_4 : decode cX6_rain 4 = .ok (.iload_n 1, 1) := by decide +kernel
theorem dX6_rain_5 : decode cX6_rain 5 = .ok (.invokevirtual 82, 3) := by decide +kernel
theorem dX6_rain_8 : decode cX6_rain 8 = .ok (.ifCond .eq 22, 3) := by decide +kernel
theorem dX6_rain_11 : decode cX6_rain 11 = .ok (.iload_n 2, 1) := by decide +kernel
theorem dX6_rain_12 : decode cX6_rain 12 = .ok (.iconst 0, 1) := by decide +kernel
theorem dX6_rain_13 : decode cX6_rain 13 = .ok (.bipush 10, 2) := by decide +kernel
theorem dX6_rain_15 : decode cX6_rain 15 = .ok (.invokestatic 71, 3) := by decide +kernel
theorem dX6_rain_18 : decode cX6_rain 18 = .ok (.ifCond .eq 12, 3) := by decide +kernel
theorem dX6_rain_21 : decode cX6_rain 21 = .ok (.iload_n 3, 1) := by decide +kernel
theorem dX6_rain_22 : decode cX6_rain 22 = .ok (.iconst 0, 1) := by decide +kernel
theorem dX6_rain_23 : decode cX6_rain 23 = .ok (.iconst 1, 1) := by decide +kernel
theorem dX6_rain_24 : decode cX6_rain 24 = .ok (.invokestatic 71, 3) := by decide +kernel
theorem dX6_rain_27 : decode cX6_rain 27 = .ok (.ifCond .ne 7, 3) := by decide +kernel
theorem dX6_rain_30 : decode cX6_rain 30 = .ok (.ldc2_w 214, 3) := by decide +kernel
theorem dX6_rain_33 : decode cX6_rain 33 = .ok (.lreturn, 1) := by decide +kernel
theorem dX6_rain_34 : decode cX6_rain 34 = .ok (.aload_n 0, 1) := by decide +kernel
theorem dX6_rain_35 : decode cX6_rain 35 = .ok (.getfield 66, 3) := by decide +kernel
theorem dX6_rain_38 : decode cX6_rain 38 = .ok (.aload_n 0, 1) := by decide +kernel
theorem dX6_rain_39 : decode cX6_rain 39 = .ok (.getfield 10, 3) := by decide +kernel
theorem dX6_rain_42 : decode cX6_rain 42 = .ok (.iload_n 1, 1) := by decide +kernel
theorem dX6_rain_43 : decode cX6_rain 43 = .ok (.iload_n 2, 1) := by decide +kernel
theorem dX6_rain_44 : decode cX6_rain 44 = .ok (.invokevirtual 216, 3) := by decide +kernel
theorem dX6_rain_47 : decode cX6_rain 47 = .ok (.lstore 4, 2) := by decide +kernel
theorem dX6_rain_49 : decode cX6_rain 49 = .ok (.ldc2_w 220, 3) := by decide +kernel
theorem dX6_rain_52 : decode cX6_rain 52 = .ok (.lstore 6, 2) := by decide +kernel
theorem dX6_rain_54 : decode cX6_rain 54 = .ok (.iconst 0, 1) := by decide +kernel
theorem dX6_rain_55 : decode cX6_rain 55 = .ok (.istore 8, 2) := by decide +kernel
theorem dX6_rain_57 : decode cX6_rain 57 = .ok (.iload 8, 2) := by decide +kernel
theorem dX6_rain_59 : decode cX6_rain 59 = .ok (.bipush 10, 2) := by decide +kernel
theorem dX6_rain_61 : decode cX6_rain 61 = .ok (.if_icmp .ge 63, 3) := by decide +kernel
theorem dX6_rain_64 : decode cX6_rain 64 = .ok (.lload 4, 2) := by decide +kernel
theorem dX6_rain_66 : decode cX6_rain 66 = .ok (.ldc2_w 222, 3) := by decide +kernel
theorem dX6_rain_69 : decode cX6_rain 69 = .ok (.lrem, 1) := by decide +kernel
theorem dX6_rain_70 : decode cX6_rain 70 = .ok (.lconst 0, 1) := by decide +kernel
theorem dX6_rain_71 : decode cX6_rain 71 = .ok (.lcmp, 1) := by decide +kernel
theorem dX6_rain_72 : decode cX6_rain 72 = .ok (.ifCond .ne 19, 3) := by decide +kernel
theorem dX6_rain_75 : decode cX6_rain 75 = .ok (.lload 4, 2) := by decide +kernel
theorem dX6_rain_77 : decode cX6_rain 77 = .ok (.ldc2_w 222, 3) := by decide +kernel
theorem dX6_rain_80 : decode cX6_rain 80 = .ok (.ldiv, 1) := by decide +kernel
theorem dX6_rain_81 : decode cX6_rain 81 = .ok (.lstore 4, 2) := by decide +kernel
theorem dX6_rain_83 : decode cX6_rain 83 = .ok (.lload 6, 2) := by decide +kernel
theorem dX6_rain_85 : decode cX6_rain 85 = .ok (.ldc2_w 222, 3) := by decide +kernel
theorem dX6_rain_88 : decode cX6_rain 88 = .ok (.ldiv, 1) := by decide +kernel
theorem dX6_rain_89 : decode cX6_rain 89 = .ok (.lstore 6, 2) := by decide +kernel
theorem dX6_rain_91 : decode cX6_rain 91 = .ok (.lload 4, 2) := by decide +kernel
theorem dX6_rain_93 : decode cX6_rain 93 = .ok (.ldc2_w 224, 3) := by decide +kernel
theorem dX6_rain_96 : decode cX6_rain 96 = .ok (.lrem, 1) := by decide +kernel
theorem dX6_rain_97 : decode cX6_rain 97 = .ok (.lconst 0, 1) := by decide +kernel
theorem dX6_rain_98 : decode cX6_rain 98 = .ok (.lcmp, 1) := by decide +kernel
theorem dX6_rain_99 : decode cX6_rain 99 = .ok (.ifCond .ne 19, 3) := by decide +kernel
theorem dX6_rain_102 : decode cX6_rain 102 = .ok (.lload 4, 2) := by decide +kernel
theorem dX6_rain_104 : decode cX6_rain 104 = .ok (.ldc2_w 224, 3) := by decide +kernel
theorem dX6_rain_107 : decode cX6_rain 107 = .ok (.ldiv, 1) := by decide +kernel
theorem dX6_rain_108 : decode cX6_rain 108 = .ok (.lstore 4, 2) := by decide +kernel
theorem dX6_rain_110 : decode cX6_rain 110 = .ok (.lload 6, 2) := by decide +kernel
theorem dX6_rain_112 : decode cX6_rain 112 = .ok (.ldc2_w 224, 3) := by decide +kernel
theorem dX6_rain_115 : decode cX6_rain 115 = .ok (.ldiv, 1) := by decide +kernel
theorem dX6_rain_116 : decode cX6_rain 116 = .ok (.lstore 6, 2) := by decide +kernel
theorem dX6_rain_118 : decode cX6_rain 118 = .ok (.iinc 8 1, 3) := by decide +kernel
theorem dX6_rain_121 : decode cX6_rain 121 = .ok (.goto (-64), 3) := by decide +kernel
theorem dX6_rain_124 : decode cX6_rain 124 = .ok (.iload_n 3, 1) := by decide +kernel
theorem dX6_rain_125 : decode cX6_rain 125 = .ok (.ifCond .ne 8, 3) := by decide +kernel
theorem dX6_rain_128 : decode cX6_rain 128 = .ok (.lload 4, 2) := by decide +kernel
theorem dX6_rain_130 : decode cX6_rain 130 = .ok (.goto 5, 3) := by decide +kernel
theorem dX6_rain_133 : decode cX6_rain 133 = .ok (.lload 6, 2) := by decide +kernel
theorem dX6_rain_135 : decode cX6_rain 135 = .ok (.lreturn, 1) := by decide +kernel
theorem dX6_image_0 : decode cX6_image 0 = .ok (.aload_n 0, 1) := by decide +kernel
theorem dX6_image_1 : decode cX6_image 1 = .ok (.getfield 26, 3) := by decide +kernel
theorem dX6_image_4 : decode cX6_image 4 = .ok (.aload_n 0, 1) := by decide +kernel
theorem dX6_image_5 : decode cX6_image 5 = .ok (.getfield 10, 3) := by decide +kernel
theorem dX6_image_8 : decode cX6_image 8 = .ok (.invokevirtual 130, 3) := by decide +kernel
theorem dX6_image_11 : decode cX6_image 11 = .ok (.aload_n 0, 1) := by decide +kernel
theorem dX6_image_12 : decode cX6_image 12 = .ok (.getfield 29, 3) := by decide +kernel
theorem dX6_image_15 : decode cX6_image 15 = .ok (.aload_n 0, 1) := by decide +kernel
theorem dX6_image_16 : decode cX6_image 16 = .ok (.getfield 22, 3) := by decide +kernel
theorem dX6_image_19 : decode cX6_image 19 = .ok (.invokevirtual 226, 3) := by decide +kernel
theorem dX6_image_22 : decode cX6_image 22 = .ok (.aload_n 0, 1) := by decide +kernel
theorem dX6_image_23 : decode cX6_image 23 = .ok (.iconst 1, 1) := by decide +kernel
theorem dX6_image_24 : decode cX6_image 24 = .ok (.putfield 32, 3) := by decide +kernel
theorem dX6_image_27 : decode cX6_image 27 = .ok (.iconst 1, 1) := by decide +kernel
theorem dX6_image_28 : decode cX6_image 28 = .ok (.ireturn, 1) := by decide +kernel
theorem dX6_restore_0 : decode cX6_restore 0 = .ok (.aload_n 0, 1) := by decide +kernel
theorem dX6_restore_1 : decode cX6_restore 1 = .ok (.getfield 32, 3) := by decide +kernel
theorem dX6_restore_4 : decode cX6_restore 4 = .ok (.ifCond .ne 6, 3) := by decide +kernel
theorem dX6_restore_7 : decode cX6_restore 7 = .ok (.bipush (-4), 2) := by decide +kernel
theorem dX6_restore_9 : decode cX6_restore 9 = .ok (.ireturn, 1) := by decide +kernel
theorem dX6_restore_10 : decode cX6_restore 10 = .ok (.aload_n 0, 1) := by decide +kernel
theorem dX6_restore_11 : decode cX6_restore 11 = .ok (.getfield 10, 3) := by decide +kernel
theorem dX6_restore_14 : decode cX6_restore 14 = .ok (.aload_n 0, 1) := by decide +kernel
theorem dX6_restore_15 : decode cX6_restore 15 = .ok (.getfield 26, 3) := by decide +kernel
theorem dX6_restore_18 : decode cX6_restore 18 = .ok (.invokevirtual 130, 3) := by decide +kernel
theorem dX6_restore_21 : decode cX6_restore 21 = .ok (.aload_n 0, 1) := by decide +kernel
theorem dX6_restore_22 : decode cX6_restore 22 = .ok (.getfield 22, 3) := by decide +kernel
theorem dX6_restore_25 : decode cX6_restore 25 = .ok (.aload_n 0, 1) := by decide +kernel
theorem dX6_restore_26 : decode cX6_restore 26 = .ok (.getfield 29, 3) := by decide +kernel
theorem dX6_restore_29 : decode cX6_restore 29 = .ok (.invokevirtual 226, 3) := by decide +kernel
theorem dX6_restore_32 : decode cX6_restore 32 = .ok (.iconst 1, 1) := by decide +kernel
theorem dX6_restore_33 : decode cX6_restore 33 = .ok (.ireturn, 1) := by decide +kernel
theorem dX6_clocked_0 : decode cX6_clocked 0 = .ok (.aload_n 0, 1) := by decide +kernel
theorem dX6_clocked_1 : decode cX6_clocked 1 = .ok (.getfield 10, 3) := by decide +kernel
theorem dX6_clocked_4 : decode cX6_clocked 4 = .ok (.iload_n 1, 1) := by decide +kernel
theorem dX6_clocked_5 : decode cX6_clocked 5 = .ok (.invokevirtual 82, 3) := by decide +kernel
theorem dX6_clocked_8 : decode cX6_clocked 8 = .ok (.ifCond .eq 48, 3) := by decide +kernel
theorem dX6_clocked_11 : decode cX6_clocked 11 = .ok (.iload_n 2, 1) := by decide +kernel
theorem dX6_clocked_12 : decode cX6_clocked 12 = .ok (.invokestatic 98, 3) := by decide +kernel
theorem dX6_clocked_15 : decode cX6_clocked 15 = .ok (.ifCond .eq 41, 3) := by decide +kernel
theorem dX6_clocked_18 : decode cX6_clocked 18 = .ok (.iload 6, 2) := by decide +kernel
theorem dX6_clocked_20 : decode cX6_clocked 20 = .ok (.iconst 1, 1) := by decide +kernel
theorem dX6_clocked_21 : decode cX6_clocked 21 = .ok (.bipush 10, 2) := by decide +kernel
theorem dX6_clocked_23 : decode cX6_clocked 23 = .ok (.iload_n 2, 1) := by decide +kernel
theorem dX6_clocked_24 : decode cX6_clocked 24 = .ok (.isub, 1) := by decide +kernel
theorem dX6_clocked_25 : decode cX6_clocked 25 = .ok (.invokestatic 71, 3) := by decide +kernel
theorem dX6_clocked_28 : decode cX6_clocked 28 = .ok (.ifCond .eq 28, 3) := by decide +kernel
theorem dX6_clocked_31 : decode cX6_clocked 31 = .ok (.iload_n 3, 1) := by decide +kernel
theorem dX6_clocked_32 : decode cX6_clocked 32 = .ok (.invokestatic 229, 3) := by decide +kernel
theorem dX6_clocked_35 : decode cX6_clocked 35 = .ok (.ifCond .eq 21, 3) := by decide +kernel
theorem dX6_clocked_38 : decode cX6_clocked 38 = .ok (.iload 4, 2) := by decide +kernel
theorem dX6_clocked_40 : decode cX6_clocked 40 = .ok (.invokestatic 232, 3) := by decide +kernel
theorem dX6_clocked_43 : decode cX6_clocked 43 = .ok (.ifCond .eq 13, 3) := by decide +kernel
theorem dX6_clocked_46 : decode cX6_clocked 46 = .ok (.iload 7, 2) := by decide +kernel
theorem dX6_clocked_48 : decode cX6_clocked 48 = .ok (.iconst 0, 1) := by decide +kernel
theorem dX6_clocked_49 : decode cX6_clocked 49 = .ok (.iconst 1, 1) := by decide +kernel
theorem dX6_clocked_50 : decode cX6_clocked 50 = .ok (.invokestatic 71, 3) := by decide +kernel
theorem dX6_clocked_53 : decode cX6_clocked 53 = .ok (.ifCond .ne 5, 3) := by decide +kernel
theorem dX6_clocked_56 : decode cX6_clocked 56 = .ok (.iconst (-1), 1) := by decide +kernel
theorem dX6_clocked_57 : decode cX6_clocked 57 = .ok (.ireturn, 1) := by decide +kernel
theorem dX6_clocked_58 : decode cX6_clocked 58 = .ok (.aload_n 0, 1) := by decide +kernel
theorem dX6_clocked_59 : decode cX6_clocked 59 = .ok (.getfield 45, 3) := by decide +kernel
theorem dX6_clocked_62 : decode cX6_clocked 62 = .ok (.iload_n 3, 1) := by decide +kernel
theorem dX6_clocked_63 : decode cX6_clocked 63 = .ok (.aaload, 1) := by decide +kernel
theorem dX6_clocked_64 : decode cX6_clocked 64 = .ok (.astore 8, 2) := by decide +kernel
theorem dX6_clocked_66 : decode cX6_clocked 66 = .ok (.aload 8, 2) := by decide +kernel
theorem dX6_clocked_68 : decode cX6_clocked 68 = .ok (.iload 4, 2) := by decide +kernel
theorem dX6_clocked_70 : decode cX6_clocked 70 = .ok (.iload 5, 2) := by decide +kernel
theorem dX6_clocked_72 : decode cX6_clocked 72 = .ok (.iload 6, 2) := by decide +kernel
theorem dX6_clocked_74 : decode cX6_clocked 74 = .ok (.invokevirtual 235, 3) := by decide +kernel
theorem dX6_clocked_77 : decode cX6_clocked 77 = .ok (.istore 9, 2) := by decide +kernel
theorem dX6_clocked_79 : decode cX6_clocked 79 = .ok (.iload 9, 2) := by decide +kernel
theorem dX6_clocked_81 : decode cX6_clocked 81 = .ok (.ifCond .eq 6, 3) := by decide +kernel
theorem dX6_clocked_84 : decode cX6_clocked 84 = .ok (.iload 9, 2) := by decide +kernel
theorem dX6_clocked_86 : decode cX6_clocked 86 = .ok (.ireturn, 1) := by decide +kernel
theorem dX6_clocked_87 : decode cX6_clocked 87 = .ok (.iload 7, 2) := by decide +kernel
theorem dX6_clocked_89 : decode cX6_clocked 89 = .ok (.ifCond .ne 18, 3) := by decide +kernel
theorem dX6_clocked_92 : decode cX6_clocked 92 = .ok (.aload_n 0, 1) := by decide +kernel
theorem dX6_clocked_93 : decode cX6_clocked 93 = .ok (.iload_n 1, 1) := by decide +kernel
theorem dX6_clocked_94 : decode cX6_clocked 94 = .ok (.iload_n 2, 1) := by decide +kernel
theorem dX6_clocked_95 : decode cX6_clocked 95 = .ok (.aload 8, 2) := by decide +kernel
theorem dX6_clocked_97 : decode cX6_clocked 97 = .ok (.iload 5, 2) := by decide +kernel
theorem dX6_clocked_99 : decode cX6_clocked 99 = .ok (.iload 6, 2) := by decide +kernel
theorem dX6_clocked_101 : decode cX6_clocked 101 = .ok (.invokevirtual 238, 3) := by decide +kernel
theorem dX6_clocked_104 : decode cX6_clocked 104 = .ok (.goto 15, 3) := by decide +kernel
theorem dX6_clocked_107 : decode cX6_clocked 107 = .ok (.aload_n 0, 1) := by decide +kernel
theorem dX6_clocked_108 : decode cX6_clocked 108 = .ok (.iload_n 1, 1) := by decide +kernel
theorem dX6_clocked_109 : decode cX6_clocked 109 = .ok (.iload_n 2, 1) := by decide +kernel
theorem dX6_clocked_110 : decode cX6_clocked 110 = .ok (.aload 8, 2) := by decide +kernel
theorem dX6_clocked_112 : decode cX6_clocked 112 = .ok (.iload 5, 2) := by decide +kernel
theorem dX6_clocked_114 : decode cX6_clocked 114 = .ok (.iload 6, 2) := by decide +kernel
theorem dX6_clocked_116 : decode cX6_clocked 116 = .ok (.invokevirtual 242, 3) := by decide +kernel
theorem dX6_clocked_119 : decode cX6_clocked 119 = .ok (.ireturn, 1) := by decide +kernel
theorem dX6_kindsClocked_0 : decode cX6_kindsClocked 0 = .ok (.aload_n 0, 1) := by decide +kernel
theorem dX6_kindsClocked_1 : decode cX6_kindsClocked 1 = .ok (.getfield 16, 3) := by decide +kernel
theorem dX6_kindsClocked_4 : decode cX6_kindsClocked 4 = .ok (.aload_n 0, 1) := by decide +kernel
theorem dX6_kindsClocked_5 : decode cX6_kindsClocked 5 = .ok (.getfield 10, 3) := by decide +kernel
theorem dX6_kindsClocked_8 : decode cX6_kindsClocked 8 = .ok (.invokevirtual 130, 3) := by decide +kernel
theorem dX6_kindsClocked_11 : decode cX6_kindsClocked 11 = .ok (.iconst 0, 1) := by decide +kernel
theorem dX6_kindsClocked_12 : decode cX6_kindsClocked 12 = .ok (.istore 6, 2) := by decide +kernel
theorem dX6_kindsClocked_14 : decode cX6_kindsClocked 14 = .ok (.iconst 0, 1) := by decide +kernel
theorem dX6_kindsClocked_15 : decode cX6_kindsClocked 15 = .ok (.istore 7, 2) := by decide +kernel
theorem dX6_kindsClocked_17 : decode cX6_kindsClocked 17 = .ok (.iload 7, 2) := by decide +kernel
theorem dX6_kindsClocked_19 : decode cX6_kindsClocked 19 = .ok (.iconst 5, 1) := by decide +kernel
theorem dX6_kindsClocked_20 : decode cX6_kindsClocked 20 = .ok (.if_icmp .ge 58, 3) := by decide +kernel
theorem dX6_kindsClocked_23 : decode cX6_kindsClocked 23 = .ok (.aload_n 0, 1) := by decide +kernel
theorem dX6_kindsClocked_24 : decode cX6_kindsClocked 24 = .ok (.getfield 16, 3) := by decide +kernel
theorem dX6_kindsClocked_27 : decode cX6_kindsClocked 27 = .ok (.getfield 89, 3) := by decide +kernel
theorem dX6_kindsClocked_30 : decode cX6_kindsClocked 30 = .ok (.iload_n 1, 1) := by decide +kernel
theorem dX6_kindsClocked_31 : decode cX6_kindsClocked 31 = .ok (.iload 7, 2) := by decide +kernel
theorem dX6_kindsClocked_33 : decode cX6_kindsClocked 33 = .ok (.iastore, 1) := by decide +kernel
theorem dX6_kindsClocked_34 : decode cX6_kindsClocked 34 = .ok (.aload_n 0, 1) := by decide +kernel
theorem dX6_kindsClocked_35 : decode cX6_kindsClocked 35 = .ok (.getfield 16, 3) := by decide +kernel
theorem dX6_kindsClocked_38 : decode cX6_kindsClocked 38 = .ok (.iload_n 1, 1) := by decide +kernel
theorem dX6_kindsClocked_39 : decode cX6_kindsClocked 39 = .ok (.aload_n 0, 1) := by decide +kernel
theorem dX6_kindsClocked_40 : decode cX6_kindsClocked 40 = .ok (.getfield 49, 3) := by decide +kernel
theorem dX6_kindsClocked_43 : decode cX6_kindsClocked 43 = .ok (.invokevirtual 171, 3) := by decide +kernel
theorem dX6_kindsClocked_46 : decode cX6_kindsClocked 46 = .ok (.pop, 1) := by decide +kernel
theorem dX6_kindsClocked_47 : decode cX6_kindsClocked 47 = .ok (.aload_n 3, 1) := by decide +kernel
theorem dX6_kindsClocked_48 : decode cX6_kindsClocked 48 = .ok (.iload 4, 2) := by decide +kernel
theorem dX6_kindsClocked_50 : decode cX6_kindsClocked 50 = .ok (.aload_n 0, 1) := by decide +kernel
theorem dX6_kindsClocked_51 : decode cX6_kindsClocked 51 = .ok (.getfield 49, 3) := by decide +kernel
theorem dX6_kindsClocked_54 : decode cX6_kindsClocked 54 = .ok (.iload_n 2, 1) := by decide +kernel
theorem dX6_kindsClocked_55 : decode cX6_kindsClocked 55 = .ok (.iload 5, 2) := by decide +kernel
theorem dX6_kindsClocked_57 : decode cX6_kindsClocked 57 = .ok (.invokevirtual 245, 3) := by decide +kernel
theorem dX6_kindsClocked_60 : decode cX6_kindsClocked 60 = .ok (.ifCond .eq 12, 3) := by decide +kernel
theorem dX6_kindsClocked_63 : decode cX6_kindsClocked 63 = .ok (.iload 6, 2) := by decide +kernel
theorem dX6_kindsClocked_65 : decode cX6_kindsClocked 65 = .ok (.iconst 1, 1) := by decide +kernel
theorem dX6_kindsClocked_66 : decode cX6_kindsClocked 66 = .ok (.iload 7, 2) := by decide +kernel
theorem dX6_kindsClocked_68 : decode cX6_kindsClocked 68 = .ok (.ishl, 1) := by decide +kernel
theorem dX6_kindsClocked_69 : decode cX6_kindsClocked 69 = .ok (.ior, 1) := by decide +kernel
theorem dX6_kindsClocked_70 : decode cX6_kindsClocked 70 = .ok (.istore 6, 2) := by decide +kernel
theorem dX6_kindsClocked_72 : decode cX6_kindsClocked 72 = .ok (.iinc 7 1, 3) := by decide +kernel
theorem dX6_kindsClocked_75 : decode cX6_kindsClocked 75 = .ok (.goto (-58), 3) := by decide +kernel
theorem dX6_kindsClocked_78 : decode cX6_kindsClocked 78 = .ok (.iload 6, 2) := by decide +kernel
theorem dX6_kindsClocked_80 : decode cX6_kindsClocked 80 = .ok (.ireturn, 1) := by decide +kernel
theorem dX6_heaviesClocked_0 : decode cX6_heaviesClocked 0 = .ok (.aload_n 0, 1) := by decide +kernel
theorem dX6_heaviesClocked_1 : decode cX6_heaviesClocked 1 = .ok (.getfield 16, 3) := by decide +kernel
theorem dX6_heaviesClocked_4 : decode cX6_heaviesClocked 4 = .ok (.aload_n 0, 1) := by decide +kernel
theorem dX6_heaviesClocked_5 : decode cX6_heaviesClocked 5 = .ok (.getfield 10, 3) := by decide +kernel
theorem dX6_heaviesClocked_8 : decode cX6_heaviesClocked 8 = .ok (.invokevirtual 130, 3) := by decide +kernel
theorem dX6_heaviesClocked_11 : decode cX6_heaviesClocked 11 = .ok (.iconst 0, 1) := by decide +kernel
theorem dX6_heaviesClocked_12 : decode cX6_heaviesClocked 12 = .ok (.istore 6, 2) := by decide +kernel
theorem dX6_heaviesClocked_14 : decode cX6_heaviesClocked 14 = .ok (.iconst 1, 1) := by decide +kernel
theorem dX6_heaviesClocked_15 : decode cX6_heaviesClocked 15 = .ok (.istore 7, 2) := by decide +kernel
theorem dX6_heaviesClocked_17 : decode cX6_heaviesClocked 17 = .ok (.iload 7, 2) := by decide +kernel
theorem dX6_heaviesClocked_19 : decode cX6_heaviesClocked 19 = .ok (.bipush 20, 2) := by decide +kernel
theorem dX6_heaviesClocked_21 : decode cX6_heaviesClocked 21 = .ok (.if_icmp .gt 58, 3) := by decide +kernel
theorem dX6_heaviesClocked_24 : decode cX6_heaviesClocked 24 = .ok (.aload_n 0, 1) := by decide +kernel
theorem dX6_heaviesClocked_25 : decode cX6_heaviesClocked 25 = .ok (.getfield 16, 3) := by decide +kernel
theorem dX6_heaviesClocked_28 : decode cX6_heaviesClocked 28 = .ok (.getfield 92, 3) := by decide +kernel
theorem dX6_heaviesClocked_31 : decode cX6_heaviesClocked 31 = .ok (.iload_n 1, 1) := by decide +kernel
theorem dX6_heaviesClocked_32 : decode cX6_heaviesClocked 32 = .ok (.iload 7, 2) := by decide +kernel
theorem dX6_heaviesClocked_34 : decode cX6_heaviesClocked 34 = .ok (.iastore, 1) := by decide +kernel
theorem dX6_heaviesClocked_35 : decode cX6_heaviesClocked 35 = .ok (.aload_n 0, 1) := by decide +kernel
theorem dX6_heaviesClocked_36 : decode cX6_heaviesClocked 36 = .ok (.getfield 16, 3) := by decide +kernel
theorem dX6_heaviesClocked_39 : decode cX6_heaviesClocked 39 = .ok (.iload_n 1, 1) := by decide +kernel
theorem dX6_heaviesClocked_40 : decode cX6_heaviesClocked 40 = .ok (.aload_n 0, 1) := by decide +kernel
theorem dX6_heaviesClocked_41 : decode cX6_heaviesClocked 41 = .ok (.getfield 49, 3) := by decide +kernel
theorem dX6_heaviesClocked_44 : decode cX6_heaviesClocked 44 = .ok (.invokevirtual 171, 3) := by decide +kernel
theorem dX6_heaviesClocked_47 : decode cX6_heaviesClocked 47 = .ok (.pop, 1) := by decide +kernel
theorem dX6_heaviesClocked_48 : decode cX6_heaviesClocked 48 = .ok (.aload_n 3, 1) := by decide +kernel
theorem dX6_heaviesClocked_49 : decode cX6_heaviesClocked 49 = .ok (.iload 4, 2) := by decide +kernel
theorem dX6_heaviesClocked_51 : decode cX6_heaviesClocked 51 = .ok (.aload_n 0, 1) := by decide +kernel
theorem dX6_heaviesClocked_52 : decode cX6_heaviesClocked 52 = .ok (.getfield 49, 3) := by decide +kernel
theorem dX6_heaviesClocked_55 : decode cX6_heaviesClocked 55 = .ok (.iload_n 2, 1) := by decide +kernel
theorem dX6_heaviesClocked_56 : decode cX6_heaviesClocked 56 = .ok (.iload 5, 2) := by decide +kernel
theorem dX6_heaviesClocked_58 : decode cX6_heaviesClocked 58 = .ok (.invokevirtual 245, 3) := by decide +kernel
theorem dX6_heaviesClocked_61 : decode cX6_heaviesClocked 61 = .ok (.ifCond .eq 12, 3) := by decide +kernel
theorem dX6_heaviesClocked_64 : decode cX6_heaviesClocked 64 = .ok (.iload 6, 2) := by decide +kernel
theorem dX6_heaviesClocked_66 : decode cX6_heaviesClocked 66 = .ok (.iconst 1, 1) := by decide +kernel
theorem dX6_heaviesClocked_67 : decode cX6_heaviesClocked 67 = .ok (.iload 7, 2) := by decide +kernel
theorem dX6_heaviesClocked_69 : decode cX6_heaviesClocked 69 = .ok (.ishl, 1) := by decide +kernel
theorem dX6_heaviesClocked_70 : decode cX6_heaviesClocked 70 = .ok (.ior, 1) := by decide +kernel
theorem dX6_heaviesClocked_71 : decode cX6_heaviesClocked 71 = .ok (.istore 6, 2) := by decide +kernel
theorem dX6_heaviesClocked_73 : decode cX6_heaviesClocked 73 = .ok (.iinc 7 1, 3) := by decide +kernel
theorem dX6_heaviesClocked_76 : decode cX6_heaviesClocked 76 = .ok (.goto (-59), 3) := by decide +kernel
theorem dX6_heaviesClocked_79 : decode cX6_heaviesClocked 79 = .ok (.iload 6, 2) := by decide +kernel
theorem dX6_heaviesClocked_81 : decode cX6_heaviesClocked 81 = .ok (.ireturn, 1) := by decide +kernel
theorem dX6_film_0 : decode cX6_film 0 = .ok (.aload_n 0, 1) := by decide +kernel
theorem dX6_film_1 : decode cX6_film 1 = .ok (.getfield 10, 3) := by decide +kernel
theorem dX6_film_4 : decode cX6_film 4 = .ok (.iload_n 1, 1) := by decide +kernel
theorem dX6_film_5 : decode cX6_film 5 = .ok (.invokevirtual 82, 3) := by decide +kernel
theorem dX6_film_8 : decode cX6_film 8 = .ok (.ifCond .eq 28, 3) := by decide +kernel
theorem dX6_film_11 : decode cX6_film 11 = .ok (.iload_n 2, 1) := by decide +kernel
theorem dX6_film_12 : decode cX6_film 12 = .ok (.iconst 1, 1) := by decide +kernel
theorem dX6_film_13 : decode cX6_film 13 = .ok (.bipush 10, 2) := by decide +kernel
theorem dX6_film_15 : decode cX6_film 15 = .ok (.invokestatic 71, 3) := by decide +kernel
theorem dX6_film_18 : decode cX6_film 18 = .ok (.ifCond .eq 18, 3) := by decide +kernel
theorem dX6_film_21 : decode cX6_film 21 = .ok (.iload_n 3, 1) := by decide +kernel
theorem dX6_film_22 : decode cX6_film 22 = .ok (.invokestatic 229, 3) := by decide +kernel
theorem dX6_film_25 : decode cX6_film 25 = .ok (.ifCond .eq 11, 3) := by decide +kernel
theorem dX6_film_28 : decode cX6_film 28 = .ok (.iload 4, 2) := by decide +kernel
theorem dX6_film_30 : decode cX6_film 30 = .ok (.invokestatic 232, 3) := by decide +kernel
theorem dX6_film_33 : decode cX6_film 33 = .ok (.ifCond .ne 5, 3) := by decide +kernel
theorem dX6_film_36 : decode cX6_film 36 = .ok (.iconst (-1), 1) := by decide +kernel
theorem dX6_film_37 : decode cX6_film 37 = .ok (.ireturn, 1) := by decide +kernel
theorem dX6_film_38 : decode cX6_film 38 = .ok (.aload_n 0, 1) := by decide +kernel
theorem dX6_film_39 : decode cX6_film 39 = .ok (.getfield 45, 3) := by decide +kernel
theorem dX6_film_42 : decode cX6_film 42 = .ok (.iload_n 3, 1) := by decide +kernel
theorem dX6_film_43 : decode cX6_film 43 = .ok (.aaload, 1) := by decide +kernel
theorem dX6_film_44 : decode cX6_film 44 = .ok (.astore 6, 2) := by decide +kernel
theorem dX6_film_46 : decode cX6_film 46 = .ok (.aload 6, 2) := by decide +kernel
theorem dX6_film_48 : decode cX6_film 48 = .ok (.iload 4, 2) := by decide +kernel
theorem dX6_film_50 : decode cX6_film 50 = .ok (.iload 5, 2) := by decide +kernel
theorem dX6_film_52 : decode cX6_film 52 = .ok (.iload_n 2, 1) := by decide +kernel
theorem dX6_film_53 : decode cX6_film 53 = .ok (.invokevirtual 235, 3) := by decide +kernel
theorem dX6_film_56 : decode cX6_film 56 = .ok (.istore 7, 2) := by decide +kernel
theorem dX6_film_58 : decode cX6_film 58 = .ok (.iload 7, 2) := by decide +kernel
theorem dX6_film_60 : decode cX6_film 60 = .ok (.ifCond .eq 6, 3) := by decide +kernel
theorem dX6_film_63 : decode cX6_film 63 = .ok (.iload 7, 2) := by decide +kernel
theorem dX6_film_65 : decode cX6_film 65 = .ok (.ireturn, 1) := by decide +kernel
theorem dX6_film_66 : decode cX6_film 66 = .ok (.aload_n 0, 1) := by decide +kernel
theorem dX6_film_67 : decode cX6_film 67 = .ok (.getfield 10, 3) := by decide +kernel
theorem dX6_film_70 : decode cX6_film 70 = .ok (.iload_n 1, 1) := by decide +kernel
theorem dX6_film_71 : decode cX6_film 71 = .ok (.aload_n 0, 1) := by decide +kernel
theorem dX6_film_72 : decode cX6_film 72 = .ok (.getfield 49, 3) := by decide +kernel
theorem dX6_film_75 : decode cX6_film 75 = .ok (.invokevirtual 171, 3) := by decide +kernel
theorem dX6_film_78 : decode cX6_film 78 = .ok (.pop, 1) := by decide +kernel
theorem dX6_film_79 : decode cX6_film 79 = .ok (.iconst 0, 1) := by decide +kernel
theorem dX6_film_80 : decode cX6_film 80 = .ok (.istore 8, 2) := by decide +kernel
theorem dX6_film_82 : decode cX6_film 82 = .ok (.iload 8, 2) := by decide +kernel
theorem dX6_film_84 : decode cX6_film 84 = .ok (.iload_n 2, 1) := by decide +kernel
theorem dX6_film_85 : decode cX6_film 85 = .ok (.if_icmp .ge 27, 3) := by decide +kernel
theorem dX6_film_88 : decode cX6_film 88 = .ok (.aload 6, 2) := by decide +kernel
theorem dX6_film_90 : decode cX6_film 90 = .ok (.iload 5, 2) := by decide +kernel
theorem dX6_film_92 : decode cX6_film 92 = .ok (.iload 8, 2) := by decide +kernel
theorem dX6_film_94 : decode cX6_film 94 = .ok (.iadd, 1) := by decide +kernel
theorem dX6_film_95 : decode cX6_film 95 = .ok (.aload_n 0, 1) := by decide +kernel
theorem dX6_film_96 : decode cX6_film 96 = .ok (.getfield 49, 3) := by decide +kernel
theorem dX6_film_99 : decode cX6_film 99 = .ok (.iload 8, 2) := by decide +kernel
theorem dX6_film_101 : decode cX6_film 101 = .ok (.iaload, 1) := by decide +kernel
theorem dX6_film_102 : decode cX6_film 102 = .ok (.i2l, 1) := by decide +kernel
theorem dX6_film_103 : decode cX6_film 103 = .ok (.invokevirtual 249, 3) := by decide +kernel
theorem dX6_film_106 : decode cX6_film 106 = .ok (.iinc 8 1, 3) := by decide +kernel
theorem dX6_film_109 : decode cX6_film 109 = .ok (.goto (-27), 3) := by decide +kernel
theorem dX6_film_112 : decode cX6_film 112 = .ok (.iload_n 2, 1) := by decide +kernel
theorem dX6_film_113 : decode cX6_film 113 = .ok (.ireturn, 1) := by decide +kernel
theorem dX6_sheet_0 : decode cX6_sheet 0 = .ok (.iload_n 1, 1) := by decide +kernel
theorem dX6_sheet_1 : decode cX6_sheet 1 = .ok (.invokestatic 229, 3) := by decide +kernel
theorem dX6_sheet_4 : decode cX6_sheet 4 = .ok (.ifCond .eq 16, 3) := by decide +kernel
theorem dX6_sheet_7 : decode cX6_sheet 7 = .ok (.iload_n 2, 1) := by decide +kernel
theorem dX6_sheet_8 : decode cX6_sheet 8 = .ok (.invokestatic 232, 3) := by decide +kernel
theorem dX6_sheet_11 : decode cX6_sheet 11 = .ok (.ifCond .eq 9, 3) := by decide +kernel
theorem dX6_sheet_14 : decode cX6_sheet 14 = .ok (.iload_n 3, 1) := by decide +kernel
theorem dX6_sheet_15 : decode cX6_sheet 15 = .ok (.bipush 24, 2) := by decide +kernel
theorem dX6_sheet_17 : decode cX6_sheet 17 = .ok (.if_icmp .le 5, 3) := by decide +kernel
theorem dX6_sheet_20 : decode cX6_sheet 20 = .ok (.iconst (-1), 1) := by decide +kernel
theorem dX6_sheet_21 : decode cX6_sheet 21 = .ok (.ireturn, 1) := by decide +kernel
theorem dX6_sheet_22 : decode cX6_sheet 22 = .ok (.iload_n 3, 1) := by decide +kernel
theorem dX6_sheet_23 : decode cX6_sheet 23 = .ok (.ifCond .ge 6, 3) := by decide +kernel
theorem dX6_sheet_26 : decode cX6_sheet 26 = .ok (.bipush (-14), 2) := by decide +kernel
theorem dX6_sheet_28 : decode cX6_sheet 28 = .ok (.ireturn, 1) := by decide +kernel
theorem dX6_sheet_29 : decode cX6_sheet 29 = .ok (.aload_n 0, 1) := by decide +kernel
theorem dX6_sheet_30 : decode cX6_sheet 30 = .ok (.getfield 45, 3) := by decide +kernel
theorem dX6_sheet_33 : decode cX6_sheet 33 = .ok (.iload_n 1, 1) := by decide +kernel
theorem dX6_sheet_34 : decode cX6_sheet 34 = .ok (.aaload, 1) := by decide +kernel
theorem dX6_sheet_35 : decode cX6_sheet 35 = .ok (.iload_n 2, 1) := by decide +kernel
theorem dX6_sheet_36 : decode cX6_sheet 36 = .ok (.iload_n 3, 1) := by decide +kernel
theorem dX6_sheet_37 : decode cX6_sheet 37 = .ok (.invokevirtual 253, 3) := by decide +kernel
theorem dX6_sheet_40 : decode cX6_sheet 40 = .ok (.iload_n 3, 1) := by decide +kernel
theorem dX6_sheet_41 : decode cX6_sheet 41 = .ok (.ireturn, 1) := by decide +kernel
theorem dX6_drop_0 : decode cX6_drop 0 = .ok (.iload_n 1, 1) := by decide +kernel
theorem dX6_drop_1 : decode cX6_drop 1 = .ok (.invokestatic 229, 3) := by decide +kernel
theorem dX6_drop_4 : decode cX6_drop 4 = .ok (.ifCond .ne 5, 3) := by decide +kernel
theorem dX6_drop_7 : decode cX6_drop 7 = .ok (.iconst (-1), 1) := by decide +kernel
theorem dX6_drop_8 : decode cX6_drop 8 = .ok (.ireturn, 1) := by decide +kernel
theorem dX6_drop_9 : decode cX6_drop 9 = .ok (.aload_n 0, 1) := by decide +kernel
theorem dX6_drop_10 : decode cX6_drop 10 = .ok (.getfield 45, 3) := by decide +kernel
theorem dX6_drop_13 : decode cX6_drop 13 = .ok (.iload_n 1, 1) := by decide +kernel
theorem dX6_drop_14 : decode cX6_drop 14 = .ok (.aaload, 1) := by decide +kernel
theorem dX6_drop_15 : decode cX6_drop 15 = .ok (.astore_n 2, 1) := by decide +kernel
theorem dX6_drop_16 : decode cX6_drop 16 = .ok (.aload_n 2, 1) := by decide +kernel
theorem dX6_drop_17 : decode cX6_drop 17 = .ok (.invokevirtual 256, 3) := by decide +kernel
theorem dX6_drop_20 : decode cX6_drop 20 = .ok (.ifCond .eq 6, 3) := by decide +kernel
theorem dX6_drop_23 : decode cX6_drop 23 = .ok (.bipush (-11), 2) := by decide +kernel
theorem dX6_drop_25 : decode cX6_drop 25 = .ok (.ireturn, 1) := by decide +kernel
theorem dX6_drop_26 : decode cX6_drop 26 = .ok (.aload_n 2, 1) := by decide +kernel
theorem dX6_drop_27 : decode cX6_drop 27 = .ok (.getfield 259, 3) := by decide +kernel
theorem dX6_drop_30 : decode cX6_drop 30 = .ok (.istore_n 3, 1) := by decide +kernel
theorem dX6_drop_31 : decode cX6_drop 31 = .ok (.aload_n 2, 1) := by decide +kernel
theorem dX6_drop_32 : decode cX6_drop 32 = .ok (.invokevirtual 260, 3) := by decide +kernel
theorem dX6_drop_35 : decode cX6_drop 35 = .ok (.iload_n 3, 1) := by decide +kernel
theorem dX6_drop_36 : decode cX6_drop 36 = .ok (.ireturn, 1) := by decide +kernel
theorem dX6_item_0 : decode cX6_item 0 = .ok (.iload_n 1, 1) := by decide +kernel
theorem dX6_item_1 : decode cX6_item 1 = .ok (.invokestatic 229, 3) := by decide +kernel
theorem dX6_item_4 : decode cX6_item 4 = .ok (.ifCond .eq 10, 3) := by decide +kernel
theorem dX6_item_7 : decode cX6_item 7 = .ok (.iload_n 2, 1) := by decide +kernel
theorem dX6_item_8 : decode cX6_item 8 = .ok (.invokestatic 232, 3) := by decide +kernel
theorem dX6_item_11 : decode cX6_item 11 = .ok (.ifCond .ne 5, 3) := by decide +kernel
theorem dX6_item_14 : decode cX6_item 14 = .ok (.iconst (-1), 1) := by decide +kernel
theorem dX6_item_15 : decode cX6_item 15 = .ok (.ireturn, 1) := by decide +kernel
theorem dX6_item_16 : decode cX6_item 16 = .ok (.aload_n 0, 1) := by decide +kernel
theorem dX6_item_17 : decode cX6_item 17 = .ok (.getfield 45, 3) := by decide +kernel
theorem dX6_item_20 : decode cX6_item 20 = .ok (.iload_n 1, 1) := by decide +kernel
theorem dX6_item_21 : decode cX6_item 21 = .ok (.aaload, 1) := by decide +kernel
theorem dX6_item_22 : decode cX6_item 22 = .ok (.astore 6, 2) := by decide +kernel
theorem dX6_item_24 : decode cX6_item 24 = .ok (.aload 6, 2) := by decide +kernel
theorem dX6_item_26 : decode cX6_item 26 = .ok (.iload_n 2, 1) := by decide +kernel
theorem dX6_item_27 : decode cX6_item 27 = .ok (.iload_n 3, 1) := by decide +kernel
theorem dX6_item_28 : decode cX6_item 28 = .ok (.iconst 1, 1) := by decide +kernel
theorem dX6_item_29 : decode cX6_item 29 = .ok (.invokevirtual 235, 3) := by decide +kernel
theorem dX6_item_32 : decode cX6_item 32 = .ok (.istore 7, 2) := by decide +kernel
theorem dX6_item_34 : decode cX6_item 34 = .ok (.iload 7, 2) := by decide +kernel
theorem dX6_item_36 : decode cX6_item 36 = .ok (.ifCond .eq 6, 3) := by decide +kernel
theorem dX6_item_39 : decode cX6_item 39 = .ok (.iload 7, 2) := by decide +kernel
theorem dX6_item_41 : decode cX6_item 41 = .ok (.ireturn, 1) := by decide +kernel
theorem dX6_item_42 : decode cX6_item 42 = .ok (.aload 6, 2) := by decide +kernel
theorem dX6_item_44 : decode cX6_item 44 = .ok (.iload_n 3, 1) := by decide +kernel
theorem dX6_item_45 : decode cX6_item 45 = .ok (.lload 4, 2) := by decide +kernel
theorem dX6_item_47 : decode cX6_item 47 = .ok (.invokevirtual 249, 3) := by decide +kernel
theorem dX6_item_50 : decode cX6_item 50 = .ok (.iconst 1, 1) := by decide +kernel
theorem dX6_item_51 : decode cX6_item 51 = .ok (.ireturn, 1) := by decide +kernel
theorem dX6_copy_0 : decode cX6_copy 0 = .ok (.iload_n 1, 1) := by decide +kernel
theorem dX6_copy_1 : decode cX6_copy 1 = .ok (.invokestatic 229, 3) := by decide +kernel
theorem dX6_copy_4 : decode cX6_copy 4 = .ok (.ifCond .eq 10, 3) := by decide +kernel
theorem dX6_copy_7 : decode cX6_copy 7 = .ok (.iload_n 3, 1) := by decide +kernel
theorem dX6_copy_8 : decode cX6_copy 8 = .ok (.invokestatic 229, 3) := by decide +kernel
theorem dX6_copy_11 : decode cX6_copy 11 = .ok (.ifCond .ne 5, 3) := by decide +kernel
theorem dX6_copy_14 : decode cX6_copy 14 = .ok (.iconst (-1), 1) := by decide +kernel
theorem dX6_copy_15 : decode cX6_copy 15 = .ok (.ireturn, 1) := by decide +kernel
theorem dX6_copy_16 : decode cX6_copy 16 = .ok (.aload_n 0, 1) := by decide +kernel
theorem dX6_copy_17 : decode cX6_copy 17 = .ok (.getfield 45, 3) := by decide +kernel
theorem dX6_copy_20 : decode cX6_copy 20 = .ok (.iload_n 1, 1) := by decide +kernel
theorem dX6_copy_21 : decode cX6_copy 21 = .ok (.aaload, 1) := by decide +kernel
theorem dX6_copy_22 : decode cX6_copy 22 = .ok (.astore 6, 2) := by decide +kernel
theorem dX6_copy_24 : decode cX6_copy 24 = .ok (.aload_n 0, 1) := by decide +kernel
theorem dX6_copy_25 : decode cX6_copy 25 = .ok (.getfield 45, 3) := by decide +kernel
theorem dX6_copy_28 : decode cX6_copy 28 = .ok (.iload_n 3, 1) := by decide +kernel
theorem dX6_copy_29 : decode cX6_copy 29 = .ok (.aaload, 1) := by decide +kernel
theorem dX6_copy_30 : decode cX6_copy 30 = .ok (.astore 7, 2) := by decide +kernel
theorem dX6_copy_32 : decode cX6_copy 32 = .ok (.aload 6, 2) := by decide +kernel
theorem dX6_copy_34 : decode cX6_copy 34 = .ok (.invokevirtual 256, 3) := by decide +kernel
theorem dX6_copy_37 : decode cX6_copy 37 = .ok (.ifCond .ne 11, 3) := by decide +kernel
theorem dX6_copy_40 : decode cX6_copy 40 = .ok (.aload 7, 2) := by decide +kernel
theorem dX6_copy_42 : decode cX6_copy 42 = .ok (.invokevirtual 256, 3) := by decide +kernel
theorem dX6_copy_45 : decode cX6_copy 45 = .ok (.ifCond .eq 6, 3) := by decide +kernel
theorem dX6_copy_48 : decode cX6_copy 48 = .ok (.bipush (-11), 2) := by decide +kernel
theorem dX6_copy_50 : decode cX6_copy 50 = .ok (.ireturn, 1) := by decide +kernel
theorem dX6_copy_51 : decode cX6_copy 51 = .ok (.aload 6, 2) := by decide +kernel
theorem dX6_copy_53 : decode cX6_copy 53 = .ok (.getfield 263, 3) := by decide +kernel
theorem dX6_copy_56 : decode cX6_copy 56 = .ok (.aload 7, 2) := by decide +kernel
theorem dX6_copy_58 : decode cX6_copy 58 = .ok (.getfield 263, 3) := by decide +kernel
theorem dX6_copy_61 : decode cX6_copy 61 = .ok (.if_icmp .eq 6, 3) := by decide +kernel
theorem dX6_copy_64 : decode cX6_copy 64 = .ok (.bipush (-12), 2) := by decide +kernel
theorem dX6_copy_66 : decode cX6_copy 66 = .ok (.ireturn, 1) := by decide +kernel
theorem dX6_copy_67 : decode cX6_copy 67 = .ok (.aload 6, 2) := by decide +kernel
theorem dX6_copy_69 : decode cX6_copy 69 = .ok (.iload_n 2, 1) := by decide +kernel
theorem dX6_copy_70 : decode cX6_copy 70 = .ok (.iload 5, 2) := by decide +kernel
theorem dX6_copy_72 : decode cX6_copy 72 = .ok (.invokevirtual 266, 3) := by decide +kernel
theorem dX6_copy_75 : decode cX6_copy 75 = .ok (.ifCond .eq 15, 3) := by decide +kernel
theorem dX6_copy_78 : decode cX6_copy 78 = .ok (.aload 7, 2) := by decide +kernel
theorem dX6_copy_80 : decode cX6_copy 80 = .ok (.iload 4, 2) := by decide +kernel
theorem dX6_copy_82 : decode cX6_copy 82 = .ok (.iload 5, 2) := by decide +kernel
theorem dX6_copy_84 : decode cX6_copy 84 = .ok (.invokevirtual 266, 3) := by decide +kernel
theorem dX6_copy_87 : decode cX6_copy 87 = .ok (.ifCond .ne 6, 3) := by decide +kernel
theorem dX6_copy_90 : decode cX6_copy 90 = .ok (.bipush (-13), 2) := by decide +kernel
theorem dX6_copy_92 : decode cX6_copy 92 = .ok (.ireturn, 1) := by decide +kernel
theorem dX6_copy_93 : decode cX6_copy 93 = .ok (.aload 6, 2) := by decide +kernel
theorem dX6_copy_95 : decode cX6_copy 95 = .ok (.getfield 270, 3) := by decide +kernel
theorem dX6_copy_98 : decode cX6_copy 98 = .ok (.iload_n 2, 1) := by decide +kernel
theorem dX6_copy_99 : decode cX6_copy 99 = .ok (.aload 7, 2) := by decide +kernel
theorem dX6_copy_101 : decode cX6_copy 101 = .ok (.getfield 270, 3) := by decide +kernel
theorem dX6_copy_104 : decode cX6_copy 104 = .ok (.iload 4, 2) := by decide +kernel
theorem dX6_copy_106 : decode cX6_copy 106 = .ok (.iload 5, 2) := by decide +kernel
theorem dX6_copy_108 : decode cX6_copy 108 = .ok (.invokestatic 274, 3) := by decide +kernel
theorem dX6_copy_111 : decode cX6_copy 111 = .ok (.iload 5, 2) := by decide +kernel
theorem dX6_copy_113 : decode cX6_copy 113 = .ok (.ireturn, 1) := by decide +kernel
theorem dX6_within_0 : decode cX6_within 0 = .ok (.iload_n 0, 1) := by decide +kernel
theorem dX6_within_1 : decode cX6_within 1 = .ok (.iload_n 1, 1) := by decide +kernel
theorem dX6_within_2 : decode cX6_within 2 = .ok (.if_icmp .lt 12, 3) := by decide +kernel
theorem dX6_within_5 : decode cX6_within 5 = .ok (.iload_n 0, 1) := by decide +kernel
theorem dX6_within_6 : decode cX6_within 6 = .ok (.iload_n 2, 1) := by decide +kernel
theorem dX6_within_7 : decode cX6_within 7 = .ok (.if_icmp .gt 7, 3) := by decide +kernel
theorem dX6_within_10 : decode cX6_within 10 = .ok (.iconst 1, 1) := by decide +kernel
theorem dX6_within_11 : decode cX6_within 11 = .ok (.goto 4, 3) := by decide +kernel
theorem dX6_within_14 : decode cX6_within 14 = .ok (.iconst 0, 1) := by decide +kernel
theorem dX6_within_15 : decode cX6_within 15 = .ok (.ireturn, 1) := by decide +kernel
theorem dX6_isTurn_0 : decode cX6_isTurn 0 = .ok (.iload_n 0, 1) := by decide +kernel
theorem dX6_isTurn_1 : decode cX6_isTurn 1 = .ok (.iconst 0, 1) := by decide +kernel
theorem dX6_isTurn_2 : decode cX6_isTurn 2 = .ok (.bipush 9, 2) := by decide +kernel
theorem dX6_isTurn_4 : decode cX6_isTurn 4 = .ok (.invokestatic 71, 3) := by decide +kernel
theorem dX6_isTurn_7 : decode cX6_isTurn 7 = .ok (.ireturn, 1) := by decide +kernel
theorem dX6_isOutcome_0 : decode cX6_isOutcome 0 = .ok (.iload_n 0, 1) := by decide +kernel
theorem dX6_isOutcome_1 : decode cX6_isOutcome 1 = .ok (.iconst 0, 1) := by decide +kernel
theorem dX6_isOutcome_2 : decode cX6_isOutcome 2 = .ok (.bipush 7, 2) := by decide +kernel
theorem dX6_isOutcome_4 : decode cX6_isOutcome 4 = .ok (.invokestatic 71, 3) := by decide +kernel
theorem dX6_isOutcome_7 : decode cX6_isOutcome 7 = .ok (.ireturn, 1) := by decide +kernel
theorem dX6_isSheet_0 : decode cX6_isSheet 0 = .ok (.iload_n 0, 1) := by decide +kernel
theorem dX6_isSheet_1 : decode cX6_isSheet 1 = .ok (.iconst 0, 1) := by decide +kernel
theorem dX6_isSheet_2 : decode cX6_isSheet 2 = .ok (.iconst 3, 1) := by decide +kernel
theorem dX6_isSheet_3 : decode cX6_isSheet 3 = .ok (.invokestatic 71, 3) := by decide +kernel
theorem dX6_isSheet_6 : decode cX6_isSheet 6 = .ok (.ireturn, 1) := by decide +kernel
theorem dX6_isLane_0 : decode cX6_isLane 0 = .ok (.iload_n 0, 1) := by decide +kernel
theorem dX6_isLane_1 : decode cX6_isLane 1 = .ok (.iconst 0, 1) := by decide +kernel
theorem dX6_isLane_2 : decode cX6_isLane 2 = .ok (.iconst 3, 1) := by decide +kernel
theorem dX6_isLane_3 : decode cX6_isLane 3 = .ok (.invokestatic 71, 3) := by decide +kernel
theorem dX6_isLane_6 : decode cX6_isLane 6 = .ok (.ireturn, 1) := by decide +kernel
theorem dX6_sum_0 : decode cX6_sum 0 = .ok (.iconst 0, 1) := by decide +kernel
theorem dX6_sum_1 : decode cX6_sum 1 = .ok (.istore_n 1, 1) := by decide +kernel
theorem dX6_sum_2 : decode cX6_sum 2 = .ok (.iconst 0, 1) := by decide +kernel
theorem dX6_sum_3 : decode cX6_sum 3 = .ok (.istore_n 2, 1) := by decide +kernel
theorem dX6_sum_4 : decode cX6_sum 4 = .ok (.iload_n 2, 1) := by decide +kernel
theorem dX6_sum_5 : decode cX6_sum 5 = .ok (.aload_n 0, 1) := by decide +kernel
theorem dX6_sum_6 : decode cX6_sum 6 = .ok (.arraylength, 1) := by decide +kernel
theorem dX6_sum_7 : decode cX6_sum 7 = .ok (.if_icmp .ge 15, 3) := by decide +kernel
theorem dX6_sum_10 : decode cX6_sum 10 = .ok (.iload_n 1, 1) := by decide +kernel
theorem dX6_sum_11 : decode cX6_sum 11 = .ok (.aload_n 0, 1) := by decide +kernel
theorem dX6_sum_12 : decode cX6_sum 12 = .ok (.iload_n 2, 1) := by decide +kernel
theorem dX6_sum_13 : decode cX6_sum 13 = .ok (.iaload, 1) := by decide +kernel
theorem dX6_sum_14 : decode cX6_sum 14 = .ok (.iadd, 1) := by decide +kernel
theorem dX6_sum_15 : decode cX6_sum 15 = .ok (.istore_n 1, 1) := by decide +kernel
theorem dX6_sum_16 : decode cX6_sum 16 = .ok (.iinc 2 1, 3) := by decide +kernel
theorem dX6_sum_19 : decode cX6_sum 19 = .ok (.goto (-15), 3) := by decide +kernel
theorem dX6_sum_22 : decode cX6_sum 22 = .ok (.iload_n 1, 1) := by decide +kernel
theorem dX6_sum_23 : decode cX6_sum 23 = .ok (.ireturn, 1) := by decide +kernel
theorem dX6_firstOfGreatest_0 : decode cX6_firstOfGreatest 0 = .ok (.iconst 0, 1) := by decide +kernel
theorem dX6_firstOfGreatest_1 : decode cX6_firstOfGreatest 1 = .ok (.istore_n 1, 1) := by decide +kernel
theorem dX6_firstOfGreatest_2 : decode cX6_firstOfGreatest 2 = .ok (.iconst 1, 1) := by decide +kernel
theorem dX6_firstOfGreatest_3 : decode cX6_firstOfGreatest 3 = .ok (.istore_n 2, 1) := by decide +kernel
theorem dX6_firstOfGreatest_4 : decode cX6_firstOfGreatest 4 = .ok (.iload_n 2, 1) := by decide +kernel
theorem dX6_firstOfGreatest_5 : decode cX6_firstOfGreatest 5 = .ok (.aload_n 0, 1) := by decide +kernel
theorem dX6_firstOfGreatest_6 : decode cX6_firstOfGreatest 6 = .ok (.arraylength, 1) := by decide +kernel
theorem dX6_firstOfGreatest_7 : decode cX6_firstOfGreatest 7 = .ok (.if_icmp .ge 20, 3) := by decide +kernel
theorem dX6_firstOfGreatest_10 : decode cX6_firstOfGreatest 10 = .ok (.aload_n 0, 1) := by decide +kernel
theorem dX6_firstOfGreatest_11 : decode cX6_firstOfGreatest 11 = .ok (.iload_n 2, 1) := by decide +kernel
theorem dX6_firstOfGreatest_12 : decode cX6_firstOfGreatest 12 = .ok (.iaload, 1) := by decide +kernel
theorem dX6_firstOfGreatest_13 : decode cX6_firstOfGreatest 13 = .ok (.aload_n 0, 1) := by decide +kernel
theorem dX6_firstOfGreatest_14 : decode cX6_firstOfGreatest 14 = .ok (.iload_n 1, 1) := by decide +kernel
theorem dX6_firstOfGreatest_15 : decode cX6_firstOfGreatest 15 = .ok (.iaload, 1) := by decide +kernel
theorem dX6_firstOfGreatest_16 : decode cX6_firstOfGreatest 16 = .ok (.if_icmp .le 5, 3) := by decide +kernel
theorem dX6_firstOfGreatest_19 : decode cX6_firstOfGreatest 19 = .ok (.iload_n 2, 1) := by decide +kernel
theorem dX6_firstOfGreatest_20 : decode cX6_firstOfGreatest 20 = .ok (.istore_n 1, 1) := by decide +kernel
theorem dX6_firstOfGreatest_21 : decode cX6_firstOfGreatest 21 = .ok (.iinc 2 1, 3) := by decide +kernel
theorem dX6_firstOfGreatest_24 : decode cX6_firstOfGreatest 24 = .ok (.goto (-20), 3) := by decide +kernel
theorem dX6_firstOfGreatest_27 : decode cX6_firstOfGreatest 27 = .ok (.iload_n 1, 1) := by decide +kernel
theorem dX6_firstOfGreatest_28 : decode cX6_firstOfGreatest 28 = .ok (.ireturn, 1) := by decide +kernel
theorem dX6_copyRow_0 : decode cX6_copyRow 0 = .ok (.aload_n 0, 1) := by decide +kernel
theorem dX6_copyRow_1 : decode cX6_copyRow 1 = .ok (.iconst 0, 1) := by decide +kernel
theorem dX6_copyRow_2 : decode cX6_copyRow 2 = .ok (.aload_n 1, 1) := by decide +kernel
theorem dX6_copyRow_3 : decode cX6_copyRow 3 = .ok (.iconst 0, 1) := by decide +kernel
theorem dX6_copyRow_4 : decode cX6_copyRow 4 = .ok (.aload_n 0, 1) := by decide +kernel
theorem dX6_copyRow_5 : decode cX6_copyRow 5 = .ok (.arraylength, 1) := by decide +kernel
theorem dX6_copyRow_6 : decode cX6_copyRow 6 = .ok (.aload_n 1, 1) := by decide +kernel
theorem dX6_copyRow_7 : decode cX6_copyRow 7 = .ok (.arraylength, 1) := by decide +kernel
theorem dX6_copyRow_8 : decode cX6_copyRow 8 = .ok (.invokestatic 280, 3) := by decide +kernel
theorem dX6_copyRow_11 : decode cX6_copyRow 11 = .ok (.invokestatic 274, 3) := by decide +kernel
theorem dX6_copyRow_14 : decode cX6_copyRow 14 = .ok (.return_, 1) := by decide +kernel
theorem dX7_in_0 : decode cX7_in 0 = .ok (.lload_n 0, 1) := by decide +kernel
theorem dX7_in_1 : decode cX7_in 1 = .ok (.lload_n 2, 1) := by decide +kernel
theorem dX7_in_2 : decode cX7_in 2 = .ok (.lcmp, 1) := by decide +kernel
theorem dX7_in_3 : decode cX7_in 3 = .ok (.ifCond .lt 14, 3) := by decide +kernel
theorem dX7_in_6 : decode cX7_in 6 = .ok (.lload_n 0, 1) := by decide +kernel
theorem dX7_in_7 : decode cX7_in 7 = .ok (.lload 4, 2) := by decide +kernel
theorem dX7_in_9 : decode cX7_in 9 = .ok (.lcmp, 1) := by decide +kernel
theorem dX7_in_10 : decode cX7_in 10 = .ok (.ifCond .gt 7, 3) := by decide +kernel
theorem dX7_in_13 : decode cX7_in 13 = .ok (.iconst 1, 1) := by decide +kernel
theorem dX7_in_14 : decode cX7_in 14 = .ok (.goto 4, 3) := by decide +kernel
theorem dX7_in_17 : decode cX7_in 17 = .ok (.iconst 0, 1) := by decide +kernel
theorem dX7_in_18 : decode cX7_in 18 = .ok (.ireturn, 1) := by decide +kernel
theorem dX7_init_0 : decode cX7_init 0 = .ok (.aload_n 0, 1) := by decide +kernel
theorem dX7_init_1 : decode cX7_init 1 = .ok (.invokespecial 1, 3) := by decide +kernel
theorem dX7_init_4 : decode cX7_init 4 = .ok (.aload_n 0, 1) := by decide +kernel
theorem dX7_init_5 : decode cX7_init 5 = .ok (.bipush 43, 2) := by decide +kernel
theorem dX7_init_7 : decode cX7_init 7 = .ok (.newarray .int, 2) := by decide +kernel
theorem dX7_init_9 : decode cX7_init 9 = .ok (.putfield 7, 3) := by decide +kernel
theorem dX7_init_12 : decode cX7_init 12 = .ok (.aload_n 0, 1) := by decide +kernel
theorem dX7_init_13 : decode cX7_init 13 = .ok (.bipush 10, 2) := by decide +kernel
theorem dX7_init_15 : decode cX7_init 15 = .ok (.newarray .int, 2) := by decide +kernel
theorem dX7_init_17 : decode cX7_init 17 = .ok (.putfield 13, 3) := by decide +kernel
theorem dX7_init_20 : decode cX7_init 20 = .ok (.aload_n 0, 1) := by decide +kernel
theorem dX7_init_21 : decode cX7_init 21 = .ok (.bipush 70, 2) := by decide +kernel
theorem dX7_init_23 : decode cX7_init 23 = .ok (.newarray .int, 2) := by decide +kernel
theorem dX7_init_25 : decode cX7_init 25 = .ok (.putfield 16, 3) := by decide +kernel
theorem dX7_init_28 : decode cX7_init 28 = .ok (.aload_n 0, 1) := by decide +kernel
theorem dX7_init_29 : decode cX7_init 29 = .ok (.bipush 20, 2) := by decide +kernel
theorem dX7_init_31 : decode cX7_init 31 = .ok (.newarray .int, 2) := by decide +kernel
theorem dX7_init_33 : decode cX7_init 33 = .ok (.putfield 19, 3) := by decide +kernel
theorem dX7_init_36 : decode cX7_init 36 = .ok (.aload_n 0, 1) := by decide +kernel
theorem dX7_init_37 : decode cX7_init 37 = .ok (.bipush 15, 2) := by decide +kernel
theorem dX7_init_39 : decode cX7_init 39 = .ok (.newarray .int, 2) := by decide +kernel
theorem dX7_init_41 : decode cX7_init 41 = .ok (.putfield 22, 3) := by decide +kernel
theorem dX7_init_44 : decode cX7_init 44 = .ok (.aload_n 0, 1) := by decide +kernel
theorem dX7_init_45 : decode cX7_init 45 = .ok (.sipush 344, 3) := by decide +kernel
theorem dX7_init_48 : decode cX7_init 48 = .ok (.newarray .int, 2) := by decide +kernel
theorem dX7_init_50 : decode cX7_init 50 = .ok (.putfield 25, 3) := by decide +kernel
theorem dX7_init_53 : decode cX7_init 53 = .ok (.aload_n 0, 1) := by decide +kernel
theorem dX7_init_54 : decode cX7_init 54 = .ok (.bipush 43, 2) := by decide +kernel
theorem dX7_init_56 : decode cX7_init 56 = .ok (.newarray .int, 2) := by decide +kernel
theorem dX7_init_58 : decode cX7_init 58 = .ok (.putfield 28, 3) := by decide +kernel
theorem dX7_init_61 : decode cX7_init 61 = .ok (.aload_n 0, 1) := by decide +kernel
theorem dX7_init_62 : decode cX7_init 62 = .ok (.iconst 5, 1) := by decide +kernel
theorem dX7_init_63 : decode cX7_init 63 = .ok (.newarray .int, 2) := by decide +kernel
theorem dX7_init_65 : decode cX7_init 65 = .ok (.putfield 31, 3) := by decide +kernel
theorem dX7_init_68 : decode cX7_init 68 = .ok (.aload_n 0, 1) := by decide +kernel
theorem dX7_init_69 : decode cX7_init 69 = .ok (.iconst 5, 1) := by decide +kernel
theorem dX7_init_70 : decode cX7_init 70 = .ok (.newarray .int, 2) := by decide +kernel
theorem dX7_init_72 : decode cX7_init 72 = .ok (.putfield 34, 3) := by decide +kernel
theorem dX7_init_75 : decode cX7_init 75 = .ok (.aload_n 0, 1) := by decide +kernel
theorem dX7_init_76 : decode cX7_init 76 = .ok (.iconst 5, 1) := by decide +kernel
theorem dX7_init_77 : decode cX7_init 77 = .ok (.newarray .int, 2) := by decide +kernel
theorem dX7_init_79 : decode cX7_init 79 = .ok (.putfield 37, 3) := by decide +kernel
theorem dX7_init_82 : decode cX7_init 82 = .ok (.aload_n 0, 1) := by decide +kernel
theorem dX7_init_83 : decode cX7_init 83 = .ok (.sipush 387, 3) := by decide +kernel
theorem dX7_init_86 : decode cX7_init 86 = .ok (.newarray .int, 2) := by decide +kernel
theorem dX7_init_88 : decode cX7_init 88 = .ok (.putfield 40, 3) := by decide +kernel
theorem dX7_init_91 : decode cX7_init 91 = .ok (.aload_n 0, 1) := by decide +kernel
theorem dX7_init_92 : decode cX7_init 92 = .ok (.iconst 4, 1) := by decide +kernel
theorem dX7_init_93 : decode cX7_init 93 = .ok (.newarray .int, 2) := by decide +kernel
theorem dX7_init_95 : decode cX7_init 95 = .ok (.putfield 43, 3) := by decide +kernel
theorem dX7_init_98 : decode cX7_init 98 = .ok (.aload_n 0, 1) := by decide +kernel
theorem dX7_init_99 : decode cX7_init 99 = .ok (.iconst 4, 1) := by decide +kernel
theorem dX7_init_100 : decode cX7_init 100 = .ok (.newarray .int, 2) := by decide +kernel
theorem dX7_init_102 : decode cX7_init 102 = .ok (.putfield 46, 3) := by decide +kernel
theorem dX7_init_105 : decode cX7_init 105 = .ok (.aload_n 0, 1) := by decide +kernel
theorem dX7_init_106 : decode cX7_init 106 = .ok (.bipush 96, 2) := by decide +kernel
theorem dX7_init_108 : decode cX7_init 108 = .ok (.newarray .long, 2) := by decide +kernel
theorem dX7_init_110 : decode cX7_init 110 = .ok (.putfield 49, 3) := by decide +kernel
theorem dX7_init_113 : decode cX7_init 113 = .ok (.aload_n 0, 1) := by decide +kernel
theorem dX7_init_114 : decode cX7_init 114 = .ok (.bipush 24, 2) := by decide +kernel
theorem dX7_init_116 : decode cX7_init 116 = .ok (.newarray .long, 2) := by decide +kernel
theorem dX7_init_118 : decode cX7_init 118 = .ok (.putfield 53, 3) := by decide +kernel
theorem dX7_init_121 : decode cX7_init 121 = .ok (.aload_n 0, 1) := by decide +kernel
theorem dX7_init_122 : decode cX7_init 122 = .ok (.getfield 7, 3) := by decide +kernel
theorem dX7_init_125 : decode cX7_init 125 = .ok (.iconst 2, 1) := by decide +kernel
theorem dX7_init_126 : decode cX7_init 126 = .ok (.iconst 1, 1) := by decide +kernel
theorem dX7_init_127 : decode cX7_init 127 = .ok (.iastore, 1) := by decide +kernel
theorem dX7_init_128 : decode cX7_init 128 = .ok (.iconst 0, 1) := by decide +kernel
theorem dX7_init_129 : decode cX7_init 129 = .ok (.istore_n 1, 1) := by decide +kernel
theorem dX7_init_130 : decode cX7_init 130 = .ok (.iload_n 1, 1) := by decide +kernel
theorem dX7_init_131 : decode cX7_init 131 = .ok (.bipush 10, 2) := by decide +kernel
theorem dX7_init_133 : decode cX7_init 133 = .ok (.if_icmp .ge 18, 3) := by decide +kernel
theorem dX7_init_136 : decode cX7_init 136 = .ok (.aload_n 0, 1) := by decide +kernel
theorem dX7_init_137 : decode cX7_init 137 = .ok (.getfield 7, 3) := by decide +kernel
theorem dX7_init_140 : decode cX7_init 140 = .ok (.iconst 3, 1) := by decide +kernel
theorem dX7_init_141 : decode cX7_init 141 = .ok (.iload_n 1, 1) := by decide +kernel
theorem dX7_init_142 : decode cX7_init 142 = .ok (.iadd, 1) := by decide +kernel
theorem dX7_init_143 : decode cX7_init 143 = .ok (.iconst 1, 1) := by decide +kernel
theorem dX7_init_144 : decode cX7_init 144 = .ok (.iastore, 1) := by decide +kernel
theorem dX7_init_145 : decode cX7_init 145 = .ok (.iinc 1 1, 3) := by decide +kernel
theorem dX7_init_148 : decode cX7_init 148 = .ok (.goto (-18), 3) := by decide +kernel
theorem dX7_init_151 : decode cX7_init 151 = .ok (.iconst 0, 1) := by decide +kernel
theorem dX7_init_152 : decode cX7_init 152 = .ok (.istore_n 1, 1) := by decide +kernel
theorem dX7_init_153 : decode cX7_init 153 = .ok (.iload_n 1, 1) := by decide +kernel
theorem dX7_init_154 : decode cX7_init 154 = .ok (.iconst 4, 1) := by decide +kernel
theorem dX7_init_155 : decode cX7_init 155 = .ok (.if_icmp .ge 16, 3) := by decide +kernel
theorem dX7_init_158 : decode cX7_init 158 = .ok (.aload_n 0, 1) := by decide +kernel
theorem dX7_init_159 : decode cX7_init 159 = .ok (.getfield 43, 3) := by decide +kernel
theorem dX7_init_162 : decode cX7_init 162 = .ok (.iload_n 1, 1) := by decide +kernel
theorem dX7_init_163 : decode cX7_init 163 = .ok (.iconst (-1), 1) := by decide +kernel
theorem dX7_init_164 : decode cX7_init 164 = .ok (.iastore, 1) := by decide +kernel
theorem dX7_init_165 : decode cX7_init 165 = .ok (.iinc 1 1, 3) := by decide +kernel
theorem dX7_init_168 : decode cX7_init 168 = .ok (.goto (-15), 3) := by decide +kernel
theorem dX7_init_171 : decode cX7_init 171 = .ok (.return_, 1) := by decide +kernel
theorem dX7_isRider_0 : decode cX7_isRider 0 = .ok (.iload_n 1, 1) := by decide +kernel
theorem dX7_isRider_1 : decode cX7_isRider 1 = .ok (.i2l, 1) := by decide +kernel
theorem dX7_isRider_2 : decode cX7_isRider 2 = .ok (.lconst 0, 1) := by decide +kernel
theorem dX7_isRider_3 : decode cX7_isRider 3 = .ok (.aload_n 0, 1) := by decide +kernel
theorem dX7_isRider_4 : decode cX7_isRider 4 = .ok (.getfield 7, 3) := by decide +kernel
theorem dX7_isRider_7 : decode cX7_isRider 7 = .ok (.iconst 0, 1) := by decide +kernel
theorem dX7_isRider_8 : decode cX7_isRider 8 = .ok (.iaload, 1) := by decide +kernel
theorem dX7_isRider_9 : decode cX7_isRider 9 = .ok (.iconst 1, 1) := by decide +kernel
theorem dX7_isRider_10 : decode cX7_isRider 10 = .ok (.isub, 1) := by decide +kernel
theorem dX7_isRider_11 : decode cX7_isRider 11 = .ok (.i2l, 1) := by decide +kernel
theorem dX7_isRider_12 : decode cX7_isRider 12 = .ok (.invokestatic 56, 3) := by decide +kernel
theorem dX7_isRider_15 : decode cX7_isRider 15 = .ok (.ireturn, 1) := by decide +kernel
theorem dX7_isTurn_0 : decode cX7_isTurn 0 = .ok (.iload_n 0, 1) := by decide +kernel
theorem dX7_isTurn_1 : decode cX7_isTurn 1 = .ok (.i2l, 1) := by decide +kernel
theorem dX7_isTurn_2 : decode cX7_isTurn 2 = .ok (.lconst 0, 1) := by decide +kernel
theorem dX7_isTurn_3 : decode cX7_isTurn 3 = .ok (.ldc2_w 60, 3) := by decide +kernel
theorem dX7_isTurn_6 : decode cX7_isTurn 6 = .ok (.invokestatic 56, 3) := by decide +kernel
theorem dX7_isTurn_9 : decode cX7_isTurn 9 = .ok (.ireturn, 1) := by decide +kernel
theorem dX7_told_0 : decode cX7_told 0 = .ok (.aload_n 0, 1) := by decide +kernel
theorem dX7_told_1 : decode cX7_told 1 = .ok (.getfield 7, 3) := by decide +kernel
theorem dX7_told_4 : decode cX7_told 4 = .ok (.bipush 23, 2) := by decide +kernel
theorem dX7_told_6 : decode cX7_told 6 = .ok (.iconst 4, 1) := by decide +kernel
theorem dX7_told_7 : decode cX7_told 7 = .ok (.iload_n 1, 1) := by decide +kernel
theorem dX7_told_8 : decode cX7_told 8 = .ok (.imul, 1) := by decide +kernel
theorem dX7_told_9 : decode cX7_told 9 = .ok (.iadd, 1) := by decide +kernel
theorem dX7_told_10 : decode cX7_told 10 = .ok (.iload_n 2, 1) := by decide +kernel
theorem dX7_told_11 : decode cX7_told 11 = .ok (.iadd, 1) := by decide +kernel
theorem dX7_told_12 : decode cX7_told 12 = .ok (.iaload, 1) := by decide +kernel
theorem dX7_told_13 : decode cX7_told 13 = .ok (.ireturn, 1) := by decide +kernel
theorem dX7_tells_0 : decode cX7_tells 0 = .ok (.aload_n 0, 1) := by decide +kernel
theorem dX7_tells_1 : decode cX7_tells 1 = .ok (.getfield 7, 3) := by decide +kernel
theorem dX7_tells_4 : decode cX7_tells 4 = .ok (.bipush 23, 2) := by decide +kernel
theorem dX7_tells_6 : decode cX7_tells 6 = .ok (.iconst 4, 1) := by decide +kernel
theorem dX7_tells_7 : decode cX7_tells 7 = .ok (.iload_n 1, 1) := by decide +kernel
theorem dX7_tells_8 : decode cX7_tells 8 = .ok (.imul, 1) := by decide +kernel
theorem dX7_tells_9 : decode cX7_tells 9 = .ok (.iadd, 1) := by decide +kernel
theorem dX7_tells_10 : decode cX7_tells 10 = .ok (.iload_n 2, 1) := by decide +kernel
theorem dX7_tells_11 : decode cX7_tells 11 = .ok (.iadd, 1) := by decide +kernel
theorem dX7_tells_12 : decode cX7_tells 12 = .ok (.iload_n 3, 1) := by decide +kernel
theorem dX7_tells_13 : decode cX7_tells 13 = .ok (.iastore, 1) := by decide +kernel
theorem dX7_tells_14 : decode cX7_tells 14 = .ok (.return_, 1) := by decide +kernel
theorem dX7_where_0 : decode cX7_where 0 = .ok (.aload_n 0, 1) := by decide +kernel
theorem dX7_where_1 : decode cX7_where 1 = .ok (.iload_n 1, 1) := by decide +kernel
theorem dX7_where_2 : decode cX7_where 2 = .ok (.iconst 3, 1) := by decide +kernel
theorem dX7_where_3 : decode cX7_where 3 = .ok (.invokevirtual 62, 3) := by decide +kernel
theorem dX7_where_6 : decode cX7_where 6 = .ok (.ireturn, 1) := by decide +kernel
theorem dX7_isThrough_0 : decode cX7_isThrough 0 = .ok (.aload_n 0, 1) := by decide +kernel
theorem dX7_isThrough_1 : decode cX7_isThrough 1 = .ok (.iload_n 1, 1) := by decide +kernel
theorem dX7_isThrough_2 : decode cX7_isThrough 2 = .ok (.invokevirtual 66, 3) := by decide +kernel
theorem dX7_isThrough_5 : decode cX7_isThrough 5 = .ok (.bipush 8, 2) := by decide +kernel
theorem dX7_isThrough_7 : decode cX7_isThrough 7 = .ok (.if_icmp .ge 7, 3) := by decide +kernel
theorem dX7_isThrough_10 : decode cX7_isThrough 10 = .ok (.iconst 1, 1) := by decide +kernel
theorem dX7_isThrough_11 : decode cX7_isThrough 11 = .ok (.goto 4, 3) := by decide +kernel
theorem dX7_isThrough_14 : decode cX7_isThrough 14 = .ok (.iconst 0, 1) := by decide +kernel
theorem dX7_isThrough_15 : decode cX7_isThrough 15 = .ok (.ireturn, 1) := by decide +kernel
theorem dX7_whoStuck_0 : decode cX7_whoStuck 0 = .ok (.bipush (-4), 2) := by decide +kernel
theorem dX7_whoStuck_2 : decode cX7_whoStuck 2 = .ok (.istore_n 2, 1) := by decide +kernel
theorem dX7_whoStuck_3 : decode cX7_whoStuck 3 = .ok (.iconst 0, 1) := by decide +kernel
theorem dX7_whoStuck_4 : decode cX7_whoStuck 4 = .ok (.istore_n 3, 1) := by decide +kernel
theorem dX7_whoStuck_5 : decode cX7_whoStuck 5 = .ok (.iload_n 3, 1) := by decide +kernel
theorem dX7_whoStuck_6 : decode cX7_whoStuck 6 = .ok (.aload_n 0, 1) := by decide +kernel
theorem dX7_whoStuck_7 : decode cX7_whoStuck 7 = .ok (.getfield 7, 3) := by decide +kernel
theorem dX7_whoStuck_10 : decode cX7_whoStuck 10 = .ok (.iconst 0, 1) := by decide +kernel
theorem dX7_whoStuck_11 : decode cX7_whoStuck 11 = .ok (.iaload, 1) := by decide +kernel
theorem dX7_whoStuck_12 : decode cX7_whoStuck 12 = .ok (.if_icmp .ge 27, 3) := by decide +kernel
theorem dX7_whoStuck_15 : decode cX7_whoStuck 15 = .ok (.aload_n 0, 1) := by decide +kernel
theorem dX7_whoStuck_16 : decode cX7_whoStuck 16 = .ok (.iload_n 3, 1) := by decide +kernel
theorem dX7_whoStuck_17 : decode cX7_whoStuck 17 = .ok (.invokevirtual 66, 3) := by decide +kernel
theorem dX7_whoStuck_20 : decode cX7_whoStuck 20 = .ok (.bipush 10, 2) := by decide +kernel
theorem dX7_whoStuck_22 : decode cX7_whoStuck 22 = .ok (.iload_n 1, 1) := by decide +kernel
theorem dX7_whoStuck_23 : decode cX7_whoStuck 23 = .ok (.iadd, 1) := by decide +kernel
theorem dX7_whoStuck_24 : decode cX7_whoStuck 24 = .ok (.if_icmp .ne 7, 3) := by decide +kernel
theorem dX7_whoStuck_27 : decode cX7_whoStuck 27 = .ok (.iload_n 3, 1) := by decide +kernel
theorem dX7_whoStuck_28 : decode cX7_whoStuck 28 = .ok (.goto 4, 3) := by decide +kernel
theorem dX7_whoStuck_31 : decode cX7_whoStuck 31 = .ok (.iload_n 2, 1) := by decide +kernel
theorem dX7_whoStuck_32 : decode cX7_whoStuck 32 = .ok (.istore_n 2, 1) := by decide +kernel
theorem dX7_whoStuck_33 : decode cX7_whoStuck 33 = .ok (.iinc 3 1, 3) := by decide +kernel
theorem dX7_whoStuck_36 : decode cX7_whoStuck 36 = .ok (.goto (-31), 3) := by decide +kernel
theorem dX7_whoStuck_39 : decode cX7_whoStuck 39 = .ok (.iload_n 2, 1) := by decide +kernel
theorem dX7_whoStuck_40 : decode cX7_whoStuck 40 = .ok (.ireturn, 1) := by decide +kernel
theorem dX7_gain_0 : decode cX7_gain 0 = .ok (.iconst 2, 1) := by decide +kernel
theorem dX7_gain_1 : decode cX7_gain 1 = .ok (.aload_n 0, 1) := by decide +kernel
theorem dX7_gain_2 : decode cX7_gain 2 = .ok (.iload_n 1, 1) := by decide +kernel
theorem dX7_gain_3 : decode cX7_gain 3 = .ok (.iconst 1, 1) := by decide +kernel
theorem dX7_gain_4 : decode cX7_gain 4 = .ok (.invokevirtual 62, 3) := by decide +kernel
theorem dX7_gain_7 : decode cX7_gain 7 = .ok (.iconst 5, 1) := by decide +kernel
theorem dX7_gain_8 : decode cX7_gain 8 = .ok (.idiv, 1) := by decide +kernel
theorem dX7_gain_9 : decode cX7_gain 9 = .ok (.iadd, 1) := by decide +kernel
theorem dX7_gain_10 : decode cX7_gain 10 = .ok (.istore 4, 2) := by decide +kernel
theorem dX7_gain_12 : decode cX7_gain 12 = .ok (.iload_n 3, 1) := by decide +kernel
theorem dX7_gain_13 : decode cX7_gain 13 = .ok (.bipush 6, 2) := by decide +kernel
theorem dX7_gain_15 : decode cX7_gain 15 = .ok (.if_icmp .lt 7, 3) := by decide +kernel
theorem dX7_gain_18 : decode cX7_gain 18 = .ok (.iconst 0, 1) := by decide +kernel
theorem dX7_gain_19 : decode cX7_gain 19 = .ok (.goto 4, 3) := by decide +kernel
theorem dX7_gain_22 : decode cX7_gain 22 = .ok (.iconst 2, 1) := by decide +kernel
theorem dX7_gain_23 : decode cX7_gain 23 = .ok (.istore 5, 2) := by decide +kernel
theorem dX7_gain_25 : decode cX7_gain 25 = .ok (.aload_n 0, 1) := by decide +kernel
theorem dX7_gain_26 : decode cX7_gain 26 = .ok (.iload_n 1, 1) := by decide +kernel
theorem dX7_gain_27 : decode cX7_gain 27 = .ok (.iconst 0, 1) := by decide +kernel
theorem dX7_gain_28 : decode cX7_gain 28 = .ok (.invokevirtual 62, 3) := by decide +kernel
theorem dX7_gain_31 : decode cX7_gain 31 = .ok (.tableswitch 53 0 3 #[29, 31, 34, 37], 29) := by decide +kernel
theorem dX7_gain_60 : decode cX7_gain 60 = .ok (.iconst 2, 1) := by decide +kernel
theorem dX7_gain_61 : decode cX7_gain 61 = .ok (.ireturn, 1) := by decide +kernel
theorem dX7_gain_62 : decode cX7_gain 62 = .ok (.iload 4, 2) := by decide +kernel
theorem dX7_gain_64 : decode cX7_gain 64 = .ok (.ireturn, 1) := by decide +kernel
theorem dX7_gain_65 : decode cX7_gain 65 = .ok (.iload 5, 2) := by decide +kernel
theorem dX7_gain_67 : decode cX7_gain 67 = .ok (.ireturn, 1) := by decide +kernel
theorem dX7_gain_68 : decode cX7_gain 68 = .ok (.iload_n 2, 1) := by decide +kernel
theorem dX7_gain_69 : decode cX7_gain 69 = .ok (.iconst 2, 1) := by decide +kernel
theorem dX7_gain_70 : decode cX7_gain 70 = .ok (.irem, 1) := by decide +kernel
theorem dX7_gain_71 : decode cX7_gain 71 = .ok (.ifCond .ne 8, 3) := by decide +kernel
theorem dX7_gain_74 : decode cX7_gain 74 = .ok (.iload 4, 2) := by decide +kernel
theorem dX7_gain_76 : decode cX7_gain 76 = .ok (.goto 7, 3) := by decide +kernel
theorem dX7_gain_79 : decode cX7_gain 79 = .ok (.iload 4, 2) := by decide +kernel
theorem dX7_gain_81 : decode cX7_gain 81 = .ok (.iconst 2, 1) := by decide +kernel
theorem dX7_gain_82 : decode cX7_gain 82 = .ok (.idiv, 1) := by decide +kernel
theorem dX7_gain_83 : decode cX7_gain 83 = .ok (.ireturn, 1) := by decide +kernel
theorem dX7_gain_84 : decode cX7_gain 84 = .ok (.iload 5, 2) := by decide +kernel
theorem dX7_gain_86 : decode cX7_gain 86 = .ok (.iconst 2, 1) := by decide +kernel
theorem dX7_gain_87 : decode cX7_gain 87 = .ok (.aload_n 0, 1) := by decide +kernel
theorem dX7_gain_88 : decode cX7_gain 88 = .ok (.getfield 7, 3) := by decide +kernel
theorem dX7_gain_91 : decode cX7_gain 91 = .ok (.bipush 13, 2) := by decide +kernel
theorem dX7_gain_93 : decode cX7_gain 93 = .ok (.iload_n 2, 1) := by decide +kernel
theorem dX7_gain_94 : decode cX7_gain 94 = .ok (.iadd, 1) := by decide +kernel
theorem dX7_gain_95 : decode cX7_gain 95 = .ok (.iaload, 1) := by decide +kernel
theorem dX7_gain_96 : decode cX7_gain 96 = .ok (.imul, 1) := by decide +kernel
theorem dX7_gain_97 : decode cX7_gain 97 = .ok (.iadd, 1) := by decide +kernel
theorem dX7_gain_98 : decode cX7_gain 98 = .ok (.ireturn, 1) := by decide +kernel
theorem dX7_rides_0 : decode cX7_rides 0 = .ok (.iconst 2, 1) := by decide +kernel
theorem dX7_rides_1 : decode cX7_rides 1 = .ok (.istore_n 2, 1) := by decide +kernel
theorem dX7_rides_2 : decode cX7_rides 2 = .ok (.iconst 0, 1) := by decide +kernel
theorem dX7_rides_3 : decode cX7_rides 3 = .ok (.istore_n 3, 1) := by decide +kernel
theorem dX7_rides_4 : decode cX7_rides 4 = .ok (.aload_n 0, 1) := by decide +kernel
theorem dX7_rides_5 : decode cX7_rides 5 = .ok (.iload_n 1, 1) := by decide +kernel
theorem dX7_rides_6 : decode cX7_rides 6 = .ok (.iconst 3, 1) := by decide +kernel
theorem dX7_rides_7 : decode cX7_rides 7 = .ok (.bipush 30, 2) := by decide +kernel
theorem dX7_rides_9 : decode cX7_rides 9 = .ok (.invokevirtual 70, 3) := by decide +kernel
theorem dX7_rides_12 : decode cX7_rides 12 = .ok (.iconst 0, 1) := by decide +kernel
theorem dX7_rides_13 : decode cX7_rides 13 = .ok (.istore 4, 2) := by decide +kernel
theorem dX7_rides_15 : decode cX7_rides 15 = .ok (.iload 4, 2) := by decide +kernel
theorem dX7_rides_17 : decode cX7_rides 17 = .ok (.bipush 10, 2) := by decide +kernel
theorem dX7_rides_19 : decode cX7_rides 19 = .ok (.if_icmp .ge 18, 3) := by decide +kernel
theorem dX7_rides_22 : decode cX7_rides 22 = .ok (.aload_n 0, 1) := by decide +kernel
theorem dX7_rides_23 : decode cX7_rides 23 = .ok (.getfield 13, 3) := by decide +kernel
theorem dX7_rides_26 : decode cX7_rides 26 = .ok (.iload 4, 2) := by decide +kernel
theorem dX7_rides_28 : decode cX7_rides 28 = .ok (.bipush (-4), 2) := by decide +kernel
theorem dX7_rides_30 : decode cX7_rides 30 = .ok (.iastore, 1) := by decide +kernel
theorem dX7_rides_31 : decode cX7_rides 31 = .ok (.iinc 4 1, 3) := by decide +kernel
theorem dX7_rides_34 : decode cX7_rides 34 = .ok (.goto (-19), 3) := by decide +kernel
theorem dX7_rides_37 : decode cX7_rides 37 = .ok (.iload_n 3, 1) := by decide +kernel
theorem dX7_rides_38 : decode cX7_rides 38 = .ok (.bipush 10, 2) := by decide +kernel
theorem dX7_rides_40 : decode cX7_rides 40 = .ok (.if_icmp .ge 100, 3) := by decide +kernel
theorem dX7_rides_43 : decode cX7_rides 43 = .ok (.iload_n 2, 1) := by decide +kernel
theorem dX7_rides_44 : decode cX7_rides 44 = .ok (.aload_n 0, 1) := by decide +kernel
theorem dX7_rides_45 : decode cX7_rides 45 = .ok (.iload_n 1, 1) := by decide +kernel
theorem dX7_rides_46 : decode cX7_rides 46 = .ok (.iload_n 3, 1) := by decide +kernel
theorem dX7_rides_47 : decode cX7_rides 47 = .ok (.iload_n 2, 1) := by decide +kernel
theorem dX7_rides_48 : decode cX7_rides 48 = .ok (.invokevirtual 74, 3) := by decide +kernel
theorem dX7_rides_51 : decode cX7_rides 51 = .ok (.aload_n 0, 1) := by decide +kernel
theorem dX7_rides_52 : decode cX7_rides 52 = .ok (.getfield 7, 3) := by decide +kernel
theorem dX7_rides_55 : decode cX7_rides 55 = .ok (.iconst 3, 1) := by decide +kernel
theorem dX7_rides_56 : decode cX7_rides 56 = .ok (.iload_n 3, 1) := by decide +kernel
theorem dX7_rides_57 : decode cX7_rides 57 = .ok (.iadd, 1) := by decide +kernel
theorem dX7_rides_58 : decode cX7_rides 58 = .ok (.iaload, 1) := by decide +kernel
theorem dX7_rides_59 : decode cX7_rides 59 = .ok (.isub, 1) := by decide +kernel
theorem dX7_rides_60 : decode cX7_rides 60 = .ok (.aload_n 0, 1) := by decide +kernel
theorem dX7_rides_61 : decode cX7_rides 61 = .ok (.getfield 7, 3) := by decide +kernel
theorem dX7_rides_64 : decode cX7_rides 64 = .ok (.bipush 13, 2) := by decide +kernel
theorem dX7_rides_66 : decode cX7_rides 66 = .ok (.iload_n 3, 1) := by decide +kernel
theorem dX7_rides_67 : decode cX7_rides 67 = .ok (.iadd, 1) := by decide +kernel
theorem dX7_rides_68 : decode cX7_rides 68 = .ok (.iaload, 1) := by decide +kernel
theorem dX7_rides_69 : decode cX7_rides 69 = .ok (.isub, 1) := by decide +kernel
theorem dX7_rides_70 : decode cX7_rides 70 = .ok (.iadd, 1) := by decide +kernel
theorem dX7_rides_71 : decode cX7_rides 71 = .ok (.istore_n 2, 1) := by decide +kernel
theorem dX7_rides_72 : decode cX7_rides 72 = .ok (.iload_n 2, 1) := by decide +kernel
theorem dX7_rides_73 : decode cX7_rides 73 = .ok (.bipush 30, 2) := by decide +kernel
theorem dX7_rides_75 : decode cX7_rides 75 = .ok (.if_icmp .le 8, 3) := by decide +kernel
theorem dX7_rides_78 : decode cX7_rides 78 = .ok (.bipush 30, 2) := by decide +kernel
theorem dX7_rides_80 : decode cX7_rides 80 = .ok (.goto 4, 3) := by decide +kernel
theorem dX7_rides_83 : decode cX7_rides 83 = .ok (.iload_n 2, 1) := by decide +kernel
theorem dX7_rides_84 : decode cX7_rides 84 = .ok (.istore_n 2, 1) := by decide +kernel
theorem dX7_rides_85 : decode cX7_rides 85 = .ok (.aload_n 0, 1) := by decide +kernel
theorem dX7_rides_86 : decode cX7_rides 86 = .ok (.iload_n 3, 1) := by decide +kernel
theorem dX7_rides_87 : decode cX7_rides 87 = .ok (.invokevirtual 78, 3) := by decide +kernel
theorem dX7_rides_90 : decode cX7_rides 90 = .ok (.istore 4, 2) := by decide +kernel
theorem dX7_rides_92 : decode cX7_rides 92 = .ok (.iload 4, 2) := by decide +kernel
theorem dX7_rides_94 : decode cX7_rides 94 = .ok (.bipush (-4), 2) := by decide +kernel
theorem dX7_rides_96 : decode cX7_rides 96 = .ok (.if_icmp .eq 24, 3) := by decide +kernel
theorem dX7_rides_99 : decode cX7_rides 99 = .ok (.aload_n 0, 1) := by decide +kernel
theorem dX7_rides_100 : decode cX7_rides 100 = .ok (.iload 4, 2) := by decide +kernel
theorem dX7_rides_102 : decode cX7_rides 102 = .ok (.iconst 3, 1) := by decide +kernel
theorem dX7_rides_103 : decode cX7_rides 103 = .ok (.bipush 30, 2) := by decide +kernel
theorem dX7_rides_105 : decode cX7_rides 105 = .ok (.invokevirtual 70, 3) := by decide +kernel
theorem dX7_rides_108 : decode cX7_rides 108 = .ok (.iload_n 2, 1) := by decide +kernel
theorem dX7_rides_109 : decode cX7_rides 109 = .ok (.ifCond .le 9, 3) := by decide +kernel
theorem dX7_rides_112 : decode cX7_rides 112 = .ok (.iload_n 2, 1) := by decide +kernel
theorem dX7_rides_113 : decode cX7_rides 113 = .ok (.iconst 2, 1) := by decide +kernel
theorem dX7_rides_114 : decode cX7_rides 114 = .ok (.idiv, 1) := by decide +kernel
theorem dX7_rides_115 : decode cX7_rides 115 = .ok (.goto 4, 3) := by decide +kernel
theorem dX7_rides_118 : decode cX7_rides 118 = .ok (.iload_n 2, 1) := by decide +kernel
theorem dX7_rides_119 : decode cX7_rides 119 = .ok (.istore_n 2, 1) := by decide +kernel
theorem dX7_rides_120 : decode cX7_rides 120 = .ok (.iload_n 2, 1) := by decide +kernel
theorem dX7_rides_121 : decode cX7_rides 121 = .ok (.ifCond .gt 6, 3) := by decide +kernel
theorem dX7_rides_124 : decode cX7_rides 124 = .ok (.goto 16, 3) := by decide +kernel
theorem dX7_rides_127 : decode cX7_rides 127 = .ok (.aload_n 0, 1) := by decide +kernel
theorem dX7_rides_128 : decode cX7_rides 128 = .ok (.getfield 13, 3) := by decide +kernel
theorem dX7_rides_131 : decode cX7_rides 131 = .ok (.iload_n 3, 1) := by decide +kernel
theorem dX7_rides_132 : decode cX7_rides 132 = .ok (.iload_n 2, 1) := by decide +kernel
theorem dX7_rides_133 : decode cX7_rides 133 = .ok (.iastore, 1) := by decide +kernel
theorem dX7_rides_134 : decode cX7_rides 134 = .ok (.iinc 3 1, 3) := by decide +kernel
theorem dX7_rides_137 : decode cX7_rides 137 = .ok (.goto (-100), 3) := by decide +kernel
theorem dX7_rides_140 : decode cX7_rides 140 = .ok (.aload_n 0, 1) := by decide +kernel
theorem dX7_rides_141 : decode cX7_rides 141 = .ok (.iload_n 1, 1) := by decide +kernel
theorem dX7_rides_142 : decode cX7_rides 142 = .ok (.iconst 3, 1) := by decide +kernel
theorem dX7_rides_143 : decode cX7_rides 143 = .ok (.iload_n 3, 1) := by decide +kernel
theorem dX7_rides_144 : decode cX7_rides 144 = .ok (.bipush 10, 2) := by decide +kernel
theorem dX7_rides_146 : decode cX7_rides 146 = .ok (.if_icmp .ge 10, 3) := by decide +kernel
theorem dX7_rides_149 : decode cX7_rides 149 = .ok (.bipush 10, 2) := by decide +kernel
theorem dX7_rides_151 : decode cX7_rides 151 = .ok (.iload_n 3, 1) := by decide +kernel
theorem dX7_rides_152 : decode cX7_rides 152 = .ok (.iadd, 1) := by decide +kernel
theorem dX7_rides_153 : decode cX7_rides 153 = .ok (.goto 14, 3) := by decide +kernel
theorem dX7_rides_156 : decode cX7_rides 156 = .ok (.iload_n 2, 1) := by decide +kernel
theorem dX7_rides_157 : decode cX7_rides 157 = .ok (.aload_n 0, 1) := by decide +kernel
theorem dX7_rides_158 : decode cX7_rides 158 = .ok (.iload_n 1, 1) := by decide +kernel
theorem dX7_rides_159 : decode cX7_rides 159 = .ok (.iconst 2, 1) := by decide +kernel
theorem dX7_rides_160 : decode cX7_rides 160 = .ok (.invokevirtual 62, 3) := by decide +kernel
theorem dX7_rides_163 : decode cX7_rides 163 = .ok (.iadd, 1) := by decide +kernel
theorem dX7_rides_164 : decode cX7_rides 164 = .ok (.bipush 8, 2) := by decide +kernel
theorem dX7_rides_166 : decode cX7_rides 166 = .ok (.irem, 1) := by decide +kernel
theorem dX7_rides_167 : decode cX7_rides 167 = .ok (.invokevirtual 70, 3) := by decide +kernel
theorem dX7_rides_170 : decode cX7_rides 170 = .ok (.iconst 0, 1) := by decide +kernel
theorem dX7_rides_171 : decode cX7_rides 171 = .ok (.istore 4, 2) := by decide +kernel
theorem dX7_rides_173 : decode cX7_rides 173 = .ok (.iload 4, 2) := by decide +kernel
theorem dX7_rides_175 : decode cX7_rides 175 = .ok (.iload_n 3, 1) := by decide +kernel
theorem dX7_rides_176 : decode cX7_rides 176 = .ok (.if_icmp .ge 38, 3) := by decide +kernel
theorem dX7_rides_179 : decode cX7_rides 179 = .ok (.aload_n 0, 1) := by decide +kernel
theorem dX7_rides_180 : decode cX7_rides 180 = .ok (.getfield 7, 3) := by decide +kernel
theorem dX7_rides_183 : decode cX7_rides 183 = .ok (.iconst 3, 1) := by decide +kernel
theorem dX7_rides_184 : decode cX7_rides 184 = .ok (.iload 4, 2) := by decide +kernel
theorem dX7_rides_186 : decode cX7_rides 186 = .ok (.iadd, 1) := by decide +kernel
theorem dX7_rides_187 : decode cX7_rides 187 = .ok (.dup2, 1) := by decide +kernel
theorem dX7_rides_188 : decode cX7_rides 188 = .ok (.iaload, 1) := by decide +kernel
theorem dX7_rides_189 : decode cX7_rides 189 = .ok (.aload_n 0, 1) := by decide +kernel
theorem dX7_rides_190 : decode cX7_rides 190 = .ok (.getfield 7, 3) := by decide +kernel
theorem dX7_rides_193 : decode cX7_rides 193 = .ok (.iconst 3, 1) := by decide +kernel
theorem dX7_rides_194 : decode cX7_rides 194 = .ok (.iload 4, 2) := by decide +kernel
theorem dX7_rides_196 : decode cX7_rides 196 = .ok (.iadd, 1) := by decide +kernel
theorem dX7_rides_197 : decode cX7_rides 197 = .ok (.iaload, 1) := by decide +kernel
theorem dX7_rides_198 : decode cX7_rides 198 = .ok (.ifCond .le 7, 3) := by decide +kernel
theorem dX7_rides_201 : decode cX7_rides 201 = .ok (.iconst 1, 1) := by decide +kernel
theorem dX7_rides_202 : decode cX7_rides 202 = .ok (.goto 4, 3) := by decide +kernel
theorem dX7_rides_205 : decode cX7_rides 205 = .ok (.iconst 0, 1) := by decide +kernel
theorem dX7_rides_206 : decode cX7_rides 206 = .ok (.isub, 1) := by decide +kernel
theorem dX7_rides_207 : decode cX7_rides 207 = .ok (.iastore, 1) := by decide +kernel
theorem dX7_rides_208 : decode cX7_rides 208 = .ok (.iinc 4 1, 3) := by decide +kernel
theorem dX7_rides_211 : decode cX7_rides 211 = .ok (.goto (-38), 3) := by decide +kernel
theorem dX7_rides_214 : decode cX7_rides 214 = .ok (.aload_n 0, 1) := by decide +kernel
theorem dX7_rides_215 : decode cX7_rides 215 = .ok (.getfield 7, 3) := by decide +kernel
theorem dX7_rides_218 : decode cX7_rides 218 = .ok (.iconst 1, 1) := by decide +kernel
theorem dX7_rides_219 : decode cX7_rides 219 = .ok (.dup2, 1) := by decide +kernel
theorem dX7_rides_220 : decode cX7_rides 220 = .ok (.iaload, 1) := by decide +kernel
theorem dX7_rides_221 : decode cX7_rides 221 = .ok (.iconst 1, 1) := by decide +kernel
theorem dX7_rides_222 : decode cX7_rides 222 = .ok (.iadd, 1) := by decide +kernel
theorem dX7_rides_223 : decode cX7_rides 223 = .ok (.iastore, 1) := by decide +kernel
theorem dX7_rides_224 : decode cX7_rides 224 = .ok (.aload_n 0, 1) := by decide +kernel
theorem dX7_rides_225 : decode cX7_rides 225 = .ok (.iload_n 1, 1) := by decide +kernel
theorem dX7_rides_226 : decode cX7_rides 226 = .ok (.invokevirtual 66, 3) := by decide +kernel
theorem dX7_rides_229 : decode cX7_rides 229 = .ok (.ireturn, 1) := by decide +kernel
theorem dX7_riderComes_0 : decode cX7_riderComes 0 = .ok (.aload_n 0, 1) := by decide +kernel
theorem dX7_riderComes_1 : decode cX7_riderComes 1 = .ok (.getfield 7, 3) := by decide +kernel
theorem dX7_riderComes_4 : decode cX7_riderComes 4 = .ok (.iconst 0, 1) := by decide +kernel
theorem dX7_riderComes_5 : decode cX7_riderComes 5 = .ok (.iaload, 1) := by decide +kernel
theorem dX7_riderComes_6 : decode cX7_riderComes 6 = .ok (.istore 4, 2) := by decide +kernel
theorem dX7_riderComes_8 : decode cX7_riderComes 8 = .ok (.aload_n 0, 1) := by decide +kernel
theorem dX7_riderComes_9 : decode cX7_riderComes 9 = .ok (.iload 4, 2) := by decide +kernel
theorem dX7_riderComes_11 : decode cX7_riderComes 11 = .ok (.iconst 0, 1) := by decide +kernel
theorem dX7_riderComes_12 : decode cX7_riderComes 12 = .ok (.iload_n 1, 1) := by decide +kernel
theorem dX7_riderComes_13 : decode cX7_riderComes 13 = .ok (.invokevirtual 70, 3) := by decide +kernel
theorem dX7_riderComes_16 : decode cX7_riderComes 16 = .ok (.aload_n 0, 1) := by decide +kernel
theorem dX7_riderComes_17 : decode cX7_riderComes 17 = .ok (.iload 4, 2) := by decide +kernel
theorem dX7_riderComes_19 : decode cX7_riderComes 19 = .ok (.iconst 1, 1) := by decide +kernel
theorem dX7_riderComes_20 : decode cX7_riderComes 20 = .ok (.iload_n 2, 1) := by decide +kernel
theorem dX7_riderComes_21 : decode cX7_riderComes 21 = .ok (.invokevirtual 70, 3) := by decide +kernel
theorem dX7_riderComes_24 : decode cX7_riderComes 24 = .ok (.aload_n 0, 1) := by decide +kernel
theorem dX7_riderComes_25 : decode cX7_riderComes 25 = .ok (.iload 4, 2) := by decide +kernel
theorem dX7_riderComes_27 : decode cX7_riderComes 27 = .ok (.iconst 2, 1) := by decide +kernel
theorem dX7_riderComes_28 : decode cX7_riderComes 28 = .ok (.iload_n 3, 1) := by decide +kernel
theorem dX7_riderComes_29 : decode cX7_riderComes 29 = .ok (.invokevirtual 70, 3) := by decide +kernel
theorem dX7_riderComes_32 : decode cX7_riderComes 32 = .ok (.aload_n 0, 1) := by decide +kernel
theorem dX7_riderComes_33 : decode cX7_riderComes 33 = .ok (.iload 4, 2) := by decide +kernel
theorem dX7_riderComes_35 : decode cX7_riderComes 35 = .ok (.iconst 3, 1) := by decide +kernel
theorem dX7_riderComes_36 : decode cX7_riderComes 36 = .ok (.bipush 30, 2) := by decide +kernel
theorem dX7_riderComes_38 : decode cX7_riderComes 38 = .ok (.invokevirtual 70, 3) := by decide +kernel
theorem dX7_riderComes_41 : decode cX7_riderComes 41 = .ok (.aload_n 0, 1) := by decide +kernel
theorem dX7_riderComes_42 : decode cX7_riderComes 42 = .ok (.getfield 7, 3) := by decide +kernel
theorem dX7_riderComes_45 : decode cX7_riderComes 45 = .ok (.iconst 0, 1) := by decide +kernel
theorem dX7_riderComes_46 : decode cX7_riderComes 46 = .ok (.dup2, 1) := by decide +kernel
theorem dX7_riderComes_47 : decode cX7_riderComes 47 = .ok (.iaload, 1) := by decide +kernel
theorem dX7_riderComes_48 : decode cX7_riderComes 48 = .ok (.iconst 1, 1) := by decide +kernel
theorem dX7_riderComes_49 : decode cX7_riderComes 49 = .ok (.iadd, 1) := by decide +kernel
theorem dX7_riderComes_50 : decode cX7_riderComes 50 = .ok (.iastore, 1) := by decide +kernel
theorem dX7_riderComes_51 : decode cX7_riderComes 51 = .ok (.aload_n 0, 1) := by decide +kernel
theorem dX7_riderComes_52 : decode cX7_riderComes 52 = .ok (.iconst 0, 1) := by decide +kernel
theorem dX7_riderComes_53 : decode cX7_riderComes 53 = .ok (.putfield 81, 3) := by decide +kernel
theorem dX7_riderComes_56 : decode cX7_riderComes 56 = .ok (.return_, 1) := by decide +kernel
theorem dX7_rider_0 : decode cX7_rider 0 = .ok (.iload_n 1, 1) := by decide +kernel
theorem dX7_rider_1 : decode cX7_rider 1 = .ok (.i2l, 1) := by decide +kernel
theorem dX7_rider_2 : decode cX7_rider 2 = .ok (.lconst 0, 1) := by decide +kernel
theorem dX7_rider_3 : decode cX7_rider 3 = .ok (.ldc2_w 85, 3) := by decide +kernel
theorem dX7_rider_6 : decode cX7_rider 6 = .ok (.invokestatic 56, 3) := by decide +kernel
theorem dX7_rider_9 : decode cX7_rider 9 = .ok (.ifCond .eq 27, 3) := by decide +kernel
theorem dX7_rider_12 : decode cX7_rider 12 = .ok (.iload_n 2, 1) := by decide +kernel
theorem dX7_rider_13 : decode cX7_rider 13 = .ok (.i2l, 1) := by decide +kernel
theorem dX7_rider_14 : decode cX7_rider 14 = .ok (.lconst 1, 1) := by decide +kernel
theorem dX7_rider_15 : decode cX7_rider 15 = .ok (.ldc2_w 87, 3) := by decide +kernel
theorem dX7_rider_18 : decode cX7_rider 18 = .ok (.invokestatic 56, 3) := by decide +kernel
theorem dX7_rider_21 : decode cX7_rider 21 = .ok (.ifCond .eq 15, 3) := by decide +kernel
theorem dX7_rider_24 : decode cX7_rider 24 = .ok (.iload_n 3, 1) := by decide +kernel
theorem dX7_rider_25 : decode cX7_rider 25 = .ok (.i2l, 1) := by decide +kernel
theorem dX7_rider_26 : decode cX7_rider 26 = .ok (.lconst 0, 1) := by decide +kernel
theorem dX7_rider_27 : decode cX7_rider 27 = .ok (.ldc2_w 89, 3) := by decide +kernel
theorem dX7_rider_30 : decode cX7_rider 30 = .ok (.invokestatic 56, 3) := by decide +kernel
theorem dX7_rider_33 : decode cX7_rider 33 = .ok (.ifCond .ne 5, 3) := by decide +kernel
theorem dX7_rider_36 : decode cX7_rider 36 = .ok (.iconst (-1), 1) := by decide +kernel
theorem dX7_rider_37 : decode cX7_rider 37 = .ok (.ireturn, 1) := by decide +kernel
theorem dX7_rider_38 : decode cX7_rider 38 = .ok (.aload_n 0, 1) := by decide +kernel
theorem dX7_rider_39 : decode cX7_rider 39 = .ok (.getfield 7, 3) := by decide +kernel
theorem dX7_rider_42 : decode cX7_rider 42 = .ok (.iconst 0, 1) := by decide +kernel
theorem dX7_rider_43 : decode cX7_rider 43 = .ok (.iaload, 1) := by decide +kernel
theorem dX7_rider_44 : decode cX7_rider 44 = .ok (.iconst 5, 1) := by decide +kernel
theorem dX7_rider_45 : decode cX7_rider 45 = .ok (.if_icmp .ne 6, 3) := by decide +kernel
theorem dX7_rider_48 : decode cX7_rider 48 = .ok (.bipush (-3), 2) := by decide +kernel
theorem dX7_rider_50 : decode cX7_rider 50 = .ok (.ireturn, 1) := by decide +kernel
theorem dX7_rider_51 : decode cX7_rider 51 = .ok (.aload_n 0, 1) := by decide +kernel
theorem dX7_rider_52 : decode cX7_rider 52 = .ok (.iload_n 1, 1) := by decide +kernel
theorem dX7_rider_53 : decode cX7_rider 53 = .ok (.iload_n 2, 1) := by decide +kernel
theorem dX7_rider_54 : decode cX7_rider 54 = .ok (.iload_n 3, 1) := by decide +kernel
theorem dX7_rider_55 : decode cX7_rider 55 = .ok (.invokevirtual 91, 3) := by decide +kernel
theorem dX7_rider_58 : decode cX7_rider 58 = .ok (.aload_n 0, 1) := by decide +kernel
theorem dX7_rider_59 : decode cX7_rider 59 = .ok (.getfield 7, 3) := by decide +kernel
theorem dX7_rider_62 : decode cX7_rider 62 = .ok (.iconst 0, 1) := by decide +kernel
theorem dX7_rider_63 : decode cX7_rider 63 = .ok (.iaload, 1) := by decide +kernel
theorem dX7_rider_64 : decode cX7_rider 64 = .ok (.iconst 1, 1) := by decide +kernel
theorem dX7_rider_65 : decode cX7_rider 65 = .ok (.isub, 1) := by decide +kernel
theorem dX7_rider_66 : decode cX7_rider 66 = .ok (.ireturn, 1) := by decide +kernel
theorem dX7_lean_0 : decode cX7_lean 0 = .ok (.aload_n 0, 1) := by decide +kernel
theorem dX7_lean_1 : decode cX7_lean 1 = .ok (.iload_n 1, 1) := by decide +kernel
theorem dX7_lean_2 : decode cX7_lean 2 = .ok (.invokevirtual 94, 3) := by decide +kernel
theorem dX7_lean_5 : decode cX7_lean 5 = .ok (.ifCond .eq 15, 3) := by decide +kernel
theorem dX7_lean_8 : decode cX7_lean 8 = .ok (.iload_n 2, 1) := by decide +kernel
theorem dX7_lean_9 : decode cX7_lean 9 = .ok (.i2l, 1) := by decide +kernel
theorem dX7_lean_10 : decode cX7_lean 10 = .ok (.lconst 0, 1) := by decide +kernel
theorem dX7_lean_11 : decode cX7_lean 11 = .ok (.ldc2_w 89, 3) := by decide +kernel
theorem dX7_lean_14 : decode cX7_lean 14 = .ok (.invokestatic 56, 3) := by decide +kernel
theorem dX7_lean_17 : decode cX7_lean 17 = .ok (.ifCond .ne 5, 3) := by decide +kernel
theorem dX7_lean_20 : decode cX7_lean 20 = .ok (.iconst (-1), 1) := by decide +kernel
theorem dX7_lean_21 : decode cX7_lean 21 = .ok (.ireturn, 1) := by decide +kernel
theorem dX7_lean_22 : decode cX7_lean 22 = .ok (.aload_n 0, 1) := by decide +kernel
theorem dX7_lean_23 : decode cX7_lean 23 = .ok (.iload_n 1, 1) := by decide +kernel
theorem dX7_lean_24 : decode cX7_lean 24 = .ok (.iconst 2, 1) := by decide +kernel
theorem dX7_lean_25 : decode cX7_lean 25 = .ok (.invokevirtual 62, 3) := by decide +kernel
theorem dX7_lean_28 : decode cX7_lean 28 = .ok (.istore_n 3, 1) := by decide +kernel
theorem dX7_lean_29 : decode cX7_lean 29 = .ok (.aload_n 0, 1) := by decide +kernel
theorem dX7_lean_30 : decode cX7_lean 30 = .ok (.iload_n 1, 1) := by decide +kernel
theorem dX7_lean_31 : decode cX7_lean 31 = .ok (.iconst 2, 1) := by decide +kernel
theorem dX7_lean_32 : decode cX7_lean 32 = .ok (.iload_n 2, 1) := by decide +kernel
theorem dX7_lean_33 : decode cX7_lean 33 = .ok (.invokevirtual 70, 3) := by decide +kernel
theorem dX7_lean_36 : decode cX7_lean 36 = .ok (.iload_n 3, 1) := by decide +kernel
theorem dX7_lean_37 : decode cX7_lean 37 = .ok (.ireturn, 1) := by decide +kernel
theorem dX7_of_0 : decode cX7_of 0 = .ok (.aload_n 0, 1) := by decide +kernel
theorem dX7_of_1 : decode cX7_of 1 = .ok (.iload_n 1, 1) := by decide +kernel
theorem dX7_of_2 : decode cX7_of 2 = .ok (.invokevirtual 94, 3) := by decide +kernel
theorem dX7_of_5 : decode cX7_of 5 = .ok (.ifCond .eq 24, 3) := by decide +kernel
theorem dX7_of_8 : decode cX7_of 8 = .ok (.iload_n 2, 1) := by decide +kernel
theorem dX7_of_9 : decode cX7_of 9 = .ok (.i2l, 1) := by decide +kernel
theorem dX7_of_10 : decode cX7_of 10 = .ok (.lconst 0, 1) := by decide +kernel
theorem dX7_of_11 : decode cX7_of 11 = .ok (.ldc2_w 98, 3) := by decide +kernel
theorem dX7_of_14 : decode cX7_of 14 = .ok (.invokestatic 56, 3) := by decide +kernel
theorem dX7_of_17 : decode cX7_of 17 = .ok (.ifCond .eq 12, 3) := by decide +kernel
theorem dX7_of_20 : decode cX7_of 20 = .ok (.aload_n 0, 1) := by decide +kernel
theorem dX7_of_21 : decode cX7_of 21 = .ok (.iload_n 1, 1) := by decide +kernel
theorem dX7_of_22 : decode cX7_of 22 = .ok (.iload_n 2, 1) := by decide +kernel
theorem dX7_of_23 : decode cX7_of 23 = .ok (.invokevirtual 62, 3) := by decide +kernel
theorem dX7_of_26 : decode cX7_of 26 = .ok (.goto 4, 3) := by decide +kernel
theorem dX7_of_29 : decode cX7_of 29 = .ok (.iconst (-1), 1) := by decide +kernel
theorem dX7_of_30 : decode cX7_of 30 = .ok (.ireturn, 1) := by decide +kernel
theorem dX7_at_0 : decode cX7_at 0 = .ok (.iload_n 1, 1) := by decide +kernel
theorem dX7_at_1 : decode cX7_at 1 = .ok (.invokestatic 100, 3) := by decide +kernel
theorem dX7_at_4 : decode cX7_at 4 = .ok (.ifCond .eq 15, 3) := by decide +kernel
theorem dX7_at_7 : decode cX7_at 7 = .ok (.iload_n 2, 1) := by decide +kernel
theorem dX7_at_8 : decode cX7_at 8 = .ok (.i2l, 1) := by decide +kernel
theorem dX7_at_9 : decode cX7_at 9 = .ok (.lconst 0, 1) := by decide +kernel
theorem dX7_at_10 : decode cX7_at 10 = .ok (.ldc2_w 103, 3) := by decide +kernel
theorem dX7_at_13 : decode cX7_at 13 = .ok (.invokestatic 56, 3) := by decide +kernel
theorem dX7_at_16 : decode cX7_at 16 = .ok (.ifCond .ne 5, 3) := by decide +kernel
theorem dX7_at_19 : decode cX7_at 19 = .ok (.iconst (-1), 1) := by decide +kernel
theorem dX7_at_20 : decode cX7_at 20 = .ok (.ireturn, 1) := by decide +kernel
theorem dX7_at_21 : decode cX7_at 21 = .ok (.iload_n 2, 1) := by decide +kernel
theorem dX7_at_22 : decode cX7_at 22 = .ok (.ifCond .ne 14, 3) := by decide +kernel
theorem dX7_at_25 : decode cX7_at 25 = .ok (.aload_n 0, 1) := by decide +kernel
theorem dX7_at_26 : decode cX7_at 26 = .ok (.getfield 7, 3) := by decide +kernel
theorem dX7_at_29 : decode cX7_at 29 = .ok (.iconst 3, 1) := by decide +kernel
theorem dX7_at_30 : decode cX7_at 30 = .ok (.iload_n 1, 1) := by decide +kernel
theorem dX7_at_31 : decode cX7_at 31 = .ok (.iadd, 1) := by decide +kernel
theorem dX7_at_32 : decode cX7_at 32 = .ok (.iaload, 1) := by decide +kernel
theorem dX7_at_33 : decode cX7_at 33 = .ok (.goto 25, 3) := by decide +kernel
theorem dX7_at_36 : decode cX7_at 36 = .ok (.iload_n 2, 1) := by decide +kernel
theorem dX7_at_37 : decode cX7_at 37 = .ok (.iconst 1, 1) := by decide +kernel
theorem dX7_at_38 : decode cX7_at 38 = .ok (.if_icmp .ne 15, 3) := by decide +kernel
theorem dX7_at_41 : decode cX7_at 41 = .ok (.aload_n 0, 1) := by decide +kernel
theorem dX7_at_42 : decode cX7_at 42 = .ok (.getfield 7, 3) := by decide +kernel
theorem dX7_at_45 : decode cX7_at 45 = .ok (.bipush 13, 2) := by decide +kernel
theorem dX7_at_47 : decode cX7_at 47 = .ok (.iload_n 1, 1) := by decide +kernel
theorem dX7_at_48 : decode cX7_at 48 = .ok (.iadd, 1) := by decide +kernel
theorem dX7_at_49 : decode cX7_at 49 = .ok (.iaload, 1) := by decide +kernel
theorem dX7_at_50 : decode cX7_at 50 = .ok (.goto 8, 3) := by decide +kernel
theorem dX7_at_53 : decode cX7_at 53 = .ok (.aload_n 0, 1) := by decide +kernel
theorem dX7_at_54 : decode cX7_at 54 = .ok (.iload_n 1, 1) := by decide +kernel
theorem dX7_at_55 : decode cX7_at 55 = .ok (.invokevirtual 78, 3) := by decide +kernel
theorem dX7_at_58 : decode cX7_at 58 = .ok (.ireturn, 1) := by decide +kernel
theorem dX7_gains_0 : decode cX7_gains 0 = .ok (.aload_n 0, 1) := by decide +kernel
theorem dX7_gains_1 : decode cX7_gains 1 = .ok (.iload_n 1, 1) := by decide +kernel
theorem dX7_gains_2 : decode cX7_gains 2 = .ok (.invokevirtual 94, 3) := by decide +kernel
theorem dX7_gains_5 : decode cX7_gains 5 = .ok (.ifCond .eq 32, 3) := by decide +kernel
theorem dX7_gains_8 : decode cX7_gains 8 = .ok (.iload_n 2, 1) := by decide +kernel
theorem dX7_gains_9 : decode cX7_gains 9 = .ok (.invokestatic 100, 3) := by decide +kernel
theorem dX7_gains_12 : decode cX7_gains 12 = .ok (.ifCond .eq 25, 3) := by decide +kernel
theorem dX7_gains_15 : decode cX7_gains 15 = .ok (.iload_n 3, 1) := by decide +kernel
theorem dX7_gains_16 : decode cX7_gains 16 = .ok (.i2l, 1) := by decide +kernel
theorem dX7_gains_17 : decode cX7_gains 17 = .ok (.lconst 0, 1) := by decide +kernel
theorem dX7_gains_18 : decode cX7_gains 18 = .ok (.ldc2_w 105, 3) := by decide +kernel
theorem dX7_gains_21 : decode cX7_gains 21 = .ok (.invokestatic 56, 3) := by decide +kernel
theorem dX7_gains_24 : decode cX7_gains 24 = .ok (.ifCond .eq 13, 3) := by decide +kernel
theorem dX7_gains_27 : decode cX7_gains 27 = .ok (.aload_n 0, 1) := by decide +kernel
theorem dX7_gains_28 : decode cX7_gains 28 = .ok (.iload_n 1, 1) := by decide +kernel
theorem dX7_gains_29 : decode cX7_gains 29 = .ok (.iload_n 2, 1) := by decide +kernel
theorem dX7_gains_30 : decode cX7_gains 30 = .ok (.iload_n 3, 1) := by decide +kernel
theorem dX7_gains_31 : decode cX7_gains 31 = .ok (.invokevirtual 74, 3) := by decide +kernel
theorem dX7_gains_34 : decode cX7_gains 34 = .ok (.goto 4, 3) := by decide +kernel
theorem dX7_gains_37 : decode cX7_gains 37 = .ok (.iconst (-1), 1) := by decide +kernel
theorem dX7_gains_38 : decode cX7_gains 38 = .ok (.ireturn, 1) := by decide +kernel
theorem dX7_through_0 : decode cX7_through 0 = .ok (.iconst 0, 1) := by decide +kernel
theorem dX7_through_1 : decode cX7_through 1 = .ok (.istore_n 1, 1) := by decide +kernel
theorem dX7_through_2 : decode cX7_through 2 = .ok (.iconst 0, 1) := by decide +kernel
theorem dX7_through_3 : decode cX7_through 3 = .ok (.istore_n 2, 1) := by decide +kernel
theorem dX7_through_4 : decode cX7_through 4 = .ok (.iload_n 2, 1) := by decide +kernel
theorem dX7_through_5 : decode cX7_through 5 = .ok (.aload_n 0, 1) := by decide +kernel
theorem dX7_through_6 : decode cX7_through 6 = .ok (.getfield 7, 3) := by decide +kernel
theorem dX7_through_9 : decode cX7_through 9 = .ok (.iconst 0, 1) := by decide +kernel
theorem dX7_through_10 : decode cX7_through 10 = .ok (.iaload, 1) := by decide +kernel
theorem dX7_through_11 : decode cX7_through 11 = .ok (.if_icmp .ge 27, 3) := by decide +kernel
theorem dX7_through_14 : decode cX7_through 14 = .ok (.iload_n 1, 1) := by decide +kernel
theorem dX7_through_15 : decode cX7_through 15 = .ok (.aload_n 0, 1) := by decide +kernel
theorem dX7_through_16 : decode cX7_through 16 = .ok (.iload_n 2, 1) := by decide +kernel
theorem dX7_through_17 : decode cX7_through 17 = .ok (.invokevirtual 107, 3) := by decide +kernel
theorem dX7_through_20 : decode cX7_through 20 = .ok (.ifCond .eq 9, 3) := by decide +kernel
theorem dX7_through_23 : decode cX7_through 23 = .ok (.iconst 1, 1) := by decide +kernel
theorem dX7_through_24 : decode cX7_through 24 = .ok (.iload_n 2, 1) := by decide +kernel
theorem dX7_through_25 : decode cX7_through 25 = .ok (.ishl, 1) := by decide +kernel
theorem dX7_through_26 : decode cX7_through 26 = .ok (.goto 4, 3) := by decide +kernel
theorem dX7_through_29 : decode cX7_through 29 = .ok (.iconst 0, 1) := by decide +kernel
theorem dX7_through_30 : decode cX7_through 30 = .ok (.ior, 1) := by decide +kernel
theorem dX7_through_31 : decode cX7_through 31 = .ok (.istore_n 1, 1) := by decide +kernel
theorem dX7_through_32 : decode cX7_through 32 = .ok (.iinc 2 1, 3) := by decide +kernel
theorem dX7_through_35 : decode cX7_through 35 = .ok (.goto (-31), 3) := by decide +kernel
theorem dX7_through_38 : decode cX7_through 38 = .ok (.iload_n 1, 1) := by decide +kernel
theorem dX7_through_39 : decode cX7_through 39 = .ok (.ireturn, 1) := by decide +kernel
theorem dX7_atTop_0 : decode cX7_atTop 0 = .ok (.iconst 0, 1) := by decide +kernel
theorem dX7_atTop_1 : decode cX7_atTop 1 = .ok (.istore_n 1, 1) := by decide +kernel
theorem dX7_atTop_2 : decode cX7_atTop 2 = .ok (.iconst 0, 1) := by decide +kernel
theorem dX7_atTop_3 : decode cX7_atTop 3 = .ok (.istore_n 2, 1) := by decide +kernel
theorem dX7_atTop_4 : decode cX7_atTop 4 = .ok (.iload_n 2, 1) := by decide +kernel
theorem dX7_atTop_5 : decode cX7_atTop 5 = .ok (.aload_n 0, 1) := by decide +kernel
theorem dX7_atTop_6 : decode cX7_atTop 6 = .ok (.getfield 7, 3) := by decide +kernel
theorem dX7_atTop_9 : decode cX7_atTop 9 = .ok (.iconst 0, 1) := by decide +kernel
theorem dX7_atTop_10 : decode cX7_atTop 10 = .ok (.iaload, 1) := by decide +kernel
theorem dX7_atTop_11 : decode cX7_atTop 11 = .ok (.if_icmp .ge 29, 3) := by decide +kernel
theorem dX7_atTop_14 : decode cX7_atTop 14 = .ok (.iload_n 1, 1) := by decide +kernel
theorem dX7_atTop_15 : decode cX7_atTop 15 = .ok (.aload_n 0, 1) := by decide +kernel
theorem dX7_atTop_16 : decode cX7_atTop 16 = .ok (.iload_n 2, 1) := by decide +kernel
theorem dX7_atTop_17 : decode cX7_atTop 17 = .ok (.invokevirtual 66, 3) := by decide +kernel
theorem dX7_atTop_20 : decode cX7_atTop 20 = .ok (.bipush 30, 2) := by decide +kernel
theorem dX7_atTop_22 : decode cX7_atTop 22 = .ok (.if_icmp .ne 9, 3) := by decide +kernel
theorem dX7_atTop_25 : decode cX7_atTop 25 = .ok (.iconst 1, 1) := by decide +kernel
theorem dX7_atTop_26 : decode cX7_atTop 26 = .ok (.iload_n 2, 1) := by decide +kernel
theorem dX7_atTop_27 : decode cX7_atTop 27 = .ok (.ishl, 1) := by decide +kernel
theorem dX7_atTop_28 : decode cX7_atTop 28 = .ok (.goto 4, 3) := by decide +kernel
theorem dX7_atTop_31 : decode cX7_atTop 31 = .ok (.iconst 0, 1) := by decide +kernel
theorem dX7_atTop_32 : decode cX7_atTop 32 = .ok (.ior, 1) := by decide +kernel
theorem dX7_atTop_33 : decode cX7_atTop 33 = .ok (.istore_n 1, 1) := by decide +kernel
theorem dX7_atTop_34 : decode cX7_atTop 34 = .ok (.iinc 2 1, 3) := by decide +kernel
theorem dX7_atTop_37 : decode cX7_atTop 37 = .ok (.goto (-33), 3) := by decide +kernel
theorem dX7_atTop_40 : decode cX7_atTop 40 = .ok (.iload_n 1, 1) := by decide +kernel
theorem dX7_atTop_41 : decode cX7_atTop 41 = .ok (.ireturn, 1) := by decide +kernel
theorem dX7_stuckTurns_0 : decode cX7_stuckTurns 0 = .ok (.iconst 0, 1) := by decide +kernel
theorem dX7_stuckTurns_1 : decode cX7_stuckTurns 1 = .ok (.istore_n 1, 1) := by decide +kernel
theorem dX7_stuckTurns_2 : decode cX7_stuckTurns 2 = .ok (.iconst 0, 1) := by decide +kernel
theorem dX7_stuckTurns_3 : decode cX7_stuckTurns 3 = .ok (.istore_n 2, 1) := by decide +kernel
theorem dX7_stuckTurns_4 : decode cX7_stuckTurns 4 = .ok (.iload_n 2, 1) := by decide +kernel
theorem dX7_stuckTurns_5 : decode cX7_stuckTurns 5 = .ok (.bipush 10, 2) := by decide +kernel
theorem dX7_stuckTurns_7 : decode cX7_stuckTurns 7 = .ok (.if_icmp .ge 29, 3) := by decide +kernel
theorem dX7_stuckTurns_10 : decode cX7_stuckTurns 10 = .ok (.iload_n 1, 1) := by decide +kernel
theorem dX7_stuckTurns_11 : decode cX7_stuckTurns 11 = .ok (.aload_n 0, 1) := by decide +kernel
theorem dX7_stuckTurns_12 : decode cX7_stuckTurns 12 = .ok (.iload_n 2, 1) := by decide +kernel
theorem dX7_stuckTurns_13 : decode cX7_stuckTurns 13 = .ok (.invokevirtual 78, 3) := by decide +kernel
theorem dX7_stuckTurns_16 : decode cX7_stuckTurns 16 = .ok (.bipush (-4), 2) := by decide +kernel
theorem dX7_stuckTurns_18 : decode cX7_stuckTurns 18 = .ok (.if_icmp .ne 7, 3) := by decide +kernel
theorem dX7_stuckTurns_21 : decode cX7_stuckTurns 21 = .ok (.iconst 0, 1) := by decide +kernel
theorem dX7_stuckTurns_22 : decode cX7_stuckTurns 22 = .ok (.goto 6, 3) := by decide +kernel
theorem dX7_stuckTurns_25 : decode cX7_stuckTurns 25 = .ok (.iconst 1, 1) := by decide +kernel
theorem dX7_stuckTurns_26 : decode cX7_stuckTurns 26 = .ok (.iload_n 2, 1) := by decide +kernel
theorem dX7_stuckTurns_27 : decode cX7_stuckTurns 27 = .ok (.ishl, 1) := by decide +kernel
theorem dX7_stuckTurns_28 : decode cX7_stuckTurns 28 = .ok (.ior, 1) := by decide +kernel
theorem dX7_stuckTurns_29 : decode cX7_stuckTurns 29 = .ok (.istore_n 1, 1) := by decide +kernel
theorem dX7_stuckTurns_30 : decode cX7_stuckTurns 30 = .ok (.iinc 2 1, 3) := by decide +kernel
theorem dX7_stuckTurns_33 : decode cX7_stuckTurns 33 = .ok (.goto (-29), 3) := by decide +kernel
theorem dX7_stuckTurns_36 : decode cX7_stuckTurns 36 = .ok (.iload_n 1, 1) := by decide +kernel
theorem dX7_stuckTurns_37 : decode cX7_stuckTurns 37 = .ok (.ireturn, 1) := by decide +kernel
theorem dX7_sumOf_0 : decode cX7_sumOf 0 = .ok (.iconst 0, 1) := by decide +kernel
theorem dX7_sumOf_1 : decode cX7_sumOf 1 = .ok (.istore_n 2, 1) := by decide +kernel
theorem dX7_sumOf_2 : decode cX7_sumOf 2 = .ok (.iconst 0, 1) := by decide +kernel
theorem dX7_sumOf_3 : decode cX7_sumOf 3 = .ok (.istore_n 3, 1) := by decide +kernel
theorem dX7_sumOf_4 : decode cX7_sumOf 4 = .ok (.iload_n 3, 1) := by decide +kernel
theorem dX7_sumOf_5 : decode cX7_sumOf 5 = .ok (.bipush 10, 2) := by decide +kernel
theorem dX7_sumOf_7 : decode cX7_sumOf 7 = .ok (.if_icmp .ge 20, 3) := by decide +kernel
theorem dX7_sumOf_10 : decode cX7_sumOf 10 = .ok (.iload_n 2, 1) := by decide +kernel
theorem dX7_sumOf_11 : decode cX7_sumOf 11 = .ok (.aload_n 0, 1) := by decide +kernel
theorem dX7_sumOf_12 : decode cX7_sumOf 12 = .ok (.getfield 7, 3) := by decide +kernel
theorem dX7_sumOf_15 : decode cX7_sumOf 15 = .ok (.iload_n 1, 1) := by decide +kernel
theorem dX7_sumOf_16 : decode cX7_sumOf 16 = .ok (.iload_n 3, 1) := by decide +kernel
theorem dX7_sumOf_17 : decode cX7_sumOf 17 = .ok (.iadd, 1) := by decide +kernel
theorem dX7_sumOf_18 : decode cX7_sumOf 18 = .ok (.iaload, 1) := by decide +kernel
theorem dX7_sumOf_19 : decode cX7_sumOf 19 = .ok (.iadd, 1) := by decide +kernel
theorem dX7_sumOf_20 : decode cX7_sumOf 20 = .ok (.istore_n 2, 1) := by decide +kernel
theorem dX7_sumOf_21 : decode cX7_sumOf 21 = .ok (.iinc 3 1, 3) := by decide +kernel
theorem dX7_sumOf_24 : decode cX7_sumOf 24 = .ok (.goto (-20), 3) := by decide +kernel
theorem dX7_sumOf_27 : decode cX7_sumOf 27 = .ok (.iload_n 2, 1) := by decide +kernel
theorem dX7_sumOf_28 : decode cX7_sumOf 28 = .ok (.ireturn, 1) := by decide +kernel
theorem dX7_many_0 : decode cX7_many 0 = .ok (.iconst 0, 1) := by decide +kernel
theorem dX7_many_1 : decode cX7_many 1 = .ok (.istore_n 1, 1) := by decide +kernel
theorem dX7_many_2 : decode cX7_many 2 = .ok (.iload_n 0, 1) := by decide +kernel
theorem dX7_many_3 : decode cX7_many 3 = .ok (.istore_n 2, 1) := by decide +kernel
theorem dX7_many_4 : decode cX7_many 4 = .ok (.iload_n 2, 1) := by decide +kernel
theorem dX7_many_5 : decode cX7_many 5 = .ok (.ifCond .eq 15, 3) := by decide +kernel
theorem dX7_many_8 : decode cX7_many 8 = .ok (.iinc 1 1, 3) := by decide +kernel
theorem dX7_many_11 : decode cX7_many 11 = .ok (.iload_n 2, 1) := by decide +kernel
theorem dX7_many_12 : decode cX7_many 12 = .ok (.iload_n 2, 1) := by decide +kernel
theorem dX7_many_13 : decode cX7_many 13 = .ok (.iconst 1, 1) := by decide +kernel
theorem dX7_many_14 : decode cX7_many 14 = .ok (.isub, 1) := by decide +kernel
theorem dX7_many_15 : decode cX7_many 15 = .ok (.iand, 1) := by decide +kernel
theorem dX7_many_16 : decode cX7_many 16 = .ok (.istore_n 2, 1) := by decide +kernel
theorem dX7_many_17 : decode cX7_many 17 = .ok (.goto (-13), 3) := by decide +kernel
theorem dX7_many_20 : decode cX7_many 20 = .ok (.iload_n 1, 1) := by decide +kernel
theorem dX7_many_21 : decode cX7_many 21 = .ok (.ireturn, 1) := by decide +kernel
theorem dX7_count_0 : decode cX7_count 0 = .ok (.iload_n 1, 1) := by decide +kernel
theorem dX7_count_1 : decode cX7_count 1 = .ok (.tableswitch 87 0 7 #[47, 47, 54, 59, 64, 69, 75, 82], 47) := by decide +kernel
theorem dX7_count_48 : decode cX7_count 48 = .ok (.aload_n 0, 1) := by decide +kernel
theorem dX7_count_49 : decode cX7_count 49 = .ok (.getfield 7, 3) := by decide +kernel
theorem dX7_count_52 : decode cX7_count 52 = .ok (.iload_n 1, 1) := by decide +kernel
theorem dX7_count_53 : decode cX7_count 53 = .ok (.iaload, 1) := by decide +kernel
theorem dX7_count_54 : decode cX7_count 54 = .ok (.ireturn, 1) := by decide +kernel
theorem dX7_count_55 : decode cX7_count 55 = .ok (.aload_n 0, 1) := by decide +kernel
theorem dX7_count_56 : decode cX7_count 56 = .ok (.invokevirtual 110, 3) := by decide +kernel
theorem dX7_count_59 : decode cX7_count 59 = .ok (.ireturn, 1) := by decide +kernel
theorem dX7_count_60 : decode cX7_count 60 = .ok (.aload_n 0, 1) := by decide +kernel
theorem dX7_count_61 : decode cX7_count 61 = .ok (.invokevirtual 114, 3) := by decide +kernel
theorem dX7_count_64 : decode cX7_count 64 = .ok (.ireturn, 1) := by decide +kernel
theorem dX7_count_65 : decode cX7_count 65 = .ok (.aload_n 0, 1) := by decide +kernel
theorem dX7_count_66 : decode cX7_count 66 = .ok (.invokevirtual 117, 3) := by decide +kernel
theorem dX7_count_69 : decode cX7_count 69 = .ok (.ireturn, 1) := by decide +kernel
theorem dX7_count_70 : decode cX7_count 70 = .ok (.aload_n 0, 1) := by decide +kernel
theorem dX7_count_71 : decode cX7_count 71 = .ok (.iconst 3, 1) := by decide +kernel
theorem dX7_count_72 : decode cX7_count 72 = .ok (.invokevirtual 120, 3) := by decide +kernel
theorem dX7_count_75 : decode cX7_count 75 = .ok (.ireturn, 1) := by decide +kernel
theorem dX7_count_76 : decode cX7_count 76 = .ok (.aload_n 0, 1) := by decide +kernel
theorem dX7_count_77 : decode cX7_count 77 = .ok (.bipush 13, 2) := by decide +kernel
theorem dX7_count_79 : decode cX7_count 79 = .ok (.invokevirtual 120, 3) := by decide +kernel
theorem dX7_count_82 : decode cX7_count 82 = .ok (.ireturn, 1) := by decide +kernel
theorem dX7_count_83 : decode cX7_count 83 = .ok (.aload_n 0, 1) := by decide +kernel
theorem dX7_count_84 : decode cX7_count 84 = .ok (.getfield 81, 3) := by decide +kernel
theorem dX7_count_87 : decode cX7_count 87 = .ok (.ireturn, 1) := by decide +kernel
theorem dX7_count_88 : decode cX7_count 88 = .ok (.iconst (-1), 1) := by decide +kernel
theorem dX7_count_89 : decode cX7_count 89 = .ok (.ireturn, 1) := by decide +kernel
theorem dX7_type_0 : decode cX7_type 0 = .ok (.iload_n 1, 1) := by decide +kernel
theorem dX7_type_1 : decode cX7_type 1 = .ok (.i2l, 1) := by decide +kernel
theorem dX7_type_2 : decode cX7_type 2 = .ok (.ldc2_w 123, 3) := by decide +kernel
theorem dX7_type_5 : decode cX7_type 5 = .ok (.ldc2_w 125, 3) := by decide +kernel
theorem dX7_type_8 : decode cX7_type 8 = .ok (.invokestatic 56, 3) := by decide +kernel
theorem dX7_type_11 : decode cX7_type 11 = .ok (.ifCond .ne 5, 3) := by decide +kernel
theorem dX7_type_14 : decode cX7_type 14 = .ok (.iconst (-1), 1) := by decide +kernel
theorem dX7_type_15 : decode cX7_type 15 = .ok (.ireturn, 1) := by decide +kernel
theorem dX7_type_16 : decode cX7_type 16 = .ok (.aload_n 0, 1) := by decide +kernel
theorem dX7_type_17 : decode cX7_type 17 = .ok (.getfield 127, 3) := by decide +kernel
theorem dX7_type_20 : decode cX7_type 20 = .ok (.bipush 70, 2) := by decide +kernel
theorem dX7_type_22 : decode cX7_type 22 = .ok (.if_icmp .ne 6, 3) := by decide +kernel
theorem dX7_type_25 : decode cX7_type 25 = .ok (.bipush (-3), 2) := by decide +kernel
theorem dX7_type_27 : decode cX7_type 27 = .ok (.ireturn, 1) := by decide +kernel
theorem dX7_type_28 : decode cX7_type 28 = .ok (.aload_n 0, 1) := by decide +kernel
theorem dX7_type_29 : decode cX7_type 29 = .ok (.getfield 16, 3) := by decide +kernel
theorem dX7_type_32 : decode cX7_type 32 = .ok (.aload_n 0, 1) := by decide +kernel
theorem dX7_type_33 : decode cX7_type 33 = .ok (.getfield 127, 3) := by decide +kernel
theorem dX7_type_36 : decode cX7_type 36 = .ok (.iload_n 1, 1) := by decide +kernel
theorem dX7_type_37 : decode cX7_type 37 = .ok (.iastore, 1) := by decide +kernel
theorem dX7_type_38 : decode cX7_type 38 = .ok (.aload_n 0, 1) := by decide +kernel
theorem dX7_type_39 : decode cX7_type 39 = .ok (.dup, 1) := by decide +kernel
theorem dX7_type_40 : decode cX7_type 40 = .ok (.getfield 127, 3) := by decide +kernel
theorem dX7_type_43 : decode cX7_type 43 = .ok (.iconst 1, 1) := by decide +kernel
theorem dX7_type_44 : decode cX7_type 44 = .ok (.iadd, 1) := by decide +kernel
theorem dX7_type_45 : decode cX7_type 45 = .ok (.putfield 127, 3) := by decide +kernel
theorem dX7_type_48 : decode cX7_type 48 = .ok (.aload_n 0, 1) := by decide +kernel
theorem dX7_type_49 : decode cX7_type 49 = .ok (.getfield 127, 3) := by decide +kernel
theorem dX7_type_52 : decode cX7_type 52 = .ok (.ireturn, 1) := by decide +kernel
theorem dX7_here_0 : decode cX7_here 0 = .ok (.aload_n 0, 1) := by decide +kernel
theorem dX7_here_1 : decode cX7_here 1 = .ok (.getfield 130, 3) := by decide +kernel
theorem dX7_here_4 : decode cX7_here 4 = .ok (.aload_n 0, 1) := by decide +kernel
theorem dX7_here_5 : decode cX7_here 5 = .ok (.getfield 127, 3) := by decide +kernel
theorem dX7_here_8 : decode cX7_here 8 = .ok (.if_icmp .ge 30, 3) := by decide +kernel
theorem dX7_here_11 : decode cX7_here 11 = .ok (.aload_n 0, 1) := by decide +kernel
theorem dX7_here_12 : decode cX7_here 12 = .ok (.getfield 16, 3) := by decide +kernel
theorem dX7_here_15 : decode cX7_here 15 = .ok (.aload_n 0, 1) := by decide +kernel
theorem dX7_here_16 : decode cX7_here 16 = .ok (.getfield 130, 3) := by decide +kernel
theorem dX7_here_19 : decode cX7_here 19 = .ok (.iaload, 1) := by decide +kernel
theorem dX7_here_20 : decode cX7_here 20 = .ok (.bipush 32, 2) := by decide +kernel
theorem dX7_here_22 : decode cX7_here 22 = .ok (.if_icmp .ne 16, 3) := by decide +kernel
theorem dX7_here_25 : decode cX7_here 25 = .ok (.aload_n 0, 1) := by decide +kernel
theorem dX7_here_26 : decode cX7_here 26 = .ok (.dup, 1) := by decide +kernel
theorem dX7_here_27 : decode cX7_here 27 = .ok (.getfield 130, 3) := by decide +kernel
theorem dX7_here_30 : decode cX7_here 30 = .ok (.iconst 1, 1) := by decide +kernel
theorem dX7_here_31 : decode cX7_here 31 = .ok (.iadd, 1) := by decide +kernel
theorem dX7_here_32 : decode cX7_here 32 = .ok (.putfield 130, 3) := by decide +kernel
theorem dX7_here_35 : decode cX7_here 35 = .ok (.goto (-35), 3) := by decide +kernel
theorem dX7_here_38 : decode cX7_here 38 = .ok (.aload_n 0, 1) := by decide +kernel
theorem dX7_here_39 : decode cX7_here 39 = .ok (.getfield 130, 3) := by decide +kernel
theorem dX7_here_42 : decode cX7_here 42 = .ok (.aload_n 0, 1) := by decide +kernel
theorem dX7_here_43 : decode cX7_here 43 = .ok (.getfield 127, 3) := by decide +kernel
theorem dX7_here_46 : decode cX7_here 46 = .ok (.if_icmp .ge 15, 3) := by decide +kernel
theorem dX7_here_49 : decode cX7_here 49 = .ok (.aload_n 0, 1) := by decide +kernel
theorem dX7_here_50 : decode cX7_here 50 = .ok (.getfield 16, 3) := by decide +kernel
theorem dX7_here_53 : decode cX7_here 53 = .ok (.aload_n 0, 1) := by decide +kernel
theorem dX7_here_54 : decode cX7_here 54 = .ok (.getfield 130, 3) := by decide +kernel
theorem dX7_here_57 : decode cX7_here 57 = .ok (.iaload, 1) := by decide +kernel
theorem dX7_here_58 : decode cX7_here 58 = .ok (.goto 4, 3) := by decide +kernel
theorem dX7_here_61 : decode cX7_here 61 = .ok (.iconst 0, 1) := by decide +kernel
theorem dX7_here_62 : decode cX7_here 62 = .ok (.ireturn, 1) := by decide +kernel
theorem dX7_must_0 : decode cX7_must 0 = .ok (.aload_n 0, 1) := by decide +kernel
theorem dX7_must_1 : decode cX7_must 1 = .ok (.aload_n 0, 1) := by decide +kernel
theorem dX7_must_2 : decode cX7_must 2 = .ok (.getfield 133, 3) := by decide +kernel
theorem dX7_must_5 : decode cX7_must 5 = .ok (.ifCond .ne 7, 3) := by decide +kernel
theorem dX7_must_8 : decode cX7_must 8 = .ok (.iload_n 1, 1) := by decide +kernel
theorem dX7_must_9 : decode cX7_must 9 = .ok (.ifCond .ne 7, 3) := by decide +kernel
theorem dX7_must_12 : decode cX7_must 12 = .ok (.iconst 1, 1) := by decide +kernel
theorem dX7_must_13 : decode cX7_must 13 = .ok (.goto 4, 3) := by decide +kernel
theorem dX7_must_16 : decode cX7_must 16 = .ok (.iconst 0, 1) := by decide +kernel
theorem dX7_must_17 : decode cX7_must 17 = .ok (.putfield 133, 3) := by decide +kernel
theorem dX7_must_20 : decode cX7_must 20 = .ok (.aload_n 0, 1) := by decide +kernel
theorem dX7_must_21 : decode cX7_must 21 = .ok (.dup, 1) := by decide +kernel
theorem dX7_must_22 : decode cX7_must 22 = .ok (.getfield 130, 3) := by decide +kernel
theorem dX7_must_25 : decode cX7_must 25 = .ok (.aload_n 0, 1) := by decide +kernel
theorem dX7_must_26 : decode cX7_must 26 = .ok (.getfield 133, 3) := by decide +kernel
theorem dX7_must_29 : decode cX7_must 29 = .ok (.ifCond .eq 7, 3) := by decide +kernel
theorem dX7_must_32 : decode cX7_must 32 = .ok (.iconst 0, 1) := by decide +kernel
theorem dX7_must_33 : decode cX7_must 33 = .ok (.goto 4, 3) := by decide +kernel
theorem dX7_must_36 : decode cX7_must 36 = .ok (.iconst 1, 1) := by decide +kernel
theorem dX7_must_37 : decode cX7_must 37 = .ok (.iadd, 1) := by decide +kernel
theorem dX7_must_38 : decode cX7_must 38 = .ok (.putfield 130, 3) := by decide +kernel
theorem dX7_must_41 : decode cX7_must 41 = .ok (.return_, 1) := by decide +kernel
theorem dX7_digit_0 : decode cX7_digit 0 = .ok (.aload_n 0, 1) := by decide +kernel
theorem dX7_digit_1 : decode cX7_digit 1 = .ok (.getfield 133, 3) := by decide +kernel
theorem dX7_digit_4 : decode cX7_digit 4 = .ok (.ifCond .eq 7, 3) := by decide +kernel
theorem dX7_digit_7 : decode cX7_digit 7 = .ok (.iconst (-1), 1) := by decide +kernel
theorem dX7_digit_8 : decode cX7_digit 8 = .ok (.goto 10, 3) := by decide +kernel
theorem dX7_digit_11 : decode cX7_digit 11 = .ok (.aload_n 0, 1) := by decide +kernel
theorem dX7_digit_12 : decode cX7_digit 12 = .ok (.invokevirtual 137, 3) := by decide +kernel
theorem dX7_digit_15 : decode cX7_digit 15 = .ok (.bipush 48, 2) := by decide +kernel
theorem dX7_digit_17 : decode cX7_digit 17 = .ok (.isub, 1) := by decide +kernel
theorem dX7_digit_18 : decode cX7_digit 18 = .ok (.istore_n 3, 1) := by decide +kernel
theorem dX7_digit_19 : decode cX7_digit 19 = .ok (.aload_n 0, 1) := by decide +kernel
theorem dX7_digit_20 : decode cX7_digit 20 = .ok (.iload_n 3, 1) := by decide +kernel
theorem dX7_digit_21 : decode cX7_digit 21 = .ok (.i2l, 1) := by decide +kernel
theorem dX7_digit_22 : decode cX7_digit 22 = .ok (.iload_n 1, 1) := by decide +kernel
theorem dX7_digit_23 : decode cX7_digit 23 = .ok (.i2l, 1) := by decide +kernel
theorem dX7_digit_24 : decode cX7_digit 24 = .ok (.iload_n 2, 1) := by decide +kernel
theorem dX7_digit_25 : decode cX7_digit 25 = .ok (.i2l, 1) := by decide +kernel
theorem dX7_digit_26 : decode cX7_digit 26 = .ok (.invokestatic 56, 3) := by decide +kernel
theorem dX7_digit_29 : decode cX7_digit 29 = .ok (.invokevirtual 140, 3) := by decide +kernel
theorem dX7_digit_32 : decode cX7_digit 32 = .ok (.iload_n 3, 1) := by decide +kernel
theorem dX7_digit_33 : decode cX7_digit 33 = .ok (.ireturn, 1) := by decide +kernel
theorem dX7_number_0 : decode cX7_number 0 = .ok (.aload_n 0, 1) := by decide +kernel
theorem dX7_number_1 : decode cX7_number 1 = .ok (.getfield 133, 3) := by decide +kernel
theorem dX7_number_4 : decode cX7_number 4 = .ok (.ifCond .eq 7, 3) := by decide +kernel
theorem dX7_number_7 : decode cX7_number 7 = .ok (.iconst 0, 1) := by decide +kernel
theorem dX7_number_8 : decode cX7_number 8 = .ok (.goto 7, 3) := by decide +kernel
theorem dX7_number_11 : decode cX7_number 11 = .ok (.aload_n 0, 1) := by decide +kernel
theorem dX7_number_12 : decode cX7_number 12 = .ok (.invokevirtual 137, 3) := by decide +kernel
theorem dX7_number_15 : decode cX7_number 15 = .ok (.istore_n 3, 1) := by decide +kernel
theorem dX7_number_16 : decode cX7_number 16 = .ok (.aload_n 0, 1) := by decide +kernel
theorem dX7_number_17 : decode cX7_number 17 = .ok (.getfield 130, 3) := by decide +kernel
theorem dX7_number_20 : decode cX7_number 20 = .ok (.istore 4, 2) := by decide +kernel
theorem dX7_number_22 : decode cX7_number 22 = .ok (.iconst 0, 1) := by decide +kernel
theorem dX7_number_23 : decode cX7_number 23 = .ok (.istore 5, 2) := by decide +kernel
theorem dX7_number_25 : decode cX7_number 25 = .ok (.aload_n 0, 1) := by decide +kernel
theorem dX7_number_26 : decode cX7_number 26 = .ok (.aload_n 0, 1) := by decide +kernel
theorem dX7_number_27 : decode cX7_number 27 = .ok (.getfield 133, 3) := by decide +kernel
theorem dX7_number_30 : decode cX7_number 30 = .ok (.ifCond .ne 17, 3) := by decide +kernel
theorem dX7_number_33 : decode cX7_number 33 = .ok (.iload_n 3, 1) := by decide +kernel
theorem dX7_number_34 : decode cX7_number 34 = .ok (.i2l, 1) := by decide +kernel
theorem dX7_number_35 : decode cX7_number 35 = .ok (.ldc2_w 144, 3) := by decide +kernel
theorem dX7_number_38 : decode cX7_number 38 = .ok (.ldc2_w 146, 3) := by decide +kernel
theorem dX7_number_41 : decode cX7_number 41 = .ok (.invokestatic 56, 3) := by decide +kernel
theorem dX7_number_44 : decode cX7_number 44 = .ok (.ifCond .ne 7, 3) := by decide +kernel
theorem dX7_number_47 : decode cX7_number 47 = .ok (.iconst 1, 1) := by decide +kernel
theorem dX7_number_48 : decode cX7_number 48 = .ok (.goto 4, 3) := by decide +kernel
theorem dX7_number_51 : decode cX7_number 51 = .ok (.iconst 0, 1) := by decide +kernel
theorem dX7_number_52 : decode cX7_number 52 = .ok (.putfield 133, 3) := by decide +kernel
theorem dX7_number_55 : decode cX7_number 55 = .ok (.aload_n 0, 1) := by decide +kernel
theorem dX7_number_56 : decode cX7_number 56 = .ok (.getfield 133, 3) := by decide +kernel
theorem dX7_number_59 : decode cX7_number 59 = .ok (.ifCond .ne 80, 3) := by decide +kernel
theorem dX7_number_62 : decode cX7_number 62 = .ok (.aload_n 0, 1) := by decide +kernel
theorem dX7_number_63 : decode cX7_number 63 = .ok (.getfield 130, 3) := by decide +kernel
theorem dX7_number_66 : decode cX7_number 66 = .ok (.aload_n 0, 1) := by decide +kernel
theorem dX7_number_67 : decode cX7_number 67 = .ok (.getfield 127, 3) := by decide +kernel
theorem dX7_number_70 : decode cX7_number 70 = .ok (.if_icmp .ge 69, 3) := by decide +kernel
theorem dX7_number_73 : decode cX7_number 73 = .ok (.aload_n 0, 1) := by decide +kernel
theorem dX7_number_74 : decode cX7_number 74 = .ok (.getfield 130, 3) := by decide +kernel
theorem dX7_number_77 : decode cX7_number 77 = .ok (.iload 4, 2) := by decide +kernel
theorem dX7_number_79 : decode cX7_number 79 = .ok (.isub, 1) := by decide +kernel
theorem dX7_number_80 : decode cX7_number 80 = .ok (.iconst 2, 1) := by decide +kernel
theorem dX7_number_81 : decode cX7_number 81 = .ok (.if_icmp .ge 58, 3) := by decide +kernel
theorem dX7_number_84 : decode cX7_number 84 = .ok (.aload_n 0, 1) := by decide +kernel
theorem dX7_number_85 : decode cX7_number 85 = .ok (.getfield 16, 3) := by decide +kernel
theorem dX7_number_88 : decode cX7_number 88 = .ok (.aload_n 0, 1) := by decide +kernel
theorem dX7_number_89 : decode cX7_number 89 = .ok (.getfield 130, 3) := by decide +kernel
theorem dX7_number_92 : decode cX7_number 92 = .ok (.iaload, 1) := by decide +kernel
theorem dX7_number_93 : decode cX7_number 93 = .ok (.i2l, 1) := by decide +kernel
theorem dX7_number_94 : decode cX7_number 94 = .ok (.ldc2_w 144, 3) := by decide +kernel
theorem dX7_number_97 : decode cX7_number 97 = .ok (.ldc2_w 146, 3) := by decide +kernel
theorem dX7_number_100 : decode cX7_number 100 = .ok (.invokestatic 56, 3) := by decide +kernel
theorem dX7_number_103 : decode cX7_number 103 = .ok (.ifCond .eq 36, 3) := by decide +kernel
theorem dX7_number_106 : decode cX7_number 106 = .ok (.bipush 10, 2) := by decide +kernel
theorem dX7_number_108 : decode cX7_number 108 = .ok (.iload 5, 2) := by decide +kernel
theorem dX7_number_110 : decode cX7_number 110 = .ok (.imul, 1) := by decide +kernel
theorem dX7_number_111 : decode cX7_number 111 = .ok (.aload_n 0, 1) := by decide +kernel
theorem dX7_number_112 : decode cX7_number 112 = .ok (.getfield 16, 3) := by decide +kernel
theorem dX7_number_115 : decode cX7_number 115 = .ok (.aload_n 0, 1) := by decide +kernel
theorem dX7_number_116 : decode cX7_number 116 = .ok (.getfield 130, 3) := by decide +kernel
theorem dX7_number_119 : decode cX7_number 119 = .ok (.iaload, 1) := by decide +kernel
theorem dX7_number_120 : decode cX7_number 120 = .ok (.iadd, 1) := by decide +kernel
theorem dX7_number_121 : decode cX7_number 121 = .ok (.bipush 48, 2) := by decide +kernel
theorem dX7_number_123 : decode cX7_number 123 = .ok (.isub, 1) := by decide +kernel
theorem dX7_number_124 : decode cX7_number 124 = .ok (.istore 5, 2) := by decide +kernel
theorem dX7_number_126 : decode cX7_number 126 = .ok (.aload_n 0, 1) := by decide +kernel
theorem dX7_number_127 : decode cX7_number 127 = .ok (.dup, 1) := by decide +kernel
theorem dX7_number_128 : decode cX7_number 128 = .ok (.getfield 130, 3) := by decide +kernel
theorem dX7_number_131 : decode cX7_number 131 = .ok (.iconst 1, 1) := by decide +kernel
theorem dX7_number_132 : decode cX7_number 132 = .ok (.iadd, 1) := by decide +kernel
theorem dX7_number_133 : decode cX7_number 133 = .ok (.putfield 130, 3) := by decide +kernel
theorem dX7_number_136 : decode cX7_number 136 = .ok (.goto (-81), 3) := by decide +kernel
theorem dX7_number_139 : decode cX7_number 139 = .ok (.aload_n 0, 1) := by decide +kernel
theorem dX7_number_140 : decode cX7_number 140 = .ok (.getfield 133, 3) := by decide +kernel
theorem dX7_number_143 : decode cX7_number 143 = .ok (.ifCond .ne 27, 3) := by decide +kernel
theorem dX7_number_146 : decode cX7_number 146 = .ok (.iload 5, 2) := by decide +kernel
theorem dX7_number_148 : decode cX7_number 148 = .ok (.i2l, 1) := by decide +kernel
theorem dX7_number_149 : decode cX7_number 149 = .ok (.iload_n 1, 1) := by decide +kernel
theorem dX7_number_150 : decode cX7_number 150 = .ok (.i2l, 1) := by decide +kernel
theorem dX7_number_151 : decode cX7_number 151 = .ok (.iload_n 2, 1) := by decide +kernel
theorem dX7_number_152 : decode cX7_number 152 = .ok (.i2l, 1) := by decide +kernel
theorem dX7_number_153 : decode cX7_number 153 = .ok (.invokestatic 56, 3) := by decide +kernel
theorem dX7_number_156 : decode cX7_number 156 = .ok (.ifCond .ne 14, 3) := by decide +kernel
theorem dX7_number_159 : decode cX7_number 159 = .ok (.aload_n 0, 1) := by decide +kernel
theorem dX7_number_160 : decode cX7_number 160 = .ok (.iconst 1, 1) := by decide +kernel
theorem dX7_number_161 : decode cX7_number 161 = .ok (.putfield 133, 3) := by decide +kernel
theorem dX7_number_164 : decode cX7_number 164 = .ok (.aload_n 0, 1) := by decide +kernel
theorem dX7_number_165 : decode cX7_number 165 = .ok (.iload 4, 2) := by decide +kernel
theorem dX7_number_167 : decode cX7_number 167 = .ok (.putfield 130, 3) := by decide +kernel
theorem dX7_number_170 : decode cX7_number 170 = .ok (.iload 5, 2) := by decide +kernel
theorem dX7_number_172 : decode cX7_number 172 = .ok (.ireturn, 1) := by decide +kernel
theorem dX7_turnsRead_0 : decode cX7_turnsRead 0 = .ok (.iconst 0, 1) := by decide +kernel
theorem dX7_turnsRead_1 : decode cX7_turnsRead 1 = .ok (.istore_n 1, 1) := by decide +kernel
theorem dX7_turnsRead_2 : decode cX7_turnsRead 2 = .ok (.iload_n 1, 1) := by decide +kernel
theorem dX7_turnsRead_3 : decode cX7_turnsRead 3 = .ok (.bipush 10, 2) := by decide +kernel
theorem dX7_turnsRead_5 : decode cX7_turnsRead 5 = .ok (.if_icmp .ge 74, 3) := by decide +kernel
theorem dX7_turnsRead_8 : decode cX7_turnsRead 8 = .ok (.aload_n 0, 1) := by decide +kernel
theorem dX7_turnsRead_9 : decode cX7_turnsRead 9 = .ok (.getfield 19, 3) := by decide +kernel
theorem dX7_turnsRead_12 : decode cX7_turnsRead 12 = .ok (.iload_n 1, 1) := by decide +kernel
theorem dX7_turnsRead_13 : decode cX7_turnsRead 13 = .ok (.aload_n 0, 1) := by decide +kernel
theorem dX7_turnsRead_14 : decode cX7_turnsRead 14 = .ok (.iconst 0, 1) := by decide +kernel
theorem dX7_turnsRead_15 : decode cX7_turnsRead 15 = .ok (.bipush 9, 2) := by decide +kernel
theorem dX7_turnsRead_17 : decode cX7_turnsRead 17 = .ok (.invokevirtual 148, 3) := by decide +kernel
theorem dX7_turnsRead_20 : decode cX7_turnsRead 20 = .ok (.iastore, 1) := by decide +kernel
theorem dX7_turnsRead_21 : decode cX7_turnsRead 21 = .ok (.aload_n 0, 1) := by decide +kernel
theorem dX7_turnsRead_22 : decode cX7_turnsRead 22 = .ok (.getfield 19, 3) := by decide +kernel
theorem dX7_turnsRead_25 : decode cX7_turnsRead 25 = .ok (.bipush 10, 2) := by decide +kernel
theorem dX7_turnsRead_27 : decode cX7_turnsRead 27 = .ok (.iload_n 1, 1) := by decide +kernel
theorem dX7_turnsRead_28 : decode cX7_turnsRead 28 = .ok (.iadd, 1) := by decide +kernel
theorem dX7_turnsRead_29 : decode cX7_turnsRead 29 = .ok (.iconst 0, 1) := by decide +kernel
theorem dX7_turnsRead_30 : decode cX7_turnsRead 30 = .ok (.iastore, 1) := by decide +kernel
theorem dX7_turnsRead_31 : decode cX7_turnsRead 31 = .ok (.aload_n 0, 1) := by decide +kernel
theorem dX7_turnsRead_32 : decode cX7_turnsRead 32 = .ok (.getfield 133, 3) := by decide +kernel
theorem dX7_turnsRead_35 : decode cX7_turnsRead 35 = .ok (.ifCond .ne 38, 3) := by decide +kernel
theorem dX7_turnsRead_38 : decode cX7_turnsRead 38 = .ok (.aload_n 0, 1) := by decide +kernel
theorem dX7_turnsRead_39 : decode cX7_turnsRead 39 = .ok (.invokevirtual 137, 3) := by decide +kernel
theorem dX7_turnsRead_42 : decode cX7_turnsRead 42 = .ok (.bipush 94, 2) := by decide +kernel
theorem dX7_turnsRead_44 : decode cX7_turnsRead 44 = .ok (.if_icmp .ne 29, 3) := by decide +kernel
theorem dX7_turnsRead_47 : decode cX7_turnsRead 47 = .ok (.aload_n 0, 1) := by decide +kernel
theorem dX7_turnsRead_48 : decode cX7_turnsRead 48 = .ok (.dup, 1) := by decide +kernel
theorem dX7_turnsRead_49 : decode cX7_turnsRead 49 = .ok (.getfield 130, 3) := by decide +kernel
theorem dX7_turnsRead_52 : decode cX7_turnsRead 52 = .ok (.iconst 1, 1) := by decide +kernel
theorem dX7_turnsRead_53 : decode cX7_turnsRead 53 = .ok (.iadd, 1) := by decide +kernel
theorem dX7_turnsRead_54 : decode cX7_turnsRead 54 = .ok (.putfield 130, 3) := by decide +kernel
theorem dX7_turnsRead_57 : decode cX7_turnsRead 57 = .ok (.aload_n 0, 1) := by decide +kernel
theorem dX7_turnsRead_58 : decode cX7_turnsRead 58 = .ok (.getfield 19, 3) := by decide +kernel
theorem dX7_turnsRead_61 : decode cX7_turnsRead 61 = .ok (.bipush 10, 2) := by decide +kernel
theorem dX7_turnsRead_63 : decode cX7_turnsRead 63 = .ok (.iload_n 1, 1) := by decide +kernel
theorem dX7_turnsRead_64 : decode cX7_turnsRead 64 = .ok (.iadd, 1) := by decide +kernel
theorem dX7_turnsRead_65 : decode cX7_turnsRead 65 = .ok (.aload_n 0, 1) := by decide +kernel
theorem dX7_turnsRead_66 : decode cX7_turnsRead 66 = .ok (.iconst 1, 1) := by decide +kernel
theorem dX7_turnsRead_67 : decode cX7_turnsRead 67 = .ok (.bipush 9, 2) := by decide +kernel
theorem dX7_turnsRead_69 : decode cX7_turnsRead 69 = .ok (.invokevirtual 148, 3) := by decide +kernel
theorem dX7_turnsRead_72 : decode cX7_turnsRead 72 = .ok (.iastore, 1) := by decide +kernel
theorem dX7_turnsRead_73 : decode cX7_turnsRead 73 = .ok (.iinc 1 1, 3) := by decide +kernel
theorem dX7_turnsRead_76 : decode cX7_turnsRead 76 = .ok (.goto (-74), 3) := by decide +kernel
theorem dX7_turnsRead_79 : decode cX7_turnsRead 79 = .ok (.return_, 1) := by decide +kernel
theorem dX7_ridersRead_0 : decode cX7_ridersRead 0 = .ok (.iconst 0, 1) := by decide +kernel
theorem dX7_ridersRead_1 : decode cX7_ridersRead 1 = .ok (.istore_n 1, 1) := by decide +kernel
theorem dX7_ridersRead_2 : decode cX7_ridersRead 2 = .ok (.aload_n 0, 1) := by decide +kernel
theorem dX7_ridersRead_3 : decode cX7_ridersRead 3 = .ok (.getfield 133, 3) := by decide +kernel
theorem dX7_ridersRead_6 : decode cX7_ridersRead 6 = .ok (.ifCond .ne 208, 3) := by decide +kernel
theorem dX7_ridersRead_9 : decode cX7_ridersRead 9 = .ok (.iload_n 1, 1) := by decide +kernel
theorem dX7_ridersRead_10 : decode cX7_ridersRead 10 = .ok (.ifCond .eq 12, 3) := by decide +kernel
theorem dX7_ridersRead_13 : decode cX7_ridersRead 13 = .ok (.aload_n 0, 1) := by decide +kernel
theorem dX7_ridersRead_14 : decode cX7_ridersRead 14 = .ok (.invokevirtual 137, 3) := by decide +kernel
theorem dX7_ridersRead_17 : decode cX7_ridersRead 17 = .ok (.bipush 44, 2) := by decide +kernel
theorem dX7_ridersRead_19 : decode cX7_ridersRead 19 = .ok (.if_icmp .ne 195, 3) := by decide +kernel
theorem dX7_ridersRead_22 : decode cX7_ridersRead 22 = .ok (.iload_n 1, 1) := by decide +kernel
theorem dX7_ridersRead_23 : decode cX7_ridersRead 23 = .ok (.ifCond .le 17, 3) := by decide +kernel
theorem dX7_ridersRead_26 : decode cX7_ridersRead 26 = .ok (.aload_n 0, 1) := by decide +kernel
theorem dX7_ridersRead_27 : decode cX7_ridersRead 27 = .ok (.iload_n 1, 1) := by decide +kernel
theorem dX7_ridersRead_28 : decode cX7_ridersRead 28 = .ok (.iconst 5, 1) := by decide +kernel
theorem dX7_ridersRead_29 : decode cX7_ridersRead 29 = .ok (.if_icmp .ge 7, 3) := by decide +kernel
theorem dX7_ridersRead_32 : decode cX7_ridersRead 32 = .ok (.iconst 1, 1) := by decide +kernel
theorem dX7_ridersRead_33 : decode cX7_ridersRead 33 = .ok (.goto 4, 3) := by decide +kernel
theorem dX7_ridersRead_36 : decode cX7_ridersRead 36 = .ok (.iconst 0, 1) := by decide +kernel
theorem dX7_ridersRead_37 : decode cX7_ridersRead 37 = .ok (.invokevirtual 140, 3) := by decide +kernel
theorem dX7_ridersRead_40 : decode cX7_ridersRead 40 = .ok (.aload_n 0, 1) := by decide +kernel
theorem dX7_ridersRead_41 : decode cX7_ridersRead 41 = .ok (.getfield 133, 3) := by decide +kernel
theorem dX7_ridersRead_44 : decode cX7_ridersRead 44 = .ok (.ifCond .eq 7, 3) := by decide +kernel
theorem dX7_ridersRead_47 : decode cX7_ridersRead 47 = .ok (.iconst 0, 1) := by decide +kernel
theorem dX7_ridersRead_48 : decode cX7_ridersRead 48 = .ok (.goto 7, 3) := by decide +kernel
theorem dX7_ridersRead_51 : decode cX7_ridersRead 51 = .ok (.aload_n 0, 1) := by decide +kernel
theorem dX7_ridersRead_52 : decode cX7_ridersRead 52 = .ok (.invokevirtual 137, 3) := by decide +kernel
theorem dX7_ridersRead_55 : decode cX7_ridersRead 55 = .ok (.istore_n 2, 1) := by decide +kernel
theorem dX7_ridersRead_56 : decode cX7_ridersRead 56 = .ok (.iload_n 2, 1) := by decide +kernel
theorem dX7_ridersRead_57 : decode cX7_ridersRead 57 = .ok (.bipush 112, 2) := by decide +kernel
theorem dX7_ridersRead_59 : decode cX7_ridersRead 59 = .ok (.if_icmp .ne 7, 3) := by decide +kernel
theorem dX7_ridersRead_62 : decode cX7_ridersRead 62 = .ok (.iconst 0, 1) := by decide +kernel
theorem dX7_ridersRead_63 : decode cX7_ridersRead 63 = .ok (.goto 44, 3) := by decide +kernel
theorem dX7_ridersRead_66 : decode cX7_ridersRead 66 = .ok (.iload_n 2, 1) := by decide +kernel
theorem dX7_ridersRead_67 : decode cX7_ridersRead 67 = .ok (.bipush 115, 2) := by decide +kernel
theorem dX7_ridersRead_69 : decode cX7_ridersRead 69 = .ok (.if_icmp .ne 7, 3) := by decide +kernel
theorem dX7_ridersRead_72 : decode cX7_ridersRead 72 = .ok (.iconst 1, 1) := by decide +kernel
theorem dX7_ridersRead_73 : decode cX7_ridersRead 73 = .ok (.goto 34, 3) := by decide +kernel
theorem dX7_ridersRead_76 : decode cX7_ridersRead 76 = .ok (.iload_n 2, 1) := by decide +kernel
theorem dX7_ridersRead_77 : decode cX7_ridersRead 77 = .ok (.bipush 99, 2) := by decide +kernel
theorem dX7_ridersRead_79 : decode cX7_ridersRead 79 = .ok (.if_icmp .ne 7, 3) := by decide +kernel
theorem dX7_ridersRead_82 : decode cX7_ridersRead 82 = .ok (.iconst 2, 1) := by decide +kernel
theorem dX7_ridersRead_83 : decode cX7_ridersRead 83 = .ok (.goto 24, 3) := by decide +kernel
theorem dX7_ridersRead_86 : decode cX7_ridersRead 86 = .ok (.iload_n 2, 1) := by decide +kernel
theorem dX7_ridersRead_87 : decode cX7_ridersRead 87 = .ok (.bipush 110, 2) := by decide +kernel
theorem dX7_ridersRead_89 : decode cX7_ridersRead 89 = .ok (.if_icmp .ne 7, 3) := by decide +kernel
theorem dX7_ridersRead_92 : decode cX7_ridersRead 92 = .ok (.iconst 3, 1) := by decide +kernel
theorem dX7_ridersRead_93 : decode cX7_ridersRead 93 = .ok (.goto 14, 3) := by decide +kernel
theorem dX7_ridersRead_96 : decode cX7_ridersRead 96 = .ok (.iload_n 2, 1) := by decide +kernel
theorem dX7_ridersRead_97 : decode cX7_ridersRead 97 = .ok (.bipush 107, 2) := by decide +kernel
theorem dX7_ridersRead_99 : decode cX7_ridersRead 99 = .ok (.if_icmp .ne 7, 3) := by decide +kernel
theorem dX7_ridersRead_102 : decode cX7_ridersRead 102 = .ok (.iconst 4, 1) := by decide +kernel
theorem dX7_ridersRead_103 : decode cX7_ridersRead 103 = .ok (.goto 4, 3) := by decide +kernel
theorem dX7_ridersRead_106 : decode cX7_ridersRead 106 = .ok (.iconst (-1), 1) := by decide +kernel
theorem dX7_ridersRead_107 : decode cX7_ridersRead 107 = .ok (.istore_n 3, 1) := by decide +kernel
theorem dX7_ridersRead_108 : decode cX7_ridersRead 108 = .ok (.aload_n 0, 1) := by decide +kernel
theorem dX7_ridersRead_109 : decode cX7_ridersRead 109 = .ok (.iload_n 3, 1) := by decide +kernel
theorem dX7_ridersRead_110 : decode cX7_ridersRead 110 = .ok (.ifCond .lt 7, 3) := by decide +kernel
theorem dX7_ridersRead_113 : decode cX7_ridersRead 113 = .ok (.iconst 1, 1) := by decide +kernel
theorem dX7_ridersRead_114 : decode cX7_ridersRead 114 = .ok (.goto 4, 3) := by decide +kernel
theorem dX7_ridersRead_117 : decode cX7_ridersRead 117 = .ok (.iconst 0, 1) := by decide +kernel
theorem dX7_ridersRead_118 : decode cX7_ridersRead 118 = .ok (.invokevirtual 140, 3) := by decide +kernel
theorem dX7_ridersRead_121 : decode cX7_ridersRead 121 = .ok (.aload_n 0, 1) := by decide +kernel
theorem dX7_ridersRead_122 : decode cX7_ridersRead 122 = .ok (.iconst 1, 1) := by decide +kernel
theorem dX7_ridersRead_123 : decode cX7_ridersRead 123 = .ok (.bipush 20, 2) := by decide +kernel
theorem dX7_ridersRead_125 : decode cX7_ridersRead 125 = .ok (.invokevirtual 151, 3) := by decide +kernel
theorem dX7_ridersRead_128 : decode cX7_ridersRead 128 = .ok (.istore 4, 2) := by decide +kernel
theorem dX7_ridersRead_130 : decode cX7_ridersRead 130 = .ok (.iconst 0, 1) := by decide +kernel
theorem dX7_ridersRead_131 : decode cX7_ridersRead 131 = .ok (.istore 5, 2) := by decide +kernel
theorem dX7_ridersRead_133 : decode cX7_ridersRead 133 = .ok (.aload_n 0, 1) := by decide +kernel
theorem dX7_ridersRead_134 : decode cX7_ridersRead 134 = .ok (.getfield 133, 3) := by decide +kernel
theorem dX7_ridersRead_137 : decode cX7_ridersRead 137 = .ok (.ifCond .ne 31, 3) := by decide +kernel
theorem dX7_ridersRead_140 : decode cX7_ridersRead 140 = .ok (.aload_n 0, 1) := by decide +kernel
theorem dX7_ridersRead_141 : decode cX7_ridersRead 141 = .ok (.invokevirtual 137, 3) := by decide +kernel
theorem dX7_ridersRead_144 : decode cX7_ridersRead 144 = .ok (.bipush 60, 2) := by decide +kernel
theorem dX7_ridersRead_146 : decode cX7_ridersRead 146 = .ok (.if_icmp .ne 22, 3) := by decide +kernel
theorem dX7_ridersRead_149 : decode cX7_ridersRead 149 = .ok (.aload_n 0, 1) := by decide +kernel
theorem dX7_ridersRead_150 : decode cX7_ridersRead 150 = .ok (.dup, 1) := by decide +kernel
theorem dX7_ridersRead_151 : decode cX7_ridersRead 151 = .ok (.getfield 130, 3) := by decide +kernel
theorem dX7_ridersRead_154 : decode cX7_ridersRead 154 = .ok (.iconst 1, 1) := by decide +kernel
theorem dX7_ridersRead_155 : decode cX7_ridersRead 155 = .ok (.iadd, 1) := by decide +kernel
theorem dX7_ridersRead_156 : decode cX7_ridersRead 156 = .ok (.putfield 130, 3) := by decide +kernel
theorem dX7_ridersRead_159 : decode cX7_ridersRead 159 = .ok (.aload_n 0, 1) := by decide +kernel
theorem dX7_ridersRead_160 : decode cX7_ridersRead 160 = .ok (.iconst 0, 1) := by decide +kernel
theorem dX7_ridersRead_161 : decode cX7_ridersRead 161 = .ok (.bipush 7, 2) := by decide +kernel
theorem dX7_ridersRead_163 : decode cX7_ridersRead 163 = .ok (.invokevirtual 148, 3) := by decide +kernel
theorem dX7_ridersRead_166 : decode cX7_ridersRead 166 = .ok (.istore 5, 2) := by decide +kernel
theorem dX7_ridersRead_168 : decode cX7_ridersRead 168 = .ok (.aload_n 0, 1) := by decide +kernel
theorem dX7_ridersRead_169 : decode cX7_ridersRead 169 = .ok (.getfield 133, 3) := by decide +kernel
theorem dX7_ridersRead_172 : decode cX7_ridersRead 172 = .ok (.ifCond .ne 36, 3) := by decide +kernel
theorem dX7_ridersRead_175 : decode cX7_ridersRead 175 = .ok (.aload_n 0, 1) := by decide +kernel
theorem dX7_ridersRead_176 : decode cX7_ridersRead 176 = .ok (.getfield 22, 3) := by decide +kernel
theorem dX7_ridersRead_179 : decode cX7_ridersRead 179 = .ok (.iconst 3, 1) := by decide +kernel
theorem dX7_ridersRead_180 : decode cX7_ridersRead 180 = .ok (.iload_n 1, 1) := by decide +kernel
theorem dX7_ridersRead_181 : decode cX7_ridersRead 181 = .ok (.imul, 1) := by decide +kernel
theorem dX7_ridersRead_182 : decode cX7_ridersRead 182 = .ok (.iload_n 3, 1) := by decide +kernel
theorem dX7_ridersRead_183 : decode cX7_ridersRead 183 = .ok (.iastore, 1) := by decide +kernel
theorem dX7_ridersRead_184 : decode cX7_ridersRead 184 = .ok (.aload_n 0, 1) := by decide +kernel
theorem dX7_ridersRead_185 : decode cX7_ridersRead 185 = .ok (.getfield 22, 3) := by decide +kernel
theorem dX7_ridersRead_188 : decode cX7_ridersRead 188 = .ok (.iconst 3, 1) := by decide +kernel
theorem dX7_ridersRead_189 : decode cX7_ridersRead 189 = .ok (.iload_n 1, 1) := by decide +kernel
theorem dX7_ridersRead_190 : decode cX7_ridersRead 190 = .ok (.imul, 1) := by decide +kernel
theorem dX7_ridersRead_191 : decode cX7_ridersRead 191 = .ok (.iconst 1, 1) := by decide +kernel
theorem dX7_ridersRead_192 : decode cX7_ridersRead 192 = .ok (.iadd, 1) := by decide +kernel
theorem dX7_ridersRead_193 : decode cX7_ridersRead 193 = .ok (.iload 4, 2) := by decide +kernel
theorem dX7_ridersRead_195 : decode cX7_ridersRead 195 = .ok (.iastore, 1) := by decide +kernel
theorem dX7_ridersRead_196 : decode cX7_ridersRead 196 = .ok (.aload_n 0, 1) := by decide +kernel
theorem dX7_ridersRead_197 : decode cX7_ridersRead 197 = .ok (.getfield 22, 3) := by decide +kernel
theorem dX7_ridersRead_200 : decode cX7_ridersRead 200 = .ok (.iconst 3, 1) := by decide +kernel
theorem dX7_ridersRead_201 : decode cX7_ridersRead 201 = .ok (.iload_n 1, 1) := by decide +kernel
theorem dX7_ridersRead_202 : decode cX7_ridersRead 202 = .ok (.imul, 1) := by decide +kernel
theorem dX7_ridersRead_203 : decode cX7_ridersRead 203 = .ok (.iconst 2, 1) := by decide +kernel
theorem dX7_ridersRead_204 : decode cX7_ridersRead 204 = .ok (.iadd, 1) := by decide +kernel
theorem dX7_ridersRead_205 : decode cX7_ridersRead 205 = .ok (.iload 5, 2) := by decide +kernel
theorem dX7_ridersRead_207 : decode cX7_ridersRead 207 = .ok (.iastore, 1) := by decide +kernel
theorem dX7_ridersRead_208 : decode cX7_ridersRead 208 = .ok (.iinc 1 1, 3) := by decide +kernel
theorem dX7_ridersRead_211 : decode cX7_ridersRead 211 = .ok (.goto (-209), 3) := by decide +kernel
theorem dX7_ridersRead_214 : decode cX7_ridersRead 214 = .ok (.iload_n 1, 1) := by decide +kernel
theorem dX7_ridersRead_215 : decode cX7_ridersRead 215 = .ok (.ireturn, 1) := by decide +kernel
theorem dX7_slide_0 : decode cX7_slide 0 = .ok (.aload_n 0, 1) := by decide +kernel
theorem dX7_slide_1 : decode cX7_slide 1 = .ok (.iconst 0, 1) := by decide +kernel
theorem dX7_slide_2 : decode cX7_slide 2 = .ok (.putfield 130, 3) := by decide +kernel
theorem dX7_slide_5 : decode cX7_slide 5 = .ok (.aload_n 0, 1) := by decide +kernel
theorem dX7_slide_6 : decode cX7_slide 6 = .ok (.iconst 0, 1) := by decide +kernel
theorem dX7_slide_7 : decode cX7_slide 7 = .ok (.putfield 133, 3) := by decide +kernel
theorem dX7_slide_10 : decode cX7_slide 10 = .ok (.aload_n 0, 1) := by decide +kernel
theorem dX7_slide_11 : decode cX7_slide 11 = .ok (.invokevirtual 154, 3) := by decide +kernel
theorem dX7_slide_14 : decode cX7_slide 14 = .ok (.iconst 0, 1) := by decide +kernel
theorem dX7_slide_15 : decode cX7_slide 15 = .ok (.istore_n 1, 1) := by decide +kernel
theorem dX7_slide_16 : decode cX7_slide 16 = .ok (.aload_n 0, 1) := by decide +kernel
theorem dX7_slide_17 : decode cX7_slide 17 = .ok (.getfield 133, 3) := by decide +kernel
theorem dX7_slide_20 : decode cX7_slide 20 = .ok (.ifCond .ne 27, 3) := by decide +kernel
theorem dX7_slide_23 : decode cX7_slide 23 = .ok (.aload_n 0, 1) := by decide +kernel
theorem dX7_slide_24 : decode cX7_slide 24 = .ok (.invokevirtual 137, 3) := by decide +kernel
theorem dX7_slide_27 : decode cX7_slide 27 = .ok (.bipush 59, 2) := by decide +kernel
theorem dX7_slide_29 : decode cX7_slide 29 = .ok (.if_icmp .ne 18, 3) := by decide +kernel
theorem dX7_slide_32 : decode cX7_slide 32 = .ok (.aload_n 0, 1) := by decide +kernel
theorem dX7_slide_33 : decode cX7_slide 33 = .ok (.dup, 1) := by decide +kernel
theorem dX7_slide_34 : decode cX7_slide 34 = .ok (.getfield 130, 3) := by decide +kernel
theorem dX7_slide_37 : decode cX7_slide 37 = .ok (.iconst 1, 1) := by decide +kernel
theorem dX7_slide_38 : decode cX7_slide 38 = .ok (.iadd, 1) := by decide +kernel
theorem dX7_slide_39 : decode cX7_slide 39 = .ok (.putfield 130, 3) := by decide +kernel
theorem dX7_slide_42 : decode cX7_slide 42 = .ok (.aload_n 0, 1) := by decide +kernel
theorem dX7_slide_43 : decode cX7_slide 43 = .ok (.invokevirtual 157, 3) := by decide +kernel
theorem dX7_slide_46 : decode cX7_slide 46 = .ok (.istore_n 1, 1) := by decide +kernel
theorem dX7_slide_47 : decode cX7_slide 47 = .ok (.aload_n 0, 1) := by decide +kernel
theorem dX7_slide_48 : decode cX7_slide 48 = .ok (.aload_n 0, 1) := by decide +kernel
theorem dX7_slide_49 : decode cX7_slide 49 = .ok (.getfield 133, 3) := by decide +kernel
theorem dX7_slide_52 : decode cX7_slide 52 = .ok (.ifCond .ne 10, 3) := by decide +kernel
theorem dX7_slide_55 : decode cX7_slide 55 = .ok (.aload_n 0, 1) := by decide +kernel
theorem dX7_slide_56 : decode cX7_slide 56 = .ok (.invokevirtual 137, 3) := by decide +kernel
theorem dX7_slide_59 : decode cX7_slide 59 = .ok (.ifCond .eq 7, 3) := by decide +kernel
theorem dX7_slide_62 : decode cX7_slide 62 = .ok (.iconst 1, 1) := by decide +kernel
theorem dX7_slide_63 : decode cX7_slide 63 = .ok (.goto 4, 3) := by decide +kernel
theorem dX7_slide_66 : decode cX7_slide 66 = .ok (.iconst 0, 1) := by decide +kernel
theorem dX7_slide_67 : decode cX7_slide 67 = .ok (.putfield 133, 3) := by decide +kernel
theorem dX7_slide_70 : decode cX7_slide 70 = .ok (.aload_n 0, 1) := by decide +kernel
theorem dX7_slide_71 : decode cX7_slide 71 = .ok (.iconst 0, 1) := by decide +kernel
theorem dX7_slide_72 : decode cX7_slide 72 = .ok (.putfield 127, 3) := by decide +kernel
theorem dX7_slide_75 : decode cX7_slide 75 = .ok (.aload_n 0, 1) := by decide +kernel
theorem dX7_slide_76 : decode cX7_slide 76 = .ok (.getfield 133, 3) := by decide +kernel
theorem dX7_slide_79 : decode cX7_slide 79 = .ok (.ifCond .eq 11, 3) := by decide +kernel
theorem dX7_slide_82 : decode cX7_slide 82 = .ok (.bipush (-20), 2) := by decide +kernel
theorem dX7_slide_84 : decode cX7_slide 84 = .ok (.aload_n 0, 1) := by decide +kernel
theorem dX7_slide_85 : decode cX7_slide 85 = .ok (.getfield 130, 3) := by decide +kernel
theorem dX7_slide_88 : decode cX7_slide 88 = .ok (.isub, 1) := by decide +kernel
theorem dX7_slide_89 : decode cX7_slide 89 = .ok (.ireturn, 1) := by decide +kernel
theorem dX7_slide_90 : decode cX7_slide 90 = .ok (.aload_n 0, 1) := by decide +kernel
theorem dX7_slide_91 : decode cX7_slide 91 = .ok (.getfield 7, 3) := by decide +kernel
theorem dX7_slide_94 : decode cX7_slide 94 = .ok (.iconst 0, 1) := by decide +kernel
theorem dX7_slide_95 : decode cX7_slide 95 = .ok (.iconst 0, 1) := by decide +kernel
theorem dX7_slide_96 : decode cX7_slide 96 = .ok (.iastore, 1) := by decide +kernel
theorem dX7_slide_97 : decode cX7_slide 97 = .ok (.aload_n 0, 1) := by decide +kernel
theorem dX7_slide_98 : decode cX7_slide 98 = .ok (.getfield 7, 3) := by decide +kernel
theorem dX7_slide_101 : decode cX7_slide 101 = .ok (.iconst 1, 1) := by decide +kernel
theorem dX7_slide_102 : decode cX7_slide 102 = .ok (.iconst 0, 1) := by decide +kernel
theorem dX7_slide_103 : decode cX7_slide 103 = .ok (.iastore, 1) := by decide +kernel
theorem dX7_slide_104 : decode cX7_slide 104 = .ok (.aload_n 0, 1) := by decide +kernel
theorem dX7_slide_105 : decode cX7_slide 105 = .ok (.iconst 0, 1) := by decide +kernel
theorem dX7_slide_106 : decode cX7_slide 106 = .ok (.putfield 81, 3) := by decide +kernel
theorem dX7_slide_109 : decode cX7_slide 109 = .ok (.iconst 0, 1) := by decide +kernel
theorem dX7_slide_110 : decode cX7_slide 110 = .ok (.istore_n 2, 1) := by decide +kernel
theorem dX7_slide_111 : decode cX7_slide 111 = .ok (.iload_n 2, 1) := by decide +kernel
theorem dX7_slide_112 : decode cX7_slide 112 = .ok (.bipush 10, 2) := by decide +kernel
theorem dX7_slide_114 : decode cX7_slide 114 = .ok (.if_icmp .ge 41, 3) := by decide +kernel
theorem dX7_slide_117 : decode cX7_slide 117 = .ok (.aload_n 0, 1) := by decide +kernel
theorem dX7_slide_118 : decode cX7_slide 118 = .ok (.getfield 7, 3) := by decide +kernel
theorem dX7_slide_121 : decode cX7_slide 121 = .ok (.iconst 3, 1) := by decide +kernel
theorem dX7_slide_122 : decode cX7_slide 122 = .ok (.iload_n 2, 1) := by decide +kernel
theorem dX7_slide_123 : decode cX7_slide 123 = .ok (.iadd, 1) := by decide +kernel
theorem dX7_slide_124 : decode cX7_slide 124 = .ok (.aload_n 0, 1) := by decide +kernel
theorem dX7_slide_125 : decode cX7_slide 125 = .ok (.getfield 19, 3) := by decide +kernel
theorem dX7_slide_128 : decode cX7_slide 128 = .ok (.iload_n 2, 1) := by decide +kernel
theorem dX7_slide_129 : decode cX7_slide 129 = .ok (.iaload, 1) := by decide +kernel
theorem dX7_slide_130 : decode cX7_slide 130 = .ok (.iastore, 1) := by decide +kernel
theorem dX7_slide_131 : decode cX7_slide 131 = .ok (.aload_n 0, 1) := by decide +kernel
theorem dX7_slide_132 : decode cX7_slide 132 = .ok (.getfield 7, 3) := by decide +kernel
theorem dX7_slide_135 : decode cX7_slide 135 = .ok (.bipush 13, 2) := by decide +kernel
theorem dX7_slide_137 : decode cX7_slide 137 = .ok (.iload_n 2, 1) := by decide +kernel
theorem dX7_slide_138 : decode cX7_slide 138 = .ok (.iadd, 1) := by decide +kernel
theorem dX7_slide_139 : decode cX7_slide 139 = .ok (.aload_n 0, 1) := by decide +kernel
theorem dX7_slide_140 : decode cX7_slide 140 = .ok (.getfield 19, 3) := by decide +kernel
theorem dX7_slide_143 : decode cX7_slide 143 = .ok (.bipush 10, 2) := by decide +kernel
theorem dX7_slide_145 : decode cX7_slide 145 = .ok (.iload_n 2, 1) := by decide +kernel
theorem dX7_slide_146 : decode cX7_slide 146 = .ok (.iadd, 1) := by decide +kernel
theorem dX7_slide_147 : decode cX7_slide 147 = .ok (.iaload, 1) := by decide +kernel
theorem dX7_slide_148 : decode cX7_slide 148 = .ok (.iastore, 1) := by decide +kernel
theorem dX7_slide_149 : decode cX7_slide 149 = .ok (.iinc 2 1, 3) := by decide +kernel
theorem dX7_slide_152 : decode cX7_slide 152 = .ok (.goto (-41), 3) := by decide +kernel
theorem dX7_slide_155 : decode cX7_slide 155 = .ok (.iconst 0, 1) := by decide +kernel
theorem dX7_slide_156 : decode cX7_slide 156 = .ok (.istore_n 2, 1) := by decide +kernel
theorem dX7_slide_157 : decode cX7_slide 157 = .ok (.iload_n 2, 1) := by decide +kernel
theorem dX7_slide_158 : decode cX7_slide 158 = .ok (.iload_n 1, 1) := by decide +kernel
theorem dX7_slide_159 : decode cX7_slide 159 = .ok (.if_icmp .ge 41, 3) := by decide +kernel
theorem dX7_slide_162 : decode cX7_slide 162 = .ok (.aload_n 0, 1) := by decide +kernel
theorem dX7_slide_163 : decode cX7_slide 163 = .ok (.aload_n 0, 1) := by decide +kernel
theorem dX7_slide_164 : decode cX7_slide 164 = .ok (.getfield 22, 3) := by decide +kernel
theorem dX7_slide_167 : decode cX7_slide 167 = .ok (.iconst 3, 1) := by decide +kernel
theorem dX7_slide_168 : decode cX7_slide 168 = .ok (.iload_n 2, 1) := by decide +kernel
theorem dX7_slide_169 : decode cX7_slide 169 = .ok (.imul, 1) := by decide +kernel
theorem dX7_slide_170 : decode cX7_slide 170 = .ok (.iaload, 1) := by decide +kernel
theorem dX7_slide_171 : decode cX7_slide 171 = .ok (.aload_n 0, 1) := by decide +kernel
theorem dX7_slide_172 : decode cX7_slide 172 = .ok (.getfield 22, 3) := by decide +kernel
theorem dX7_slide_175 : decode cX7_slide 175 = .ok (.iconst 3, 1) := by decide +kernel
theorem dX7_slide_176 : decode cX7_slide 176 = .ok (.iload_n 2, 1) := by decide +kernel
theorem dX7_slide_177 : decode cX7_slide 177 = .ok (.imul, 1) := by decide +kernel
theorem dX7_slide_178 : decode cX7_slide 178 = .ok (.iconst 1, 1) := by decide +kernel
theorem dX7_slide_179 : decode cX7_slide 179 = .ok (.iadd, 1) := by decide +kernel
theorem dX7_slide_180 : decode cX7_slide 180 = .ok (.iaload, 1) := by decide +kernel
theorem dX7_slide_181 : decode cX7_slide 181 = .ok (.aload_n 0, 1) := by decide +kernel
theorem dX7_slide_182 : decode cX7_slide 182 = .ok (.getfield 22, 3) := by decide +kernel
theorem dX7_slide_185 : decode cX7_slide 185 = .ok (.iconst 3, 1) := by decide +kernel
theorem dX7_slide_186 : decode cX7_slide 186 = .ok (.iload_n 2, 1) := by decide +kernel
theorem dX7_slide_187 : decode cX7_slide 187 = .ok (.imul, 1) := by decide +kernel
theorem dX7_slide_188 : decode cX7_slide 188 = .ok (.iconst 2, 1) := by decide +kernel
theorem dX7_slide_189 : decode cX7_slide 189 = .ok (.iadd, 1) := by decide +kernel
theorem dX7_slide_190 : decode cX7_slide 190 = .ok (.iaload, 1) := by decide +kernel
theorem dX7_slide_191 : decode cX7_slide 191 = .ok (.invokevirtual 91, 3) := by decide +kernel
theorem dX7_slide_194 : decode cX7_slide 194 = .ok (.iinc 2 1, 3) := by decide +kernel
theorem dX7_slide_197 : decode cX7_slide 197 = .ok (.goto (-40), 3) := by decide +kernel
theorem dX7_slide_200 : decode cX7_slide 200 = .ok (.iload_n 1, 1) := by decide +kernel
theorem dX7_slide_201 : decode cX7_slide 201 = .ok (.ireturn, 1) := by decide +kernel
theorem dX7_notes_0 : decode cX7_notes 0 = .ok (.aload_n 0, 1) := by decide +kernel
theorem dX7_notes_1 : decode cX7_notes 1 = .ok (.getfield 81, 3) := by decide +kernel
theorem dX7_notes_4 : decode cX7_notes 4 = .ok (.bipush 8, 2) := by decide +kernel
theorem dX7_notes_6 : decode cX7_notes 6 = .ok (.if_icmp .ne 40, 3) := by decide +kernel
theorem dX7_notes_9 : decode cX7_notes 9 = .ok (.bipush 43, 2) := by decide +kernel
theorem dX7_notes_11 : decode cX7_notes 11 = .ok (.istore_n 1, 1) := by decide +kernel
theorem dX7_notes_12 : decode cX7_notes 12 = .ok (.iload_n 1, 1) := by decide +kernel
theorem dX7_notes_13 : decode cX7_notes 13 = .ok (.sipush 344, 3) := by decide +kernel
theorem dX7_notes_16 : decode cX7_notes 16 = .ok (.if_icmp .ge 24, 3) := by decide +kernel
theorem dX7_notes_19 : decode cX7_notes 19 = .ok (.aload_n 0, 1) := by decide +kernel
theorem dX7_notes_20 : decode cX7_notes 20 = .ok (.getfield 25, 3) := by decide +kernel
theorem dX7_notes_23 : decode cX7_notes 23 = .ok (.iload_n 1, 1) := by decide +kernel
theorem dX7_notes_24 : decode cX7_notes 24 = .ok (.bipush 43, 2) := by decide +kernel
theorem dX7_notes_26 : decode cX7_notes 26 = .ok (.isub, 1) := by decide +kernel
theorem dX7_notes_27 : decode cX7_notes 27 = .ok (.aload_n 0, 1) := by decide +kernel
theorem dX7_notes_28 : decode cX7_notes 28 = .ok (.getfield 25, 3) := by decide +kernel
theorem dX7_notes_31 : decode cX7_notes 31 = .ok (.iload_n 1, 1) := by decide +kernel
theorem dX7_notes_32 : decode cX7_notes 32 = .ok (.iaload, 1) := by decide +kernel
theorem dX7_notes_33 : decode cX7_notes 33 = .ok (.iastore, 1) := by decide +kernel
theorem dX7_notes_34 : decode cX7_notes 34 = .ok (.iinc 1 1, 3) := by decide +kernel
theorem dX7_notes_37 : decode cX7_notes 37 = .ok (.goto (-25), 3) := by decide +kernel
theorem dX7_notes_40 : decode cX7_notes 40 = .ok (.aload_n 0, 1) := by decide +kernel
theorem dX7_notes_41 : decode cX7_notes 41 = .ok (.bipush 7, 2) := by decide +kernel
theorem dX7_notes_43 : decode cX7_notes 43 = .ok (.putfield 81, 3) := by decide +kernel
theorem dX7_notes_46 : decode cX7_notes 46 = .ok (.iconst 0, 1) := by decide +kernel
theorem dX7_notes_47 : decode cX7_notes 47 = .ok (.istore_n 1, 1) := by decide +kernel
theorem dX7_notes_48 : decode cX7_notes 48 = .ok (.iload_n 1, 1) := by decide +kernel
theorem dX7_notes_49 : decode cX7_notes 49 = .ok (.bipush 43, 2) := by decide +kernel
theorem dX7_notes_51 : decode cX7_notes 51 = .ok (.if_icmp .ge 29, 3) := by decide +kernel
theorem dX7_notes_54 : decode cX7_notes 54 = .ok (.aload_n 0, 1) := by decide +kernel
theorem dX7_notes_55 : decode cX7_notes 55 = .ok (.getfield 25, 3) := by decide +kernel
theorem dX7_notes_58 : decode cX7_notes 58 = .ok (.bipush 43, 2) := by decide +kernel
theorem dX7_notes_60 : decode cX7_notes 60 = .ok (.aload_n 0, 1) := by decide +kernel
theorem dX7_notes_61 : decode cX7_notes 61 = .ok (.getfield 81, 3) := by decide +kernel
theorem dX7_notes_64 : decode cX7_notes 64 = .ok (.imul, 1) := by decide +kernel
theorem dX7_notes_65 : decode cX7_notes 65 = .ok (.iload_n 1, 1) := by decide +kernel
theorem dX7_notes_66 : decode cX7_notes 66 = .ok (.iadd, 1) := by decide +kernel
theorem dX7_notes_67 : decode cX7_notes 67 = .ok (.aload_n 0, 1) := by decide +kernel
theorem dX7_notes_68 : decode cX7_notes 68 = .ok (.getfield 7, 3) := by decide +kernel
theorem dX7_notes_71 : decode cX7_notes 71 = .ok (.iload_n 1, 1) := by decide +kernel
theorem dX7_notes_72 : decode cX7_notes 72 = .ok (.iaload, 1) := by decide +kernel
theorem dX7_notes_73 : decode cX7_notes 73 = .ok (.iastore, 1) := by decide +kernel
theorem dX7_notes_74 : decode cX7_notes 74 = .ok (.iinc 1 1, 3) := by decide +kernel
theorem dX7_notes_77 : decode cX7_notes 77 = .ok (.goto (-29), 3) := by decide +kernel
theorem dX7_notes_80 : decode cX7_notes 80 = .ok (.aload_n 0, 1) := by decide +kernel
theorem dX7_notes_81 : decode cX7_notes 81 = .ok (.dup, 1) := by decide +kernel
theorem dX7_notes_82 : decode cX7_notes 82 = .ok (.getfield 81, 3) := by decide +kernel
theorem dX7_notes_85 : decode cX7_notes 85 = .ok (.iconst 1, 1) := by decide +kernel
theorem dX7_notes_86 : decode cX7_notes 86 = .ok (.iadd, 1) := by decide +kernel
theorem dX7_notes_87 : decode cX7_notes 87 = .ok (.putfield 81, 3) := by decide +kernel
theorem dX7_notes_90 : decode cX7_notes 90 = .ok (.return_, 1) := by decide +kernel
theorem dX7_ride_0 : decode cX7_ride 0 = .ok (.aload_n 0, 1) := by decide +kernel
theorem dX7_ride_1 : decode cX7_ride 1 = .ok (.iload_n 1, 1) := by decide +kernel
theorem dX7_ride_2 : decode cX7_ride 2 = .ok (.invokevirtual 94, 3) := by decide +kernel
theorem dX7_ride_5 : decode cX7_ride 5 = .ok (.ifCond .ne 5, 3) := by decide +kernel
theorem dX7_ride_8 : decode cX7_ride 8 = .ok (.iconst (-1), 1) := by decide +kernel
theorem dX7_ride_9 : decode cX7_ride 9 = .ok (.ireturn, 1) := by decide +kernel
theorem dX7_ride_10 : decode cX7_ride 10 = .ok (.aload_n 0, 1) := by decide +kernel
theorem dX7_ride_11 : decode cX7_ride 11 = .ok (.getfield 7, 3) := by decide +kernel
theorem dX7_ride_14 : decode cX7_ride 14 = .ok (.iconst 1, 1) := by decide +kernel
theorem dX7_ride_15 : decode cX7_ride 15 = .ok (.iaload, 1) := by decide +kernel
theorem dX7_ride_16 : decode cX7_ride 16 = .ok (.sipush 9999, 3) := by decide +kernel
theorem dX7_ride_19 : decode cX7_ride 19 = .ok (.if_icmp .lt 6, 3) := by decide +kernel
theorem dX7_ride_22 : decode cX7_ride 22 = .ok (.bipush (-3), 2) := by decide +kernel
theorem dX7_ride_24 : decode cX7_ride 24 = .ok (.ireturn, 1) := by decide +kernel
theorem dX7_ride_25 : decode cX7_ride 25 = .ok (.aload_n 0, 1) := by decide +kernel
theorem dX7_ride_26 : decode cX7_ride 26 = .ok (.iload_n 1, 1) := by decide +kernel
theorem dX7_ride_27 : decode cX7_ride 27 = .ok (.invokevirtual 66, 3) := by decide +kernel
theorem dX7_ride_30 : decode cX7_ride 30 = .ok (.bipush 30, 2) := by decide +kernel
theorem dX7_ride_32 : decode cX7_ride 32 = .ok (.if_icmp .eq 6, 3) := by decide +kernel
theorem dX7_ride_35 : decode cX7_ride 35 = .ok (.bipush (-2), 2) := by decide +kernel
theorem dX7_ride_37 : decode cX7_ride 37 = .ok (.ireturn, 1) := by decide +kernel
theorem dX7_ride_38 : decode cX7_ride 38 = .ok (.aload_n 0, 1) := by decide +kernel
theorem dX7_ride_39 : decode cX7_ride 39 = .ok (.invokevirtual 160, 3) := by decide +kernel
theorem dX7_ride_42 : decode cX7_ride 42 = .ok (.aload_n 0, 1) := by decide +kernel
theorem dX7_ride_43 : decode cX7_ride 43 = .ok (.iload_n 1, 1) := by decide +kernel
theorem dX7_ride_44 : decode cX7_ride 44 = .ok (.invokevirtual 163, 3) := by decide +kernel
theorem dX7_ride_47 : decode cX7_ride 47 = .ok (.ireturn, 1) := by decide +kernel
theorem dX7_becomes_0 : decode cX7_becomes 0 = .ok (.iload_n 2, 1) := by decide +kernel
theorem dX7_becomes_1 : decode cX7_becomes 1 = .ok (.invokestatic 100, 3) := by decide +kernel
theorem dX7_becomes_4 : decode cX7_becomes 4 = .ok (.ifCond .eq 15, 3) := by decide +kernel
theorem dX7_becomes_7 : decode cX7_becomes 7 = .ok (.iload_n 3, 1) := by decide +kernel
theorem dX7_becomes_8 : decode cX7_becomes 8 = .ok (.i2l, 1) := by decide +kernel
theorem dX7_becomes_9 : decode cX7_becomes 9 = .ok (.lconst 0, 1) := by decide +kernel
theorem dX7_becomes_10 : decode cX7_becomes 10 = .ok (.ldc2_w 60, 3) := by decide +kernel
theorem dX7_becomes_13 : decode cX7_becomes 13 = .ok (.invokestatic 56, 3) := by decide +kernel
theorem dX7_becomes_16 : decode cX7_becomes 16 = .ok (.ifCond .ne 5, 3) := by decide +kernel
theorem dX7_becomes_19 : decode cX7_becomes 19 = .ok (.iconst (-1), 1) := by decide +kernel
theorem dX7_becomes_20 : decode cX7_becomes 20 = .ok (.ireturn, 1) := by decide +kernel
theorem dX7_becomes_21 : decode cX7_becomes 21 = .ok (.aload_n 0, 1) := by decide +kernel
theorem dX7_becomes_22 : decode cX7_becomes 22 = .ok (.getfield 7, 3) := by decide +kernel
theorem dX7_becomes_25 : decode cX7_becomes 25 = .ok (.iload_n 1, 1) := by decide +kernel
theorem dX7_becomes_26 : decode cX7_becomes 26 = .ok (.iload_n 2, 1) := by decide +kernel
theorem dX7_becomes_27 : decode cX7_becomes 27 = .ok (.iadd, 1) := by decide +kernel
theorem dX7_becomes_28 : decode cX7_becomes 28 = .ok (.iaload, 1) := by decide +kernel
theorem dX7_becomes_29 : decode cX7_becomes 29 = .ok (.istore 4, 2) := by decide +kernel
theorem dX7_becomes_31 : decode cX7_becomes 31 = .ok (.iload 4, 2) := by decide +kernel
theorem dX7_becomes_33 : decode cX7_becomes 33 = .ok (.iload_n 3, 1) := by decide +kernel
theorem dX7_becomes_34 : decode cX7_becomes 34 = .ok (.if_icmp .ne 6, 3) := by decide +kernel
theorem dX7_becomes_37 : decode cX7_becomes 37 = .ok (.bipush (-2), 2) := by decide +kernel
theorem dX7_becomes_39 : decode cX7_becomes 39 = .ok (.ireturn, 1) := by decide +kernel
theorem dX7_becomes_40 : decode cX7_becomes 40 = .ok (.aload_n 0, 1) := by decide +kernel
theorem dX7_becomes_41 : decode cX7_becomes 41 = .ok (.invokevirtual 160, 3) := by decide +kernel
theorem dX7_becomes_44 : decode cX7_becomes 44 = .ok (.aload_n 0, 1) := by decide +kernel
theorem dX7_becomes_45 : decode cX7_becomes 45 = .ok (.getfield 7, 3) := by decide +kernel
theorem dX7_becomes_48 : decode cX7_becomes 48 = .ok (.iload_n 1, 1) := by decide +kernel
theorem dX7_becomes_49 : decode cX7_becomes 49 = .ok (.iload_n 2, 1) := by decide +kernel
theorem dX7_becomes_50 : decode cX7_becomes 50 = .ok (.iadd, 1) := by decide +kernel
theorem dX7_becomes_51 : decode cX7_becomes 51 = .ok (.iload_n 3, 1) := by decide +kernel
theorem dX7_becomes_52 : decode cX7_becomes 52 = .ok (.iastore, 1) := by decide +kernel
theorem dX7_becomes_53 : decode cX7_becomes 53 = .ok (.iload 4, 2) := by decide +kernel
theorem dX7_becomes_55 : decode cX7_becomes 55 = .ok (.ireturn, 1) := by decide +kernel
theorem dX7_wax_0 : decode cX7_wax 0 = .ok (.aload_n 0, 1) := by decide +kernel
theorem dX7_wax_1 : decode cX7_wax 1 = .ok (.iconst 3, 1) := by decide +kernel
theorem dX7_wax_2 : decode cX7_wax 2 = .ok (.iload_n 1, 1) := by decide +kernel
theorem dX7_wax_3 : decode cX7_wax 3 = .ok (.iload_n 2, 1) := by decide +kernel
theorem dX7_wax_4 : decode cX7_wax 4 = .ok (.invokevirtual 166, 3) := by decide +kernel
theorem dX7_wax_7 : decode cX7_wax 7 = .ok (.ireturn, 1) := by decide +kernel
theorem dX7_hammer_0 : decode cX7_hammer 0 = .ok (.aload_n 0, 1) := by decide +kernel
theorem dX7_hammer_1 : decode cX7_hammer 1 = .ok (.bipush 13, 2) := by decide +kernel
theorem dX7_hammer_3 : decode cX7_hammer 3 = .ok (.iload_n 1, 1) := by decide +kernel
theorem dX7_hammer_4 : decode cX7_hammer 4 = .ok (.iload_n 2, 1) := by decide +kernel
theorem dX7_hammer_5 : decode cX7_hammer 5 = .ok (.invokevirtual 166, 3) := by decide +kernel
theorem dX7_hammer_8 : decode cX7_hammer 8 = .ok (.ireturn, 1) := by decide +kernel
theorem dX7_up_0 : decode cX7_up 0 = .ok (.aload_n 0, 1) := by decide +kernel
theorem dX7_up_1 : decode cX7_up 1 = .ok (.iload_n 1, 1) := by decide +kernel
theorem dX7_up_2 : decode cX7_up 2 = .ok (.invokevirtual 94, 3) := by decide +kernel
theorem dX7_up_5 : decode cX7_up 5 = .ok (.ifCond .ne 5, 3) := by decide +kernel
theorem dX7_up_8 : decode cX7_up 8 = .ok (.iconst (-1), 1) := by decide +kernel
theorem dX7_up_9 : decode cX7_up 9 = .ok (.ireturn, 1) := by decide +kernel
theorem dX7_up_10 : decode cX7_up 10 = .ok (.aload_n 0, 1) := by decide +kernel
theorem dX7_up_11 : decode cX7_up 11 = .ok (.iload_n 1, 1) := by decide +kernel
theorem dX7_up_12 : decode cX7_up 12 = .ok (.invokevirtual 66, 3) := by decide +kernel
theorem dX7_up_15 : decode cX7_up 15 = .ok (.istore_n 2, 1) := by decide +kernel
theorem dX7_up_16 : decode cX7_up 16 = .ok (.iload_n 2, 1) := by decide +kernel
theorem dX7_up_17 : decode cX7_up 17 = .ok (.bipush 30, 2) := by decide +kernel
theorem dX7_up_19 : decode cX7_up 19 = .ok (.if_icmp .ne 6, 3) := by decide +kernel
theorem dX7_up_22 : decode cX7_up 22 = .ok (.bipush (-2), 2) := by decide +kernel
theorem dX7_up_24 : decode cX7_up 24 = .ok (.ireturn, 1) := by decide +kernel
theorem dX7_up_25 : decode cX7_up 25 = .ok (.aload_n 0, 1) := by decide +kernel
theorem dX7_up_26 : decode cX7_up 26 = .ok (.invokevirtual 160, 3) := by decide +kernel
theorem dX7_up_29 : decode cX7_up 29 = .ok (.aload_n 0, 1) := by decide +kernel
theorem dX7_up_30 : decode cX7_up 30 = .ok (.iload_n 1, 1) := by decide +kernel
theorem dX7_up_31 : decode cX7_up 31 = .ok (.iconst 3, 1) := by decide +kernel
theorem dX7_up_32 : decode cX7_up 32 = .ok (.bipush 30, 2) := by decide +kernel
theorem dX7_up_34 : decode cX7_up 34 = .ok (.invokevirtual 70, 3) := by decide +kernel
theorem dX7_up_37 : decode cX7_up 37 = .ok (.iload_n 2, 1) := by decide +kernel
theorem dX7_up_38 : decode cX7_up 38 = .ok (.ireturn, 1) := by decide +kernel
theorem dX7_drift_0 : decode cX7_drift 0 = .ok (.iload_n 1, 1) := by decide +kernel
theorem dX7_drift_1 : decode cX7_drift 1 = .ok (.i2l, 1) := by decide +kernel
theorem dX7_drift_2 : decode cX7_drift 2 = .ok (.lconst 1, 1) := by decide +kernel
theorem dX7_drift_3 : decode cX7_drift 3 = .ok (.ldc2_w 169, 3) := by decide +kernel
theorem dX7_drift_6 : decode cX7_drift 6 = .ok (.invokestatic 56, 3) := by decide +kernel
theorem dX7_drift_9 : decode cX7_drift 9 = .ok (.ifCond .ne 5, 3) := by decide +kernel
theorem dX7_drift_12 : decode cX7_drift 12 = .ok (.iconst (-1), 1) := by decide +kernel
theorem dX7_drift_13 : decode cX7_drift 13 = .ok (.ireturn, 1) := by decide +kernel
theorem dX7_drift_14 : decode cX7_drift 14 = .ok (.aload_n 0, 1) := by decide +kernel
theorem dX7_drift_15 : decode cX7_drift 15 = .ok (.getfield 7, 3) := by decide +kernel
theorem dX7_drift_18 : decode cX7_drift 18 = .ok (.iconst 1, 1) := by decide +kernel
theorem dX7_drift_19 : decode cX7_drift 19 = .ok (.iaload, 1) := by decide +kernel
theorem dX7_drift_20 : decode cX7_drift 20 = .ok (.iload_n 1, 1) := by decide +kernel
theorem dX7_drift_21 : decode cX7_drift 21 = .ok (.iadd, 1) := by decide +kernel
theorem dX7_drift_22 : decode cX7_drift 22 = .ok (.sipush 9999, 3) := by decide +kernel
theorem dX7_drift_25 : decode cX7_drift 25 = .ok (.if_icmp .le 6, 3) := by decide +kernel
theorem dX7_drift_28 : decode cX7_drift 28 = .ok (.bipush (-3), 2) := by decide +kernel
theorem dX7_drift_30 : decode cX7_drift 30 = .ok (.ireturn, 1) := by decide +kernel
theorem dX7_drift_31 : decode cX7_drift 31 = .ok (.iconst 0, 1) := by decide +kernel
theorem dX7_drift_32 : decode cX7_drift 32 = .ok (.istore_n 2, 1) := by decide +kernel
theorem dX7_drift_33 : decode cX7_drift 33 = .ok (.iload_n 2, 1) := by decide +kernel
theorem dX7_drift_34 : decode cX7_drift 34 = .ok (.iload_n 1, 1) := by decide +kernel
theorem dX7_drift_35 : decode cX7_drift 35 = .ok (.if_icmp .ge 133, 3) := by decide +kernel
theorem dX7_drift_38 : decode cX7_drift 38 = .ok (.aload_n 0, 1) := by decide +kernel
theorem dX7_drift_39 : decode cX7_drift 39 = .ok (.invokevirtual 160, 3) := by decide +kernel
theorem dX7_drift_42 : decode cX7_drift 42 = .ok (.aload_n 0, 1) := by decide +kernel
theorem dX7_drift_43 : decode cX7_drift 43 = .ok (.getfield 7, 3) := by decide +kernel
theorem dX7_drift_46 : decode cX7_drift 46 = .ok (.iconst 2, 1) := by decide +kernel
theorem dX7_drift_47 : decode cX7_drift 47 = .ok (.aload_n 0, 1) := by decide +kernel
theorem dX7_drift_48 : decode cX7_drift 48 = .ok (.getfield 7, 3) := by decide +kernel
theorem dX7_drift_51 : decode cX7_drift 51 = .ok (.iconst 2, 1) := by decide +kernel
theorem dX7_drift_52 : decode cX7_drift 52 = .ok (.iaload, 1) := by decide +kernel
theorem dX7_drift_53 : decode cX7_drift 53 = .ok (.i2l, 1) := by decide +kernel
theorem dX7_drift_54 : decode cX7_drift 54 = .ok (.ldc2_w 171, 3) := by decide +kernel
theorem dX7_drift_57 : decode cX7_drift 57 = .ok (.lmul, 1) := by decide +kernel
theorem dX7_drift_58 : decode cX7_drift 58 = .ok (.ldc2_w 173, 3) := by decide +kernel
theorem dX7_drift_61 : decode cX7_drift 61 = .ok (.ladd, 1) := by decide +kernel
theorem dX7_drift_62 : decode cX7_drift 62 = .ok (.ldc2_w 175, 3) := by decide +kernel
theorem dX7_drift_65 : decode cX7_drift 65 = .ok (.land, 1) := by decide +kernel
theorem dX7_drift_66 : decode cX7_drift 66 = .ok (.l2i, 1) := by decide +kernel
theorem dX7_drift_67 : decode cX7_drift 67 = .ok (.iastore, 1) := by decide +kernel
theorem dX7_drift_68 : decode cX7_drift 68 = .ok (.aload_n 0, 1) := by decide +kernel
theorem dX7_drift_69 : decode cX7_drift 69 = .ok (.getfield 7, 3) := by decide +kernel
theorem dX7_drift_72 : decode cX7_drift 72 = .ok (.iconst 0, 1) := by decide +kernel
theorem dX7_drift_73 : decode cX7_drift 73 = .ok (.iaload, 1) := by decide +kernel
theorem dX7_drift_74 : decode cX7_drift 74 = .ok (.ifCond .le 47, 3) := by decide +kernel
theorem dX7_drift_77 : decode cX7_drift 77 = .ok (.aload_n 0, 1) := by decide +kernel
theorem dX7_drift_78 : decode cX7_drift 78 = .ok (.getfield 7, 3) := by decide +kernel
theorem dX7_drift_81 : decode cX7_drift 81 = .ok (.iconst 2, 1) := by decide +kernel
theorem dX7_drift_82 : decode cX7_drift 82 = .ok (.iaload, 1) := by decide +kernel
theorem dX7_drift_83 : decode cX7_drift 83 = .ok (.ldc 177, 2) := by decide +kernel
theorem dX7_drift_85 : decode cX7_drift 85 = .ok (.idiv, 1) := by decide +kernel
theorem dX7_drift_86 : decode cX7_drift 86 = .ok (.aload_n 0, 1) := by decide +kernel
theorem dX7_drift_87 : decode cX7_drift 87 = .ok (.getfield 7, 3) := by decide +kernel
theorem dX7_drift_90 : decode cX7_drift 90 = .ok (.iconst 0, 1) := by decide +kernel
theorem dX7_drift_91 : decode cX7_drift 91 = .ok (.iaload, 1) := by decide +kernel
theorem dX7_drift_92 : decode cX7_drift 92 = .ok (.irem, 1) := by decide +kernel
theorem dX7_drift_93 : decode cX7_drift 93 = .ok (.istore_n 3, 1) := by decide +kernel
theorem dX7_drift_94 : decode cX7_drift 94 = .ok (.aload_n 0, 1) := by decide +kernel
theorem dX7_drift_95 : decode cX7_drift 95 = .ok (.iload_n 3, 1) := by decide +kernel
theorem dX7_drift_96 : decode cX7_drift 96 = .ok (.invokevirtual 66, 3) := by decide +kernel
theorem dX7_drift_99 : decode cX7_drift 99 = .ok (.bipush 30, 2) := by decide +kernel
theorem dX7_drift_101 : decode cX7_drift 101 = .ok (.if_icmp .ne 12, 3) := by decide +kernel
theorem dX7_drift_104 : decode cX7_drift 104 = .ok (.aload_n 0, 1) := by decide +kernel
theorem dX7_drift_105 : decode cX7_drift 105 = .ok (.iload_n 3, 1) := by decide +kernel
theorem dX7_drift_106 : decode cX7_drift 106 = .ok (.invokevirtual 163, 3) := by decide +kernel
theorem dX7_drift_109 : decode cX7_drift 109 = .ok (.pop, 1) := by decide +kernel
theorem dX7_drift_110 : decode cX7_drift 110 = .ok (.goto 11, 3) := by decide +kernel
theorem dX7_drift_113 : decode cX7_drift 113 = .ok (.aload_n 0, 1) := by decide +kernel
theorem dX7_drift_114 : decode cX7_drift 114 = .ok (.iload_n 3, 1) := by decide +kernel
theorem dX7_drift_115 : decode cX7_drift 115 = .ok (.iconst 3, 1) := by decide +kernel
theorem dX7_drift_116 : decode cX7_drift 116 = .ok (.bipush 30, 2) := by decide +kernel
theorem dX7_drift_118 : decode cX7_drift 118 = .ok (.invokevirtual 70, 3) := by decide +kernel
theorem dX7_drift_121 : decode cX7_drift 121 = .ok (.iconst 3, 1) := by decide +kernel
theorem dX7_drift_122 : decode cX7_drift 122 = .ok (.aload_n 0, 1) := by decide +kernel
theorem dX7_drift_123 : decode cX7_drift 123 = .ok (.getfield 7, 3) := by decide +kernel
theorem dX7_drift_126 : decode cX7_drift 126 = .ok (.iconst 2, 1) := by decide +kernel
theorem dX7_drift_127 : decode cX7_drift 127 = .ok (.iaload, 1) := by decide +kernel
theorem dX7_drift_128 : decode cX7_drift 128 = .ok (.sipush 128, 3) := by decide +kernel
theorem dX7_drift_131 : decode cX7_drift 131 = .ok (.idiv, 1) := by decide +kernel
theorem dX7_drift_132 : decode cX7_drift 132 = .ok (.bipush 10, 2) := by decide +kernel
theorem dX7_drift_134 : decode cX7_drift 134 = .ok (.irem, 1) := by decide +kernel
theorem dX7_drift_135 : decode cX7_drift 135 = .ok (.iadd, 1) := by decide +kernel
theorem dX7_drift_136 : decode cX7_drift 136 = .ok (.istore_n 3, 1) := by decide +kernel
theorem dX7_drift_137 : decode cX7_drift 137 = .ok (.aload_n 0, 1) := by decide +kernel
theorem dX7_drift_138 : decode cX7_drift 138 = .ok (.getfield 7, 3) := by decide +kernel
theorem dX7_drift_141 : decode cX7_drift 141 = .ok (.iload_n 3, 1) := by decide +kernel
theorem dX7_drift_142 : decode cX7_drift 142 = .ok (.dup2, 1) := by decide +kernel
theorem dX7_drift_143 : decode cX7_drift 143 = .ok (.iaload, 1) := by decide +kernel
theorem dX7_drift_144 : decode cX7_drift 144 = .ok (.aload_n 0, 1) := by decide +kernel
theorem dX7_drift_145 : decode cX7_drift 145 = .ok (.getfield 7, 3) := by decide +kernel
theorem dX7_drift_148 : decode cX7_drift 148 = .ok (.iload_n 3, 1) := by decide +kernel
theorem dX7_drift_149 : decode cX7_drift 149 = .ok (.iaload, 1) := by decide +kernel
theorem dX7_drift_150 : decode cX7_drift 150 = .ok (.bipush 9, 2) := by decide +kernel
theorem dX7_drift_152 : decode cX7_drift 152 = .ok (.if_icmp .ge 7, 3) := by decide +kernel
theorem dX7_drift_155 : decode cX7_drift 155 = .ok (.iconst 1, 1) := by decide +kernel
theorem dX7_drift_156 : decode cX7_drift 156 = .ok (.goto 4, 3) := by decide +kernel
theorem dX7_drift_159 : decode cX7_drift 159 = .ok (.iconst 0, 1) := by decide +kernel
theorem dX7_drift_160 : decode cX7_drift 160 = .ok (.iadd, 1) := by decide +kernel
theorem dX7_drift_161 : decode cX7_drift 161 = .ok (.iastore, 1) := by decide +kernel
theorem dX7_drift_162 : decode cX7_drift 162 = .ok (.iinc 2 1, 3) := by decide +kernel
theorem dX7_drift_165 : decode cX7_drift 165 = .ok (.goto (-132), 3) := by decide +kernel
theorem dX7_drift_168 : decode cX7_drift 168 = .ok (.aload_n 0, 1) := by decide +kernel
theorem dX7_drift_169 : decode cX7_drift 169 = .ok (.invokevirtual 114, 3) := by decide +kernel
theorem dX7_drift_172 : decode cX7_drift 172 = .ok (.ireturn, 1) := by decide +kernel
theorem dX7_undo_0 : decode cX7_undo 0 = .ok (.aload_n 0, 1) := by decide +kernel
theorem dX7_undo_1 : decode cX7_undo 1 = .ok (.getfield 81, 3) := by decide +kernel
theorem dX7_undo_4 : decode cX7_undo 4 = .ok (.ifCond .ne 6, 3) := by decide +kernel
theorem dX7_undo_7 : decode cX7_undo 7 = .ok (.bipush (-4), 2) := by decide +kernel
theorem dX7_undo_9 : decode cX7_undo 9 = .ok (.ireturn, 1) := by decide +kernel
theorem dX7_undo_10 : decode cX7_undo 10 = .ok (.aload_n 0, 1) := by decide +kernel
theorem dX7_undo_11 : decode cX7_undo 11 = .ok (.dup, 1) := by decide +kernel
theorem dX7_undo_12 : decode cX7_undo 12 = .ok (.getfield 81, 3) := by decide +kernel
theorem dX7_undo_15 : decode cX7_undo 15 = .ok (.iconst 1, 1) := by decide +kernel
theorem dX7_undo_16 : decode cX7_undo 16 = .ok (.isub, 1) := by decide +kernel
theorem dX7_undo_17 : decode cX7_undo 17 = .ok (.putfield 81, 3) := by decide +kernel
theorem dX7_undo_20 : decode cX7_undo 20 = .ok (.iconst 0, 1) := by decide +kernel
theorem dX7_undo_21 : decode cX7_undo 21 = .ok (.istore_n 1, 1) := by decide +kernel
theorem dX7_undo_22 : decode cX7_undo 22 = .ok (.iload_n 1, 1) := by decide +kernel
theorem dX7_undo_23 : decode cX7_undo 23 = .ok (.bipush 43, 2) := by decide +kernel
theorem dX7_undo_25 : decode cX7_undo 25 = .ok (.if_icmp .ge 64, 3) := by decide +kernel
theorem dX7_undo_28 : decode cX7_undo 28 = .ok (.iload_n 1, 1) := by decide +kernel
theorem dX7_undo_29 : decode cX7_undo 29 = .ok (.bipush 23, 2) := by decide +kernel
theorem dX7_undo_31 : decode cX7_undo 31 = .ok (.if_icmp .lt 17, 3) := by decide +kernel
theorem dX7_undo_34 : decode cX7_undo 34 = .ok (.iload_n 1, 1) := by decide +kernel
theorem dX7_undo_35 : decode cX7_undo 35 = .ok (.bipush 23, 2) := by decide +kernel
theorem dX7_undo_37 : decode cX7_undo 37 = .ok (.isub, 1) := by decide +kernel
theorem dX7_undo_38 : decode cX7_undo 38 = .ok (.iconst 4, 1) := by decide +kernel
theorem dX7_undo_39 : decode cX7_undo 39 = .ok (.irem, 1) := by decide +kernel
theorem dX7_undo_40 : decode cX7_undo 40 = .ok (.iconst 2, 1) := by decide +kernel
theorem dX7_undo_41 : decode cX7_undo 41 = .ok (.if_icmp .ne 7, 3) := by decide +kernel
theorem dX7_undo_44 : decode cX7_undo 44 = .ok (.iconst 1, 1) := by decide +kernel
theorem dX7_undo_45 : decode cX7_undo 45 = .ok (.goto 4, 3) := by decide +kernel
theorem dX7_undo_48 : decode cX7_undo 48 = .ok (.iconst 0, 1) := by decide +kernel
theorem dX7_undo_49 : decode cX7_undo 49 = .ok (.istore_n 2, 1) := by decide +kernel
theorem dX7_undo_50 : decode cX7_undo 50 = .ok (.aload_n 0, 1) := by decide +kernel
theorem dX7_undo_51 : decode cX7_undo 51 = .ok (.getfield 7, 3) := by decide +kernel
theorem dX7_undo_54 : decode cX7_undo 54 = .ok (.iload_n 1, 1) := by decide +kernel
theorem dX7_undo_55 : decode cX7_undo 55 = .ok (.iload_n 2, 1) := by decide +kernel
theorem dX7_undo_56 : decode cX7_undo 56 = .ok (.ifCond .eq 12, 3) := by decide +kernel
theorem dX7_undo_59 : decode cX7_undo 59 = .ok (.aload_n 0, 1) := by decide +kernel
theorem dX7_undo_60 : decode cX7_undo 60 = .ok (.getfield 7, 3) := by decide +kernel
theorem dX7_undo_63 : decode cX7_undo 63 = .ok (.iload_n 1, 1) := by decide +kernel
theorem dX7_undo_64 : decode cX7_undo 64 = .ok (.iaload, 1) := by decide +kernel
theorem dX7_undo_65 : decode cX7_undo 65 = .ok (.goto 17, 3) := by decide +kernel
theorem dX7_undo_68 : decode cX7_undo 68 = .ok (.aload_n 0, 1) := by decide +kernel
theorem dX7_undo_69 : decode cX7_undo 69 = .ok (.getfield 25, 3) := by decide +kernel
theorem dX7_undo_72 : decode cX7_undo 72 = .ok (.bipush 43, 2) := by decide +kernel
theorem dX7_undo_74 : decode cX7_undo 74 = .ok (.aload_n 0, 1) := by decide +kernel
theorem dX7_undo_75 : decode cX7_undo 75 = .ok (.getfield 81, 3) := by decide +kernel
theorem dX7_undo_78 : decode cX7_undo 78 = .ok (.imul, 1) := by decide +kernel
theorem dX7_undo_79 : decode cX7_undo 79 = .ok (.iload_n 1, 1) := by decide +kernel
theorem dX7_undo_80 : decode cX7_undo 80 = .ok (.iadd, 1) := by decide +kernel
theorem dX7_undo_81 : decode cX7_undo 81 = .ok (.iaload, 1) := by decide +kernel
theorem dX7_undo_82 : decode cX7_undo 82 = .ok (.iastore, 1) := by decide +kernel
theorem dX7_undo_83 : decode cX7_undo 83 = .ok (.iinc 1 1, 3) := by decide +kernel
theorem dX7_undo_86 : decode cX7_undo 86 = .ok (.goto (-64), 3) := by decide +kernel
theorem dX7_undo_89 : decode cX7_undo 89 = .ok (.aload_n 0, 1) := by decide +kernel
theorem dX7_undo_90 : decode cX7_undo 90 = .ok (.getfield 81, 3) := by decide +kernel
theorem dX7_undo_93 : decode cX7_undo 93 = .ok (.ireturn, 1) := by decide +kernel
theorem dX7_seed_0 : decode cX7_seed 0 = .ok (.iload_n 1, 1) := by decide +kernel
theorem dX7_seed_1 : decode cX7_seed 1 = .ok (.ifCond .ge 5, 3) := by decide +kernel
theorem dX7_seed_4 : decode cX7_seed 4 = .ok (.iconst (-1), 1) := by decide +kernel
theorem dX7_seed_5 : decode cX7_seed 5 = .ok (.ireturn, 1) := by decide +kernel
theorem dX7_seed_6 : decode cX7_seed 6 = .ok (.aload_n 0, 1) := by decide +kernel
theorem dX7_seed_7 : decode cX7_seed 7 = .ok (.getfield 7, 3) := by decide +kernel
theorem dX7_seed_10 : decode cX7_seed 10 = .ok (.iconst 2, 1) := by decide +kernel
theorem dX7_seed_11 : decode cX7_seed 11 = .ok (.iaload, 1) := by decide +kernel
theorem dX7_seed_12 : decode cX7_seed 12 = .ok (.istore_n 2, 1) := by decide +kernel
theorem dX7_seed_13 : decode cX7_seed 13 = .ok (.aload_n 0, 1) := by decide +kernel
theorem dX7_seed_14 : decode cX7_seed 14 = .ok (.getfield 7, 3) := by decide +kernel
theorem dX7_seed_17 : decode cX7_seed 17 = .ok (.iconst 2, 1) := by decide +kernel
theorem dX7_seed_18 : decode cX7_seed 18 = .ok (.iload_n 1, 1) := by decide +kernel
theorem dX7_seed_19 : decode cX7_seed 19 = .ok (.iastore, 1) := by decide +kernel
theorem dX7_seed_20 : decode cX7_seed 20 = .ok (.iload_n 2, 1) := by decide +kernel
theorem dX7_seed_21 : decode cX7_seed 21 = .ok (.ireturn, 1) := by decide +kernel
theorem dX7_asides_0 : decode cX7_asides 0 = .ok (.iconst 0, 1) := by decide +kernel
theorem dX7_asides_1 : decode cX7_asides 1 = .ok (.istore_n 1, 1) := by decide +kernel

theorem dX6_hammer_49 : decode cX6_hammer 49 = .ok (.getfield 10, 3) := by decide +kernel
theorem dX6_hammer_52 : decode cX6_hammer 52 = .ok (.getfield 104, 3) := by decide +kernel
theorem dX6_hammer_55 : decode cX6_hammer 55 = .ok (.iload_n 1, 1) := by decide +kernel
theorem dX6_hammer_56 : decode cX6_hammer 56 = .ok (.iload_n 2, 1) := by decide +kernel
theorem dX6_hammer_57 : decode cX6_hammer 57 = .ok (.iastore, 1) := by decide +kernel
theorem dX6_hammer_58 : decode cX6_hammer 58 = .ok (.iload_n 3, 1) := by decide +kernel
theorem dX6_hammer_59 : decode cX6_hammer 59 = .ok (.ireturn, 1) := by decide +kernel
theorem dX6_up_0 : decode cX6_up 0 = .ok (.aload_n 0, 1) := by decide +kernel
theorem dX6_up_1 : decode cX6_up 1 = .ok (.getfield 10, 3) := by decide +kernel
theorem dX6_up_4 : decode cX6_up 4 = .ok (.iload_n 1, 1) := by decide +kernel
theorem dX6_up_5 : decode cX6_up 5 = .ok (.invokevirtual 82, 3) := by decide +kernel
theorem dX6_up_8 : decode cX6_up 8 = .ok (.ifCond .ne 5, 3) := by decide +kernel
theorem dX6_up_11 : decode cX6_up 11 = .ok (.iconst (-1), 1) := by decide +kernel
theorem dX6_up_12 : decode cX6_up 12 = .ok (.ireturn, 1) := by decide +kernel
theorem dX6_up_13 : decode cX6_up 13 = .ok (.aload_n 0, 1) := by decide +kernel
theorem dX6_up_14 : decode cX6_up 14 = .ok (.getfield 10, 3) := by decide +kernel
theorem dX6_up_17 : decode cX6_up 17 = .ok (.getfield 95, 3) := by decide +kernel
theorem dX6_up_20 : decode cX6_up 20 = .ok (.iload_n 1, 1) := by decide +kernel
theorem dX6_up_21 : decode cX6_up 21 = .ok (.iaload, 1) := by decide +kernel
theorem dX6_up_22 : decode cX6_up 22 = .ok (.istore_n 2, 1) := by decide +kernel
theorem dX6_up_23 : decode cX6_up 23 = .ok (.iload_n 2, 1) := by decide +kernel
theorem dX6_up_24 : decode cX6_up 24 = .ok (.bipush 30, 2) := by decide +kernel
theorem dX6_up_26 : decode cX6_up 26 = .ok (.if_icmp .ne 6, 3) := by decide +kernel
theorem dX6_up_29 : decode cX6_up 29 = .ok (.bipush (-2), 2) := by decide +kernel
theorem dX6_up_31 : decode cX6_up 31 = .ok (.ireturn, 1) := by decide +kernel
theorem dX6_up_32 : decode cX6_up 32 = .ok (.aload_n 0, 1) := by decide +kernel
theorem dX6_up_33 : decode cX6_up 33 = .ok (.getfield 22, 3) := by decide +kernel
theorem dX6_up_36 : decode cX6_up 36 = .ok (.aload_n 0, 1) := by decide +kernel
theorem dX6_up_37 : decode cX6_up 37 = .ok (.getfield 10, 3) := by decide +kernel
theorem dX6_up_40 : decode cX6_up 40 = .ok (.invokevirtual 157, 3) := by decide +kernel
theorem dX6_up_43 : decode cX6_up 43 = .ok (.aload_n 0, 1) := by decide +kernel
theorem dX6_up_44 : decode cX6_up 44 = .ok (.getfield 10, 3) := by decide +kernel
theorem dX6_up_47 : decode cX6_up 47 = .ok (.getfield 95, 3) := by decide +kernel
theorem dX6_up_50 : decode cX6_up 50 = .ok (.iload_n 1, 1) := by decide +kernel
theorem dX6_up_51 : decode cX6_up 51 = .ok (.bipush 30, 2) := by decide +kernel
theorem dX6_up_53 : decode cX6_up 53 = .ok (.iastore, 1) := by decide +kernel
theorem dX6_up_54 : decode cX6_up 54 = .ok (.iload_n 2, 1) := by decide +kernel
theorem dX6_up_55 : decode cX6_up 55 = .ok (.ireturn, 1) := by decide +kernel
theorem dX6_drift_0 : decode cX6_drift 0 = .ok (.iload_n 1, 1) := by decide +kernel
theorem dX6_drift_1 : decode cX6_drift 1 = .ok (.iconst 1, 1) := by decide +kernel
theorem dX6_drift_2 : decode cX6_drift 2 = .ok (.bipush 40, 2) := by decide +kernel
theorem dX6_drift_4 : decode cX6_drift 4 = .ok (.invokestatic 71, 3) := by decide +kernel
theorem dX6_drift_7 : decode cX6_drift 7 = .ok (.ifCond .ne 5, 3) := by decide +kernel
theorem dX6_drift_10 : decode cX6_drift 10 = .ok (.iconst (-1), 1) := by decide +kernel
theorem dX6_drift_11 : decode cX6_drift 11 = .ok (.ireturn, 1) := by decide +kernel
theorem dX6_drift_12 : decode cX6_drift 12 = .ok (.aload_n 0, 1) := by decide +kernel
theorem dX6_drift_13 : decode cX6_drift 13 = .ok (.getfield 10, 3) := by decide +kernel
theorem dX6_drift_16 : decode cX6_drift 16 = .ok (.getfield 137, 3) := by decide +kernel
theorem dX6_drift_19 : decode cX6_drift 19 = .ok (.iload_n 1, 1) := by decide +kernel
theorem dX6_drift_20 : decode cX6_drift 20 = .ok (.iadd, 1) := by decide +kernel
theorem dX6_drift_21 : decode cX6_drift 21 = .ok (.sipush 9999, 3) := by decide +kernel
theorem dX6_drift_24 : decode cX6_drift 24 = .ok (.if_icmp .le 6, 3) := by decide +kernel
theorem dX6_drift_27 : decode cX6_drift 27 = .ok (.bipush (-3), 2) := by decide +kernel
theorem dX6_drift_29 : decode cX6_drift 29 = .ok (.ireturn, 1) := by decide +kernel
theorem dX6_drift_30 : decode cX6_drift 30 = .ok (.iconst 0, 1) := by decide +kernel
theorem dX6_drift_31 : decode cX6_drift 31 = .ok (.istore_n 2, 1) := by decide +kernel
theorem dX6_drift_32 : decode cX6_drift 32 = .ok (.iload_n 2, 1) := by decide +kernel
theorem dX6_drift_33 : decode cX6_drift 33 = .ok (.iload_n 1, 1) := by decide +kernel
theorem dX6_drift_34 : decode cX6_drift 34 = .ok (.if_icmp .ge 31, 3) := by decide +kernel
theorem dX6_drift_37 : decode cX6_drift 37 = .ok (.aload_n 0, 1) := by decide +kernel
theorem dX6_drift_38 : decode cX6_drift 38 = .ok (.getfield 22, 3) := by decide +kernel
theorem dX6_drift_41 : decode cX6_drift 41 = .ok (.aload_n 0, 1) := by decide +kernel
theorem dX6_drift_42 : decode cX6_drift 42 = .ok (.getfield 10, 3) := by decide +kernel
theorem dX6_drift_45 : decode cX6_drift 45 = .ok (.invokevirtual 157, 3) := by decide +kernel
theorem dX6_drift_48 : decode cX6_drift 48 = .ok (.aload_n 0, 1) := by decide +kernel
theorem dX6_drift_49 : decode cX6_drift 49 = .ok (.getfield 10, 3) := by decide +kernel
theorem dX6_drift_52 : decode cX6_drift 52 = .ok (.aload_n 0, 1) := by decide +kernel
theorem dX6_drift_53 : decode cX6_drift 53 = .ok (.getfield 49, 3) := by decide +kernel
theorem dX6_drift_56 : decode cX6_drift 56 = .ok (.invokevirtual 164, 3) := by decide +kernel
theorem dX6_drift_59 : decode cX6_drift 59 = .ok (.iinc 2 1, 3) := by decide +kernel
theorem dX6_drift_62 : decode cX6_drift 62 = .ok (.goto (-30), 3) := by decide +kernel
theorem dX6_drift_65 : decode cX6_drift 65 = .ok (.aload_n 0, 1) := by decide +kernel
theorem dX6_drift_66 : decode cX6_drift 66 = .ok (.getfield 10, 3) := by decide +kernel
theorem dX6_drift_69 : decode cX6_drift 69 = .ok (.invokevirtual 144, 3) := by decide +kernel
theorem dX6_drift_72 : decode cX6_drift 72 = .ok (.ireturn, 1) := by decide +kernel
theorem dX6_undo_0 : decode cX6_undo 0 = .ok (.aload_n 0, 1) := by decide +kernel
theorem dX6_undo_1 : decode cX6_undo 1 = .ok (.getfield 22, 3) := by decide +kernel
theorem dX6_undo_4 : decode cX6_undo 4 = .ok (.aload_n 0, 1) := by decide +kernel
theorem dX6_undo_5 : decode cX6_undo 5 = .ok (.getfield 10, 3) := by decide +kernel
theorem dX6_undo_8 : decode cX6_undo 8 = .ok (.invokevirtual 168, 3) := by decide +kernel
theorem dX6_undo_11 : decode cX6_undo 11 = .ok (.ifCond .eq 13, 3) := by decide +kernel
theorem dX6_undo_14 : decode cX6_undo 14 = .ok (.aload_n 0, 1) := by decide +kernel
theorem dX6_undo_15 : decode cX6_undo 15 = .ok (.getfield 22, 3) := by decide +kernel
theorem dX6_undo_18 : decode cX6_undo 18 = .ok (.getfield 154, 3) := by decide +kernel
theorem dX6_undo_21 : decode cX6_undo 21 = .ok (.goto 5, 3) := by decide +kernel
theorem dX6_undo_24 : decode cX6_undo 24 = .ok (.bipush (-4), 2) := by decide +kernel
theorem dX6_undo_26 : decode cX6_undo 26 = .ok (.ireturn, 1) := by decide +kernel
theorem dX6_seed_0 : decode cX6_seed 0 = .ok (.iload_n 1, 1) := by decide +kernel
theorem dX6_seed_1 : decode cX6_seed 1 = .ok (.ifCond .ge 5, 3) := by decide +kernel
theorem dX6_seed_4 : decode cX6_seed 4 = .ok (.iconst (-1), 1) := by decide +kernel
theorem dX6_seed_5 : decode cX6_seed 5 = .ok (.ireturn, 1) := by decide +kernel
theorem dX6_seed_6 : decode cX6_seed 6 = .ok (.aload_n 0, 1) := by decide +kernel
theorem dX6_seed_7 : decode cX6_seed 7 = .ok (.getfield 10, 3) := by decide +kernel
theorem dX6_seed_10 : decode cX6_seed 10 = .ok (.getfield 127, 3) := by decide +kernel
theorem dX6_seed_13 : decode cX6_seed 13 = .ok (.istore_n 2, 1) := by decide +kernel
theorem dX6_seed_14 : decode cX6_seed 14 = .ok (.aload_n 0, 1) := by decide +kernel
theorem dX6_seed_15 : decode cX6_seed 15 = .ok (.getfield 10, 3) := by decide +kernel
theorem dX6_seed_18 : decode cX6_seed 18 = .ok (.iload_n 1, 1) := by decide +kernel
theorem dX6_seed_19 : decode cX6_seed 19 = .ok (.putfield 127, 3) := by decide +kernel
theorem dX6_seed_22 : decode cX6_seed 22 = .ok (.iload_n 2, 1) := by decide +kernel
theorem dX6_seed_23 : decode cX6_seed 23 = .ok (.ireturn, 1) := by decide +kernel
theorem dX6_speed_0 : decode cX6_speed 0 = .ok (.aload_n 0, 1) := by decide +kernel
theorem dX6_speed_1 : decode cX6_speed 1 = .ok (.getfield 10, 3) := by decide +kernel
theorem dX6_speed_4 : decode cX6_speed 4 = .ok (.iload_n 1, 1) := by decide +kernel
theorem dX6_speed_5 : decode cX6_speed 5 = .ok (.invokevirtual 82, 3) := by decide +kernel
theorem dX6_speed_8 : decode cX6_speed 8 = .ok (.ifCond .eq 10, 3) := by decide +kernel
theorem dX6_speed_11 : decode cX6_speed 11 = .ok (.iload_n 2, 1) := by decide +kernel
theorem dX6_speed_12 : decode cX6_speed 12 = .ok (.invokestatic 98, 3) := by decide +kernel
theorem dX6_speed_15 : decode cX6_speed 15 = .ok (.ifCond .ne 5, 3) := by decide +kernel
theorem dX6_speed_18 : decode cX6_speed 18 = .ok (.iconst (-1), 1) := by decide +kernel
theorem dX6_speed_19 : decode cX6_speed 19 = .ok (.ireturn, 1) := by decide +kernel
theorem dX6_speed_20 : decode cX6_speed 20 = .ok (.aload_n 0, 1) := by decide +kernel
theorem dX6_speed_21 : decode cX6_speed 21 = .ok (.getfield 10, 3) := by decide +kernel
theorem dX6_speed_24 : decode cX6_speed 24 = .ok (.iload_n 1, 1) := by decide +kernel
theorem dX6_speed_25 : decode cX6_speed 25 = .ok (.aload_n 0, 1) := by decide +kernel
theorem dX6_speed_26 : decode cX6_speed 26 = .ok (.getfield 49, 3) := by decide +kernel
theorem dX6_speed_29 : decode cX6_speed 29 = .ok (.invokevirtual 171, 3) := by decide +kernel
theorem dX6_speed_32 : decode cX6_speed 32 = .ok (.pop, 1) := by decide +kernel
theorem dX6_speed_33 : decode cX6_speed 33 = .ok (.aload_n 0, 1) := by decide +kernel
theorem dX6_speed_34 : decode cX6_speed 34 = .ok (.getfield 49, 3) := by decide +kernel
theorem dX6_speed_37 : decode cX6_speed 37 = .ok (.iload_n 2, 1) := by decide +kernel
theorem dX6_speed_38 : decode cX6_speed 38 = .ok (.iaload, 1) := by decide +kernel
theorem dX6_speed_39 : decode cX6_speed 39 = .ok (.ireturn, 1) := by decide +kernel
theorem dX6_ends_0 : decode cX6_ends 0 = .ok (.aload_n 0, 1) := by decide +kernel
theorem dX6_ends_1 : decode cX6_ends 1 = .ok (.getfield 10, 3) := by decide +kernel
theorem dX6_ends_4 : decode cX6_ends 4 = .ok (.iload_n 1, 1) := by decide +kernel
theorem dX6_ends_5 : decode cX6_ends 5 = .ok (.invokevirtual 82, 3) := by decide +kernel
theorem dX6_ends_8 : decode cX6_ends 8 = .ok (.ifCond .eq 18, 3) := by decide +kernel
theorem dX6_ends_11 : decode cX6_ends 11 = .ok (.aload_n 0, 1) := by decide +kernel
theorem dX6_ends_12 : decode cX6_ends 12 = .ok (.getfield 10, 3) := by decide +kernel
theorem dX6_ends_15 : decode cX6_ends 15 = .ok (.iload_n 1, 1) := by decide +kernel
theorem dX6_ends_16 : decode cX6_ends 16 = .ok (.aload_n 0, 1) := by decide +kernel
theorem dX6_ends_17 : decode cX6_ends 17 = .ok (.getfield 49, 3) := by decide +kernel
theorem dX6_ends_20 : decode cX6_ends 20 = .ok (.invokevirtual 171, 3) := by decide +kernel
theorem dX6_ends_23 : decode cX6_ends 23 = .ok (.goto 4, 3) := by decide +kernel
theorem dX6_ends_26 : decode cX6_ends 26 = .ok (.iconst (-1), 1) := by decide +kernel
theorem dX6_ends_27 : decode cX6_ends 27 = .ok (.ireturn, 1) := by decide +kernel
theorem dX6_fast_0 : decode cX6_fast 0 = .ok (.aload_n 0, 1) := by decide +kernel
theorem dX6_fast_1 : decode cX6_fast 1 = .ok (.getfield 10, 3) := by decide +kernel
theorem dX6_fast_4 : decode cX6_fast 4 = .ok (.iload_n 1, 1) := by decide +kernel
theorem dX6_fast_5 : decode cX6_fast 5 = .ok (.invokevirtual 82, 3) := by decide +kernel
theorem dX6_fast_8 : decode cX6_fast 8 = .ok (.ifCond .eq 12, 3) := by decide +kernel
theorem dX6_fast_11 : decode cX6_fast 11 = .ok (.iload_n 2, 1) := by decide +kernel
theorem dX6_fast_12 : decode cX6_fast 12 = .ok (.iconst 0, 1) := by decide +kernel
theorem dX6_fast_13 : decode cX6_fast 13 = .ok (.iconst 1, 1) := by decide +kernel
theorem dX6_fast_14 : decode cX6_fast 14 = .ok (.invokestatic 71, 3) := by decide +kernel
theorem dX6_fast_17 : decode cX6_fast 17 = .ok (.ifCond .ne 5, 3) := by decide +kernel
theorem dX6_fast_20 : decode cX6_fast 20 = .ok (.iconst (-1), 1) := by decide +kernel
theorem dX6_fast_21 : decode cX6_fast 21 = .ok (.ireturn, 1) := by decide +kernel
theorem dX6_fast_22 : decode cX6_fast 22 = .ok (.aload_n 0, 1) := by decide +kernel
theorem dX6_fast_23 : decode cX6_fast 23 = .ok (.getfield 10, 3) := by decide +kernel
theorem dX6_fast_26 : decode cX6_fast 26 = .ok (.iload_n 1, 1) := by decide +kernel
theorem dX6_fast_27 : decode cX6_fast 27 = .ok (.aload_n 0, 1) := by decide +kernel
theorem dX6_fast_28 : decode cX6_fast 28 = .ok (.getfield 49, 3) := by decide +kernel
theorem dX6_fast_31 : decode cX6_fast 31 = .ok (.invokevirtual 171, 3) := by decide +kernel
theorem dX6_fast_34 : decode cX6_fast 34 = .ok (.pop, 1) := by decide +kernel
theorem dX6_fast_35 : decode cX6_fast 35 = .ok (.aload_n 0, 1) := by decide +kernel
theorem dX6_fast_36 : decode cX6_fast 36 = .ok (.getfield 49, 3) := by decide +kernel
theorem dX6_fast_39 : decode cX6_fast 39 = .ok (.invokestatic 174, 3) := by decide +kernel
theorem dX6_fast_42 : decode cX6_fast 42 = .ok (.istore_n 3, 1) := by decide +kernel
theorem dX6_fast_43 : decode cX6_fast 43 = .ok (.aload_n 0, 1) := by decide +kernel
theorem dX6_fast_44 : decode cX6_fast 44 = .ok (.getfield 49, 3) := by decide +kernel
theorem dX6_fast_47 : decode cX6_fast 47 = .ok (.iload_n 3, 1) := by decide +kernel
theorem dX6_fast_48 : decode cX6_fast 48 = .ok (.iaload, 1) := by decide +kernel
theorem dX6_fast_49 : decode cX6_fast 49 = .ok (.bipush (-4), 2) := by decide +kernel
theorem dX6_fast_51 : decode cX6_fast 51 = .ok (.if_icmp .ne 6, 3) := by decide +kernel
theorem dX6_fast_54 : decode cX6_fast 54 = .ok (.bipush (-4), 2) := by decide +kernel
theorem dX6_fast_56 : decode cX6_fast 56 = .ok (.ireturn, 1) := by decide +kernel
theorem dX6_fast_57 : decode cX6_fast 57 = .ok (.iload_n 2, 1) := by decide +kernel
theorem dX6_fast_58 : decode cX6_fast 58 = .ok (.ifCond .ne 7, 3) := by decide +kernel
theorem dX6_fast_61 : decode cX6_fast 61 = .ok (.iload_n 3, 1) := by decide +kernel
theorem dX6_fast_62 : decode cX6_fast 62 = .ok (.goto 9, 3) := by decide +kernel
theorem dX6_fast_65 : decode cX6_fast 65 = .ok (.aload_n 0, 1) := by decide +kernel
theorem dX6_fast_66 : decode cX6_fast 66 = .ok (.getfield 49, 3) := by decide +kernel
theorem dX6_fast_69 : decode cX6_fast 69 = .ok (.iload_n 3, 1) := by decide +kernel
theorem dX6_fast_70 : decode cX6_fast 70 = .ok (.iaload, 1) := by decide +kernel
theorem dX6_fast_71 : decode cX6_fast 71 = .ok (.ireturn, 1) := by decide +kernel
theorem dX6_who_0 : decode cX6_who 0 = .ok (.iload_n 1, 1) := by decide +kernel
theorem dX6_who_1 : decode cX6_who 1 = .ok (.invokestatic 177, 3) := by decide +kernel
theorem dX6_who_4 : decode cX6_who 4 = .ok (.ifCond .ne 5, 3) := by decide +kernel
theorem dX6_who_7 : decode cX6_who 7 = .ok (.iconst (-1), 1) := by decide +kernel
theorem dX6_who_8 : decode cX6_who 8 = .ok (.ireturn, 1) := by decide +kernel
theorem dX6_who_9 : decode cX6_who 9 = .ok (.iconst 0, 1) := by decide +kernel
theorem dX6_who_10 : decode cX6_who 10 = .ok (.istore_n 2, 1) := by decide +kernel
theorem dX6_who_11 : decode cX6_who 11 = .ok (.iconst 0, 1) := by decide +kernel
theorem dX6_who_12 : decode cX6_who 12 = .ok (.istore_n 3, 1) := by decide +kernel
theorem dX6_who_13 : decode cX6_who 13 = .ok (.iload_n 3, 1) := by decide +kernel
theorem dX6_who_14 : decode cX6_who 14 = .ok (.aload_n 0, 1) := by decide +kernel
theorem dX6_who_15 : decode cX6_who 15 = .ok (.getfield 10, 3) := by decide +kernel
theorem dX6_who_18 : decode cX6_who 18 = .ok (.getfield 134, 3) := by decide +kernel
theorem dX6_who_21 : decode cX6_who 21 = .ok (.if_icmp .ge 31, 3) := by decide +kernel
theorem dX6_who_24 : decode cX6_who 24 = .ok (.aload_n 0, 1) := by decide +kernel
theorem dX6_who_25 : decode cX6_who 25 = .ok (.getfield 10, 3) := by decide +kernel
theorem dX6_who_28 : decode cX6_who 28 = .ok (.iload_n 3, 1) := by decide +kernel
theorem dX6_who_29 : decode cX6_who 29 = .ok (.aload_n 0, 1) := by decide +kernel
theorem dX6_who_30 : decode cX6_who 30 = .ok (.getfield 49, 3) := by decide +kernel
theorem dX6_who_33 : decode cX6_who 33 = .ok (.invokevirtual 171, 3) := by decide +kernel
theorem dX6_who_36 : decode cX6_who 36 = .ok (.iload_n 1, 1) := by decide +kernel
theorem dX6_who_37 : decode cX6_who 37 = .ok (.if_icmp .ne 9, 3) := by decide +kernel
theorem dX6_who_40 : decode cX6_who 40 = .ok (.iload_n 2, 1) := by decide +kernel
theorem dX6_who_41 : decode cX6_who 41 = .ok (.iconst 1, 1) := by decide +kernel
theorem dX6_who_42 : decode cX6_who 42 = .ok (.iload_n 3, 1) := by decide +kernel
theorem dX6_who_43 : decode cX6_who 43 = .ok (.ishl, 1) := by decide +kernel
theorem dX6_who_44 : decode cX6_who 44 = .ok (.ior, 1) := by decide +kernel
theorem dX6_who_45 : decode cX6_who 45 = .ok (.istore_n 2, 1) := by decide +kernel
theorem dX6_who_46 : decode cX6_who 46 = .ok (.iinc 3 1, 3) := by decide +kernel
theorem dX6_who_49 : decode cX6_who 49 = .ok (.goto (-36), 3) := by decide +kernel
theorem dX6_who_52 : decode cX6_who 52 = .ok (.iload_n 2, 1) := by decide +kernel
theorem dX6_who_53 : decode cX6_who 53 = .ok (.ireturn, 1) := by decide +kernel
theorem dX6_waxes_0 : decode cX6_waxes 0 = .ok (.aload_n 0, 1) := by decide +kernel
theorem dX6_waxes_1 : decode cX6_waxes 1 = .ok (.getfield 10, 3) := by decide +kernel
theorem dX6_waxes_4 : decode cX6_waxes 4 = .ok (.iload_n 1, 1) := by decide +kernel
theorem dX6_waxes_5 : decode cX6_waxes 5 = .ok (.invokevirtual 82, 3) := by decide +kernel
theorem dX6_waxes_8 : decode cX6_waxes 8 = .ok (.ifCond .eq 10, 3) := by decide +kernel
theorem dX6_waxes_11 : decode cX6_waxes 11 = .ok (.iload_n 2, 1) := by decide +kernel
theorem dX6_waxes_12 : decode cX6_waxes 12 = .ok (.invokestatic 177, 3) := by decide +kernel
theorem dX6_waxes_15 : decode cX6_waxes 15 = .ok (.ifCond .ne 5, 3) := by decide +kernel
theorem dX6_waxes_18 : decode cX6_waxes 18 = .ok (.iconst (-1), 1) := by decide +kernel
theorem dX6_waxes_19 : decode cX6_waxes 19 = .ok (.ireturn, 1) := by decide +kernel
theorem dX6_waxes_20 : decode cX6_waxes 20 = .ok (.aload_n 0, 1) := by decide +kernel
theorem dX6_waxes_21 : decode cX6_waxes 21 = .ok (.getfield 10, 3) := by decide +kernel
theorem dX6_waxes_24 : decode cX6_waxes 24 = .ok (.iload_n 1, 1) := by decide +kernel
theorem dX6_waxes_25 : decode cX6_waxes 25 = .ok (.aload_n 0, 1) := by decide +kernel
theorem dX6_waxes_26 : decode cX6_waxes 26 = .ok (.getfield 49, 3) := by decide +kernel
theorem dX6_waxes_29 : decode cX6_waxes 29 = .ok (.invokevirtual 171, 3) := by decide +kernel
theorem dX6_waxes_32 : decode cX6_waxes 32 = .ok (.iload_n 2, 1) := by decide +kernel
theorem dX6_waxes_33 : decode cX6_waxes 33 = .ok (.if_icmp .ne 6, 3) := by decide +kernel
theorem dX6_waxes_36 : decode cX6_waxes 36 = .ok (.bipush 100, 2) := by decide +kernel
theorem dX6_waxes_38 : decode cX6_waxes 38 = .ok (.ireturn, 1) := by decide +kernel
theorem dX6_waxes_39 : decode cX6_waxes 39 = .ok (.aload_n 0, 1) := by decide +kernel
theorem dX6_waxes_40 : decode cX6_waxes 40 = .ok (.getfield 16, 3) := by decide +kernel
theorem dX6_waxes_43 : decode cX6_waxes 43 = .ok (.aload_n 0, 1) := by decide +kernel
theorem dX6_waxes_44 : decode cX6_waxes 44 = .ok (.getfield 10, 3) := by decide +kernel
theorem dX6_waxes_47 : decode cX6_waxes 47 = .ok (.invokevirtual 130, 3) := by decide +kernel
theorem dX6_waxes_50 : decode cX6_waxes 50 = .ok (.iconst 0, 1) := by decide +kernel
theorem dX6_waxes_51 : decode cX6_waxes 51 = .ok (.istore_n 3, 1) := by decide +kernel
theorem dX6_waxes_52 : decode cX6_waxes 52 = .ok (.iload_n 3, 1) := by decide +kernel
theorem dX6_waxes_53 : decode cX6_waxes 53 = .ok (.bipush 10, 2) := by decide +kernel
theorem dX6_waxes_55 : decode cX6_waxes 55 = .ok (.if_icmp .ge 33, 3) := by decide +kernel
theorem dX6_waxes_58 : decode cX6_waxes 58 = .ok (.aload_n 0, 1) := by decide +kernel
theorem dX6_waxes_59 : decode cX6_waxes 59 = .ok (.iload_n 1, 1) := by decide +kernel
theorem dX6_waxes_60 : decode cX6_waxes 60 = .ok (.iload_n 3, 1) := by decide +kernel
theorem dX6_waxes_61 : decode cX6_waxes 61 = .ok (.iload_n 2, 1) := by decide +kernel
theorem dX6_waxes_62 : decode cX6_waxes 62 = .ok (.invokevirtual 180, 3) := by decide +kernel
theorem dX6_waxes_65 : decode cX6_waxes 65 = .ok (.istore 4, 2) := by decide +kernel
theorem dX6_waxes_67 : decode cX6_waxes 67 = .ok (.iload 4, 2) := by decide +kernel
theorem dX6_waxes_69 : decode cX6_waxes 69 = .ok (.bipush (-4), 2) := by decide +kernel
theorem dX6_waxes_71 : decode cX6_waxes 71 = .ok (.if_icmp .eq 11, 3) := by decide +kernel
theorem dX6_waxes_74 : decode cX6_waxes 74 = .ok (.bipush 10, 2) := by decide +kernel
theorem dX6_waxes_76 : decode cX6_waxes 76 = .ok (.iload_n 3, 1) := by decide +kernel
theorem dX6_waxes_77 : decode cX6_waxes 77 = .ok (.imul, 1) := by decide +kernel
theorem dX6_waxes_78 : decode cX6_waxes 78 = .ok (.iload 4, 2) := by decide +kernel
theorem dX6_waxes_80 : decode cX6_waxes 80 = .ok (.iadd, 1) := by decide +kernel
theorem dX6_waxes_81 : decode cX6_waxes 81 = .ok (.ireturn, 1) := by decide +kernel
theorem dX6_waxes_82 : decode cX6_waxes 82 = .ok (.iinc 3 1, 3) := by decide +kernel
theorem dX6_waxes_85 : decode cX6_waxes 85 = .ok (.goto (-33), 3) := by decide +kernel
theorem dX6_waxes_88 : decode cX6_waxes 88 = .ok (.bipush (-4), 2) := by decide +kernel
theorem dX6_waxes_90 : decode cX6_waxes 90 = .ok (.ireturn, 1) := by decide +kernel
theorem dX6_firstWaxFor_0 : decode cX6_firstWaxFor 0 = .ok (.aload_n 0, 1) := by decide +kernel
theorem dX6_firstWaxFor_1 : decode cX6_firstWaxFor 1 = .ok (.getfield 16, 3) := by decide +kernel
theorem dX6_firstWaxFor_4 : decode cX6_firstWaxFor 4 = .ok (.getfield 101, 3) := by decide +kernel
theorem dX6_firstWaxFor_7 : decode cX6_firstWaxFor 7 = .ok (.iload_n 2, 1) := by decide +kernel
theorem dX6_firstWaxFor_8 : decode cX6_firstWaxFor 8 = .ok (.iaload, 1) := by decide +kernel
theorem dX6_firstWaxFor_9 : decode cX6_firstWaxFor 9 = .ok (.istore 4, 2) := by decide +kernel
theorem dX6_firstWaxFor_11 : decode cX6_firstWaxFor 11 = .ok (.bipush (-4), 2) := by decide +kernel
theorem dX6_firstWaxFor_13 : decode cX6_firstWaxFor 13 = .ok (.istore 5, 2) := by decide +kernel
theorem dX6_firstWaxFor_15 : decode cX6_firstWaxFor 15 = .ok (.iconst 0, 1) := by decide +kernel
theorem dX6_firstWaxFor_16 : decode cX6_firstWaxFor 16 = .ok (.istore 6, 2) := by decide +kernel
theorem dX6_firstWaxFor_18 : decode cX6_firstWaxFor 18 = .ok (.iload 6, 2) := by decide +kernel
theorem dX6_firstWaxFor_20 : decode cX6_firstWaxFor 20 = .ok (.bipush 9, 2) := by decide +kernel
theorem dX6_firstWaxFor_22 : decode cX6_firstWaxFor 22 = .ok (.if_icmp .gt 47, 3) := by decide +kernel
theorem dX6_firstWaxFor_25 : decode cX6_firstWaxFor 25 = .ok (.iload 5, 2) := by decide +kernel
theorem dX6_firstWaxFor_27 : decode cX6_firstWaxFor 27 = .ok (.bipush (-4), 2) := by decide +kernel
theorem dX6_firstWaxFor_29 : decode cX6_firstWaxFor 29 = .ok (.if_icmp .ne 40, 3) := by decide +kernel
theorem dX6_firstWaxFor_32 : decode cX6_firstWaxFor 32 = .ok (.aload_n 0, 1) := by decide +kernel
theorem dX6_firstWaxFor_33 : decode cX6_firstWaxFor 33 = .ok (.getfield 16, 3) := by decide +kernel
theorem dX6_firstWaxFor_36 : decode cX6_firstWaxFor 36 = .ok (.getfield 101, 3) := by decide +kernel
theorem dX6_firstWaxFor_39 : decode cX6_firstWaxFor 39 = .ok (.iload_n 2, 1) := by decide +kernel
theorem dX6_firstWaxFor_40 : decode cX6_firstWaxFor 40 = .ok (.iload 6, 2) := by decide +kernel
theorem dX6_firstWaxFor_42 : decode cX6_firstWaxFor 42 = .ok (.iastore, 1) := by decide +kernel
theorem dX6_firstWaxFor_43 : decode cX6_firstWaxFor 43 = .ok (.aload_n 0, 1) := by decide +kernel
theorem dX6_firstWaxFor_44 : decode cX6_firstWaxFor 44 = .ok (.getfield 16, 3) := by decide +kernel
theorem dX6_firstWaxFor_47 : decode cX6_firstWaxFor 47 = .ok (.iload_n 1, 1) := by decide +kernel
theorem dX6_firstWaxFor_48 : decode cX6_firstWaxFor 48 = .ok (.aload_n 0, 1) := by decide +kernel
theorem dX6_firstWaxFor_49 : decode cX6_firstWaxFor 49 = .ok (.getfield 49, 3) := by decide +kernel
theorem dX6_firstWaxFor_52 : decode cX6_firstWaxFor 52 = .ok (.invokevirtual 171, 3) := by decide +kernel
theorem dX6_firstWaxFor_55 : decode cX6_firstWaxFor 55 = .ok (.iload_n 3, 1) := by decide +kernel
theorem dX6_firstWaxFor_56 : decode cX6_firstWaxFor 56 = .ok (.if_icmp .ne 7, 3) := by decide +kernel
theorem dX6_firstWaxFor_59 : decode cX6_firstWaxFor 59 = .ok (.iload 6, 2) := by decide +kernel
theorem dX6_firstWaxFor_61 : decode cX6_firstWaxFor 61 = .ok (.istore 5, 2) := by decide +kernel
theorem dX6_firstWaxFor_63 : decode cX6_firstWaxFor 63 = .ok (.iinc 6 1, 3) := by decide +kernel
theorem dX6_firstWaxFor_66 : decode cX6_firstWaxFor 66 = .ok (.goto (-48), 3) := by decide +kernel
theorem dX6_firstWaxFor_69 : decode cX6_firstWaxFor 69 = .ok (.aload_n 0, 1) := by decide +kernel
theorem dX6_firstWaxFor_70 : decode cX6_firstWaxFor 70 = .ok (.getfield 16, 3) := by decide +kernel
theorem dX6_firstWaxFor_73 : decode cX6_firstWaxFor 73 = .ok (.getfield 101, 3) := by decide +kernel
theorem dX6_firstWaxFor_76 : decode cX6_firstWaxFor 76 = .ok (.iload_n 2, 1) := by decide +kernel
theorem dX6_firstWaxFor_77 : decode cX6_firstWaxFor 77 = .ok (.iload 4, 2) := by decide +kernel
theorem dX6_firstWaxFor_79 : decode cX6_firstWaxFor 79 = .ok (.iastore, 1) := by decide +kernel
theorem dX6_firstWaxFor_80 : decode cX6_firstWaxFor 80 = .ok (.iload 5, 2) := by decide +kernel
theorem dX6_firstWaxFor_82 : decode cX6_firstWaxFor 82 = .ok (.ireturn, 1) := by decide +kernel
theorem dX6_may_0 : decode cX6_may 0 = .ok (.aload_n 0, 1) := by decide +kernel
theorem dX6_may_1 : decode cX6_may 1 = .ok (.getfield 10, 3) := by decide +kernel
theorem dX6_may_4 : decode cX6_may 4 = .ok (.iload_n 1, 1) := by decide +kernel
theorem dX6_may_5 : decode cX6_may 5 = .ok (.invokevirtual 82, 3) := by decide +kernel
theorem dX6_may_8 : decode cX6_may 8 = .ok (.ifCond .eq 10, 3) := by decide +kernel
theorem dX6_may_11 : decode cX6_may 11 = .ok (.iload_n 2, 1) := by decide +kernel
theorem dX6_may_12 : decode cX6_may 12 = .ok (.invokestatic 98, 3) := by decide +kernel
theorem dX6_may_15 : decode cX6_may 15 = .ok (.ifCond .ne 5, 3) := by decide +kernel
theorem dX6_may_18 : decode cX6_may 18 = .ok (.iconst (-1), 1) := by decide +kernel
theorem dX6_may_19 : decode cX6_may 19 = .ok (.ireturn, 1) := by decide +kernel
theorem dX6_may_20 : decode cX6_may 20 = .ok (.aload_n 0, 1) := by decide +kernel
theorem dX6_may_21 : decode cX6_may 21 = .ok (.getfield 16, 3) := by decide +kernel
theorem dX6_may_24 : decode cX6_may 24 = .ok (.aload_n 0, 1) := by decide +kernel
theorem dX6_may_25 : decode cX6_may 25 = .ok (.getfield 10, 3) := by decide +kernel
theorem dX6_may_28 : decode cX6_may 28 = .ok (.invokevirtual 130, 3) := by decide +kernel
theorem dX6_may_31 : decode cX6_may 31 = .ok (.iconst 0, 1) := by decide +kernel
theorem dX6_may_32 : decode cX6_may 32 = .ok (.istore_n 3, 1) := by decide +kernel
theorem dX6_may_33 : decode cX6_may 33 = .ok (.iconst 0, 1) := by decide +kernel
theorem dX6_may_34 : decode cX6_may 34 = .ok (.istore 4, 2) := by decide +kernel
theorem dX6_may_36 : decode cX6_may 36 = .ok (.iload 4, 2) := by decide +kernel
theorem dX6_may_38 : decode cX6_may 38 = .ok (.bipush 9, 2) := by decide +kernel
theorem dX6_may_40 : decode cX6_may 40 = .ok (.if_icmp .gt 49, 3) := by decide +kernel
theorem dX6_may_43 : decode cX6_may 43 = .ok (.aload_n 0, 1) := by decide +kernel
theorem dX6_may_44 : decode cX6_may 44 = .ok (.getfield 16, 3) := by decide +kernel
theorem dX6_may_47 : decode cX6_may 47 = .ok (.getfield 101, 3) := by decide +kernel
theorem dX6_may_50 : decode cX6_may 50 = .ok (.iload_n 2, 1) := by decide +kernel
theorem dX6_may_51 : decode cX6_may 51 = .ok (.iload 4, 2) := by decide +kernel
theorem dX6_may_53 : decode cX6_may 53 = .ok (.iastore, 1) := by decide +kernel
theorem dX6_may_54 : decode cX6_may 54 = .ok (.aload_n 0, 1) := by decide +kernel
theorem dX6_may_55 : decode cX6_may 55 = .ok (.getfield 16, 3) := by decide +kernel
theorem dX6_may_58 : decode cX6_may 58 = .ok (.iload_n 1, 1) := by decide +kernel
theorem dX6_may_59 : decode cX6_may 59 = .ok (.aload_n 0, 1) := by decide +kernel
theorem dX6_may_60 : decode cX6_may 60 = .ok (.getfield 49, 3) := by decide +kernel
theorem dX6_may_63 : decode cX6_may 63 = .ok (.invokevirtual 171, 3) := by decide +kernel
theorem dX6_may_66 : decode cX6_may 66 = .ok (.istore 5, 2) := by decide +kernel
theorem dX6_may_68 : decode cX6_may 68 = .ok (.iload 5, 2) := by decide +kernel
theorem dX6_may_70 : decode cX6_may 70 = .ok (.invokestatic 177, 3) := by decide +kernel
theorem dX6_may_73 : decode cX6_may 73 = .ok (.ifCond .eq 10, 3) := by decide +kernel
theorem dX6_may_76 : decode cX6_may 76 = .ok (.iload_n 3, 1) := by decide +kernel
theorem dX6_may_77 : decode cX6_may 77 = .ok (.iconst 1, 1) := by decide +kernel
theorem dX6_may_78 : decode cX6_may 78 = .ok (.iload 5, 2) := by decide +kernel
theorem dX6_may_80 : decode cX6_may 80 = .ok (.ishl, 1) := by decide +kernel
theorem dX6_may_81 : decode cX6_may 81 = .ok (.ior, 1) := by decide +kernel
theorem dX6_may_82 : decode cX6_may 82 = .ok (.istore_n 3, 1) := by decide +kernel
theorem dX6_may_83 : decode cX6_may 83 = .ok (.iinc 4 1, 3) := by decide +kernel
theorem dX6_may_86 : decode cX6_may 86 = .ok (.goto (-50), 3) := by decide +kernel
theorem dX6_may_89 : decode cX6_may 89 = .ok (.iload_n 3, 1) := by decide +kernel
theorem dX6_may_90 : decode cX6_may 90 = .ok (.ireturn, 1) := by decide +kernel
theorem dX6_weight_0 : decode cX6_weight 0 = .ok (.aload_n 0, 1) := by decide +kernel
theorem dX6_weight_1 : decode cX6_weight 1 = .ok (.getfield 10, 3) := by decide +kernel
theorem dX6_weight_4 : decode cX6_weight 4 = .ok (.iload_n 1, 1) := by decide +kernel
theorem dX6_weight_5 : decode cX6_weight 5 = .ok (.invokevirtual 82, 3) := by decide +kernel
theorem dX6_weight_8 : decode cX6_weight 8 = .ok (.ifCond .ne 5, 3) := by decide +kernel
theorem dX6_weight_11 : decode cX6_weight 11 = .ok (.iconst (-1), 1) := by decide +kernel
theorem dX6_weight_12 : decode cX6_weight 12 = .ok (.ireturn, 1) := by decide +kernel
theorem dX6_weight_13 : decode cX6_weight 13 = .ok (.aload_n 0, 1) := by decide +kernel
theorem dX6_weight_14 : decode cX6_weight 14 = .ok (.getfield 16, 3) := by decide +kernel
theorem dX6_weight_17 : decode cX6_weight 17 = .ok (.aload_n 0, 1) := by decide +kernel
theorem dX6_weight_18 : decode cX6_weight 18 = .ok (.getfield 10, 3) := by decide +kernel
theorem dX6_weight_21 : decode cX6_weight 21 = .ok (.invokevirtual 130, 3) := by decide +kernel
theorem dX6_weight_24 : decode cX6_weight 24 = .ok (.iconst 1, 1) := by decide +kernel
theorem dX6_weight_25 : decode cX6_weight 25 = .ok (.istore_n 2, 1) := by decide +kernel
theorem dX6_weight_26 : decode cX6_weight 26 = .ok (.iload_n 2, 1) := by decide +kernel
theorem dX6_weight_27 : decode cX6_weight 27 = .ok (.bipush 20, 2) := by decide +kernel
theorem dX6_weight_29 : decode cX6_weight 29 = .ok (.if_icmp .gt 39, 3) := by decide +kernel
theorem dX6_weight_32 : decode cX6_weight 32 = .ok (.aload_n 0, 1) := by decide +kernel
theorem dX6_weight_33 : decode cX6_weight 33 = .ok (.getfield 16, 3) := by decide +kernel
theorem dX6_weight_36 : decode cX6_weight 36 = .ok (.getfield 92, 3) := by decide +kernel
theorem dX6_weight_39 : decode cX6_weight 39 = .ok (.iload_n 1, 1) := by decide +kernel
theorem dX6_weight_40 : decode cX6_weight 40 = .ok (.iload_n 2, 1) := by decide +kernel
theorem dX6_weight_41 : decode cX6_weight 41 = .ok (.iastore, 1) := by decide +kernel
theorem dX6_weight_42 : decode cX6_weight 42 = .ok (.aload_n 0, 1) := by decide +kernel
theorem dX6_weight_43 : decode cX6_weight 43 = .ok (.getfield 16, 3) := by decide +kernel
theorem dX6_weight_46 : decode cX6_weight 46 = .ok (.iload_n 1, 1) := by decide +kernel
theorem dX6_weight_47 : decode cX6_weight 47 = .ok (.aload_n 0, 1) := by decide +kernel
theorem dX6_weight_48 : decode cX6_weight 48 = .ok (.getfield 49, 3) := by decide +kernel
theorem dX6_weight_51 : decode cX6_weight 51 = .ok (.invokevirtual 171, 3) := by decide +kernel
theorem dX6_weight_54 : decode cX6_weight 54 = .ok (.invokestatic 177, 3) := by decide +kernel
theorem dX6_weight_57 : decode cX6_weight 57 = .ok (.ifCond .eq 5, 3) := by decide +kernel
theorem dX6_weight_60 : decode cX6_weight 60 = .ok (.iload_n 2, 1) := by decide +kernel
theorem dX6_weight_61 : decode cX6_weight 61 = .ok (.ireturn, 1) := by decide +kernel
theorem dX6_weight_62 : decode cX6_weight 62 = .ok (.iinc 2 1, 3) := by decide +kernel
theorem dX6_weight_65 : decode cX6_weight 65 = .ok (.goto (-39), 3) := by decide +kernel
theorem dX6_weight_68 : decode cX6_weight 68 = .ok (.bipush (-4), 2) := by decide +kernel
theorem dX6_weight_70 : decode cX6_weight 70 = .ok (.ireturn, 1) := by decide +kernel
theorem dX6_bump_0 : decode cX6_bump 0 = .ok (.iload_n 1, 1) := by decide +kernel
theorem dX6_bump_1 : decode cX6_bump 1 = .ok (.iconst 0, 1) := by decide +kernel
theorem dX6_bump_2 : decode cX6_bump 2 = .ok (.iconst 1, 1) := by decide +kernel
theorem dX6_bump_3 : decode cX6_bump 3 = .ok (.invokestatic 71, 3) := by decide +kernel
theorem dX6_bump_6 : decode cX6_bump 6 = .ok (.ifCond .ne 5, 3) := by decide +kernel
theorem dX6_bump_9 : decode cX6_bump 9 = .ok (.iconst (-1), 1) := by decide +kernel
theorem dX6_bump_10 : decode cX6_bump 10 = .ok (.ireturn, 1) := by decide +kernel
theorem dX6_bump_11 : decode cX6_bump 11 = .ok (.aload_n 0, 1) := by decide +kernel
theorem dX6_bump_12 : decode cX6_bump 12 = .ok (.getfield 16, 3) := by decide +kernel
theorem dX6_bump_15 : decode cX6_bump 15 = .ok (.aload_n 0, 1) := by decide +kernel
theorem dX6_bump_16 : decode cX6_bump 16 = .ok (.getfield 10, 3) := by decide +kernel
theorem dX6_bump_19 : decode cX6_bump 19 = .ok (.invokevirtual 130, 3) := by decide +kernel
theorem dX6_bump_22 : decode cX6_bump 22 = .ok (.iconst 0, 1) := by decide +kernel
theorem dX6_bump_23 : decode cX6_bump 23 = .ok (.istore_n 2, 1) := by decide +kernel
theorem dX6_bump_24 : decode cX6_bump 24 = .ok (.iconst (-1), 1) := by decide +kernel
theorem dX6_bump_25 : decode cX6_bump 25 = .ok (.istore_n 3, 1) := by decide +kernel
theorem dX6_bump_26 : decode cX6_bump 26 = .ok (.iconst 0, 1) := by decide +kernel
theorem dX6_bump_27 : decode cX6_bump 27 = .ok (.istore 4, 2) := by decide +kernel
theorem dX6_bump_29 : decode cX6_bump 29 = .ok (.iload 4, 2) := by decide +kernel
theorem dX6_bump_31 : decode cX6_bump 31 = .ok (.bipush 10, 2) := by decide +kernel
theorem dX6_bump_33 : decode cX6_bump 33 = .ok (.if_icmp .ge 29, 3) := by decide +kernel
theorem dX6_bump_36 : decode cX6_bump 36 = .ok (.aload_n 0, 1) := by decide +kernel
theorem dX6_bump_37 : decode cX6_bump 37 = .ok (.iload 4, 2) := by decide +kernel
theorem dX6_bump_39 : decode cX6_bump 39 = .ok (.invokevirtual 183, 3) := by decide +kernel
theorem dX6_bump_42 : decode cX6_bump 42 = .ok (.istore 5, 2) := by decide +kernel
theorem dX6_bump_44 : decode cX6_bump 44 = .ok (.iload 5, 2) := by decide +kernel
theorem dX6_bump_46 : decode cX6_bump 46 = .ok (.iload_n 3, 1) := by decide +kernel
theorem dX6_bump_47 : decode cX6_bump 47 = .ok (.if_icmp .le 9, 3) := by decide +kernel
theorem dX6_bump_50 : decode cX6_bump 50 = .ok (.iload 5, 2) := by decide +kernel
theorem dX6_bump_52 : decode cX6_bump 52 = .ok (.istore_n 3, 1) := by decide +kernel
theorem dX6_bump_53 : decode cX6_bump 53 = .ok (.iload 4, 2) := by decide +kernel
theorem dX6_bump_55 : decode cX6_bump 55 = .ok (.istore_n 2, 1) := by decide +kernel
theorem dX6_bump_56 : decode cX6_bump 56 = .ok (.iinc 4 1, 3) := by decide +kernel
theorem dX6_bump_59 : decode cX6_bump 59 = .ok (.goto (-30), 3) := by decide +kernel
theorem dX6_bump_62 : decode cX6_bump 62 = .ok (.iload_n 1, 1) := by decide +kernel
theorem dX6_bump_63 : decode cX6_bump 63 = .ok (.ifCond .ne 7, 3) := by decide +kernel
theorem dX6_bump_66 : decode cX6_bump 66 = .ok (.iload_n 2, 1) := by decide +kernel
theorem dX6_bump_67 : decode cX6_bump 67 = .ok (.goto 4, 3) := by decide +kernel
theorem dX6_bump_70 : decode cX6_bump 70 = .ok (.iload_n 3, 1) := by decide +kernel
theorem dX6_bump_71 : decode cX6_bump 71 = .ok (.ireturn, 1) := by decide +kernel
theorem dX6_throughWithoutBump_0 : decode cX6_throughWithoutBump 0 = .ok (.aload_n 0, 1) := by decide +kernel
theorem dX6_throughWithoutBump_1 : decode cX6_throughWithoutBump 1 = .ok (.getfield 16, 3) := by decide +kernel
theorem dX6_throughWithoutBump_4 : decode cX6_throughWithoutBump 4 = .ok (.getfield 104, 3) := by decide +kernel
theorem dX6_throughWithoutBump_7 : decode cX6_throughWithoutBump 7 = .ok (.iload_n 1, 1) := by decide +kernel
theorem dX6_throughWithoutBump_8 : decode cX6_throughWithoutBump 8 = .ok (.iaload, 1) := by decide +kernel
theorem dX6_throughWithoutBump_9 : decode cX6_throughWithoutBump 9 = .ok (.istore_n 2, 1) := by decide +kernel
theorem dX6_throughWithoutBump_10 : decode cX6_throughWithoutBump 10 = .ok (.aload_n 0, 1) := by decide +kernel
theorem dX6_throughWithoutBump_11 : decode cX6_throughWithoutBump 11 = .ok (.getfield 16, 3) := by decide +kernel
theorem dX6_throughWithoutBump_14 : decode cX6_throughWithoutBump 14 = .ok (.getfield 104, 3) := by decide +kernel
theorem dX6_throughWithoutBump_17 : decode cX6_throughWithoutBump 17 = .ok (.iload_n 1, 1) := by decide +kernel
theorem dX6_throughWithoutBump_18 : decode cX6_throughWithoutBump 18 = .ok (.iconst 0, 1) := by decide +kernel
theorem dX6_throughWithoutBump_19 : decode cX6_throughWithoutBump 19 = .ok (.iastore, 1) := by decide +kernel
theorem dX6_throughWithoutBump_20 : decode cX6_throughWithoutBump 20 = .ok (.iconst 0, 1) := by decide +kernel
theorem dX6_throughWithoutBump_21 : decode cX6_throughWithoutBump 21 = .ok (.istore_n 3, 1) := by decide +kernel
theorem dX6_throughWithoutBump_22 : decode cX6_throughWithoutBump 22 = .ok (.iconst 0, 1) := by decide +kernel
theorem dX6_throughWithoutBump_23 : decode cX6_throughWithoutBump 23 = .ok (.istore 4, 2) := by decide +kernel
theorem dX6_throughWithoutBump_25 : decode cX6_throughWithoutBump 25 = .ok (.iload 4, 2) := by decide +kernel
theorem dX6_throughWithoutBump_27 : decode cX6_throughWithoutBump 27 = .ok (.aload_n 0, 1) := by decide +kernel
theorem dX6_throughWithoutBump_28 : decode cX6_throughWithoutBump 28 = .ok (.getfield 16, 3) := by decide +kernel
theorem dX6_throughWithoutBump_31 : decode cX6_throughWithoutBump 31 = .ok (.getfield 134, 3) := by decide +kernel
theorem dX6_throughWithoutBump_34 : decode cX6_throughWithoutBump 34 = .ok (.if_icmp .ge 31, 3) := by decide +kernel
theorem dX6_throughWithoutBump_37 : decode cX6_throughWithoutBump 37 = .ok (.aload_n 0, 1) := by decide +kernel
theorem dX6_throughWithoutBump_38 : decode cX6_throughWithoutBump 38 = .ok (.getfield 16, 3) := by decide +kernel
theorem dX6_throughWithoutBump_41 : decode cX6_throughWithoutBump 41 = .ok (.iload 4, 2) := by decide +kernel
theorem dX6_throughWithoutBump_43 : decode cX6_throughWithoutBump 43 = .ok (.aload_n 0, 1) := by decide +kernel
theorem dX6_throughWithoutBump_44 : decode cX6_throughWithoutBump 44 = .ok (.getfield 49, 3) := by decide +kernel
theorem dX6_throughWithoutBump_47 : decode cX6_throughWithoutBump 47 = .ok (.invokevirtual 171, 3) := by decide +kernel
theorem dX6_throughWithoutBump_50 : decode cX6_throughWithoutBump 50 = .ok (.invokestatic 177, 3) := by decide +kernel
theorem dX6_throughWithoutBump_53 : decode cX6_throughWithoutBump 53 = .ok (.ifCond .eq 6, 3) := by decide +kernel
theorem dX6_throughWithoutBump_56 : decode cX6_throughWithoutBump 56 = .ok (.iinc 3 1, 3) := by decide +kernel
theorem dX6_throughWithoutBump_59 : decode cX6_throughWithoutBump 59 = .ok (.iinc 4 1, 3) := by decide +kernel
theorem dX6_throughWithoutBump_62 : decode cX6_throughWithoutBump 62 = .ok (.goto (-37), 3) := by decide +kernel
theorem dX6_throughWithoutBump_65 : decode cX6_throughWithoutBump 65 = .ok (.aload_n 0, 1) := by decide +kernel
theorem dX6_throughWithoutBump_66 : decode cX6_throughWithoutBump 66 = .ok (.getfield 16, 3) := by decide +kernel
theorem dX6_throughWithoutBump_69 : decode cX6_throughWithoutBump 69 = .ok (.getfield 104, 3) := by decide +kernel
theorem dX6_throughWithoutBump_72 : decode cX6_throughWithoutBump 72 = .ok (.iload_n 1, 1) := by decide +kernel
theorem dX6_throughWithoutBump_73 : decode cX6_throughWithoutBump 73 = .ok (.iload_n 2, 1) := by decide +kernel
theorem dX6_throughWithoutBump_74 : decode cX6_throughWithoutBump 74 = .ok (.iastore, 1) := by decide +kernel
theorem dX6_throughWithoutBump_75 : decode cX6_throughWithoutBump 75 = .ok (.iload_n 3, 1) := by decide +kernel
theorem dX6_throughWithoutBump_76 : decode cX6_throughWithoutBump 76 = .ok (.ireturn, 1) := by decide +kernel
theorem dX6_order_0 : decode cX6_order 0 = .ok (.iload_n 1, 1) := by decide +kernel
theorem dX6_order_1 : decode cX6_order 1 = .ok (.iconst (-1), 1) := by decide +kernel
theorem dX6_order_2 : decode cX6_order 2 = .ok (.if_icmp .ge 5, 3) := by decide +kernel
theorem dX6_order_5 : decode cX6_order 5 = .ok (.iconst (-1), 1) := by decide +kernel
theorem dX6_order_6 : decode cX6_order 6 = .ok (.ireturn, 1) := by decide +kernel
theorem dX6_order_7 : decode cX6_order 7 = .ok (.aload_n 0, 1) := by decide +kernel
theorem dX6_order_8 : decode cX6_order 8 = .ok (.invokevirtual 186, 3) := by decide +kernel
theorem dX6_order_11 : decode cX6_order 11 = .ok (.istore_n 2, 1) := by decide +kernel
theorem dX6_order_12 : decode cX6_order 12 = .ok (.iload_n 1, 1) := by decide +kernel
theorem dX6_order_13 : decode cX6_order 13 = .ok (.iconst (-1), 1) := by decide +kernel
theorem dX6_order_14 : decode cX6_order 14 = .ok (.if_icmp .ne 7, 3) := by decide +kernel
theorem dX6_order_17 : decode cX6_order 17 = .ok (.iload_n 2, 1) := by decide +kernel
theorem dX6_order_18 : decode cX6_order 18 = .ok (.goto 11, 3) := by decide +kernel
theorem dX6_order_21 : decode cX6_order 21 = .ok (.aload_n 0, 1) := by decide +kernel
theorem dX6_order_22 : decode cX6_order 22 = .ok (.getfield 60, 3) := by decide +kernel
theorem dX6_order_25 : decode cX6_order 25 = .ok (.iload_n 1, 1) := by decide +kernel
theorem dX6_order_26 : decode cX6_order 26 = .ok (.invokevirtual 189, 3) := by decide +kernel
theorem dX6_order_29 : decode cX6_order 29 = .ok (.ireturn, 1) := by decide +kernel
theorem dX6_findBestOrder_0 : decode cX6_findBestOrder 0 = .ok (.aload_n 0, 1) := by decide +kernel
theorem dX6_findBestOrder_1 : decode cX6_findBestOrder 1 = .ok (.getfield 56, 3) := by decide +kernel
theorem dX6_findBestOrder_4 : decode cX6_findBestOrder 4 = .ok (.aload_n 0, 1) := by decide +kernel
theorem dX6_findBestOrder_5 : decode cX6_findBestOrder 5 = .ok (.getfield 10, 3) := by decide +kernel
theorem dX6_findBestOrder_8 : decode cX6_findBestOrder 8 = .ok (.invokevirtual 192, 3) := by decide +kernel
theorem dX6_findBestOrder_11 : decode cX6_findBestOrder 11 = .ok (.iconst (-1), 1) := by decide +kernel
theorem dX6_findBestOrder_12 : decode cX6_findBestOrder 12 = .ok (.istore_n 1, 1) := by decide +kernel
theorem dX6_findBestOrder_13 : decode cX6_findBestOrder 13 = .ok (.iconst 1, 1) := by decide +kernel
theorem dX6_findBestOrder_14 : decode cX6_findBestOrder 14 = .ok (.istore_n 2, 1) := by decide +kernel
theorem dX6_findBestOrder_15 : decode cX6_findBestOrder 15 = .ok (.iconst 0, 1) := by decide +kernel
theorem dX6_findBestOrder_16 : decode cX6_findBestOrder 16 = .ok (.istore_n 3, 1) := by decide +kernel
theorem dX6_findBestOrder_17 : decode cX6_findBestOrder 17 = .ok (.iload_n 3, 1) := by decide +kernel
theorem dX6_findBestOrder_18 : decode cX6_findBestOrder 18 = .ok (.bipush 120, 2) := by decide +kernel
theorem dX6_findBestOrder_20 : decode cX6_findBestOrder 20 = .ok (.if_icmp .ge 51, 3) := by decide +kernel
theorem dX6_findBestOrder_23 : decode cX6_findBestOrder 23 = .ok (.iload_n 2, 1) := by decide +kernel
theorem dX6_findBestOrder_24 : decode cX6_findBestOrder 24 = .ok (.ifCond .eq 47, 3) := by decide +kernel
theorem dX6_findBestOrder_27 : decode cX6_findBestOrder 27 = .ok (.aload_n 0, 1) := by decide +kernel
theorem dX6_findBestOrder_28 : decode cX6_findBestOrder 28 = .ok (.aload_n 0, 1) := by decide +kernel
theorem dX6_findBestOrder_29 : decode cX6_findBestOrder 29 = .ok (.getfield 56, 3) := by decide +kernel
theorem dX6_findBestOrder_32 : decode cX6_findBestOrder 32 = .ok (.invokevirtual 195, 3) := by decide +kernel
theorem dX6_findBestOrder_35 : decode cX6_findBestOrder 35 = .ok (.istore 4, 2) := by decide +kernel
theorem dX6_findBestOrder_37 : decode cX6_findBestOrder 37 = .ok (.iload 4, 2) := by decide +kernel
theorem dX6_findBestOrder_39 : decode cX6_findBestOrder 39 = .ok (.iload_n 1, 1) := by decide +kernel
theorem dX6_findBestOrder_40 : decode cX6_findBestOrder 40 = .ok (.if_icmp .le 17, 3) := by decide +kernel
theorem dX6_findBestOrder_43 : decode cX6_findBestOrder 43 = .ok (.iload 4, 2) := by decide +kernel
theorem dX6_findBestOrder_45 : decode cX6_findBestOrder 45 = .ok (.istore_n 1, 1) := by decide +kernel
theorem dX6_findBestOrder_46 : decode cX6_findBestOrder 46 = .ok (.aload_n 0, 1) := by decide +kernel
theorem dX6_findBestOrder_47 : decode cX6_findBestOrder 47 = .ok (.getfield 60, 3) := by decide +kernel
theorem dX6_findBestOrder_50 : decode cX6_findBestOrder 50 = .ok (.aload_n 0, 1) := by decide +kernel
theorem dX6_findBestOrder_51 : decode cX6_findBestOrder 51 = .ok (.getfield 56, 3) := by decide +kernel
theorem dX6_findBestOrder_54 : decode cX6_findBestOrder 54 = .ok (.invokevirtual 199, 3) := by decide +kernel
theorem dX6_findBestOrder_57 : decode cX6_findBestOrder 57 = .ok (.aload_n 0, 1) := by decide +kernel
theorem dX6_findBestOrder_58 : decode cX6_findBestOrder 58 = .ok (.getfield 56, 3) := by decide +kernel
theorem dX6_findBestOrder_61 : decode cX6_findBestOrder 61 = .ok (.invokevirtual 202, 3) := by decide +kernel
theorem dX6_findBestOrder_64 : decode cX6_findBestOrder 64 = .ok (.istore_n 2, 1) := by decide +kernel
theorem dX6_findBestOrder_65 : decode cX6_findBestOrder 65 = .ok (.iinc 3 1, 3) := by decide +kernel
theorem dX6_findBestOrder_68 : decode cX6_findBestOrder 68 = .ok (.goto (-51), 3) := by decide +kernel
theorem dX6_findBestOrder_71 : decode cX6_findBestOrder 71 = .ok (.iload_n 1, 1) := by decide +kernel
theorem dX6_findBestOrder_72 : decode cX6_findBestOrder 72 = .ok (.ireturn, 1) := by decide +kernel
theorem dX6_throughBy_0 : decode cX6_throughBy 0 = .ok (.aload_n 0, 1) := by decide +kernel
theorem dX6_throughBy_1 : decode cX6_throughBy 1 = .ok (.getfield 16, 3) := by decide +kernel
theorem dX6_throughBy_4 : decode cX6_throughBy 4 = .ok (.aload_n 0, 1) := by decide +kernel
theorem dX6_throughBy_5 : decode cX6_throughBy 5 = .ok (.getfield 10, 3) := by decide +kernel
theorem dX6_throughBy_8 : decode cX6_throughBy 8 = .ok (.invokevirtual 130, 3) := by decide +kernel
theorem dX6_throughBy_11 : decode cX6_throughBy 11 = .ok (.iconst 0, 1) := by decide +kernel
theorem dX6_throughBy_12 : decode cX6_throughBy 12 = .ok (.istore_n 2, 1) := by decide +kernel
theorem dX6_throughBy_13 : decode cX6_throughBy 13 = .ok (.iload_n 2, 1) := by decide +kernel
theorem dX6_throughBy_14 : decode cX6_throughBy 14 = .ok (.aload_n 1, 1) := by decide +kernel
theorem dX6_throughBy_15 : decode cX6_throughBy 15 = .ok (.getfield 206, 3) := by decide +kernel
theorem dX6_throughBy_18 : decode cX6_throughBy 18 = .ok (.if_icmp .ge 26, 3) := by decide +kernel
theorem dX6_throughBy_21 : decode cX6_throughBy 21 = .ok (.aload_n 0, 1) := by decide +kernel
theorem dX6_throughBy_22 : decode cX6_throughBy 22 = .ok (.getfield 16, 3) := by decide +kernel
theorem dX6_throughBy_25 : decode cX6_throughBy 25 = .ok (.aload_n 1, 1) := by decide +kernel
theorem dX6_throughBy_26 : decode cX6_throughBy 26 = .ok (.iload_n 2, 1) := by decide +kernel
theorem dX6_throughBy_27 : decode cX6_throughBy 27 = .ok (.invokevirtual 189, 3) := by decide +kernel
theorem dX6_throughBy_30 : decode cX6_throughBy 30 = .ok (.aload_n 0, 1) := by decide +kernel
theorem dX6_throughBy_31 : decode cX6_throughBy 31 = .ok (.getfield 49, 3) := by decide +kernel
theorem dX6_throughBy_34 : decode cX6_throughBy 34 = .ok (.invokevirtual 160, 3) := by decide +kernel
theorem dX6_throughBy_37 : decode cX6_throughBy 37 = .ok (.pop, 1) := by decide +kernel
theorem dX6_throughBy_38 : decode cX6_throughBy 38 = .ok (.iinc 2 1, 3) := by decide +kernel
theorem dX6_throughBy_41 : decode cX6_throughBy 41 = .ok (.goto (-28), 3) := by decide +kernel
theorem dX6_throughBy_44 : decode cX6_throughBy 44 = .ok (.aload_n 0, 1) := by decide +kernel
theorem dX6_throughBy_45 : decode cX6_throughBy 45 = .ok (.getfield 16, 3) := by decide +kernel
theorem dX6_throughBy_48 : decode cX6_throughBy 48 = .ok (.invokevirtual 144, 3) := by decide +kernel
theorem dX6_throughBy_51 : decode cX6_throughBy 51 = .ok (.invokestatic 209, 3) := by decide +kernel
theorem dX6_throughBy_54 : decode cX6_throughBy 54 = .ok (.ireturn, 1) := by decide +kernel
theorem dX6_rain_0 : decode cX6_rain 0 = .ok (.aload_n 0, 1) := by decide +kernel
theorem dX6_rain_1 : decode cX6_rain 1 = .ok (.getfield 10, 3) := by decide +kernel
theorem dX6_rain_4 : decode cX6_rain 4 = .ok (.iload_n 1, 1) := by decide +kernel
theorem dX6_rain_5 : decode cX6_rain 5 = .ok (.invokevirtual 82, 3) := by decide +kernel
theorem dX6_rain_8 : decode cX6_rain 8 = .ok (.ifCond .eq 22, 3) := by decide +kernel
theorem dX6_rain_11 : decode cX6_rain 11 = .ok (.iload_n 2, 1) := by decide +kernel
theorem dX6_rain_12 : decode cX6_rain 12 = .ok (.iconst 0, 1) := by decide +kernel
theorem dX6_rain_13 : decode cX6_rain 13 = .ok (.bipush 10, 2) := by decide +kernel
theorem dX6_rain_15 : decode cX6_rain 15 = .ok (.invokestatic 71, 3) := by decide +kernel
theorem dX6_rain_18 : decode cX6_rain 18 = .ok (.ifCond .eq 12, 3) := by decide +kernel
theorem dX6_rain_21 : decode cX6_rain 21 = .ok (.iload_n 3, 1) := by decide +kernel
theorem dX6_rain_22 : decode cX6_rain 22 = .ok (.iconst 0, 1) := by decide +kernel
theorem dX6_rain_23 : decode cX6_rain 23 = .ok (.iconst 1, 1) := by decide +kernel
theorem dX6_rain_24 : decode cX6_rain 24 = .ok (.invokestatic 71, 3) := by decide +kernel
theorem dX6_rain_27 : decode cX6_rain 27 = .ok (.ifCond .ne 7, 3) := by decide +kernel
theorem dX6_rain_30 : decode cX6_rain 30 = .ok (.ldc2_w 214, 3) := by decide +kernel
theorem dX6_rain_33 : decode cX6_rain 33 = .ok (.lreturn, 1) := by decide +kernel
theorem dX6_rain_34 : decode cX6_rain 34 = .ok (.aload_n 0, 1) := by decide +kernel
theorem dX6_rain_35 : decode cX6_rain 35 = .ok (.getfield 66, 3) := by decide +kernel
theorem dX6_rain_38 : decode cX6_rain 38 = .ok (.aload_n 0, 1) := by decide +kernel
theorem dX6_rain_39 : decode cX6_rain 39 = .ok (.getfield 10, 3) := by decide +kernel
theorem dX6_rain_42 : decode cX6_rain 42 = .ok (.iload_n 1, 1) := by decide +kernel
theorem dX6_rain_43 : decode cX6_rain 43 = .ok (.iload_n 2, 1) := by decide +kernel
theorem dX6_rain_44 : decode cX6_rain 44 = .ok (.invokevirtual 216, 3) := by decide +kernel
theorem dX6_rain_47 : decode cX6_rain 47 = .ok (.lstore 4, 2) := by decide +kernel
theorem dX6_rain_49 : decode cX6_rain 49 = .ok (.ldc2_w 220, 3) := by decide +kernel
theorem dX6_rain_52 : decode cX6_rain 52 = .ok (.lstore 6, 2) := by decide +kernel
theorem dX6_rain_54 : decode cX6_rain 54 = .ok (.iconst 0, 1) := by decide +kernel
theorem dX6_rain_55 : decode cX6_rain 55 = .ok (.istore 8, 2) := by decide +kernel
theorem dX6_rain_57 : decode cX6_rain 57 = .ok (.iload 8, 2) := by decide +kernel
theorem dX6_rain_59 : decode cX6_rain 59 = .ok (.bipush 10, 2) := by decide +kernel
theorem dX6_rain_61 : decode cX6_rain 61 = .ok (.if_icmp .ge 63, 3) := by decide +kernel
theorem dX6_rain_64 : decode cX6_rain 64 = .ok (.lload 4, 2) := by decide +kernel
theorem dX6_rain_66 : decode cX6_rain 66 = .ok (.ldc2_w 222, 3) := by decide +kernel
theorem dX6_rain_69 : decode cX6_rain 69 = .ok (.lrem, 1) := by decide +kernel
theorem dX6_rain_70 : decode cX6_rain 70 = .ok (.lconst 0, 1) := by decide +kernel
theorem dX6_rain_71 : decode cX6_rain 71 = .ok (.lcmp, 1) := by decide +kernel
theorem dX6_rain_72 : decode cX6_rain 72 = .ok (.ifCond .ne 19, 3) := by decide +kernel
theorem dX6_rain_75 : decode cX6_rain 75 = .ok (.lload 4, 2) := by decide +kernel
theorem dX6_rain_77 : decode cX6_rain 77 = .ok (.ldc2_w 222, 3) := by decide +kernel
theorem dX6_rain_80 : decode cX6_rain 80 = .ok (.ldiv, 1) := by decide +kernel
theorem dX6_rain_81 : decode cX6_rain 81 = .ok (.lstore 4, 2) := by decide +kernel
theorem dX6_rain_83 : decode cX6_rain 83 = .ok (.lload 6, 2) := by decide +kernel
theorem dX6_rain_85 : decode cX6_rain 85 = .ok (.ldc2_w 222, 3) := by decide +kernel
theorem dX6_rain_88 : decode cX6_rain 88 = .ok (.ldiv, 1) := by decide +kernel
theorem dX6_rain_89 : decode cX6_rain 89 = .ok (.lstore 6, 2) := by decide +kernel
theorem dX6_rain_91 : decode cX6_rain 91 = .ok (.lload 4, 2) := by decide +kernel
theorem dX6_rain_93 : decode cX6_rain 93 = .ok (.ldc2_w 224, 3) := by decide +kernel
theorem dX6_rain_96 : decode cX6_rain 96 = .ok (.lrem, 1) := by decide +kernel
theorem dX6_rain_97 : decode cX6_rain 97 = .ok (.lconst 0, 1) := by decide +kernel
theorem dX6_rain_98 : decode cX6_rain 98 = .ok (.lcmp, 1) := by decide +kernel
theorem dX6_rain_99 : decode cX6_rain 99 = .ok (.ifCond .ne 19, 3) := by decide +kernel
theorem dX6_rain_102 : decode cX6_rain 102 = .ok (.lload 4, 2) := by decide +kernel
theorem dX6_rain_104 : decode cX6_rain 104 = .ok (.ldc2_w 224, 3) := by decide +kernel
theorem dX6_rain_107 : decode cX6_rain 107 = .ok (.ldiv, 1) := by decide +kernel
theorem dX6_rain_108 : decode cX6_rain 108 = .ok (.lstore 4, 2) := by decide +kernel
theorem dX6_rain_110 : decode cX6_rain 110 = .ok (.lload 6, 2) := by decide +kernel
theorem dX6_rain_112 : decode cX6_rain 112 = .ok (.ldc2_w 224, 3) := by decide +kernel
theorem dX6_rain_115 : decode cX6_rain 115 = .ok (.ldiv, 1) := by decide +kernel
theorem dX6_rain_116 : decode cX6_rain 116 = .ok (.lstore 6, 2) := by decide +kernel
theorem dX6_rain_118 : decode cX6_rain 118 = .ok (.iinc 8 1, 3) := by decide +kernel
theorem dX6_rain_121 : decode cX6_rain 121 = .ok (.goto (-64), 3) := by decide +kernel
theorem dX6_rain_124 : decode cX6_rain 124 = .ok (.iload_n 3, 1) := by decide +kernel
theorem dX6_rain_125 : decode cX6_rain 125 = .ok (.ifCond .ne 8, 3) := by decide +kernel
theorem dX6_rain_128 : decode cX6_rain 128 = .ok (.lload 4, 2) := by decide +kernel
theorem dX6_rain_130 : decode cX6_rain 130 = .ok (.goto 5, 3) := by decide +kernel
theorem dX6_rain_133 : decode cX6_rain 133 = .ok (.lload 6, 2) := by decide +kernel
theorem dX6_rain_135 : decode cX6_rain 135 = .ok (.lreturn, 1) := by decide +kernel
theorem dX6_image_0 : decode cX6_image 0 = .ok (.aload_n 0, 1) := by decide +kernel
theorem dX6_image_1 : decode cX6_image 1 = .ok (.getfield 26, 3) := by decide +kernel
theorem dX6_image_4 : decode cX6_image 4 = .ok (.aload_n 0, 1) := by decide +kernel
theorem dX6_image_5 : decode cX6_image 5 = .ok (.getfield 10, 3) := by decide +kernel
theorem dX6_image_8 : decode cX6_image 8 = .ok (.invokevirtual 130, 3) := by decide +kernel
theorem dX6_image_11 : decode cX6_image 11 = .ok (.aload_n 0, 1) := by decide +kernel
theorem dX6_image_12 : decode cX6_image 12 = .ok (.getfield 29, 3) := by decide +kernel
theorem dX6_image_15 : decode cX6_image 15 = .ok (.aload_n 0, 1) := by decide +kernel
theorem dX6_image_16 : decode cX6_image 16 = .ok (.getfield 22, 3) := by decide +kernel
theorem dX6_image_19 : decode cX6_image 19 = .ok (.invokevirtual 226, 3) := by decide +kernel
theorem dX6_image_22 : decode cX6_image 22 = .ok (.aload_n 0, 1) := by decide +kernel
theorem dX6_image_23 : decode cX6_image 23 = .ok (.iconst 1, 1) := by decide +kernel
theorem dX6_image_24 : decode cX6_image 24 = .ok (.putfield 32, 3) := by decide +kernel
theorem dX6_image_27 : decode cX6_image 27 = .ok (.iconst 1, 1) := by decide +kernel
theorem dX6_image_28 : decode cX6_image 28 = .ok (.ireturn, 1) := by decide +kernel
theorem dX6_restore_0 : decode cX6_restore 0 = .ok (.aload_n 0, 1) := by decide +kernel
theorem dX6_restore_1 : decode cX6_restore 1 = .ok (.getfield 32, 3) := by decide +kernel
theorem dX6_restore_4 : decode cX6_restore 4 = .ok (.ifCond .ne 6, 3) := by decide +kernel
theorem dX6_restore_7 : decode cX6_restore 7 = .ok (.bipush (-4), 2) := by decide +kernel
theorem dX6_restore_9 : decode cX6_restore 9 = .ok (.ireturn, 1) := by decide +kernel
theorem dX6_restore_10 : decode cX6_restore 10 = .ok (.aload_n 0, 1) := by decide +kernel
theorem dX6_restore_11 : decode cX6_restore 11 = .ok (.getfield 10, 3) := by decide +kernel
theorem dX6_restore_14 : decode cX6_restore 14 = .ok (.aload_n 0, 1) := by decide +kernel
theorem dX6_restore_15 : decode cX6_restore 15 = .ok (.getfield 26, 3) := by decide +kernel
theorem dX6_restore_18 : decode cX6_restore 18 = .ok (.invokevirtual 130, 3) := by decide +kernel
theorem dX6_restore_21 : decode cX6_restore 21 = .ok (.aload_n 0, 1) := by decide +kernel
theorem dX6_restore_22 : decode cX6_restore 22 = .ok (.getfield 22, 3) := by decide +kernel
theorem dX6_restore_25 : decode cX6_restore 25 = .ok (.aload_n 0, 1) := by decide +kernel
theorem dX6_restore_26 : decode cX6_restore 26 = .ok (.getfield 29, 3) := by decide +kernel
theorem dX6_restore_29 : decode cX6_restore 29 = .ok (.invokevirtual 226, 3) := by decide +kernel
theorem dX6_restore_32 : decode cX6_restore 32 = .ok (.iconst 1, 1) := by decide +kernel
theorem dX6_restore_33 : decode cX6_restore 33 = .ok (.ireturn, 1) := by decide +kernel
theorem dX6_clocked_0 : decode cX6_clocked 0 = .ok (.aload_n 0, 1) := by decide +kernel
theorem dX6_clocked_1 : decode cX6_clocked 1 = .ok (.getfield 10, 3) := by decide +kernel
theorem dX6_clocked_4 : decode cX6_clocked 4 = .ok (.iload_n 1, 1) := by decide +kernel
theorem dX6_clocked_5 : decode cX6_clocked 5 = .ok (.invokevirtual 82, 3) := by decide +kernel
theorem dX6_clocked_8 : decode cX6_clocked 8 = .ok (.ifCond .eq 48, 3) := by decide +kernel
theorem dX6_clocked_11 : decode cX6_clocked 11 = .ok (.iload_n 2, 1) := by decide +kernel
theorem dX6_clocked_12 : decode cX6_clocked 12 = .ok (.invokestatic 98, 3) := by decide +kernel
theorem dX6_clocked_15 : decode cX6_clocked 15 = .ok (.ifCond .eq 41, 3) := by decide +kernel
theorem dX6_clocked_18 : decode cX6_clocked 18 = .ok (.iload 6, 2) := by decide +kernel
theorem dX6_clocked_20 : decode cX6_clocked 20 = .ok (.iconst 1, 1) := by decide +kernel
theorem dX6_clocked_21 : decode cX6_clocked 21 = .ok (.bipush 10, 2) := by decide +kernel
theorem dX6_clocked_23 : decode cX6_clocked 23 = .ok (.iload_n 2, 1) := by decide +kernel
theorem dX6_clocked_24 : decode cX6_clocked 24 = .ok (.isub, 1) := by decide +kernel
theorem dX6_clocked_25 : decode cX6_clocked 25 = .ok (.invokestatic 71, 3) := by decide +kernel
theorem dX6_clocked_28 : decode cX6_clocked 28 = .ok (.ifCond .eq 28, 3) := by decide +kernel
theorem dX6_clocked_31 : decode cX6_clocked 31 = .ok (.iload_n 3, 1) := by decide +kernel
theorem dX6_clocked_32 : decode cX6_clocked 32 = .ok (.invokestatic 229, 3) := by decide +kernel
theorem dX6_clocked_35 : decode cX6_clocked 35 = .ok (.ifCond .eq 21, 3) := by decide +kernel
theorem dX6_clocked_38 : decode cX6_clocked 38 = .ok (.iload 4, 2) := by decide +kernel
theorem dX6_clocked_40 : decode cX6_clocked 40 = .ok (.invokestatic 232, 3) := by decide +kernel
theorem dX6_clocked_43 : decode cX6_clocked 43 = .ok (.ifCond .eq 13, 3) := by decide +kernel
theorem dX6_clocked_46 : decode cX6_clocked 46 = .ok (.iload 7, 2) := by decide +kernel
theorem dX6_clocked_48 : decode cX6_clocked 48 = .ok (.iconst 0, 1) := by decide +kernel
theorem dX6_clocked_49 : decode cX6_clocked 49 = .ok (.iconst 1, 1) := by decide +kernel
theorem dX6_clocked_50 : decode cX6_clocked 50 = .ok (.invokestatic 71, 3) := by decide +kernel
theorem dX6_clocked_53 : decode cX6_clocked 53 = .ok (.ifCond .ne 5, 3) := by decide +kernel
theorem dX6_clocked_56 : decode cX6_clocked 56 = .ok (.iconst (-1), 1) := by decide +kernel
theorem dX6_clocked_57 : decode cX6_clocked 57 = .ok (.ireturn, 1) := by decide +kernel
theorem dX6_clocked_58 : decode cX6_clocked 58 = .ok (.aload_n 0, 1) := by decide +kernel
theorem dX6_clocked_59 : decode cX6_clocked 59 = .ok (.getfield 45, 3) := by decide +kernel
theorem dX6_clocked_62 : decode cX6_clocked 62 = .ok (.iload_n 3, 1) := by decide +kernel
theorem dX6_clocked_63 : decode cX6_clocked 63 = .ok (.aaload, 1) := by decide +kernel
theorem dX6_clocked_64 : decode cX6_clocked 64 = .ok (.astore 8, 2) := by decide +kernel
theorem dX6_clocked_66 : decode cX6_clocked 66 = .ok (.aload 8, 2) := by decide +kernel
theorem dX6_clocked_68 : decode cX6_clocked 68 = .ok (.iload 4, 2) := by decide +kernel
theorem dX6_clocked_70 : decode cX6_clocked 70 = .ok (.iload 5, 2) := by decide +kernel
theorem dX6_clocked_72 : decode cX6_clocked 72 = .ok (.iload 6, 2) := by decide +kernel
theorem dX6_clocked_74 : decode cX6_clocked 74 = .ok (.invokevirtual 235, 3) := by decide +kernel
theorem dX6_clocked_77 : decode cX6_clocked 77 = .ok (.istore 9, 2) := by decide +kernel
theorem dX6_clocked_79 : decode cX6_clocked 79 = .ok (.iload 9, 2) := by decide +kernel
theorem dX6_clocked_81 : decode cX6_clocked 81 = .ok (.ifCond .eq 6, 3) := by decide +kernel
theorem dX6_clocked_84 : decode cX6_clocked 84 = .ok (.iload 9, 2) := by decide +kernel
theorem dX6_clocked_86 : decode cX6_clocked 86 = .ok (.ireturn, 1) := by decide +kernel
theorem dX6_clocked_87 : decode cX6_clocked 87 = .ok (.iload 7, 2) := by decide +kernel
theorem dX6_clocked_89 : decode cX6_clocked 89 = .ok (.ifCond .ne 18, 3) := by decide +kernel
theorem dX6_clocked_92 : decode cX6_clocked 92 = .ok (.aload_n 0, 1) := by decide +kernel
theorem dX6_clocked_93 : decode cX6_clocked 93 = .ok (.iload_n 1, 1) := by decide +kernel
theorem dX6_clocked_94 : decode cX6_clocked 94 = .ok (.iload_n 2, 1) := by decide +kernel
theorem dX6_clocked_95 : decode cX6_clocked 95 = .ok (.aload 8, 2) := by decide +kernel
theorem dX6_clocked_97 : decode cX6_clocked 97 = .ok (.iload 5, 2) := by decide +kernel
theorem dX6_clocked_99 : decode cX6_clocked 99 = .ok (.iload 6, 2) := by decide +kernel
theorem dX6_clocked_101 : decode cX6_clocked 101 = .ok (.invokevirtual 238, 3) := by decide +kernel
theorem dX6_clocked_104 : decode cX6_clocked 104 = .ok (.goto 15, 3) := by decide +kernel
theorem dX6_clocked_107 : decode cX6_clocked 107 = .ok (.aload_n 0, 1) := by decide +kernel
theorem dX6_clocked_108 : decode cX6_clocked 108 = .ok (.iload_n 1, 1) := by decide +kernel
theorem dX6_clocked_109 : decode cX6_clocked 109 = .ok (.iload_n 2, 1) := by decide +kernel
theorem dX6_clocked_110 : decode cX6_clocked 110 = .ok (.aload 8, 2) := by decide +kernel
theorem dX6_clocked_112 : decode cX6_clocked 112 = .ok (.iload 5, 2) := by decide +kernel
theorem dX6_clocked_114 : decode cX6_clocked 114 = .ok (.iload 6, 2) := by decide +kernel
theorem dX6_clocked_116 : decode cX6_clocked 116 = .ok (.invokevirtual 242, 3) := by decide +kernel
theorem dX6_clocked_119 : decode cX6_clocked 119 = .ok (.ireturn, 1) := by decide +kernel
theorem dX6_kindsClocked_0 : decode cX6_kindsClocked 0 = .ok (.aload_n 0, 1) := by decide +kernel
theorem dX6_kindsClocked_1 : decode cX6_kindsClocked 1 = .ok (.getfield 16, 3) := by decide +kernel
theorem dX6_kindsClocked_4 : decode cX6_kindsClocked 4 = .ok (.aload_n 0, 1) := by decide +kernel
theorem dX6_kindsClocked_5 : decode cX6_kindsClocked 5 = .ok (.getfield 10, 3) := by decide +kernel
theorem dX6_kindsClocked_8 : decode cX6_kindsClocked 8 = .ok (.invokevirtual 130, 3) := by decide +kernel
theorem dX6_kindsClocked_11 : decode cX6_kindsClocked 11 = .ok (.iconst 0, 1) := by decide +kernel
theorem dX6_kindsClocked_12 : decode cX6_kindsClocked 12 = .ok (.istore 6, 2) := by decide +kernel
theorem dX6_kindsClocked_14 : decode cX6_kindsClocked 14 = .ok (.iconst 0, 1) := by decide +kernel
theorem dX6_kindsClocked_15 : decode cX6_kindsClocked 15 = .ok (.istore 7, 2) := by decide +kernel
theorem dX6_kindsClocked_17 : decode cX6_kindsClocked 17 = .ok (.iload 7, 2) := by decide +kernel
theorem dX6_kindsClocked_19 : decode cX6_kindsClocked 19 = .ok (.iconst 5, 1) := by decide +kernel
theorem dX6_kindsClocked_20 : decode cX6_kindsClocked 20 = .ok (.if_icmp .ge 58, 3) := by decide +kernel
theorem dX6_kindsClocked_23 : decode cX6_kindsClocked 23 = .ok (.aload_n 0, 1) := by decide +kernel
theorem dX6_kindsClocked_24 : decode cX6_kindsClocked 24 = .ok (.getfield 16, 3) := by decide +kernel
theorem dX6_kindsClocked_27 : decode cX6_kindsClocked 27 = .ok (.getfield 89, 3) := by decide +kernel
theorem dX6_kindsClocked_30 : decode cX6_kindsClocked 30 = .ok (.iload_n 1, 1) := by decide +kernel
theorem dX6_kindsClocked_31 : decode cX6_kindsClocked 31 = .ok (.iload 7, 2) := by decide +kernel
theorem dX6_kindsClocked_33 : decode cX6_kindsClocked 33 = .ok (.iastore, 1) := by decide +kernel
theorem dX6_kindsClocked_34 : decode cX6_kindsClocked 34 = .ok (.aload_n 0, 1) := by decide +kernel
theorem dX6_kindsClocked_35 : decode cX6_kindsClocked 35 = .ok (.getfield 16, 3) := by decide +kernel
theorem dX6_kindsClocked_38 : decode cX6_kindsClocked 38 = .ok (.iload_n 1, 1) := by decide +kernel
theorem dX6_kindsClocked_39 : decode cX6_kindsClocked 39 = .ok (.aload_n 0, 1) := by decide +kernel
theorem dX6_kindsClocked_40 : decode cX6_kindsClocked 40 = .ok (.getfield 49, 3) := by decide +kernel
theorem dX6_kindsClocked_43 : decode cX6_kindsClocked 43 = .ok (.invokevirtual 171, 3) := by decide +kernel
theorem dX6_kindsClocked_46 : decode cX6_kindsClocked 46 = .ok (.pop, 1) := by decide +kernel
theorem dX6_kindsClocked_47 : decode cX6_kindsClocked 47 = .ok (.aload_n 3, 1) := by decide +kernel
theorem dX6_kindsClocked_48 : decode cX6_kindsClocked 48 = .ok (.iload 4, 2) := by decide +kernel
theorem dX6_kindsClocked_50 : decode cX6_kindsClocked 50 = .ok (.aload_n 0, 1) := by decide +kernel
theorem dX6_kindsClocked_51 : decode cX6_kindsClocked 51 = .ok (.getfield 49, 3) := by decide +kernel
theorem dX6_kindsClocked_54 : decode cX6_kindsClocked 54 = .ok (.iload_n 2, 1) := by decide +kernel
theorem dX6_kindsClocked_55 : decode cX6_kindsClocked 55 = .ok (.iload 5, 2) := by decide +kernel
theorem dX6_kindsClocked_57 : decode cX6_kindsClocked 57 = .ok (.invokevirtual 245, 3) := by decide +kernel
theorem dX6_kindsClocked_60 : decode cX6_kindsClocked 60 = .ok (.ifCond .eq 12, 3) := by decide +kernel
theorem dX6_kindsClocked_63 : decode cX6_kindsClocked 63 = .ok (.iload 6, 2) := by decide +kernel
theorem dX6_kindsClocked_65 : decode cX6_kindsClocked 65 = .ok (.iconst 1, 1) := by decide +kernel
theorem dX6_kindsClocked_66 : decode cX6_kindsClocked 66 = .ok (.iload 7, 2) := by decide +kernel
theorem dX6_kindsClocked_68 : decode cX6_kindsClocked 68 = .ok (.ishl, 1) := by decide +kernel
theorem dX6_kindsClocked_69 : decode cX6_kindsClocked 69 = .ok (.ior, 1) := by decide +kernel
theorem dX6_kindsClocked_70 : decode cX6_kindsClocked 70 = .ok (.istore 6, 2) := by decide +kernel
theorem dX6_kindsClocked_72 : decode cX6_kindsClocked 72 = .ok (.iinc 7 1, 3) := by decide +kernel
theorem dX6_kindsClocked_75 : decode cX6_kindsClocked 75 = .ok (.goto (-58), 3) := by decide +kernel
theorem dX6_kindsClocked_78 : decode cX6_kindsClocked 78 = .ok (.iload 6, 2) := by decide +kernel
theorem dX6_kindsClocked_80 : decode cX6_kindsClocked 80 = .ok (.ireturn, 1) := by decide +kernel
theorem dX6_heaviesClocked_0 : decode cX6_heaviesClocked 0 = .ok (.aload_n 0, 1) := by decide +kernel
theorem dX6_heaviesClocked_1 : decode cX6_heaviesClocked 1 = .ok (.getfield 16, 3) := by decide +kernel
theorem dX6_heaviesClocked_4 : decode cX6_heaviesClocked 4 = .ok (.aload_n 0, 1) := by decide +kernel
theorem dX6_heaviesClocked_5 : decode cX6_heaviesClocked 5 = .ok (.getfield 10, 3) := by decide +kernel
theorem dX6_heaviesClocked_8 : decode cX6_heaviesClocked 8 = .ok (.invokevirtual 130, 3) := by decide +kernel
theorem dX6_heaviesClocked_11 : decode cX6_heaviesClocked 11 = .ok (.iconst 0, 1) := by decide +kernel
theorem dX6_heaviesClocked_12 : decode cX6_heaviesClocked 12 = .ok (.istore 6, 2) := by decide +kernel
theorem dX6_heaviesClocked_14 : decode cX6_heaviesClocked 14 = .ok (.iconst 1, 1) := by decide +kernel
theorem dX6_heaviesClocked_15 : decode cX6_heaviesClocked 15 = .ok (.istore 7, 2) := by decide +kernel
theorem dX6_heaviesClocked_17 : decode cX6_heaviesClocked 17 = .ok (.iload 7, 2) := by decide +kernel
theorem dX6_heaviesClocked_19 : decode cX6_heaviesClocked 19 = .ok (.bipush 20, 2) := by decide +kernel
theorem dX6_heaviesClocked_21 : decode cX6_heaviesClocked 21 = .ok (.if_icmp .gt 58, 3) := by decide +kernel
theorem dX6_heaviesClocked_24 : decode cX6_heaviesClocked 24 = .ok (.aload_n 0, 1) := by decide +kernel
theorem dX6_heaviesClocked_25 : decode cX6_heaviesClocked 25 = .ok (.getfield 16, 3) := by decide +kernel
theorem dX6_heaviesClocked_28 : decode cX6_heaviesClocked 28 = .ok (.getfield 92, 3) := by decide +kernel
theorem dX6_heaviesClocked_31 : decode cX6_heaviesClocked 31 = .ok (.iload_n 1, 1) := by decide +kernel
theorem dX6_heaviesClocked_32 : decode cX6_heaviesClocked 32 = .ok (.iload 7, 2) := by decide +kernel
theorem dX6_heaviesClocked_34 : decode cX6_heaviesClocked 34 = .ok (.iastore, 1) := by decide +kernel
theorem dX6_heaviesClocked_35 : decode cX6_heaviesClocked 35 = .ok (.aload_n 0, 1) := by decide +kernel
theorem dX6_heaviesClocked_36 : decode cX6_heaviesClocked 36 = .ok (.getfield 16, 3) := by decide +kernel
theorem dX6_heaviesClocked_39 : decode cX6_heaviesClocked 39 = .ok (.iload_n 1, 1) := by decide +kernel
theorem dX6_heaviesClocked_40 : decode cX6_heaviesClocked 40 = .ok (.aload_n 0, 1) := by decide +kernel
theorem dX6_heaviesClocked_41 : decode cX6_heaviesClocked 41 = .ok (.getfield 49, 3) := by decide +kernel
theorem dX6_heaviesClocked_44 : decode cX6_heaviesClocked 44 = .ok (.invokevirtual 171, 3) := by decide +kernel
theorem dX6_heaviesClocked_47 : decode cX6_heaviesClocked 47 = .ok (.pop, 1) := by decide +kernel
theorem dX6_heaviesClocked_48 : decode cX6_heaviesClocked 48 = .ok (.aload_n 3, 1) := by decide +kernel
theorem dX6_heaviesClocked_49 : decode cX6_heaviesClocked 49 = .ok (.iload 4, 2) := by decide +kernel
theorem dX6_heaviesClocked_51 : decode cX6_heaviesClocked 51 = .ok (.aload_n 0, 1) := by decide +kernel
theorem dX6_heaviesClocked_52 : decode cX6_heaviesClocked 52 = .ok (.getfield 49, 3) := by decide +kernel
theorem dX6_heaviesClocked_55 : decode cX6_heaviesClocked 55 = .ok (.iload_n 2, 1) := by decide +kernel
theorem dX6_heaviesClocked_56 : decode cX6_heaviesClocked 56 = .ok (.iload 5, 2) := by decide +kernel
theorem dX6_heaviesClocked_58 : decode cX6_heaviesClocked 58 = .ok (.invokevirtual 245, 3) := by decide +kernel
theorem dX6_heaviesClocked_61 : decode cX6_heaviesClocked 61 = .ok (.ifCond .eq 12, 3) := by decide +kernel
theorem dX6_heaviesClocked_64 : decode cX6_heaviesClocked 64 = .ok (.iload 6, 2) := by decide +kernel
theorem dX6_heaviesClocked_66 : decode cX6_heaviesClocked 66 = .ok (.iconst 1, 1) := by decide +kernel
theorem dX6_heaviesClocked_67 : decode cX6_heaviesClocked 67 = .ok (.iload 7, 2) := by decide +kernel
theorem dX6_heaviesClocked_69 : decode cX6_heaviesClocked 69 = .ok (.ishl, 1) := by decide +kernel
theorem dX6_heaviesClocked_70 : decode cX6_heaviesClocked 70 = .ok (.ior, 1) := by decide +kernel
theorem dX6_heaviesClocked_71 : decode cX6_heaviesClocked 71 = .ok (.istore 6, 2) := by decide +kernel
theorem dX6_heaviesClocked_73 : decode cX6_heaviesClocked 73 = .ok (.iinc 7 1, 3) := by decide +kernel
theorem dX6_heaviesClocked_76 : decode cX6_heaviesClocked 76 = .ok (.goto (-59), 3) := by decide +kernel
theorem dX6_heaviesClocked_79 : decode cX6_heaviesClocked 79 = .ok (.iload 6, 2) := by decide +kernel
theorem dX6_heaviesClocked_81 : decode cX6_heaviesClocked 81 = .ok (.ireturn, 1) := by decide +kernel
theorem dX6_film_0 : decode cX6_film 0 = .ok (.aload_n 0, 1) := by decide +kernel
theorem dX6_film_1 : decode cX6_film 1 = .ok (.getfield 10, 3) := by decide +kernel
theorem dX6_film_4 : decode cX6_film 4 = .ok (.iload_n 1, 1) := by decide +kernel
theorem dX6_film_5 : decode cX6_film 5 = .ok (.invokevirtual 82, 3) := by decide +kernel
theorem dX6_film_8 : decode cX6_film 8 = .ok (.ifCond .eq 28, 3) := by decide +kernel
theorem dX6_film_11 : decode cX6_film 11 = .ok (.iload_n 2, 1) := by decide +kernel
theorem dX6_film_12 : decode cX6_film 12 = .ok (.iconst 1, 1) := by decide +kernel
theorem dX6_film_13 : decode cX6_film 13 = .ok (.bipush 10, 2) := by decide +kernel
theorem dX6_film_15 : decode cX6_film 15 = .ok (.invokestatic 71, 3) := by decide +kernel
theorem dX6_film_18 : decode cX6_film 18 = .ok (.ifCond .eq 18, 3) := by decide +kernel
theorem dX6_film_21 : decode cX6_film 21 = .ok (.iload_n 3, 1) := by decide +kernel
theorem dX6_film_22 : decode cX6_film 22 = .ok (.invokestatic 229, 3) := by decide +kernel
theorem dX6_film_25 : decode cX6_film 25 = .ok (.ifCond .eq 11, 3) := by decide +kernel
theorem dX6_film_28 : decode cX6_film 28 = .ok (.iload 4, 2) := by decide +kernel
theorem dX6_film_30 : decode cX6_film 30 = .ok (.invokestatic 232, 3) := by decide +kernel
theorem dX6_film_33 : decode cX6_film 33 = .ok (.ifCond .ne 5, 3) := by decide +kernel
theorem dX6_film_36 : decode cX6_film 36 = .ok (.iconst (-1), 1) := by decide +kernel
theorem dX6_film_37 : decode cX6_film 37 = .ok (.ireturn, 1) := by decide +kernel
theorem dX6_film_38 : decode cX6_film 38 = .ok (.aload_n 0, 1) := by decide +kernel
theorem dX6_film_39 : decode cX6_film 39 = .ok (.getfield 45, 3) := by decide +kernel
theorem dX6_film_42 : decode cX6_film 42 = .ok (.iload_n 3, 1) := by decide +kernel
theorem dX6_film_43 : decode cX6_film 43 = .ok (.aaload, 1) := by decide +kernel
theorem dX6_film_44 : decode cX6_film 44 = .ok (.astore 6, 2) := by decide +kernel
theorem dX6_film_46 : decode cX6_film 46 = .ok (.aload 6, 2) := by decide +kernel
theorem dX6_film_48 : decode cX6_film 48 = .ok (.iload 4, 2) := by decide +kernel
theorem dX6_film_50 : decode cX6_film 50 = .ok (.iload 5, 2) := by decide +kernel
theorem dX6_film_52 : decode cX6_film 52 = .ok (.iload_n 2, 1) := by decide +kernel
theorem dX6_film_53 : decode cX6_film 53 = .ok (.invokevirtual 235, 3) := by decide +kernel
theorem dX6_film_56 : decode cX6_film 56 = .ok (.istore 7, 2) := by decide +kernel
theorem dX6_film_58 : decode cX6_film 58 = .ok (.iload 7, 2) := by decide +kernel
theorem dX6_film_60 : decode cX6_film 60 = .ok (.ifCond .eq 6, 3) := by decide +kernel
theorem dX6_film_63 : decode cX6_film 63 = .ok (.iload 7, 2) := by decide +kernel
theorem dX6_film_65 : decode cX6_film 65 = .ok (.ireturn, 1) := by decide +kernel
theorem dX6_film_66 : decode cX6_film 66 = .ok (.aload_n 0, 1) := by decide +kernel
theorem dX6_film_67 : decode cX6_film 67 = .ok (.getfield 10, 3) := by decide +kernel
theorem dX6_film_70 : decode cX6_film 70 = .ok (.iload_n 1, 1) := by decide +kernel
theorem dX6_film_71 : decode cX6_film 71 = .ok (.aload_n 0, 1) := by decide +kernel
theorem dX6_film_72 : decode cX6_film 72 = .ok (.getfield 49, 3) := by decide +kernel
theorem dX6_film_75 : decode cX6_film 75 = .ok (.invokevirtual 171, 3) := by decide +kernel
theorem dX6_film_78 : decode cX6_film 78 = .ok (.pop, 1) := by decide +kernel
theorem dX6_film_79 : decode cX6_film 79 = .ok (.iconst 0, 1) := by decide +kernel
theorem dX6_film_80 : decode cX6_film 80 = .ok (.istore 8, 2) := by decide +kernel
theorem dX6_film_82 : decode cX6_film 82 = .ok (.iload 8, 2) := by decide +kernel
theorem dX6_film_84 : decode cX6_film 84 = .ok (.iload_n 2, 1) := by decide +kernel
theorem dX6_film_85 : decode cX6_film 85 = .ok (.if_icmp .ge 27, 3) := by decide +kernel
theorem dX6_film_88 : decode cX6_film 88 = .ok (.aload 6, 2) := by decide +kernel
theorem dX6_film_90 : decode cX6_film 90 = .ok (.iload 5, 2) := by decide +kernel
theorem dX6_film_92 : decode cX6_film 92 = .ok (.iload 8, 2) := by decide +kernel
theorem dX6_film_94 : decode cX6_film 94 = .ok (.iadd, 1) := by decide +kernel
theorem dX6_film_95 : decode cX6_film 95 = .ok (.aload_n 0, 1) := by decide +kernel
theorem dX6_film_96 : decode cX6_film 96 = .ok (.getfield 49, 3) := by decide +kernel
theorem dX6_film_99 : decode cX6_film 99 = .ok (.iload 8, 2) := by decide +kernel
theorem dX6_film_101 : decode cX6_film 101 = .ok (.iaload, 1) := by decide +kernel
theorem dX6_film_102 : decode cX6_film 102 = .ok (.i2l, 1) := by decide +kernel
theorem dX6_film_103 : decode cX6_film 103 = .ok (.invokevirtual 249, 3) := by decide +kernel
theorem dX6_film_106 : decode cX6_film 106 = .ok (.iinc 8 1, 3) := by decide +kernel
theorem dX6_film_109 : decode cX6_film 109 = .ok (.goto (-27), 3) := by decide +kernel
theorem dX6_film_112 : decode cX6_film 112 = .ok (.iload_n 2, 1) := by decide +kernel
theorem dX6_film_113 : decode cX6_film 113 = .ok (.ireturn, 1) := by decide +kernel
theorem dX6_sheet_0 : decode cX6_sheet 0 = .ok (.iload_n 1, 1) := by decide +kernel
theorem dX6_sheet_1 : decode cX6_sheet 1 = .ok (.invokestatic 229, 3) := by decide +kernel
theorem dX6_sheet_4 : decode cX6_sheet 4 = .ok (.ifCond .eq 16, 3) := by decide +kernel
theorem dX6_sheet_7 : decode cX6_sheet 7 = .ok (.iload_n 2, 1) := by decide +kernel
theorem dX6_sheet_8 : decode cX6_sheet 8 = .ok (.invokestatic 232, 3) := by decide +kernel
theorem dX6_sheet_11 : decode cX6_sheet 11 = .ok (.ifCond .eq 9, 3) := by decide +kernel
theorem dX6_sheet_14 : decode cX6_sheet 14 = .ok (.iload_n 3, 1) := by decide +kernel
theorem dX6_sheet_15 : decode cX6_sheet 15 = .ok (.bipush 24, 2) := by decide +kernel
theorem dX6_sheet_17 : decode cX6_sheet 17 = .ok (.if_icmp .le 5, 3) := by decide +kernel
theorem dX6_sheet_20 : decode cX6_sheet 20 = .ok (.iconst (-1), 1) := by decide +kernel
theorem dX6_sheet_21 : decode cX6_sheet 21 = .ok (.ireturn, 1) := by decide +kernel
theorem dX6_sheet_22 : decode cX6_sheet 22 = .ok (.iload_n 3, 1) := by decide +kernel
theorem dX6_sheet_23 : decode cX6_sheet 23 = .ok (.ifCond .ge 6, 3) := by decide +kernel
theorem dX6_sheet_26 : decode cX6_sheet 26 = .ok (.bipush (-14), 2) := by decide +kernel
theorem dX6_sheet_28 : decode cX6_sheet 28 = .ok (.ireturn, 1) := by decide +kernel
theorem dX6_sheet_29 : decode cX6_sheet 29 = .ok (.aload_n 0, 1) := by decide +kernel
theorem dX6_sheet_30 : decode cX6_sheet 30 = .ok (.getfield 45, 3) := by decide +kernel
theorem dX6_sheet_33 : decode cX6_sheet 33 = .ok (.iload_n 1, 1) := by decide +kernel
theorem dX6_sheet_34 : decode cX6_sheet 34 = .ok (.aaload, 1) := by decide +kernel
theorem dX6_sheet_35 : decode cX6_sheet 35 = .ok (.iload_n 2, 1) := by decide +kernel
theorem dX6_sheet_36 : decode cX6_sheet 36 = .ok (.iload_n 3, 1) := by decide +kernel
theorem dX6_sheet_37 : decode cX6_sheet 37 = .ok (.invokevirtual 253, 3) := by decide +kernel
theorem dX6_sheet_40 : decode cX6_sheet 40 = .ok (.iload_n 3, 1) := by decide +kernel
theorem dX6_sheet_41 : decode cX6_sheet 41 = .ok (.ireturn, 1) := by decide +kernel
theorem dX6_drop_0 : decode cX6_drop 0 = .ok (.iload_n 1, 1) := by decide +kernel
theorem dX6_drop_1 : decode cX6_drop 1 = .ok (.invokestatic 229, 3) := by decide +kernel
theorem dX6_drop_4 : decode cX6_drop 4 = .ok (.ifCond .ne 5, 3) := by decide +kernel
theorem dX6_drop_7 : decode cX6_drop 7 = .ok (.iconst (-1), 1) := by decide +kernel
theorem dX6_drop_8 : decode cX6_drop 8 = .ok (.ireturn, 1) := by decide +kernel
theorem dX6_drop_9 : decode cX6_drop 9 = .ok (.aload_n 0, 1) := by decide +kernel
theorem dX6_drop_10 : decode cX6_drop 10 = .ok (.getfield 45, 3) := by decide +kernel
theorem dX6_drop_13 : decode cX6_drop 13 = .ok (.iload_n 1, 1) := by decide +kernel
theorem dX6_drop_14 : decode cX6_drop 14 = .ok (.aaload, 1) := by decide +kernel
theorem dX6_drop_15 : decode cX6_drop 15 = .ok (.astore_n 2, 1) := by decide +kernel
theorem dX6_drop_16 : decode cX6_drop 16 = .ok (.aload_n 2, 1) := by decide +kernel
theorem dX6_drop_17 : decode cX6_drop 17 = .ok (.invokevirtual 256, 3) := by decide +kernel
theorem dX6_drop_20 : decode cX6_drop 20 = .ok (.ifCond .eq 6, 3) := by decide +kernel
theorem dX6_drop_23 : decode cX6_drop 23 = .ok (.bipush (-11), 2) := by decide +kernel
theorem dX6_drop_25 : decode cX6_drop 25 = .ok (.ireturn, 1) := by decide +kernel
theorem dX6_drop_26 : decode cX6_drop 26 = .ok (.aload_n 2, 1) := by decide +kernel
theorem dX6_drop_27 : decode cX6_drop 27 = .ok (.getfield 259, 3) := by decide +kernel
theorem dX6_drop_30 : decode cX6_drop 30 = .ok (.istore_n 3, 1) := by decide +kernel
theorem dX6_drop_31 : decode cX6_drop 31 = .ok (.aload_n 2, 1) := by decide +kernel
theorem dX6_drop_32 : decode cX6_drop 32 = .ok (.invokevirtual 260, 3) := by decide +kernel
theorem dX6_drop_35 : decode cX6_drop 35 = .ok (.iload_n 3, 1) := by decide +kernel
theorem dX6_drop_36 : decode cX6_drop 36 = .ok (.ireturn, 1) := by decide +kernel
theorem dX6_within_0 : decode cX6_within 0 = .ok (.iload_n 0, 1) := by decide +kernel
theorem dX6_within_1 : decode cX6_within 1 = .ok (.iload_n 1, 1) := by decide +kernel
theorem dX6_within_2 : decode cX6_within 2 = .ok (.if_icmp .lt 12, 3) := by decide +kernel
theorem dX6_within_5 : decode cX6_within 5 = .ok (.iload_n 0, 1) := by decide +kernel
theorem dX6_within_6 : decode cX6_within 6 = .ok (.iload_n 2, 1) := by decide +kernel
theorem dX6_within_7 : decode cX6_within 7 = .ok (.if_icmp .gt 7, 3) := by decide +kernel
theorem dX6_within_10 : decode cX6_within 10 = .ok (.iconst 1, 1) := by decide +kernel
theorem dX6_within_11 : decode cX6_within 11 = .ok (.goto 4, 3) := by decide +kernel
theorem dX6_within_14 : decode cX6_within 14 = .ok (.iconst 0, 1) := by decide +kernel
theorem dX6_within_15 : decode cX6_within 15 = .ok (.ireturn, 1) := by decide +kernel
theorem dX6_isTurn_0 : decode cX6_isTurn 0 = .ok (.iload_n 0, 1) := by decide +kernel
theorem dX6_isTurn_1 : decode cX6_isTurn 1 = .ok (.iconst 0, 1) := by decide +kernel
theorem dX6_isTurn_2 : decode cX6_isTurn 2 = .ok (.bipush 9, 2) := by decide +kernel
theorem dX6_isTurn_4 : decode cX6_isTurn 4 = .ok (.invokestatic 71, 3) := by decide +kernel
theorem dX6_isTurn_7 : decode cX6_isTurn 7 = .ok (.ireturn, 1) := by decide +kernel
theorem dX6_isOutcome_0 : decode cX6_isOutcome 0 = .ok (.iload_n 0, 1) := by decide +kernel
theorem dX6_isOutcome_1 : decode cX6_isOutcome 1 = .ok (.iconst 0, 1) := by decide +kernel
theorem dX6_isOutcome_2 : decode cX6_isOutcome 2 = .ok (.bipush 7, 2) := by decide +kernel
theorem dX6_isOutcome_4 : decode cX6_isOutcome 4 = .ok (.invokestatic 71, 3) := by decide +kernel
theorem dX6_isOutcome_7 : decode cX6_isOutcome 7 = .ok (.ireturn, 1) := by decide +kernel
theorem dX6_isSheet_0 : decode cX6_isSheet 0 = .ok (.iload_n 0, 1) := by decide +kernel
theorem dX6_isSheet_1 : decode cX6_isSheet 1 = .ok (.iconst 0, 1) := by decide +kernel
theorem dX6_isSheet_2 : decode cX6_isSheet 2 = .ok (.iconst 3, 1) := by decide +kernel
theorem dX6_isSheet_3 : decode cX6_isSheet 3 = .ok (.invokestatic 71, 3) := by decide +kernel
theorem dX6_isSheet_6 : decode cX6_isSheet 6 = .ok (.ireturn, 1) := by decide +kernel
theorem dX6_isLane_0 : decode cX6_isLane 0 = .ok (.iload_n 0, 1) := by decide +kernel
theorem dX6_isLane_1 : decode cX6_isLane 1 = .ok (.iconst 0, 1) := by decide +kernel
theorem dX6_isLane_2 : decode cX6_isLane 2 = .ok (.iconst 3, 1) := by decide +kernel
theorem dX6_isLane_3 : decode cX6_isLane 3 = .ok (.invokestatic 71, 3) := by decide +kernel
theorem dX6_isLane_6 : decode cX6_isLane 6 = .ok (.ireturn, 1) := by decide +kernel
theorem dX6_sum_0 : decode cX6_sum 0 = .ok (.iconst 0, 1) := by decide +kernel
theorem dX6_sum_1 : decode cX6_sum 1 = .ok (.istore_n 1, 1) := by decide +kernel
theorem dX6_sum_2 : decode cX6_sum 2 = .ok (.iconst 0, 1) := by decide +kernel
theorem dX6_sum_3 : decode cX6_sum 3 = .ok (.istore_n 2, 1) := by decide +kernel
theorem dX6_sum_4 : decode cX6_sum 4 = .ok (.iload_n 2, 1) := by decide +kernel
theorem dX6_sum_5 : decode cX6_sum 5 = .ok (.aload_n 0, 1) := by decide +kernel
theorem dX6_sum_6 : decode cX6_sum 6 = .ok (.arraylength, 1) := by decide +kernel
theorem dX6_sum_7 : decode cX6_sum 7 = .ok (.if_icmp .ge 15, 3) := by decide +kernel
theorem dX6_sum_10 : decode cX6_sum 10 = .ok (.iload_n 1, 1) := by decide +kernel
theorem dX6_sum_11 : decode cX6_sum 11 = .ok (.aload_n 0, 1) := by decide +kernel
theorem dX6_sum_12 : decode cX6_sum 12 = .ok (.iload_n 2, 1) := by decide +kernel
theorem dX6_sum_13 : decode cX6_sum 13 = .ok (.iaload, 1) := by decide +kernel
theorem dX6_sum_14 : decode cX6_sum 14 = .ok (.iadd, 1) := by decide +kernel
theorem dX6_sum_15 : decode cX6_sum 15 = .ok (.istore_n 1, 1) := by decide +kernel
theorem dX6_sum_16 : decode cX6_sum 16 = .ok (.iinc 2 1, 3) := by decide +kernel
theorem dX6_sum_19 : decode cX6_sum 19 = .ok (.goto (-15), 3) := by decide +kernel
theorem dX6_sum_22 : decode cX6_sum 22 = .ok (.iload_n 1, 1) := by decide +kernel
theorem dX6_sum_23 : decode cX6_sum 23 = .ok (.ireturn, 1) := by decide +kernel
theorem dX6_firstOfGreatest_0 : decode cX6_firstOfGreatest 0 = .ok (.iconst 0, 1) := by decide +kernel
theorem dX6_firstOfGreatest_1 : decode cX6_firstOfGreatest 1 = .ok (.istore_n 1, 1) := by decide +kernel
theorem dX6_firstOfGreatest_2 : decode cX6_firstOfGreatest 2 = .ok (.iconst 1, 1) := by decide +kernel
theorem dX6_firstOfGreatest_3 : decode cX6_firstOfGreatest 3 = .ok (.istore_n 2, 1) := by decide +kernel
theorem dX6_firstOfGreatest_4 : decode cX6_firstOfGreatest 4 = .ok (.iload_n 2, 1) := by decide +kernel
theorem dX6_firstOfGreatest_5 : decode cX6_firstOfGreatest 5 = .ok (.aload_n 0, 1) := by decide +kernel
theorem dX6_firstOfGreatest_6 : decode cX6_firstOfGreatest 6 = .ok (.arraylength, 1) := by decide +kernel
theorem dX6_firstOfGreatest_7 : decode cX6_firstOfGreatest 7 = .ok (.if_icmp .ge 20, 3) := by decide +kernel
theorem dX6_firstOfGreatest_10 : decode cX6_firstOfGreatest 10 = .ok (.aload_n 0, 1) := by decide +kernel
theorem dX6_firstOfGreatest_11 : decode cX6_firstOfGreatest 11 = .ok (.iload_n 2, 1) := by decide +kernel
theorem dX6_firstOfGreatest_12 : decode cX6_firstOfGreatest 12 = .ok (.iaload, 1) := by decide +kernel
theorem dX6_firstOfGreatest_13 : decode cX6_firstOfGreatest 13 = .ok (.aload_n 0, 1) := by decide +kernel
theorem dX6_firstOfGreatest_14 : decode cX6_firstOfGreatest 14 = .ok (.iload_n 1, 1) := by decide +kernel
theorem dX6_firstOfGreatest_15 : decode cX6_firstOfGreatest 15 = .ok (.iaload, 1) := by decide +kernel
theorem dX6_firstOfGreatest_16 : decode cX6_firstOfGreatest 16 = .ok (.if_icmp .le 5, 3) := by decide +kernel
theorem dX6_firstOfGreatest_19 : decode cX6_firstOfGreatest 19 = .ok (.iload_n 2, 1) := by decide +kernel
theorem dX6_firstOfGreatest_20 : decode cX6_firstOfGreatest 20 = .ok (.istore_n 1, 1) := by decide +kernel
theorem dX6_firstOfGreatest_21 : decode cX6_firstOfGreatest 21 = .ok (.iinc 2 1, 3) := by decide +kernel
theorem dX6_firstOfGreatest_24 : decode cX6_firstOfGreatest 24 = .ok (.goto (-20), 3) := by decide +kernel
theorem dX6_firstOfGreatest_27 : decode cX6_firstOfGreatest 27 = .ok (.iload_n 1, 1) := by decide +kernel
theorem dX6_firstOfGreatest_28 : decode cX6_firstOfGreatest 28 = .ok (.ireturn, 1) := by decide +kernel
theorem dX6_copyRow_0 : decode cX6_copyRow 0 = .ok (.aload_n 0, 1) := by decide +kernel
theorem dX6_copyRow_1 : decode cX6_copyRow 1 = .ok (.iconst 0, 1) := by decide +kernel
theorem dX6_copyRow_2 : decode cX6_copyRow 2 = .ok (.aload_n 1, 1) := by decide +kernel
theorem dX6_copyRow_3 : decode cX6_copyRow 3 = .ok (.iconst 0, 1) := by decide +kernel
theorem dX6_copyRow_4 : decode cX6_copyRow 4 = .ok (.aload_n 0, 1) := by decide +kernel
theorem dX6_copyRow_5 : decode cX6_copyRow 5 = .ok (.arraylength, 1) := by decide +kernel
theorem dX6_copyRow_6 : decode cX6_copyRow 6 = .ok (.aload_n 1, 1) := by decide +kernel
theorem dX6_copyRow_7 : decode cX6_copyRow 7 = .ok (.arraylength, 1) := by decide +kernel
theorem dX6_copyRow_8 : decode cX6_copyRow 8 = .ok (.invokestatic 280, 3) := by decide +kernel
theorem dX6_copyRow_11 : decode cX6_copyRow 11 = .ok (.invokestatic 274, 3) := by decide +kernel
theorem dX6_copyRow_14 : decode cX6_copyRow 14 = .ok (.return_, 1) := by decide +kernel
theorem dJ6_bitCount_0f7a4_0 : decode cJ6_bitCount_0f7a4 0 = .ok (.iload_n 0, 1) := by decide +kernel
theorem dJ6_bitCount_0f7a4_1 : decode cJ6_bitCount_0f7a4 1 = .ok (.iload_n 0, 1) := by decide +kernel
theorem dJ6_bitCount_0f7a4_2 : decode cJ6_bitCount_0f7a4 2 = .ok (.iconst 1, 1) := by decide +kernel
theorem dJ6_bitCount_0f7a4_3 : decode cJ6_bitCount_0f7a4 3 = .ok (.iushr, 1) := by decide +kernel
theorem dJ6_bitCount_0f7a4_4 : decode cJ6_bitCount_0f7a4 4 = .ok (.ldc_w 265, 3) := by decide +kernel
theorem dJ6_bitCount_0f7a4_7 : decode cJ6_bitCount_0f7a4 7 = .ok (.iand, 1) := by decide +kernel
theorem dJ6_bitCount_0f7a4_8 : decode cJ6_bitCount_0f7a4 8 = .ok (.isub, 1) := by decide +kernel
theorem dJ6_bitCount_0f7a4_9 : decode cJ6_bitCount_0f7a4 9 = .ok (.istore_n 0, 1) := by decide +kernel
theorem dJ6_bitCount_0f7a4_10 : decode cJ6_bitCount_0f7a4 10 = .ok (.iload_n 0, 1) := by decide +kernel
theorem dJ6_bitCount_0f7a4_11 : decode cJ6_bitCount_0f7a4 11 = .ok (.ldc_w 266, 3) := by decide +kernel
theorem dJ6_bitCount_0f7a4_14 : decode cJ6_bitCount_0f7a4 14 = .ok (.iand, 1) := by decide +kernel
theorem dJ6_bitCount_0f7a4_15 : decode cJ6_bitCount_0f7a4 15 = .ok (.iload_n 0, 1) := by decide +kernel
theorem dJ6_bitCount_0f7a4_16 : decode cJ6_bitCount_0f7a4 16 = .ok (.iconst 2, 1) := by decide +kernel
theorem dJ6_bitCount_0f7a4_17 : decode cJ6_bitCount_0f7a4 17 = .ok (.iushr, 1) := by decide +kernel
theorem dJ6_bitCount_0f7a4_18 : decode cJ6_bitCount_0f7a4 18 = .ok (.ldc_w 266, 3) := by decide +kernel
theorem dJ6_bitCount_0f7a4_21 : decode cJ6_bitCount_0f7a4 21 = .ok (.iand, 1) := by decide +kernel
theorem dJ6_bitCount_0f7a4_22 : decode cJ6_bitCount_0f7a4 22 = .ok (.iadd, 1) := by decide +kernel
theorem dJ6_bitCount_0f7a4_23 : decode cJ6_bitCount_0f7a4 23 = .ok (.istore_n 0, 1) := by decide +kernel
theorem dJ6_bitCount_0f7a4_24 : decode cJ6_bitCount_0f7a4 24 = .ok (.iload_n 0, 1) := by decide +kernel
theorem dJ6_bitCount_0f7a4_25 : decode cJ6_bitCount_0f7a4 25 = .ok (.iload_n 0, 1) := by decide +kernel
theorem dJ6_bitCount_0f7a4_26 : decode cJ6_bitCount_0f7a4 26 = .ok (.iconst 4, 1) := by decide +kernel
theorem dJ6_bitCount_0f7a4_27 : decode cJ6_bitCount_0f7a4 27 = .ok (.iushr, 1) := by decide +kernel
theorem dJ6_bitCount_0f7a4_28 : decode cJ6_bitCount_0f7a4 28 = .ok (.iadd, 1) := by decide +kernel
theorem dJ6_bitCount_0f7a4_29 : decode cJ6_bitCount_0f7a4 29 = .ok (.ldc_w 267, 3) := by decide +kernel
theorem dJ6_bitCount_0f7a4_32 : decode cJ6_bitCount_0f7a4 32 = .ok (.iand, 1) := by decide +kernel
theorem dJ6_bitCount_0f7a4_33 : decode cJ6_bitCount_0f7a4 33 = .ok (.istore_n 0, 1) := by decide +kernel
theorem dJ6_bitCount_0f7a4_34 : decode cJ6_bitCount_0f7a4 34 = .ok (.iload_n 0, 1) := by decide +kernel
theorem dJ6_bitCount_0f7a4_35 : decode cJ6_bitCount_0f7a4 35 = .ok (.iload_n 0, 1) := by decide +kernel
theorem dJ6_bitCount_0f7a4_36 : decode cJ6_bitCount_0f7a4 36 = .ok (.bipush 8, 2) := by decide +kernel
theorem dJ6_bitCount_0f7a4_38 : decode cJ6_bitCount_0f7a4 38 = .ok (.iushr, 1) := by decide +kernel
theorem dJ6_bitCount_0f7a4_39 : decode cJ6_bitCount_0f7a4 39 = .ok (.iadd, 1) := by decide +kernel
theorem dJ6_bitCount_0f7a4_40 : decode cJ6_bitCount_0f7a4 40 = .ok (.istore_n 0, 1) := by decide +kernel
theorem dJ6_bitCount_0f7a4_41 : decode cJ6_bitCount_0f7a4 41 = .ok (.iload_n 0, 1) := by decide +kernel
theorem dJ6_bitCount_0f7a4_42 : decode cJ6_bitCount_0f7a4 42 = .ok (.iload_n 0, 1) := by decide +kernel
theorem dJ6_bitCount_0f7a4_43 : decode cJ6_bitCount_0f7a4 43 = .ok (.bipush 16, 2) := by decide +kernel
theorem dJ6_bitCount_0f7a4_45 : decode cJ6_bitCount_0f7a4 45 = .ok (.iushr, 1) := by decide +kernel
theorem dJ6_bitCount_0f7a4_46 : decode cJ6_bitCount_0f7a4 46 = .ok (.iadd, 1) := by decide +kernel
theorem dJ6_bitCount_0f7a4_47 : decode cJ6_bitCount_0f7a4 47 = .ok (.istore_n 0, 1) := by decide +kernel
theorem dJ6_bitCount_0f7a4_48 : decode cJ6_bitCount_0f7a4 48 = .ok (.iload_n 0, 1) := by decide +kernel
theorem dJ6_bitCount_0f7a4_49 : decode cJ6_bitCount_0f7a4 49 = .ok (.bipush 63, 2) := by decide +kernel
theorem dJ6_bitCount_0f7a4_51 : decode cJ6_bitCount_0f7a4 51 = .ok (.iand, 1) := by decide +kernel
theorem dJ6_bitCount_0f7a4_52 : decode cJ6_bitCount_0f7a4 52 = .ok (.ireturn, 1) := by decide +kernel
theorem dJ9_max_7cf53_0 : decode cJ9_max_7cf53 0 = .ok (.iload_n 0, 1) := by decide +kernel
theorem dJ9_max_7cf53_1 : decode cJ9_max_7cf53 1 = .ok (.iload_n 1, 1) := by decide +kernel
theorem dJ9_max_7cf53_2 : decode cJ9_max_7cf53 2 = .ok (.if_icmp .lt 7, 3) := by decide +kernel
theorem dJ9_max_7cf53_5 : decode cJ9_max_7cf53 5 = .ok (.iload_n 0, 1) := by decide +kernel
theorem dJ9_max_7cf53_6 : decode cJ9_max_7cf53 6 = .ok (.goto 4, 3) := by decide +kernel
theorem dJ9_max_7cf53_9 : decode cJ9_max_7cf53 9 = .ok (.iload_n 1, 1) := by decide +kernel
theorem dJ9_max_7cf53_10 : decode cJ9_max_7cf53 10 = .ok (.ireturn, 1) := by decide +kernel
theorem dJ9_min_7cf53_0 : decode cJ9_min_7cf53 0 = .ok (.iload_n 0, 1) := by decide +kernel
theorem dJ9_min_7cf53_1 : decode cJ9_min_7cf53 1 = .ok (.iload_n 1, 1) := by decide +kernel
theorem dJ9_min_7cf53_2 : decode cJ9_min_7cf53 2 = .ok (.if_icmp .gt 7, 3) := by decide +kernel
theorem dJ9_min_7cf53_5 : decode cJ9_min_7cf53 5 = .ok (.iload_n 0, 1) := by decide +kernel
theorem dJ9_min_7cf53_6 : decode cJ9_min_7cf53 6 = .ok (.goto 4, 3) := by decide +kernel
theorem dJ9_min_7cf53_9 : decode cJ9_min_7cf53 9 = .ok (.iload_n 1, 1) := by decide +kernel
theorem dJ9_min_7cf53_10 : decode cJ9_min_7cf53 10 = .ok (.ireturn, 1) := by decide +kernel
theorem dJ7_fill_d0a16_0 : decode cJ7_fill_d0a16 0 = .ok (.iconst 0, 1) := by decide +kernel
theorem dJ7_fill_d0a16_1 : decode cJ7_fill_d0a16 1 = .ok (.istore_n 3, 1) := by decide +kernel
theorem dJ7_fill_d0a16_2 : decode cJ7_fill_d0a16 2 = .ok (.aload_n 0, 1) := by decide +kernel
theorem dJ7_fill_d0a16_3 : decode cJ7_fill_d0a16 3 = .ok (.arraylength, 1) := by decide +kernel
theorem dJ7_fill_d0a16_4 : decode cJ7_fill_d0a16 4 = .ok (.istore 4, 2) := by decide +kernel
theorem dJ7_fill_d0a16_6 : decode cJ7_fill_d0a16 6 = .ok (.iload_n 3, 1) := by decide +kernel
theorem dJ7_fill_d0a16_7 : decode cJ7_fill_d0a16 7 = .ok (.iload 4, 2) := by decide +kernel
theorem dJ7_fill_d0a16_9 : decode cJ7_fill_d0a16 9 = .ok (.if_icmp .ge 13, 3) := by decide +kernel
theorem dJ7_fill_d0a16_12 : decode cJ7_fill_d0a16 12 = .ok (.aload_n 0, 1) := by decide +kernel
theorem dJ7_fill_d0a16_13 : decode cJ7_fill_d0a16 13 = .ok (.iload_n 3, 1) := by decide +kernel
theorem dJ7_fill_d0a16_14 : decode cJ7_fill_d0a16 14 = .ok (.lload_n 1, 1) := by decide +kernel
theorem dJ7_fill_d0a16_15 : decode cJ7_fill_d0a16 15 = .ok (.lastore, 1) := by decide +kernel
theorem dJ7_fill_d0a16_16 : decode cJ7_fill_d0a16 16 = .ok (.iinc 3 1, 3) := by decide +kernel
theorem dJ7_fill_d0a16_19 : decode cJ7_fill_d0a16 19 = .ok (.goto (-13), 3) := by decide +kernel
theorem dJ7_fill_d0a16_22 : decode cJ7_fill_d0a16 22 = .ok (.return_, 1) := by decide +kernel
theorem dJ7_fill_53178_0 : decode cJ7_fill_53178 0 = .ok (.iconst 0, 1) := by decide +kernel
theorem dJ7_fill_53178_1 : decode cJ7_fill_53178 1 = .ok (.istore_n 2, 1) := by decide +kernel
theorem dJ7_fill_53178_2 : decode cJ7_fill_53178 2 = .ok (.aload_n 0, 1) := by decide +kernel
theorem dJ7_fill_53178_3 : decode cJ7_fill_53178 3 = .ok (.arraylength, 1) := by decide +kernel
theorem dJ7_fill_53178_4 : decode cJ7_fill_53178 4 = .ok (.istore_n 3, 1) := by decide +kernel
theorem dJ7_fill_53178_5 : decode cJ7_fill_53178 5 = .ok (.iload_n 2, 1) := by decide +kernel
theorem dJ7_fill_53178_6 : decode cJ7_fill_53178 6 = .ok (.iload_n 3, 1) := by decide +kernel
theorem dJ7_fill_53178_7 : decode cJ7_fill_53178 7 = .ok (.if_icmp .ge 13, 3) := by decide +kernel
theorem dJ7_fill_53178_10 : decode cJ7_fill_53178 10 = .ok (.aload_n 0, 1) := by decide +kernel
theorem dJ7_fill_53178_11 : decode cJ7_fill_53178 11 = .ok (.iload_n 2, 1) := by decide +kernel
theorem dJ7_fill_53178_12 : decode cJ7_fill_53178 12 = .ok (.iload_n 1, 1) := by decide +kernel
theorem dJ7_fill_53178_13 : decode cJ7_fill_53178 13 = .ok (.iastore, 1) := by decide +kernel
theorem dJ7_fill_53178_14 : decode cJ7_fill_53178 14 = .ok (.iinc 2 1, 3) := by decide +kernel
theorem dJ7_fill_53178_17 : decode cJ7_fill_53178 17 = .ok (.goto (-12), 3) := by decide +kernel
theorem dJ7_fill_53178_20 : decode cJ7_fill_53178 20 = .ok (.return_, 1) := by decide +kernel
theorem dL_cell_0 : decode cL_cell 0 = .ok (.iload_n 1, 1) := by decide +kernel
theorem dL_cell_1 : decode cL_cell 1 = .ok (.aload_n 0, 1) := by decide +kernel
theorem dL_cell_2 : decode cL_cell 2 = .ok (.arraylength, 1) := by decide +kernel
theorem dL_cell_3 : decode cL_cell 3 = .ok (.if_icmp .ge 9, 3) := by decide +kernel
theorem dL_cell_6 : decode cL_cell 6 = .ok (.aload_n 0, 1) := by decide +kernel
theorem dL_cell_7 : decode cL_cell 7 = .ok (.iload_n 1, 1) := by decide +kernel
theorem dL_cell_8 : decode cL_cell 8 = .ok (.iaload, 1) := by decide +kernel
theorem dL_cell_9 : decode cL_cell 9 = .ok (.goto 10, 3) := by decide +kernel
theorem dL_cell_12 : decode cL_cell 12 = .ok (.ldc 7, 2) := by decide +kernel
theorem dL_cell_14 : decode cL_cell 14 = .ok (.iload_n 1, 1) := by decide +kernel
theorem dL_cell_15 : decode cL_cell 15 = .ok (.imul, 1) := by decide +kernel
theorem dL_cell_16 : decode cL_cell 16 = .ok (.bipush 107, 2) := by decide +kernel
theorem dL_cell_18 : decode cL_cell 18 = .ok (.iadd, 1) := by decide +kernel
theorem dL_cell_19 : decode cL_cell 19 = .ok (.ldc 8, 2) := by decide +kernel
theorem dL_cell_21 : decode cL_cell 21 = .ok (.iand, 1) := by decide +kernel
theorem dL_cell_22 : decode cL_cell 22 = .ok (.ireturn, 1) := by decide +kernel
theorem dL_sort_0 : decode cL_sort 0 = .ok (.iload_n 0, 1) := by decide +kernel
theorem dL_sort_1 : decode cL_sort 1 = .ok (.ifCond .ne 8, 3) := by decide +kernel
theorem dL_sort_4 : decode cL_sort 4 = .ok (.bipush 112, 2) := by decide +kernel
theorem dL_sort_6 : decode cL_sort 6 = .ok (.goto 35, 3) := by decide +kernel
theorem dL_sort_9 : decode cL_sort 9 = .ok (.iload_n 0, 1) := by decide +kernel
theorem dL_sort_10 : decode cL_sort 10 = .ok (.iconst 1, 1) := by decide +kernel
theorem dL_sort_11 : decode cL_sort 11 = .ok (.if_icmp .ne 8, 3) := by decide +kernel
theorem dL_sort_14 : decode cL_sort 14 = .ok (.bipush 115, 2) := by decide +kernel
theorem dL_sort_16 : decode cL_sort 16 = .ok (.goto 25, 3) := by decide +kernel
theorem dL_sort_19 : decode cL_sort 19 = .ok (.iload_n 0, 1) := by decide +kernel
theorem dL_sort_20 : decode cL_sort 20 = .ok (.iconst 2, 1) := by decide +kernel
theorem dL_sort_21 : decode cL_sort 21 = .ok (.if_icmp .ne 8, 3) := by decide +kernel
theorem dL_sort_24 : decode cL_sort 24 = .ok (.bipush 99, 2) := by decide +kernel
theorem dL_sort_26 : decode cL_sort 26 = .ok (.goto 15, 3) := by decide +kernel
theorem dL_sort_29 : decode cL_sort 29 = .ok (.iload_n 0, 1) := by decide +kernel
theorem dL_sort_30 : decode cL_sort 30 = .ok (.iconst 3, 1) := by decide +kernel
theorem dL_sort_31 : decode cL_sort 31 = .ok (.if_icmp .ne 8, 3) := by decide +kernel
theorem dL_sort_34 : decode cL_sort 34 = .ok (.bipush 110, 2) := by decide +kernel
theorem dL_sort_36 : decode cL_sort 36 = .ok (.goto 5, 3) := by decide +kernel
theorem dL_sort_39 : decode cL_sort 39 = .ok (.bipush 107, 2) := by decide +kernel
theorem dL_sort_41 : decode cL_sort 41 = .ok (.ireturn, 1) := by decide +kernel
theorem dL_number_0 : decode cL_number 0 = .ok (.iload_n 1, 1) := by decide +kernel
theorem dL_number_1 : decode cL_number 1 = .ok (.bipush 10, 2) := by decide +kernel
theorem dL_number_3 : decode cL_number 3 = .ok (.if_icmp .lt 17, 3) := by decide +kernel
theorem dL_number_6 : decode cL_number 6 = .ok (.aload_n 0, 1) := by decide +kernel
theorem dL_number_7 : decode cL_number 7 = .ok (.bipush 48, 2) := by decide +kernel
theorem dL_number_9 : decode cL_number 9 = .ok (.iload_n 1, 1) := by decide +kernel
theorem dL_number_10 : decode cL_number 10 = .ok (.bipush 10, 2) := by decide +kernel
theorem dL_number_12 : decode cL_number 12 = .ok (.idiv, 1) := by decide +kernel
theorem dL_number_13 : decode cL_number 13 = .ok (.iadd, 1) := by decide +kernel
theorem dL_number_14 : decode cL_number 14 = .ok (.invokevirtual 9, 3) := by decide +kernel
theorem dL_number_17 : decode cL_number 17 = .ok (.ifCond .le 21, 3) := by decide +kernel
theorem dL_number_20 : decode cL_number 20 = .ok (.aload_n 0, 1) := by decide +kernel
theorem dL_number_21 : decode cL_number 21 = .ok (.bipush 48, 2) := by decide +kernel
theorem dL_number_23 : decode cL_number 23 = .ok (.iload_n 1, 1) := by decide +kernel
theorem dL_number_24 : decode cL_number 24 = .ok (.bipush 10, 2) := by decide +kernel
theorem dL_number_26 : decode cL_number 26 = .ok (.irem, 1) := by decide +kernel
theorem dL_number_27 : decode cL_number 27 = .ok (.iadd, 1) := by decide +kernel
theorem dL_number_28 : decode cL_number 28 = .ok (.invokevirtual 9, 3) := by decide +kernel
theorem dL_number_31 : decode cL_number 31 = .ok (.ifCond .le 7, 3) := by decide +kernel
theorem dL_number_34 : decode cL_number 34 = .ok (.iconst 1, 1) := by decide +kernel
theorem dL_number_35 : decode cL_number 35 = .ok (.goto 4, 3) := by decide +kernel
theorem dL_number_38 : decode cL_number 38 = .ok (.iconst 0, 1) := by decide +kernel
theorem dL_number_39 : decode cL_number 39 = .ok (.ireturn, 1) := by decide +kernel
theorem dL_turns_0 : decode cL_turns 0 = .ok (.iconst 1, 1) := by decide +kernel
theorem dL_turns_1 : decode cL_turns 1 = .ok (.istore_n 2, 1) := by decide +kernel
theorem dL_turns_2 : decode cL_turns 2 = .ok (.iconst 0, 1) := by decide +kernel
theorem dL_turns_3 : decode cL_turns 3 = .ok (.istore_n 3, 1) := by decide +kernel
theorem dL_turns_4 : decode cL_turns 4 = .ok (.iload_n 3, 1) := by decide +kernel
theorem dL_turns_5 : decode cL_turns 5 = .ok (.bipush 10, 2) := by decide +kernel
theorem dL_turns_7 : decode cL_turns 7 = .ok (.if_icmp .ge 68, 3) := by decide +kernel
theorem dL_turns_10 : decode cL_turns 10 = .ok (.iload_n 2, 1) := by decide +kernel
theorem dL_turns_11 : decode cL_turns 11 = .ok (.ifCond .eq 64, 3) := by decide +kernel
theorem dL_turns_14 : decode cL_turns 14 = .ok (.aload_n 0, 1) := by decide +kernel
theorem dL_turns_15 : decode cL_turns 15 = .ok (.bipush 48, 2) := by decide +kernel
theorem dL_turns_17 : decode cL_turns 17 = .ok (.aload_n 1, 1) := by decide +kernel
theorem dL_turns_18 : decode cL_turns 18 = .ok (.iconst 3, 1) := by decide +kernel
theorem dL_turns_19 : decode cL_turns 19 = .ok (.iload_n 3, 1) := by decide +kernel
theorem dL_turns_20 : decode cL_turns 20 = .ok (.iadd, 1) := by decide +kernel
theorem dL_turns_21 : decode cL_turns 21 = .ok (.iaload, 1) := by decide +kernel
theorem dL_turns_22 : decode cL_turns 22 = .ok (.iadd, 1) := by decide +kernel
theorem dL_turns_23 : decode cL_turns 23 = .ok (.invokevirtual 9, 3) := by decide +kernel
theorem dL_turns_26 : decode cL_turns 26 = .ok (.ifCond .le 41, 3) := by decide +kernel
theorem dL_turns_29 : decode cL_turns 29 = .ok (.aload_n 1, 1) := by decide +kernel
theorem dL_turns_30 : decode cL_turns 30 = .ok (.bipush 13, 2) := by decide +kernel
theorem dL_turns_32 : decode cL_turns 32 = .ok (.iload_n 3, 1) := by decide +kernel
theorem dL_turns_33 : decode cL_turns 33 = .ok (.iadd, 1) := by decide +kernel
theorem dL_turns_34 : decode cL_turns 34 = .ok (.iaload, 1) := by decide +kernel
theorem dL_turns_35 : decode cL_turns 35 = .ok (.ifCond .eq 28, 3) := by decide +kernel
theorem dL_turns_38 : decode cL_turns 38 = .ok (.aload_n 0, 1) := by decide +kernel
theorem dL_turns_39 : decode cL_turns 39 = .ok (.bipush 94, 2) := by decide +kernel
theorem dL_turns_41 : decode cL_turns 41 = .ok (.invokevirtual 9, 3) := by decide +kernel
theorem dL_turns_44 : decode cL_turns 44 = .ok (.ifCond .le 23, 3) := by decide +kernel
theorem dL_turns_47 : decode cL_turns 47 = .ok (.aload_n 0, 1) := by decide +kernel
theorem dL_turns_48 : decode cL_turns 48 = .ok (.bipush 48, 2) := by decide +kernel
theorem dL_turns_50 : decode cL_turns 50 = .ok (.aload_n 1, 1) := by decide +kernel
theorem dL_turns_51 : decode cL_turns 51 = .ok (.bipush 13, 2) := by decide +kernel
theorem dL_turns_53 : decode cL_turns 53 = .ok (.iload_n 3, 1) := by decide +kernel
theorem dL_turns_54 : decode cL_turns 54 = .ok (.iadd, 1) := by decide +kernel
theorem dL_turns_55 : decode cL_turns 55 = .ok (.iaload, 1) := by decide +kernel
theorem dL_turns_56 : decode cL_turns 56 = .ok (.iadd, 1) := by decide +kernel
theorem dL_turns_57 : decode cL_turns 57 = .ok (.invokevirtual 9, 3) := by decide +kernel
theorem dL_turns_60 : decode cL_turns 60 = .ok (.ifCond .le 7, 3) := by decide +kernel
theorem dL_turns_63 : decode cL_turns 63 = .ok (.iconst 1, 1) := by decide +kernel
theorem dL_turns_64 : decode cL_turns 64 = .ok (.goto 4, 3) := by decide +kernel
theorem dL_turns_67 : decode cL_turns 67 = .ok (.iconst 0, 1) := by decide +kernel
theorem dL_turns_68 : decode cL_turns 68 = .ok (.istore_n 2, 1) := by decide +kernel
theorem dL_turns_69 : decode cL_turns 69 = .ok (.iinc 3 1, 3) := by decide +kernel
theorem dL_turns_72 : decode cL_turns 72 = .ok (.goto (-68), 3) := by decide +kernel
theorem dL_turns_75 : decode cL_turns 75 = .ok (.iload_n 2, 1) := by decide +kernel
theorem dL_turns_76 : decode cL_turns 76 = .ok (.ireturn, 1) := by decide +kernel
theorem dL_lays_0 : decode cL_lays 0 = .ok (.aload_n 1, 1) := by decide +kernel
theorem dL_lays_1 : decode cL_lays 1 = .ok (.iconst 0, 1) := by decide +kernel
theorem dL_lays_2 : decode cL_lays 2 = .ok (.invokestatic 15, 3) := by decide +kernel
theorem dL_lays_5 : decode cL_lays 5 = .ok (.istore_n 3, 1) := by decide +kernel
theorem dL_lays_6 : decode cL_lays 6 = .ok (.iconst 1, 1) := by decide +kernel
theorem dL_lays_7 : decode cL_lays 7 = .ok (.iload_n 3, 1) := by decide +kernel
theorem dL_lays_8 : decode cL_lays 8 = .ok (.iconst 3, 1) := by decide +kernel
theorem dL_lays_9 : decode cL_lays 9 = .ok (.iand, 1) := by decide +kernel
theorem dL_lays_10 : decode cL_lays 10 = .ok (.iadd, 1) := by decide +kernel
theorem dL_lays_11 : decode cL_lays 11 = .ok (.istore 4, 2) := by decide +kernel
theorem dL_lays_13 : decode cL_lays 13 = .ok (.iconst 0, 1) := by decide +kernel
theorem dL_lays_14 : decode cL_lays 14 = .ok (.istore 5, 2) := by decide +kernel
theorem dL_lays_16 : decode cL_lays 16 = .ok (.iload 5, 2) := by decide +kernel
theorem dL_lays_18 : decode cL_lays 18 = .ok (.bipush 10, 2) := by decide +kernel
theorem dL_lays_20 : decode cL_lays 20 = .ok (.if_icmp .ge 84, 3) := by decide +kernel
theorem dL_lays_23 : decode cL_lays 23 = .ok (.aload_n 1, 1) := by decide +kernel
theorem dL_lays_24 : decode cL_lays 24 = .ok (.iconst 1, 1) := by decide +kernel
theorem dL_lays_25 : decode cL_lays 25 = .ok (.iload 5, 2) := by decide +kernel
theorem dL_lays_27 : decode cL_lays 27 = .ok (.iconst 4, 1) := by decide +kernel
theorem dL_lays_28 : decode cL_lays 28 = .ok (.idiv, 1) := by decide +kernel
theorem dL_lays_29 : decode cL_lays 29 = .ok (.iadd, 1) := by decide +kernel
theorem dL_lays_30 : decode cL_lays 30 = .ok (.invokestatic 15, 3) := by decide +kernel
theorem dL_lays_33 : decode cL_lays 33 = .ok (.bipush 7, 2) := by decide +kernel
theorem dL_lays_35 : decode cL_lays 35 = .ok (.iload 5, 2) := by decide +kernel
theorem dL_lays_37 : decode cL_lays 37 = .ok (.iconst 4, 1) := by decide +kernel
theorem dL_lays_38 : decode cL_lays 38 = .ok (.irem, 1) := by decide +kernel
theorem dL_lays_39 : decode cL_lays 39 = .ok (.imul, 1) := by decide +kernel
theorem dL_lays_40 : decode cL_lays 40 = .ok (.ishr, 1) := by decide +kernel
theorem dL_lays_41 : decode cL_lays 41 = .ok (.istore 6, 2) := by decide +kernel
theorem dL_lays_43 : decode cL_lays 43 = .ok (.aload_n 2, 1) := by decide +kernel
theorem dL_lays_44 : decode cL_lays 44 = .ok (.iconst 3, 1) := by decide +kernel
theorem dL_lays_45 : decode cL_lays 45 = .ok (.iload 5, 2) := by decide +kernel
theorem dL_lays_47 : decode cL_lays 47 = .ok (.iadd, 1) := by decide +kernel
theorem dL_lays_48 : decode cL_lays 48 = .ok (.iload 6, 2) := by decide +kernel
theorem dL_lays_50 : decode cL_lays 50 = .ok (.bipush 15, 2) := by decide +kernel
theorem dL_lays_52 : decode cL_lays 52 = .ok (.iand, 1) := by decide +kernel
theorem dL_lays_53 : decode cL_lays 53 = .ok (.bipush 10, 2) := by decide +kernel
theorem dL_lays_55 : decode cL_lays 55 = .ok (.irem, 1) := by decide +kernel
theorem dL_lays_56 : decode cL_lays 56 = .ok (.iload 4, 2) := by decide +kernel
theorem dL_lays_58 : decode cL_lays 58 = .ok (.idiv, 1) := by decide +kernel
theorem dL_lays_59 : decode cL_lays 59 = .ok (.iastore, 1) := by decide +kernel
theorem dL_lays_60 : decode cL_lays 60 = .ok (.aload_n 2, 1) := by decide +kernel
theorem dL_lays_61 : decode cL_lays 61 = .ok (.bipush 13, 2) := by decide +kernel
theorem dL_lays_63 : decode cL_lays 63 = .ok (.iload 5, 2) := by decide +kernel
theorem dL_lays_65 : decode cL_lays 65 = .ok (.iadd, 1) := by decide +kernel
theorem dL_lays_66 : decode cL_lays 66 = .ok (.iload 6, 2) := by decide +kernel
theorem dL_lays_68 : decode cL_lays 68 = .ok (.iconst 4, 1) := by decide +kernel
theorem dL_lays_69 : decode cL_lays 69 = .ok (.ishr, 1) := by decide +kernel
theorem dL_lays_70 : decode cL_lays 70 = .ok (.bipush 7, 2) := by decide +kernel
theorem dL_lays_72 : decode cL_lays 72 = .ok (.iand, 1) := by decide +kernel
theorem dL_lays_73 : decode cL_lays 73 = .ok (.bipush 6, 2) := by decide +kernel
theorem dL_lays_75 : decode cL_lays 75 = .ok (.if_icmp .ge 7, 3) := by decide +kernel
theorem dL_lays_78 : decode cL_lays 78 = .ok (.iconst 0, 1) := by decide +kernel
theorem dL_lays_79 : decode cL_lays 79 = .ok (.goto 18, 3) := by decide +kernel
theorem dL_lays_82 : decode cL_lays 82 = .ok (.iconst 1, 1) := by decide +kernel
theorem dL_lays_83 : decode cL_lays 83 = .ok (.iload 6, 2) := by decide +kernel
theorem dL_lays_85 : decode cL_lays 85 = .ok (.iconst 2, 1) := by decide +kernel
theorem dL_lays_86 : decode cL_lays 86 = .ok (.ishr, 1) := by decide +kernel
theorem dL_lays_87 : decode cL_lays 87 = .ok (.bipush 31, 2) := by decide +kernel
theorem dL_lays_89 : decode cL_lays 89 = .ok (.iand, 1) := by decide +kernel
theorem dL_lays_90 : decode cL_lays 90 = .ok (.bipush 9, 2) := by decide +kernel
theorem dL_lays_92 : decode cL_lays 92 = .ok (.irem, 1) := by decide +kernel
theorem dL_lays_93 : decode cL_lays 93 = .ok (.iload 4, 2) := by decide +kernel
theorem dL_lays_95 : decode cL_lays 95 = .ok (.idiv, 1) := by decide +kernel
theorem dL_lays_96 : decode cL_lays 96 = .ok (.iadd, 1) := by decide +kernel
theorem dL_lays_97 : decode cL_lays 97 = .ok (.iastore, 1) := by decide +kernel
theorem dL_lays_98 : decode cL_lays 98 = .ok (.iinc 5 1, 3) := by decide +kernel
theorem dL_lays_101 : decode cL_lays 101 = .ok (.goto (-85), 3) := by decide +kernel
theorem dL_lays_104 : decode cL_lays 104 = .ok (.aload_n 0, 1) := by decide +kernel
theorem dL_lays_105 : decode cL_lays 105 = .ok (.aload_n 2, 1) := by decide +kernel
theorem dL_lays_106 : decode cL_lays 106 = .ok (.invokestatic 21, 3) := by decide +kernel
theorem dL_lays_109 : decode cL_lays 109 = .ok (.istore 5, 2) := by decide +kernel
theorem dL_lays_111 : decode cL_lays 111 = .ok (.iconst 1, 1) := by decide +kernel
theorem dL_lays_112 : decode cL_lays 112 = .ok (.iload_n 3, 1) := by decide +kernel
theorem dL_lays_113 : decode cL_lays 113 = .ok (.iconst 2, 1) := by decide +kernel
theorem dL_lays_114 : decode cL_lays 114 = .ok (.ishr, 1) := by decide +kernel
theorem dL_lays_115 : decode cL_lays 115 = .ok (.bipush 7, 2) := by decide +kernel
theorem dL_lays_117 : decode cL_lays 117 = .ok (.iand, 1) := by decide +kernel
theorem dL_lays_118 : decode cL_lays 118 = .ok (.iconst 5, 1) := by decide +kernel
theorem dL_lays_119 : decode cL_lays 119 = .ok (.irem, 1) := by decide +kernel
theorem dL_lays_120 : decode cL_lays 120 = .ok (.iadd, 1) := by decide +kernel
theorem dL_lays_121 : decode cL_lays 121 = .ok (.istore 6, 2) := by decide +kernel
theorem dL_lays_123 : decode cL_lays 123 = .ok (.iconst 0, 1) := by decide +kernel
theorem dL_lays_124 : decode cL_lays 124 = .ok (.istore 7, 2) := by decide +kernel
theorem dL_lays_126 : decode cL_lays 126 = .ok (.iload 7, 2) := by decide +kernel
theorem dL_lays_128 : decode cL_lays 128 = .ok (.iload 6, 2) := by decide +kernel
theorem dL_lays_130 : decode cL_lays 130 = .ok (.if_icmp .ge 188, 3) := by decide +kernel
theorem dL_lays_133 : decode cL_lays 133 = .ok (.iload 5, 2) := by decide +kernel
theorem dL_lays_135 : decode cL_lays 135 = .ok (.ifCond .eq 183, 3) := by decide +kernel
theorem dL_lays_138 : decode cL_lays 138 = .ok (.aload_n 1, 1) := by decide +kernel
theorem dL_lays_139 : decode cL_lays 139 = .ok (.iconst 4, 1) := by decide +kernel
theorem dL_lays_140 : decode cL_lays 140 = .ok (.iload 7, 2) := by decide +kernel
theorem dL_lays_142 : decode cL_lays 142 = .ok (.iconst 2, 1) := by decide +kernel
theorem dL_lays_143 : decode cL_lays 143 = .ok (.idiv, 1) := by decide +kernel
theorem dL_lays_144 : decode cL_lays 144 = .ok (.iadd, 1) := by decide +kernel
theorem dL_lays_145 : decode cL_lays 145 = .ok (.invokestatic 15, 3) := by decide +kernel
theorem dL_lays_148 : decode cL_lays 148 = .ok (.bipush 15, 2) := by decide +kernel
theorem dL_lays_150 : decode cL_lays 150 = .ok (.iload 7, 2) := by decide +kernel
theorem dL_lays_152 : decode cL_lays 152 = .ok (.iconst 2, 1) := by decide +kernel
theorem dL_lays_153 : decode cL_lays 153 = .ok (.irem, 1) := by decide +kernel
theorem dL_lays_154 : decode cL_lays 154 = .ok (.imul, 1) := by decide +kernel
theorem dL_lays_155 : decode cL_lays 155 = .ok (.ishr, 1) := by decide +kernel
theorem dL_lays_156 : decode cL_lays 156 = .ok (.istore 8, 2) := by decide +kernel
theorem dL_lays_158 : decode cL_lays 158 = .ok (.bipush 23, 2) := by decide +kernel
theorem dL_lays_160 : decode cL_lays 160 = .ok (.iconst 4, 1) := by decide +kernel
theorem dL_lays_161 : decode cL_lays 161 = .ok (.iload 7, 2) := by decide +kernel
theorem dL_lays_163 : decode cL_lays 163 = .ok (.imul, 1) := by decide +kernel
theorem dL_lays_164 : decode cL_lays 164 = .ok (.iadd, 1) := by decide +kernel
theorem dL_lays_165 : decode cL_lays 165 = .ok (.istore 9, 2) := by decide +kernel
theorem dL_lays_167 : decode cL_lays 167 = .ok (.aload_n 2, 1) := by decide +kernel
theorem dL_lays_168 : decode cL_lays 168 = .ok (.iload 9, 2) := by decide +kernel
theorem dL_lays_170 : decode cL_lays 170 = .ok (.iload 8, 2) := by decide +kernel
theorem dL_lays_172 : decode cL_lays 172 = .ok (.bipush 7, 2) := by decide +kernel
theorem dL_lays_174 : decode cL_lays 174 = .ok (.iand, 1) := by decide +kernel
theorem dL_lays_175 : decode cL_lays 175 = .ok (.iconst 5, 1) := by decide +kernel
theorem dL_lays_176 : decode cL_lays 176 = .ok (.irem, 1) := by decide +kernel
theorem dL_lays_177 : decode cL_lays 177 = .ok (.iastore, 1) := by decide +kernel
theorem dL_lays_178 : decode cL_lays 178 = .ok (.aload_n 2, 1) := by decide +kernel
theorem dL_lays_179 : decode cL_lays 179 = .ok (.iload 9, 2) := by decide +kernel
theorem dL_lays_181 : decode cL_lays 181 = .ok (.iconst 1, 1) := by decide +kernel
theorem dL_lays_182 : decode cL_lays 182 = .ok (.iadd, 1) := by decide +kernel
theorem dL_lays_183 : decode cL_lays 183 = .ok (.iconst 1, 1) := by decide +kernel
theorem dL_lays_184 : decode cL_lays 184 = .ok (.iload 8, 2) := by decide +kernel
theorem dL_lays_186 : decode cL_lays 186 = .ok (.iconst 3, 1) := by decide +kernel
theorem dL_lays_187 : decode cL_lays 187 = .ok (.ishr, 1) := by decide +kernel
theorem dL_lays_188 : decode cL_lays 188 = .ok (.bipush 31, 2) := by decide +kernel
theorem dL_lays_190 : decode cL_lays 190 = .ok (.iand, 1) := by decide +kernel
theorem dL_lays_191 : decode cL_lays 191 = .ok (.bipush 20, 2) := by decide +kernel
theorem dL_lays_193 : decode cL_lays 193 = .ok (.irem, 1) := by decide +kernel
theorem dL_lays_194 : decode cL_lays 194 = .ok (.iadd, 1) := by decide +kernel
theorem dL_lays_195 : decode cL_lays 195 = .ok (.iastore, 1) := by decide +kernel
theorem dL_lays_196 : decode cL_lays 196 = .ok (.aload_n 2, 1) := by decide +kernel
theorem dL_lays_197 : decode cL_lays 197 = .ok (.iload 9, 2) := by decide +kernel
theorem dL_lays_199 : decode cL_lays 199 = .ok (.iconst 2, 1) := by decide +kernel
theorem dL_lays_200 : decode cL_lays 200 = .ok (.iadd, 1) := by decide +kernel
theorem dL_lays_201 : decode cL_lays 201 = .ok (.iload 8, 2) := by decide +kernel
theorem dL_lays_203 : decode cL_lays 203 = .ok (.bipush 8, 2) := by decide +kernel
theorem dL_lays_205 : decode cL_lays 205 = .ok (.ishr, 1) := by decide +kernel
theorem dL_lays_206 : decode cL_lays 206 = .ok (.bipush 7, 2) := by decide +kernel
theorem dL_lays_208 : decode cL_lays 208 = .ok (.iand, 1) := by decide +kernel
theorem dL_lays_209 : decode cL_lays 209 = .ok (.iastore, 1) := by decide +kernel
theorem dL_lays_210 : decode cL_lays 210 = .ok (.aload_n 2, 1) := by decide +kernel
theorem dL_lays_211 : decode cL_lays 211 = .ok (.iload 9, 2) := by decide +kernel
theorem dL_lays_213 : decode cL_lays 213 = .ok (.iconst 3, 1) := by decide +kernel
theorem dL_lays_214 : decode cL_lays 214 = .ok (.iadd, 1) := by decide +kernel
theorem dL_lays_215 : decode cL_lays 215 = .ok (.bipush 30, 2) := by decide +kernel
theorem dL_lays_217 : decode cL_lays 217 = .ok (.iastore, 1) := by decide +kernel
theorem dL_lays_218 : decode cL_lays 218 = .ok (.aload_n 0, 1) := by decide +kernel
theorem dL_lays_219 : decode cL_lays 219 = .ok (.iload 7, 2) := by decide +kernel
theorem dL_lays_221 : decode cL_lays 221 = .ok (.ifCond .ne 8, 3) := by decide +kernel
theorem dL_lays_224 : decode cL_lays 224 = .ok (.bipush 59, 2) := by decide +kernel
theorem dL_lays_226 : decode cL_lays 226 = .ok (.goto 5, 3) := by decide +kernel
theorem dL_lays_229 : decode cL_lays 229 = .ok (.bipush 44, 2) := by decide +kernel
theorem dL_lays_231 : decode cL_lays 231 = .ok (.invokevirtual 9, 3) := by decide +kernel
theorem dL_lays_234 : decode cL_lays 234 = .ok (.ifCond .le 68, 3) := by decide +kernel
theorem dL_lays_237 : decode cL_lays 237 = .ok (.aload_n 0, 1) := by decide +kernel
theorem dL_lays_238 : decode cL_lays 238 = .ok (.aload_n 2, 1) := by decide +kernel
theorem dL_lays_239 : decode cL_lays 239 = .ok (.iload 9, 2) := by decide +kernel
theorem dL_lays_241 : decode cL_lays 241 = .ok (.iaload, 1) := by decide +kernel
theorem dL_lays_242 : decode cL_lays 242 = .ok (.invokestatic 25, 3) := by decide +kernel
theorem dL_lays_245 : decode cL_lays 245 = .ok (.invokevirtual 9, 3) := by decide +kernel
theorem dL_lays_248 : decode cL_lays 248 = .ok (.ifCond .le 54, 3) := by decide +kernel
theorem dL_lays_251 : decode cL_lays 251 = .ok (.aload_n 0, 1) := by decide +kernel
theorem dL_lays_252 : decode cL_lays 252 = .ok (.aload_n 2, 1) := by decide +kernel
theorem dL_lays_253 : decode cL_lays 253 = .ok (.iload 9, 2) := by decide +kernel
theorem dL_lays_255 : decode cL_lays 255 = .ok (.iconst 1, 1) := by decide +kernel
theorem dL_lays_256 : decode cL_lays 256 = .ok (.iadd, 1) := by decide +kernel
theorem dL_lays_257 : decode cL_lays 257 = .ok (.iaload, 1) := by decide +kernel
theorem dL_lays_258 : decode cL_lays 258 = .ok (.invokestatic 28, 3) := by decide +kernel
theorem dL_lays_261 : decode cL_lays 261 = .ok (.ifCond .eq 41, 3) := by decide +kernel
theorem dL_lays_264 : decode cL_lays 264 = .ok (.aload_n 2, 1) := by decide +kernel
theorem dL_lays_265 : decode cL_lays 265 = .ok (.iload 9, 2) := by decide +kernel
theorem dL_lays_267 : decode cL_lays 267 = .ok (.iconst 2, 1) := by decide +kernel
theorem dL_lays_268 : decode cL_lays 268 = .ok (.iadd, 1) := by decide +kernel
theorem dL_lays_269 : decode cL_lays 269 = .ok (.iaload, 1) := by decide +kernel
theorem dL_lays_270 : decode cL_lays 270 = .ok (.ifCond .eq 28, 3) := by decide +kernel
theorem dL_lays_273 : decode cL_lays 273 = .ok (.aload_n 0, 1) := by decide +kernel
theorem dL_lays_274 : decode cL_lays 274 = .ok (.bipush 60, 2) := by decide +kernel
theorem dL_lays_276 : decode cL_lays 276 = .ok (.invokevirtual 9, 3) := by decide +kernel
theorem dL_lays_279 : decode cL_lays 279 = .ok (.ifCond .le 23, 3) := by decide +kernel
theorem dL_lays_282 : decode cL_lays 282 = .ok (.aload_n 0, 1) := by decide +kernel
theorem dL_lays_283 : decode cL_lays 283 = .ok (.bipush 48, 2) := by decide +kernel
theorem dL_lays_285 : decode cL_lays 285 = .ok (.aload_n 2, 1) := by decide +kernel
theorem dL_lays_286 : decode cL_lays 286 = .ok (.iload 9, 2) := by decide +kernel
theorem dL_lays_288 : decode cL_lays 288 = .ok (.iconst 2, 1) := by decide +kernel
theorem dL_lays_289 : decode cL_lays 289 = .ok (.iadd, 1) := by decide +kernel
theorem dL_lays_290 : decode cL_lays 290 = .ok (.iaload, 1) := by decide +kernel
theorem dL_lays_291 : decode cL_lays 291 = .ok (.iadd, 1) := by decide +kernel
theorem dL_lays_292 : decode cL_lays 292 = .ok (.invokevirtual 9, 3) := by decide +kernel
theorem dL_lays_295 : decode cL_lays 295 = .ok (.ifCond .le 7, 3) := by decide +kernel
theorem dL_lays_298 : decode cL_lays 298 = .ok (.iconst 1, 1) := by decide +kernel
theorem dL_lays_299 : decode cL_lays 299 = .ok (.goto 4, 3) := by decide +kernel
theorem dL_lays_302 : decode cL_lays 302 = .ok (.iconst 0, 1) := by decide +kernel
theorem dL_lays_303 : decode cL_lays 303 = .ok (.istore 5, 2) := by decide +kernel
theorem dL_lays_305 : decode cL_lays 305 = .ok (.aload_n 2, 1) := by decide +kernel
theorem dL_lays_306 : decode cL_lays 306 = .ok (.iconst 0, 1) := by decide +kernel
theorem dL_lays_307 : decode cL_lays 307 = .ok (.dup2, 1) := by decide +kernel
theorem dL_lays_308 : decode cL_lays 308 = .ok (.iaload, 1) := by decide +kernel
theorem dL_lays_309 : decode cL_lays 309 = .ok (.iconst 1, 1) := by decide +kernel
theorem dL_lays_310 : decode cL_lays 310 = .ok (.iadd, 1) := by decide +kernel
theorem dL_lays_311 : decode cL_lays 311 = .ok (.iastore, 1) := by decide +kernel
theorem dL_lays_312 : decode cL_lays 312 = .ok (.iinc 7 1, 3) := by decide +kernel
theorem dL_lays_315 : decode cL_lays 315 = .ok (.goto (-189), 3) := by decide +kernel
theorem dL_lays_318 : decode cL_lays 318 = .ok (.aload_n 2, 1) := by decide +kernel
theorem dL_lays_319 : decode cL_lays 319 = .ok (.iconst 2, 1) := by decide +kernel
theorem dL_lays_320 : decode cL_lays 320 = .ok (.iconst 1, 1) := by decide +kernel
theorem dL_lays_321 : decode cL_lays 321 = .ok (.iastore, 1) := by decide +kernel
theorem dL_lays_322 : decode cL_lays 322 = .ok (.iload 5, 2) := by decide +kernel
theorem dL_lays_324 : decode cL_lays 324 = .ok (.ifCond .eq 16, 3) := by decide +kernel
theorem dL_lays_327 : decode cL_lays 327 = .ok (.aload_n 0, 1) := by decide +kernel
theorem dL_lays_328 : decode cL_lays 328 = .ok (.invokevirtual 32, 3) := by decide +kernel
theorem dL_lays_331 : decode cL_lays 331 = .ok (.iload 6, 2) := by decide +kernel
theorem dL_lays_333 : decode cL_lays 333 = .ok (.if_icmp .ne 7, 3) := by decide +kernel
theorem dL_lays_336 : decode cL_lays 336 = .ok (.iconst 1, 1) := by decide +kernel
theorem dL_lays_337 : decode cL_lays 337 = .ok (.goto 4, 3) := by decide +kernel
theorem dL_lays_340 : decode cL_lays 340 = .ok (.iconst 0, 1) := by decide +kernel
theorem dL_lays_341 : decode cL_lays 341 = .ok (.ireturn, 1) := by decide +kernel
theorem dL_gain_0 : decode cL_gain 0 = .ok (.aload_n 0, 1) := by decide +kernel
theorem dL_gain_1 : decode cL_gain 1 = .ok (.bipush 23, 2) := by decide +kernel
theorem dL_gain_3 : decode cL_gain 3 = .ok (.iconst 4, 1) := by decide +kernel
theorem dL_gain_4 : decode cL_gain 4 = .ok (.iload_n 1, 1) := by decide +kernel
theorem dL_gain_5 : decode cL_gain 5 = .ok (.imul, 1) := by decide +kernel
theorem dL_gain_6 : decode cL_gain 6 = .ok (.iadd, 1) := by decide +kernel
theorem dL_gain_7 : decode cL_gain 7 = .ok (.iaload, 1) := by decide +kernel
theorem dL_gain_8 : decode cL_gain 8 = .ok (.istore 4, 2) := by decide +kernel
theorem dL_gain_10 : decode cL_gain 10 = .ok (.iconst 2, 1) := by decide +kernel
theorem dL_gain_11 : decode cL_gain 11 = .ok (.aload_n 0, 1) := by decide +kernel
theorem dL_gain_12 : decode cL_gain 12 = .ok (.bipush 24, 2) := by decide +kernel
theorem dL_gain_14 : decode cL_gain 14 = .ok (.iconst 4, 1) := by decide +kernel
theorem dL_gain_15 : decode cL_gain 15 = .ok (.iload_n 1, 1) := by decide +kernel
theorem dL_gain_16 : decode cL_gain 16 = .ok (.imul, 1) := by decide +kernel
theorem dL_gain_17 : decode cL_gain 17 = .ok (.iadd, 1) := by decide +kernel
theorem dL_gain_18 : decode cL_gain 18 = .ok (.iaload, 1) := by decide +kernel
theorem dL_gain_19 : decode cL_gain 19 = .ok (.iconst 5, 1) := by decide +kernel
theorem dL_gain_20 : decode cL_gain 20 = .ok (.idiv, 1) := by decide +kernel
theorem dL_gain_21 : decode cL_gain 21 = .ok (.iadd, 1) := by decide +kernel
theorem dL_gain_22 : decode cL_gain 22 = .ok (.istore 5, 2) := by decide +kernel
theorem dL_gain_24 : decode cL_gain 24 = .ok (.iload_n 3, 1) := by decide +kernel
theorem dL_gain_25 : decode cL_gain 25 = .ok (.bipush 6, 2) := by decide +kernel
theorem dL_gain_27 : decode cL_gain 27 = .ok (.if_icmp .ge 7, 3) := by decide +kernel
theorem dL_gain_30 : decode cL_gain 30 = .ok (.iconst 2, 1) := by decide +kernel
theorem dL_gain_31 : decode cL_gain 31 = .ok (.goto 4, 3) := by decide +kernel
theorem dL_gain_34 : decode cL_gain 34 = .ok (.iconst 0, 1) := by decide +kernel
theorem dL_gain_35 : decode cL_gain 35 = .ok (.istore 6, 2) := by decide +kernel
theorem dL_gain_37 : decode cL_gain 37 = .ok (.iload 4, 2) := by decide +kernel
theorem dL_gain_39 : decode cL_gain 39 = .ok (.ifCond .ne 7, 3) := by decide +kernel
theorem dL_gain_42 : decode cL_gain 42 = .ok (.iconst 2, 1) := by decide +kernel
theorem dL_gain_43 : decode cL_gain 43 = .ok (.goto 66, 3) := by decide +kernel
theorem dL_gain_46 : decode cL_gain 46 = .ok (.iload 4, 2) := by decide +kernel
theorem dL_gain_48 : decode cL_gain 48 = .ok (.iconst 1, 1) := by decide +kernel
theorem dL_gain_49 : decode cL_gain 49 = .ok (.if_icmp .ne 8, 3) := by decide +kernel
theorem dL_gain_52 : decode cL_gain 52 = .ok (.iload 5, 2) := by decide +kernel
theorem dL_gain_54 : decode cL_gain 54 = .ok (.goto 55, 3) := by decide +kernel
theorem dL_gain_57 : decode cL_gain 57 = .ok (.iload 4, 2) := by decide +kernel
theorem dL_gain_59 : decode cL_gain 59 = .ok (.iconst 2, 1) := by decide +kernel
theorem dL_gain_60 : decode cL_gain 60 = .ok (.if_icmp .ne 8, 3) := by decide +kernel
theorem dL_gain_63 : decode cL_gain 63 = .ok (.iload 6, 2) := by decide +kernel
theorem dL_gain_65 : decode cL_gain 65 = .ok (.goto 44, 3) := by decide +kernel
theorem dL_gain_68 : decode cL_gain 68 = .ok (.iload 4, 2) := by decide +kernel
theorem dL_gain_70 : decode cL_gain 70 = .ok (.iconst 3, 1) := by decide +kernel
theorem dL_gain_71 : decode cL_gain 71 = .ok (.if_icmp .ne 22, 3) := by decide +kernel
theorem dL_gain_74 : decode cL_gain 74 = .ok (.iload_n 2, 1) := by decide +kernel
theorem dL_gain_75 : decode cL_gain 75 = .ok (.iconst 1, 1) := by decide +kernel
theorem dL_gain_76 : decode cL_gain 76 = .ok (.iand, 1) := by decide +kernel
theorem dL_gain_77 : decode cL_gain 77 = .ok (.iconst 1, 1) := by decide +kernel
theorem dL_gain_78 : decode cL_gain 78 = .ok (.if_icmp .ne 10, 3) := by decide +kernel
theorem dL_gain_81 : decode cL_gain 81 = .ok (.iload 5, 2) := by decide +kernel
theorem dL_gain_83 : decode cL_gain 83 = .ok (.iconst 2, 1) := by decide +kernel
theorem dL_gain_84 : decode cL_gain 84 = .ok (.idiv, 1) := by decide +kernel
theorem dL_gain_85 : decode cL_gain 85 = .ok (.goto 24, 3) := by decide +kernel
theorem dL_gain_88 : decode cL_gain 88 = .ok (.iload 5, 2) := by decide +kernel
theorem dL_gain_90 : decode cL_gain 90 = .ok (.goto 19, 3) := by decide +kernel
theorem dL_gain_93 : decode cL_gain 93 = .ok (.iload 6, 2) := by decide +kernel
theorem dL_gain_95 : decode cL_gain 95 = .ok (.aload_n 0, 1) := by decide +kernel
theorem dL_gain_96 : decode cL_gain 96 = .ok (.bipush 13, 2) := by decide +kernel
theorem dL_gain_98 : decode cL_gain 98 = .ok (.iload_n 2, 1) := by decide +kernel
theorem dL_gain_99 : decode cL_gain 99 = .ok (.iadd, 1) := by decide +kernel
theorem dL_gain_100 : decode cL_gain 100 = .ok (.iaload, 1) := by decide +kernel
theorem dL_gain_101 : decode cL_gain 101 = .ok (.iadd, 1) := by decide +kernel
theorem dL_gain_102 : decode cL_gain 102 = .ok (.aload_n 0, 1) := by decide +kernel
theorem dL_gain_103 : decode cL_gain 103 = .ok (.bipush 13, 2) := by decide +kernel
theorem dL_gain_105 : decode cL_gain 105 = .ok (.iload_n 2, 1) := by decide +kernel
theorem dL_gain_106 : decode cL_gain 106 = .ok (.iadd, 1) := by decide +kernel
theorem dL_gain_107 : decode cL_gain 107 = .ok (.iaload, 1) := by decide +kernel
theorem dL_gain_108 : decode cL_gain 108 = .ok (.iadd, 1) := by decide +kernel
theorem dL_gain_109 : decode cL_gain 109 = .ok (.ireturn, 1) := by decide +kernel
theorem dL_stuck_0 : decode cL_stuck 0 = .ok (.iconst 0, 1) := by decide +kernel
theorem dL_stuck_1 : decode cL_stuck 1 = .ok (.istore_n 2, 1) := by decide +kernel
theorem dL_stuck_2 : decode cL_stuck 2 = .ok (.iload_n 2, 1) := by decide +kernel
theorem dL_stuck_3 : decode cL_stuck 3 = .ok (.aload_n 0, 1) := by decide +kernel
theorem dL_stuck_4 : decode cL_stuck 4 = .ok (.iconst 0, 1) := by decide +kernel
theorem dL_stuck_5 : decode cL_stuck 5 = .ok (.iaload, 1) := by decide +kernel
theorem dL_stuck_6 : decode cL_stuck 6 = .ok (.if_icmp .ge 26, 3) := by decide +kernel
theorem dL_stuck_9 : decode cL_stuck 9 = .ok (.aload_n 0, 1) := by decide +kernel
theorem dL_stuck_10 : decode cL_stuck 10 = .ok (.bipush 26, 2) := by decide +kernel
theorem dL_stuck_12 : decode cL_stuck 12 = .ok (.iconst 4, 1) := by decide +kernel
theorem dL_stuck_13 : decode cL_stuck 13 = .ok (.iload_n 2, 1) := by decide +kernel
theorem dL_stuck_14 : decode cL_stuck 14 = .ok (.imul, 1) := by decide +kernel
theorem dL_stuck_15 : decode cL_stuck 15 = .ok (.iadd, 1) := by decide +kernel
theorem dL_stuck_16 : decode cL_stuck 16 = .ok (.iaload, 1) := by decide +kernel
theorem dL_stuck_17 : decode cL_stuck 17 = .ok (.bipush 10, 2) := by decide +kernel
theorem dL_stuck_19 : decode cL_stuck 19 = .ok (.iload_n 1, 1) := by decide +kernel
theorem dL_stuck_20 : decode cL_stuck 20 = .ok (.iadd, 1) := by decide +kernel
theorem dL_stuck_21 : decode cL_stuck 21 = .ok (.if_icmp .ne 5, 3) := by decide +kernel
theorem dL_stuck_24 : decode cL_stuck 24 = .ok (.iload_n 2, 1) := by decide +kernel
theorem dL_stuck_25 : decode cL_stuck 25 = .ok (.ireturn, 1) := by decide +kernel
theorem dL_stuck_26 : decode cL_stuck 26 = .ok (.iinc 2 1, 3) := by decide +kernel
theorem dL_stuck_29 : decode cL_stuck 29 = .ok (.goto (-27), 3) := by decide +kernel
theorem dL_stuck_32 : decode cL_stuck 32 = .ok (.bipush (-4), 2) := by decide +kernel
theorem dL_stuck_34 : decode cL_stuck 34 = .ok (.ireturn, 1) := by decide +kernel
theorem dL_ride_0 : decode cL_ride 0 = .ok (.iconst 2, 1) := by decide +kernel
theorem dL_ride_1 : decode cL_ride 1 = .ok (.istore_n 3, 1) := by decide +kernel
theorem dL_ride_2 : decode cL_ride 2 = .ok (.iconst (-1), 1) := by decide +kernel
theorem dL_ride_3 : decode cL_ride 3 = .ok (.istore 4, 2) := by decide +kernel
theorem dL_ride_5 : decode cL_ride 5 = .ok (.aload_n 0, 1) := by decide +kernel
theorem dL_ride_6 : decode cL_ride 6 = .ok (.bipush 26, 2) := by decide +kernel
theorem dL_ride_8 : decode cL_ride 8 = .ok (.iconst 4, 1) := by decide +kernel
theorem dL_ride_9 : decode cL_ride 9 = .ok (.iload_n 1, 1) := by decide +kernel
theorem dL_ride_10 : decode cL_ride 10 = .ok (.imul, 1) := by decide +kernel
theorem dL_ride_11 : decode cL_ride 11 = .ok (.iadd, 1) := by decide +kernel
theorem dL_ride_12 : decode cL_ride 12 = .ok (.bipush 30, 2) := by decide +kernel
theorem dL_ride_14 : decode cL_ride 14 = .ok (.iastore, 1) := by decide +kernel
theorem dL_ride_15 : decode cL_ride 15 = .ok (.iconst 0, 1) := by decide +kernel
theorem dL_ride_16 : decode cL_ride 16 = .ok (.istore 5, 2) := by decide +kernel
theorem dL_ride_18 : decode cL_ride 18 = .ok (.iload 5, 2) := by decide +kernel
theorem dL_ride_20 : decode cL_ride 20 = .ok (.bipush 10, 2) := by decide +kernel
theorem dL_ride_22 : decode cL_ride 22 = .ok (.if_icmp .ge 124, 3) := by decide +kernel
theorem dL_ride_25 : decode cL_ride 25 = .ok (.aload_n 2, 1) := by decide +kernel
theorem dL_ride_26 : decode cL_ride 26 = .ok (.iload 5, 2) := by decide +kernel
theorem dL_ride_28 : decode cL_ride 28 = .ok (.bipush (-4), 2) := by decide +kernel
theorem dL_ride_30 : decode cL_ride 30 = .ok (.iastore, 1) := by decide +kernel
theorem dL_ride_31 : decode cL_ride 31 = .ok (.iload 4, 2) := by decide +kernel
theorem dL_ride_33 : decode cL_ride 33 = .ok (.ifCond .ge 107, 3) := by decide +kernel
theorem dL_ride_36 : decode cL_ride 36 = .ok (.iload_n 3, 1) := by decide +kernel
theorem dL_ride_37 : decode cL_ride 37 = .ok (.aload_n 0, 1) := by decide +kernel
theorem dL_ride_38 : decode cL_ride 38 = .ok (.iload_n 1, 1) := by decide +kernel
theorem dL_ride_39 : decode cL_ride 39 = .ok (.iload 5, 2) := by decide +kernel
theorem dL_ride_41 : decode cL_ride 41 = .ok (.iload_n 3, 1) := by decide +kernel
theorem dL_ride_42 : decode cL_ride 42 = .ok (.invokestatic 36, 3) := by decide +kernel
theorem dL_ride_45 : decode cL_ride 45 = .ok (.iadd, 1) := by decide +kernel
theorem dL_ride_46 : decode cL_ride 46 = .ok (.aload_n 0, 1) := by decide +kernel
theorem dL_ride_47 : decode cL_ride 47 = .ok (.iconst 3, 1) := by decide +kernel
theorem dL_ride_48 : decode cL_ride 48 = .ok (.iload 5, 2) := by decide +kernel
theorem dL_ride_50 : decode cL_ride 50 = .ok (.iadd, 1) := by decide +kernel
theorem dL_ride_51 : decode cL_ride 51 = .ok (.iaload, 1) := by decide +kernel
theorem dL_ride_52 : decode cL_ride 52 = .ok (.isub, 1) := by decide +kernel
theorem dL_ride_53 : decode cL_ride 53 = .ok (.aload_n 0, 1) := by decide +kernel
theorem dL_ride_54 : decode cL_ride 54 = .ok (.bipush 13, 2) := by decide +kernel
theorem dL_ride_56 : decode cL_ride 56 = .ok (.iload 5, 2) := by decide +kernel
theorem dL_ride_58 : decode cL_ride 58 = .ok (.iadd, 1) := by decide +kernel
theorem dL_ride_59 : decode cL_ride 59 = .ok (.iaload, 1) := by decide +kernel
theorem dL_ride_60 : decode cL_ride 60 = .ok (.isub, 1) := by decide +kernel
theorem dL_ride_61 : decode cL_ride 61 = .ok (.istore 6, 2) := by decide +kernel
theorem dL_ride_63 : decode cL_ride 63 = .ok (.iload 6, 2) := by decide +kernel
theorem dL_ride_65 : decode cL_ride 65 = .ok (.bipush 30, 2) := by decide +kernel
theorem dL_ride_67 : decode cL_ride 67 = .ok (.if_icmp .ge 8, 3) := by decide +kernel
theorem dL_ride_70 : decode cL_ride 70 = .ok (.iload 6, 2) := by decide +kernel
theorem dL_ride_72 : decode cL_ride 72 = .ok (.goto 5, 3) := by decide +kernel
theorem dL_ride_75 : decode cL_ride 75 = .ok (.bipush 30, 2) := by decide +kernel
theorem dL_ride_77 : decode cL_ride 77 = .ok (.istore_n 3, 1) := by decide +kernel
theorem dL_ride_78 : decode cL_ride 78 = .ok (.aload_n 0, 1) := by decide +kernel
theorem dL_ride_79 : decode cL_ride 79 = .ok (.iload 5, 2) := by decide +kernel
theorem dL_ride_81 : decode cL_ride 81 = .ok (.invokestatic 40, 3) := by decide +kernel
theorem dL_ride_84 : decode cL_ride 84 = .ok (.istore 7, 2) := by decide +kernel
theorem dL_ride_86 : decode cL_ride 86 = .ok (.iload 7, 2) := by decide +kernel
theorem dL_ride_88 : decode cL_ride 88 = .ok (.ifCond .lt 26, 3) := by decide +kernel
theorem dL_ride_91 : decode cL_ride 91 = .ok (.aload_n 0, 1) := by decide +kernel
theorem dL_ride_92 : decode cL_ride 92 = .ok (.bipush 26, 2) := by decide +kernel
theorem dL_ride_94 : decode cL_ride 94 = .ok (.iconst 4, 1) := by decide +kernel
theorem dL_ride_95 : decode cL_ride 95 = .ok (.iload 7, 2) := by decide +kernel
theorem dL_ride_97 : decode cL_ride 97 = .ok (.imul, 1) := by decide +kernel
theorem dL_ride_98 : decode cL_ride 98 = .ok (.iadd, 1) := by decide +kernel
theorem dL_ride_99 : decode cL_ride 99 = .ok (.bipush 30, 2) := by decide +kernel
theorem dL_ride_101 : decode cL_ride 101 = .ok (.iastore, 1) := by decide +kernel
theorem dL_ride_102 : decode cL_ride 102 = .ok (.iload_n 3, 1) := by decide +kernel
theorem dL_ride_103 : decode cL_ride 103 = .ok (.ifCond .le 9, 3) := by decide +kernel
theorem dL_ride_106 : decode cL_ride 106 = .ok (.iload_n 3, 1) := by decide +kernel
theorem dL_ride_107 : decode cL_ride 107 = .ok (.iconst 2, 1) := by decide +kernel
theorem dL_ride_108 : decode cL_ride 108 = .ok (.idiv, 1) := by decide +kernel
theorem dL_ride_109 : decode cL_ride 109 = .ok (.goto 4, 3) := by decide +kernel
theorem dL_ride_112 : decode cL_ride 112 = .ok (.iload_n 3, 1) := by decide +kernel
theorem dL_ride_113 : decode cL_ride 113 = .ok (.istore_n 3, 1) := by decide +kernel
theorem dL_ride_114 : decode cL_ride 114 = .ok (.aload_n 2, 1) := by decide +kernel
theorem dL_ride_115 : decode cL_ride 115 = .ok (.iload 5, 2) := by decide +kernel
theorem dL_ride_117 : decode cL_ride 117 = .ok (.iload_n 3, 1) := by decide +kernel
theorem dL_ride_118 : decode cL_ride 118 = .ok (.ifCond .le 7, 3) := by decide +kernel
theorem dL_ride_121 : decode cL_ride 121 = .ok (.iload_n 3, 1) := by decide +kernel
theorem dL_ride_122 : decode cL_ride 122 = .ok (.goto 5, 3) := by decide +kernel
theorem dL_ride_125 : decode cL_ride 125 = .ok (.bipush (-4), 2) := by decide +kernel
theorem dL_ride_127 : decode cL_ride 127 = .ok (.iastore, 1) := by decide +kernel
theorem dL_ride_128 : decode cL_ride 128 = .ok (.iload_n 3, 1) := by decide +kernel
theorem dL_ride_129 : decode cL_ride 129 = .ok (.ifCond .le 7, 3) := by decide +kernel
theorem dL_ride_132 : decode cL_ride 132 = .ok (.iconst (-1), 1) := by decide +kernel
theorem dL_ride_133 : decode cL_ride 133 = .ok (.goto 5, 3) := by decide +kernel
theorem dL_ride_136 : decode cL_ride 136 = .ok (.iload 5, 2) := by decide +kernel
theorem dL_ride_138 : decode cL_ride 138 = .ok (.istore 4, 2) := by decide +kernel
theorem dL_ride_140 : decode cL_ride 140 = .ok (.iinc 5 1, 3) := by decide +kernel
theorem dL_ride_143 : decode cL_ride 143 = .ok (.goto (-125), 3) := by decide +kernel
theorem dL_ride_146 : decode cL_ride 146 = .ok (.iconst 0, 1) := by decide +kernel
theorem dL_ride_147 : decode cL_ride 147 = .ok (.istore 5, 2) := by decide +kernel
theorem dL_ride_149 : decode cL_ride 149 = .ok (.iload 5, 2) := by decide +kernel
theorem dL_ride_151 : decode cL_ride 151 = .ok (.bipush 10, 2) := by decide +kernel
theorem dL_ride_153 : decode cL_ride 153 = .ok (.if_icmp .ge 43, 3) := by decide +kernel
theorem dL_ride_156 : decode cL_ride 156 = .ok (.iload 5, 2) := by decide +kernel
theorem dL_ride_158 : decode cL_ride 158 = .ok (.iload 4, 2) := by decide +kernel
theorem dL_ride_160 : decode cL_ride 160 = .ok (.if_icmp .eq 36, 3) := by decide +kernel
theorem dL_ride_163 : decode cL_ride 163 = .ok (.aload_n 0, 1) := by decide +kernel
theorem dL_ride_164 : decode cL_ride 164 = .ok (.iconst 3, 1) := by decide +kernel
theorem dL_ride_165 : decode cL_ride 165 = .ok (.iload 5, 2) := by decide +kernel
theorem dL_ride_167 : decode cL_ride 167 = .ok (.iadd, 1) := by decide +kernel
theorem dL_ride_168 : decode cL_ride 168 = .ok (.aload_n 0, 1) := by decide +kernel
theorem dL_ride_169 : decode cL_ride 169 = .ok (.iconst 3, 1) := by decide +kernel
theorem dL_ride_170 : decode cL_ride 170 = .ok (.iload 5, 2) := by decide +kernel
theorem dL_ride_172 : decode cL_ride 172 = .ok (.iadd, 1) := by decide +kernel
theorem dL_ride_173 : decode cL_ride 173 = .ok (.iaload, 1) := by decide +kernel
theorem dL_ride_174 : decode cL_ride 174 = .ok (.ifCond .ne 7, 3) := by decide +kernel
theorem dL_ride_177 : decode cL_ride 177 = .ok (.iconst 0, 1) := by decide +kernel
theorem dL_ride_178 : decode cL_ride 178 = .ok (.goto 11, 3) := by decide +kernel
theorem dL_ride_181 : decode cL_ride 181 = .ok (.aload_n 0, 1) := by decide +kernel
theorem dL_ride_182 : decode cL_ride 182 = .ok (.iconst 3, 1) := by decide +kernel
theorem dL_ride_183 : decode cL_ride 183 = .ok (.iload 5, 2) := by decide +kernel
theorem dL_ride_185 : decode cL_ride 185 = .ok (.iadd, 1) := by decide +kernel
theorem dL_ride_186 : decode cL_ride 186 = .ok (.iaload, 1) := by decide +kernel
theorem dL_ride_187 : decode cL_ride 187 = .ok (.iconst 1, 1) := by decide +kernel
theorem dL_ride_188 : decode cL_ride 188 = .ok (.isub, 1) := by decide +kernel
theorem dL_ride_189 : decode cL_ride 189 = .ok (.iastore, 1) := by decide +kernel
theorem dL_ride_190 : decode cL_ride 190 = .ok (.iinc 5 1, 3) := by decide +kernel
theorem dL_ride_193 : decode cL_ride 193 = .ok (.goto (-44), 3) := by decide +kernel
theorem dL_ride_196 : decode cL_ride 196 = .ok (.aload_n 0, 1) := by decide +kernel
theorem dL_ride_197 : decode cL_ride 197 = .ok (.bipush 26, 2) := by decide +kernel
theorem dL_ride_199 : decode cL_ride 199 = .ok (.iconst 4, 1) := by decide +kernel
theorem dL_ride_200 : decode cL_ride 200 = .ok (.iload_n 1, 1) := by decide +kernel
theorem dL_ride_201 : decode cL_ride 201 = .ok (.imul, 1) := by decide +kernel
theorem dL_ride_202 : decode cL_ride 202 = .ok (.iadd, 1) := by decide +kernel
theorem dL_ride_203 : decode cL_ride 203 = .ok (.iload 4, 2) := by decide +kernel
theorem dL_ride_205 : decode cL_ride 205 = .ok (.ifCond .ge 19, 3) := by decide +kernel
theorem dL_ride_208 : decode cL_ride 208 = .ok (.iload_n 3, 1) := by decide +kernel
theorem dL_ride_209 : decode cL_ride 209 = .ok (.aload_n 0, 1) := by decide +kernel
theorem dL_ride_210 : decode cL_ride 210 = .ok (.bipush 25, 2) := by decide +kernel
theorem dL_ride_212 : decode cL_ride 212 = .ok (.iconst 4, 1) := by decide +kernel
theorem dL_ride_213 : decode cL_ride 213 = .ok (.iload_n 1, 1) := by decide +kernel
theorem dL_ride_214 : decode cL_ride 214 = .ok (.imul, 1) := by decide +kernel
theorem dL_ride_215 : decode cL_ride 215 = .ok (.iadd, 1) := by decide +kernel
theorem dL_ride_216 : decode cL_ride 216 = .ok (.iaload, 1) := by decide +kernel
theorem dL_ride_217 : decode cL_ride 217 = .ok (.iadd, 1) := by decide +kernel
theorem dL_ride_218 : decode cL_ride 218 = .ok (.bipush 8, 2) := by decide +kernel
theorem dL_ride_220 : decode cL_ride 220 = .ok (.irem, 1) := by decide +kernel
theorem dL_ride_221 : decode cL_ride 221 = .ok (.goto 8, 3) := by decide +kernel
theorem dL_ride_224 : decode cL_ride 224 = .ok (.bipush 10, 2) := by decide +kernel
theorem dL_ride_226 : decode cL_ride 226 = .ok (.iload 4, 2) := by decide +kernel
theorem dL_ride_228 : decode cL_ride 228 = .ok (.iadd, 1) := by decide +kernel
theorem dL_ride_229 : decode cL_ride 229 = .ok (.iastore, 1) := by decide +kernel
theorem dL_ride_230 : decode cL_ride 230 = .ok (.aload_n 0, 1) := by decide +kernel
theorem dL_ride_231 : decode cL_ride 231 = .ok (.iconst 1, 1) := by decide +kernel
theorem dL_ride_232 : decode cL_ride 232 = .ok (.dup2, 1) := by decide +kernel
theorem dL_ride_233 : decode cL_ride 233 = .ok (.iaload, 1) := by decide +kernel
theorem dL_ride_234 : decode cL_ride 234 = .ok (.iconst 1, 1) := by decide +kernel
theorem dL_ride_235 : decode cL_ride 235 = .ok (.iadd, 1) := by decide +kernel
theorem dL_ride_236 : decode cL_ride 236 = .ok (.iastore, 1) := by decide +kernel
theorem dL_ride_237 : decode cL_ride 237 = .ok (.return_, 1) := by decide +kernel
theorem dL_size_0 : decode cL_size 0 = .ok (.iconst 0, 1) := by decide +kernel
theorem dL_size_1 : decode cL_size 1 = .ok (.istore_n 1, 1) := by decide +kernel
theorem dL_size_2 : decode cL_size 2 = .ok (.iconst 0, 1) := by decide +kernel
theorem dL_size_3 : decode cL_size 3 = .ok (.istore_n 2, 1) := by decide +kernel
theorem dL_size_4 : decode cL_size 4 = .ok (.iload_n 2, 1) := by decide +kernel
theorem dL_size_5 : decode cL_size 5 = .ok (.iconst 5, 1) := by decide +kernel
theorem dL_size_6 : decode cL_size 6 = .ok (.if_icmp .ge 17, 3) := by decide +kernel
theorem dL_size_9 : decode cL_size 9 = .ok (.iload_n 1, 1) := by decide +kernel
theorem dL_size_10 : decode cL_size 10 = .ok (.iload_n 0, 1) := by decide +kernel
theorem dL_size_11 : decode cL_size 11 = .ok (.iload_n 2, 1) := by decide +kernel
theorem dL_size_12 : decode cL_size 12 = .ok (.ishr, 1) := by decide +kernel
theorem dL_size_13 : decode cL_size 13 = .ok (.iconst 1, 1) := by decide +kernel
theorem dL_size_14 : decode cL_size 14 = .ok (.iand, 1) := by decide +kernel
theorem dL_size_15 : decode cL_size 15 = .ok (.iadd, 1) := by decide +kernel
theorem dL_size_16 : decode cL_size 16 = .ok (.istore_n 1, 1) := by decide +kernel
theorem dL_size_17 : decode cL_size 17 = .ok (.iinc 2 1, 3) := by decide +kernel
theorem dL_size_20 : decode cL_size 20 = .ok (.goto (-16), 3) := by decide +kernel
theorem dL_size_23 : decode cL_size 23 = .ok (.iload_n 1, 1) := by decide +kernel
theorem dL_size_24 : decode cL_size 24 = .ok (.ireturn, 1) := by decide +kernel
theorem dL_acts_0 : decode cL_acts 0 = .ok (.iload_n 2, 1) := by decide +kernel
theorem dL_acts_1 : decode cL_acts 1 = .ok (.iconst 3, 1) := by decide +kernel
theorem dL_acts_2 : decode cL_acts 2 = .ok (.ishr, 1) := by decide +kernel
theorem dL_acts_3 : decode cL_acts 3 = .ok (.istore_n 3, 1) := by decide +kernel
theorem dL_acts_4 : decode cL_acts 4 = .ok (.iload_n 3, 1) := by decide +kernel
theorem dL_acts_5 : decode cL_acts 5 = .ok (.aload_n 1, 1) := by decide +kernel
theorem dL_acts_6 : decode cL_acts 6 = .ok (.iconst 0, 1) := by decide +kernel
theorem dL_acts_7 : decode cL_acts 7 = .ok (.iaload, 1) := by decide +kernel
theorem dL_acts_8 : decode cL_acts 8 = .ok (.irem, 1) := by decide +kernel
theorem dL_acts_9 : decode cL_acts 9 = .ok (.istore 4, 2) := by decide +kernel
theorem dL_acts_11 : decode cL_acts 11 = .ok (.aload_n 1, 1) := by decide +kernel
theorem dL_acts_12 : decode cL_acts 12 = .ok (.bipush 26, 2) := by decide +kernel
theorem dL_acts_14 : decode cL_acts 14 = .ok (.iconst 4, 1) := by decide +kernel
theorem dL_acts_15 : decode cL_acts 15 = .ok (.iload 4, 2) := by decide +kernel
theorem dL_acts_17 : decode cL_acts 17 = .ok (.imul, 1) := by decide +kernel
theorem dL_acts_18 : decode cL_acts 18 = .ok (.iadd, 1) := by decide +kernel
theorem dL_acts_19 : decode cL_acts 19 = .ok (.iaload, 1) := by decide +kernel
theorem dL_acts_20 : decode cL_acts 20 = .ok (.istore 5, 2) := by decide +kernel
theorem dL_acts_22 : decode cL_acts 22 = .ok (.iload_n 2, 1) := by decide +kernel
theorem dL_acts_23 : decode cL_acts 23 = .ok (.bipush 7, 2) := by decide +kernel
theorem dL_acts_25 : decode cL_acts 25 = .ok (.iand, 1) := by decide +kernel
theorem dL_acts_26 : decode cL_acts 26 = .ok (.iconst 5, 1) := by decide +kernel
theorem dL_acts_27 : decode cL_acts 27 = .ok (.if_icmp .ge 61, 3) := by decide +kernel
theorem dL_acts_30 : decode cL_acts 30 = .ok (.iload 5, 2) := by decide +kernel
theorem dL_acts_32 : decode cL_acts 32 = .ok (.bipush 30, 2) := by decide +kernel
theorem dL_acts_34 : decode cL_acts 34 = .ok (.if_icmp .eq 20, 3) := by decide +kernel
theorem dL_acts_37 : decode cL_acts 37 = .ok (.aload_n 0, 1) := by decide +kernel
theorem dL_acts_38 : decode cL_acts 38 = .ok (.iload 4, 2) := by decide +kernel
theorem dL_acts_40 : decode cL_acts 40 = .ok (.invokevirtual 43, 3) := by decide +kernel
theorem dL_acts_43 : decode cL_acts 43 = .ok (.bipush (-2), 2) := by decide +kernel
theorem dL_acts_45 : decode cL_acts 45 = .ok (.if_icmp .ne 7, 3) := by decide +kernel
theorem dL_acts_48 : decode cL_acts 48 = .ok (.iconst 0, 1) := by decide +kernel
theorem dL_acts_49 : decode cL_acts 49 = .ok (.goto 4, 3) := by decide +kernel
theorem dL_acts_52 : decode cL_acts 52 = .ok (.iconst (-1), 1) := by decide +kernel
theorem dL_acts_53 : decode cL_acts 53 = .ok (.ireturn, 1) := by decide +kernel
theorem dL_acts_54 : decode cL_acts 54 = .ok (.aload_n 1, 1) := by decide +kernel
theorem dL_acts_55 : decode cL_acts 55 = .ok (.iload 4, 2) := by decide +kernel
theorem dL_acts_57 : decode cL_acts 57 = .ok (.bipush 10, 2) := by decide +kernel
theorem dL_acts_59 : decode cL_acts 59 = .ok (.newarray .int, 2) := by decide +kernel
theorem dL_acts_61 : decode cL_acts 61 = .ok (.invokestatic 46, 3) := by decide +kernel
theorem dL_acts_64 : decode cL_acts 64 = .ok (.aload_n 0, 1) := by decide +kernel
theorem dL_acts_65 : decode cL_acts 65 = .ok (.iload 4, 2) := by decide +kernel
theorem dL_acts_67 : decode cL_acts 67 = .ok (.invokevirtual 43, 3) := by decide +kernel
theorem dL_acts_70 : decode cL_acts 70 = .ok (.aload_n 1, 1) := by decide +kernel
theorem dL_acts_71 : decode cL_acts 71 = .ok (.bipush 26, 2) := by decide +kernel
theorem dL_acts_73 : decode cL_acts 73 = .ok (.iconst 4, 1) := by decide +kernel
theorem dL_acts_74 : decode cL_acts 74 = .ok (.iload 4, 2) := by decide +kernel
theorem dL_acts_76 : decode cL_acts 76 = .ok (.imul, 1) := by decide +kernel
theorem dL_acts_77 : decode cL_acts 77 = .ok (.iadd, 1) := by decide +kernel
theorem dL_acts_78 : decode cL_acts 78 = .ok (.iaload, 1) := by decide +kernel
theorem dL_acts_79 : decode cL_acts 79 = .ok (.if_icmp .ne 7, 3) := by decide +kernel
theorem dL_acts_82 : decode cL_acts 82 = .ok (.iconst 1, 1) := by decide +kernel
theorem dL_acts_83 : decode cL_acts 83 = .ok (.goto 4, 3) := by decide +kernel
theorem dL_acts_86 : decode cL_acts 86 = .ok (.iconst (-1), 1) := by decide +kernel
theorem dL_acts_87 : decode cL_acts 87 = .ok (.ireturn, 1) := by decide +kernel
theorem dL_acts_88 : decode cL_acts 88 = .ok (.iload_n 2, 1) := by decide +kernel
theorem dL_acts_89 : decode cL_acts 89 = .ok (.bipush 7, 2) := by decide +kernel
theorem dL_acts_91 : decode cL_acts 91 = .ok (.iand, 1) := by decide +kernel
theorem dL_acts_92 : decode cL_acts 92 = .ok (.iconst 5, 1) := by decide +kernel
theorem dL_acts_93 : decode cL_acts 93 = .ok (.if_icmp .ne 54, 3) := by decide +kernel
theorem dL_acts_96 : decode cL_acts 96 = .ok (.aload_n 1, 1) := by decide +kernel
theorem dL_acts_97 : decode cL_acts 97 = .ok (.bipush 26, 2) := by decide +kernel
theorem dL_acts_99 : decode cL_acts 99 = .ok (.iconst 4, 1) := by decide +kernel
theorem dL_acts_100 : decode cL_acts 100 = .ok (.iload 4, 2) := by decide +kernel
theorem dL_acts_102 : decode cL_acts 102 = .ok (.imul, 1) := by decide +kernel

theorem dX0_init_0 : decode cX0_init 0 = .ok (.aload_n 0, 1) := by decide +kernel
theorem dX0_init_1 : decode cX0_init 1 = .ok (.invokespecial 1, 3) := by decide +kernel
theorem dX0_init_4 : decode cX0_init 4 = .ok (.aload_n 0, 1) := by decide +kernel
theorem dX0_init_5 : decode cX0_init 5 = .ok (.bipush 8, 2) := by decide +kernel
theorem dX0_init_7 : decode cX0_init 7 = .ok (.anewarray 7, 3) := by decide +kernel
theorem dX0_init_10 : decode cX0_init 10 = .ok (.putfield 9, 3) := by decide +kernel
theorem dX0_init_13 : decode cX0_init 13 = .ok (.aload_n 0, 1) := by decide +kernel
theorem dX0_init_14 : decode cX0_init 14 = .ok (.iconst 0, 1) := by decide +kernel
theorem dX0_init_15 : decode cX0_init 15 = .ok (.putfield 15, 3) := by decide +kernel
theorem dX0_init_18 : decode cX0_init 18 = .ok (.iconst 0, 1) := by decide +kernel
theorem dX0_init_19 : decode cX0_init 19 = .ok (.istore_n 1, 1) := by decide +kernel
theorem dX0_init_20 : decode cX0_init 20 = .ok (.iload_n 1, 1) := by decide +kernel
theorem dX0_init_21 : decode cX0_init 21 = .ok (.aload_n 0, 1) := by decide +kernel
theorem dX0_init_22 : decode cX0_init 22 = .ok (.getfield 9, 3) := by decide +kernel
theorem dX0_init_25 : decode cX0_init 25 = .ok (.arraylength, 1) := by decide +kernel
theorem dX0_init_26 : decode cX0_init 26 = .ok (.if_icmp .ge 22, 3) := by decide +kernel
theorem dX0_init_29 : decode cX0_init 29 = .ok (.aload_n 0, 1) := by decide +kernel
theorem dX0_init_30 : decode cX0_init 30 = .ok (.getfield 9, 3) := by decide +kernel
theorem dX0_init_33 : decode cX0_init 33 = .ok (.iload_n 1, 1) := by decide +kernel
theorem dX0_init_34 : decode cX0_init 34 = .ok (.new 7, 3) := by decide +kernel
theorem dX0_init_37 : decode cX0_init 37 = .ok (.dup, 1) := by decide +kernel
theorem dX0_init_38 : decode cX0_init 38 = .ok (.invokespecial 19, 3) := by decide +kernel
theorem dX0_init_41 : decode cX0_init 41 = .ok (.aastore, 1) := by decide +kernel
theorem dX0_init_42 : decode cX0_init 42 = .ok (.iinc 1 1, 3) := by decide +kernel
theorem dX0_init_45 : decode cX0_init 45 = .ok (.goto (-25), 3) := by decide +kernel
theorem dX0_init_48 : decode cX0_init 48 = .ok (.return_, 1) := by decide +kernel
theorem dX0_forgetAll_0 : decode cX0_forgetAll 0 = .ok (.aload_n 0, 1) := by decide +kernel
theorem dX0_forgetAll_1 : decode cX0_forgetAll 1 = .ok (.iconst 0, 1) := by decide +kernel
theorem dX0_forgetAll_2 : decode cX0_forgetAll 2 = .ok (.putfield 15, 3) := by decide +kernel
theorem dX0_forgetAll_5 : decode cX0_forgetAll 5 = .ok (.return_, 1) := by decide +kernel
theorem dX0_remember_0 : decode cX0_remember 0 = .ok (.aload_n 0, 1) := by decide +kernel
theorem dX0_remember_1 : decode cX0_remember 1 = .ok (.getfield 15, 3) := by decide +kernel
theorem dX0_remember_4 : decode cX0_remember 4 = .ok (.aload_n 0, 1) := by decide +kernel
theorem dX0_remember_5 : decode cX0_remember 5 = .ok (.getfield 9, 3) := by decide +kernel
theorem dX0_remember_8 : decode cX0_remember 8 = .ok (.arraylength, 1) := by decide +kernel
theorem dX0_remember_9 : decode cX0_remember 9 = .ok (.if_icmp .lt 7, 3) := by decide +kernel
theorem dX0_remember_12 : decode cX0_remember 12 = .ok (.aload_n 0, 1) := by decide +kernel
theorem dX0_remember_13 : decode cX0_remember 13 = .ok (.invokevirtual 20, 3) := by decide +kernel
theorem dX0_remember_16 : decode cX0_remember 16 = .ok (.aload_n 0, 1) := by decide +kernel
theorem dX0_remember_17 : decode cX0_remember 17 = .ok (.getfield 9, 3) := by decide +kernel
theorem dX0_remember_20 : decode cX0_remember 20 = .ok (.aload_n 0, 1) := by decide +kernel
theorem dX0_remember_21 : decode cX0_remember 21 = .ok (.getfield 15, 3) := by decide +kernel
theorem dX0_remember_24 : decode cX0_remember 24 = .ok (.aaload, 1) := by decide +kernel
theorem dX0_remember_25 : decode cX0_remember 25 = .ok (.aload_n 1, 1) := by decide +kernel
theorem dX0_remember_26 : decode cX0_remember 26 = .ok (.invokevirtual 23, 3) := by decide +kernel
theorem dX0_remember_29 : decode cX0_remember 29 = .ok (.aload_n 0, 1) := by decide +kernel
theorem dX0_remember_30 : decode cX0_remember 30 = .ok (.dup, 1) := by decide +kernel
theorem dX0_remember_31 : decode cX0_remember 31 = .ok (.getfield 15, 3) := by decide +kernel
theorem dX0_remember_34 : decode cX0_remember 34 = .ok (.iconst 1, 1) := by decide +kernel
theorem dX0_remember_35 : decode cX0_remember 35 = .ok (.iadd, 1) := by decide +kernel
theorem dX0_remember_36 : decode cX0_remember 36 = .ok (.putfield 15, 3) := by decide +kernel
theorem dX0_remember_39 : decode cX0_remember 39 = .ok (.return_, 1) := by decide +kernel
theorem dX0_forgetOldest_0 : decode cX0_forgetOldest 0 = .ok (.aload_n 0, 1) := by decide +kernel
theorem dX0_forgetOldest_1 : decode cX0_forgetOldest 1 = .ok (.getfield 9, 3) := by decide +kernel
theorem dX0_forgetOldest_4 : decode cX0_forgetOldest 4 = .ok (.iconst 0, 1) := by decide +kernel
theorem dX0_forgetOldest_5 : decode cX0_forgetOldest 5 = .ok (.aaload, 1) := by decide +kernel
theorem dX0_forgetOldest_6 : decode cX0_forgetOldest 6 = .ok (.astore_n 1, 1) := by decide +kernel
theorem dX0_forgetOldest_7 : decode cX0_forgetOldest 7 = .ok (.iconst 1, 1) := by decide +kernel
theorem dX0_forgetOldest_8 : decode cX0_forgetOldest 8 = .ok (.istore_n 2, 1) := by decide +kernel
theorem dX0_forgetOldest_9 : decode cX0_forgetOldest 9 = .ok (.iload_n 2, 1) := by decide +kernel
theorem dX0_forgetOldest_10 : decode cX0_forgetOldest 10 = .ok (.aload_n 0, 1) := by decide +kernel
theorem dX0_forgetOldest_11 : decode cX0_forgetOldest 11 = .ok (.getfield 9, 3) := by decide +kernel
theorem dX0_forgetOldest_14 : decode cX0_forgetOldest 14 = .ok (.arraylength, 1) := by decide +kernel
theorem dX0_forgetOldest_15 : decode cX0_forgetOldest 15 = .ok (.if_icmp .ge 23, 3) := by decide +kernel
theorem dX0_forgetOldest_18 : decode cX0_forgetOldest 18 = .ok (.aload_n 0, 1) := by decide +kernel
theorem dX0_forgetOldest_19 : decode cX0_forgetOldest 19 = .ok (.getfield 9, 3) := by decide +kernel
theorem dX0_forgetOldest_22 : decode cX0_forgetOldest 22 = .ok (.iload_n 2, 1) := by decide +kernel
theorem dX0_forgetOldest_23 : decode cX0_forgetOldest 23 = .ok (.iconst 1, 1) := by decide +kernel
theorem dX0_forgetOldest_24 : decode cX0_forgetOldest 24 = .ok (.isub, 1) := by decide +kernel
theorem dX0_forgetOldest_25 : decode cX0_forgetOldest 25 = .ok (.aload_n 0, 1) := by decide +kernel
theorem dX0_forgetOldest_26 : decode cX0_forgetOldest 26 = .ok (.getfield 9, 3) := by decide +kernel
theorem dX0_forgetOldest_29 : decode cX0_forgetOldest 29 = .ok (.iload_n 2, 1) := by decide +kernel
theorem dX0_forgetOldest_30 : decode cX0_forgetOldest 30 = .ok (.aaload, 1) := by decide +kernel
theorem dX0_forgetOldest_31 : decode cX0_forgetOldest 31 = .ok (.aastore, 1) := by decide +kernel
theorem dX0_forgetOldest_32 : decode cX0_forgetOldest 32 = .ok (.iinc 2 1, 3) := by decide +kernel
theorem dX0_forgetOldest_35 : decode cX0_forgetOldest 35 = .ok (.goto (-26), 3) := by decide +kernel
theorem dX0_forgetOldest_38 : decode cX0_forgetOldest 38 = .ok (.aload_n 0, 1) := by decide +kernel
theorem dX0_forgetOldest_39 : decode cX0_forgetOldest 39 = .ok (.getfield 9, 3) := by decide +kernel
theorem dX0_forgetOldest_42 : decode cX0_forgetOldest 42 = .ok (.aload_n 0, 1) := by decide +kernel
theorem dX0_forgetOldest_43 : decode cX0_forgetOldest 43 = .ok (.getfield 9, 3) := by decide +kernel
theorem dX0_forgetOldest_46 : decode cX0_forgetOldest 46 = .ok (.arraylength, 1) := by decide +kernel
theorem dX0_forgetOldest_47 : decode cX0_forgetOldest 47 = .ok (.iconst 1, 1) := by decide +kernel
theorem dX0_forgetOldest_48 : decode cX0_forgetOldest 48 = .ok (.isub, 1) := by decide +kernel
theorem dX0_forgetOldest_49 : decode cX0_forgetOldest 49 = .ok (.aload_n 1, 1) := by decide +kernel
theorem dX0_forgetOldest_50 : decode cX0_forgetOldest 50 = .ok (.aastore, 1) := by decide +kernel
theorem dX0_forgetOldest_51 : decode cX0_forgetOldest 51 = .ok (.aload_n 0, 1) := by decide +kernel
theorem dX0_forgetOldest_52 : decode cX0_forgetOldest 52 = .ok (.aload_n 0, 1) := by decide +kernel
theorem dX0_forgetOldest_53 : decode cX0_forgetOldest 53 = .ok (.getfield 9, 3) := by decide +kernel
theorem dX0_forgetOldest_56 : decode cX0_forgetOldest 56 = .ok (.arraylength, 1) := by decide +kernel
theorem dX0_forgetOldest_57 : decode cX0_forgetOldest 57 = .ok (.iconst 1, 1) := by decide +kernel
theorem dX0_forgetOldest_58 : decode cX0_forgetOldest 58 = .ok (.isub, 1) := by decide +kernel
theorem dX0_forgetOldest_59 : decode cX0_forgetOldest 59 = .ok (.putfield 15, 3) := by decide +kernel
theorem dX0_forgetOldest_62 : decode cX0_forgetOldest 62 = .ok (.return_, 1) := by decide +kernel
theorem dX0_takeBack_0 : decode cX0_takeBack 0 = .ok (.aload_n 0, 1) := by decide +kernel
theorem dX0_takeBack_1 : decode cX0_takeBack 1 = .ok (.getfield 15, 3) := by decide +kernel
theorem dX0_takeBack_4 : decode cX0_takeBack 4 = .ok (.ifCond .gt 5, 3) := by decide +kernel
theorem dX0_takeBack_7 : decode cX0_takeBack 7 = .ok (.iconst 0, 1) := by decide +kernel
theorem dX0_takeBack_8 : decode cX0_takeBack 8 = .ok (.ireturn, 1) := by decide +kernel
theorem dX0_takeBack_9 : decode cX0_takeBack 9 = .ok (.aload_n 0, 1) := by decide +kernel
theorem dX0_takeBack_10 : decode cX0_takeBack 10 = .ok (.dup, 1) := by decide +kernel
theorem dX0_takeBack_11 : decode cX0_takeBack 11 = .ok (.getfield 15, 3) := by decide +kernel
theorem dX0_takeBack_14 : decode cX0_takeBack 14 = .ok (.iconst 1, 1) := by decide +kernel
theorem dX0_takeBack_15 : decode cX0_takeBack 15 = .ok (.isub, 1) := by decide +kernel
theorem dX0_takeBack_16 : decode cX0_takeBack 16 = .ok (.putfield 15, 3) := by decide +kernel
theorem dX0_takeBack_19 : decode cX0_takeBack 19 = .ok (.aload_n 1, 1) := by decide +kernel
theorem dX0_takeBack_20 : decode cX0_takeBack 20 = .ok (.aload_n 0, 1) := by decide +kernel
theorem dX0_takeBack_21 : decode cX0_takeBack 21 = .ok (.getfield 9, 3) := by decide +kernel
theorem dX0_takeBack_24 : decode cX0_takeBack 24 = .ok (.aload_n 0, 1) := by decide +kernel
theorem dX0_takeBack_25 : decode cX0_takeBack 25 = .ok (.getfield 15, 3) := by decide +kernel
theorem dX0_takeBack_28 : decode cX0_takeBack 28 = .ok (.aaload, 1) := by decide +kernel
theorem dX0_takeBack_29 : decode cX0_takeBack 29 = .ok (.invokevirtual 27, 3) := by decide +kernel
theorem dX0_takeBack_32 : decode cX0_takeBack 32 = .ok (.iconst 1, 1) := by decide +kernel
theorem dX0_takeBack_33 : decode cX0_takeBack 33 = .ok (.ireturn, 1) := by decide +kernel
theorem dX0_become_0 : decode cX0_become 0 = .ok (.aload_n 0, 1) := by decide +kernel
theorem dX0_become_1 : decode cX0_become 1 = .ok (.aload_n 1, 1) := by decide +kernel
theorem dX0_become_2 : decode cX0_become 2 = .ok (.getfield 15, 3) := by decide +kernel
theorem dX0_become_5 : decode cX0_become 5 = .ok (.putfield 15, 3) := by decide +kernel
theorem dX0_become_8 : decode cX0_become 8 = .ok (.iconst 0, 1) := by decide +kernel
theorem dX0_become_9 : decode cX0_become 9 = .ok (.istore_n 2, 1) := by decide +kernel
theorem dX0_become_10 : decode cX0_become 10 = .ok (.iload_n 2, 1) := by decide +kernel
theorem dX0_become_11 : decode cX0_become 11 = .ok (.aload_n 0, 1) := by decide +kernel
theorem dX0_become_12 : decode cX0_become 12 = .ok (.getfield 15, 3) := by decide +kernel
theorem dX0_become_15 : decode cX0_become 15 = .ok (.if_icmp .ge 24, 3) := by decide +kernel
theorem dX0_become_18 : decode cX0_become 18 = .ok (.aload_n 0, 1) := by decide +kernel
theorem dX0_become_19 : decode cX0_become 19 = .ok (.getfield 9, 3) := by decide +kernel
theorem dX0_become_22 : decode cX0_become 22 = .ok (.iload_n 2, 1) := by decide +kernel
theorem dX0_become_23 : decode cX0_become 23 = .ok (.aaload, 1) := by decide +kernel
theorem dX0_become_24 : decode cX0_become 24 = .ok (.aload_n 1, 1) := by decide +kernel
theorem dX0_become_25 : decode cX0_become 25 = .ok (.getfield 9, 3) := by decide +kernel
theorem dX0_become_28 : decode cX0_become 28 = .ok (.iload_n 2, 1) := by decide +kernel
theorem dX0_become_29 : decode cX0_become 29 = .ok (.aaload, 1) := by decide +kernel
theorem dX0_become_30 : decode cX0_become 30 = .ok (.invokevirtual 23, 3) := by decide +kernel
theorem dX0_become_33 : decode cX0_become 33 = .ok (.iinc 2 1, 3) := by decide +kernel
theorem dX0_become_36 : decode cX0_become 36 = .ok (.goto (-26), 3) := by decide +kernel
theorem dX0_become_39 : decode cX0_become 39 = .ok (.return_, 1) := by decide +kernel
theorem dX1_init_0 : decode cX1_init 0 = .ok (.aload_n 0, 1) := by decide +kernel
theorem dX1_init_1 : decode cX1_init 1 = .ok (.invokespecial 3, 3) := by decide +kernel
theorem dX1_init_4 : decode cX1_init 4 = .ok (.aload_n 0, 1) := by decide +kernel
theorem dX1_init_5 : decode cX1_init 5 = .ok (.iconst 5, 1) := by decide +kernel
theorem dX1_init_6 : decode cX1_init 6 = .ok (.newarray .int, 2) := by decide +kernel
theorem dX1_init_8 : decode cX1_init 8 = .ok (.putfield 9, 3) := by decide +kernel
theorem dX1_init_11 : decode cX1_init 11 = .ok (.aload_n 0, 1) := by decide +kernel
theorem dX1_init_12 : decode cX1_init 12 = .ok (.iconst 0, 1) := by decide +kernel
theorem dX1_init_13 : decode cX1_init 13 = .ok (.putfield 15, 3) := by decide +kernel
theorem dX1_init_16 : decode cX1_init 16 = .ok (.return_, 1) := by decide +kernel
theorem dX1_begin_0 : decode cX1_begin 0 = .ok (.aload_n 0, 1) := by decide +kernel
theorem dX1_begin_1 : decode cX1_begin 1 = .ok (.iconst 0, 1) := by decide +kernel
theorem dX1_begin_2 : decode cX1_begin 2 = .ok (.putfield 15, 3) := by decide +kernel
theorem dX1_begin_5 : decode cX1_begin 5 = .ok (.iconst 0, 1) := by decide +kernel
theorem dX1_begin_6 : decode cX1_begin 6 = .ok (.istore_n 2, 1) := by decide +kernel
theorem dX1_begin_7 : decode cX1_begin 7 = .ok (.iload_n 2, 1) := by decide +kernel
theorem dX1_begin_8 : decode cX1_begin 8 = .ok (.aload_n 1, 1) := by decide +kernel
theorem dX1_begin_9 : decode cX1_begin 9 = .ok (.getfield 19, 3) := by decide +kernel
theorem dX1_begin_12 : decode cX1_begin 12 = .ok (.if_icmp .ge 52, 3) := by decide +kernel
theorem dX1_begin_15 : decode cX1_begin 15 = .ok (.aload_n 0, 1) := by decide +kernel
theorem dX1_begin_16 : decode cX1_begin 16 = .ok (.getfield 15, 3) := by decide +kernel
theorem dX1_begin_19 : decode cX1_begin 19 = .ok (.aload_n 0, 1) := by decide +kernel
theorem dX1_begin_20 : decode cX1_begin 20 = .ok (.getfield 9, 3) := by decide +kernel
theorem dX1_begin_23 : decode cX1_begin 23 = .ok (.arraylength, 1) := by decide +kernel
theorem dX1_begin_24 : decode cX1_begin 24 = .ok (.if_icmp .ge 40, 3) := by decide +kernel
theorem dX1_begin_27 : decode cX1_begin 27 = .ok (.aload_n 1, 1) := by decide +kernel
theorem dX1_begin_28 : decode cX1_begin 28 = .ok (.getfield 24, 3) := by decide +kernel
theorem dX1_begin_31 : decode cX1_begin 31 = .ok (.iload_n 2, 1) := by decide +kernel
theorem dX1_begin_32 : decode cX1_begin 32 = .ok (.iaload, 1) := by decide +kernel
theorem dX1_begin_33 : decode cX1_begin 33 = .ok (.bipush 30, 2) := by decide +kernel
theorem dX1_begin_35 : decode cX1_begin 35 = .ok (.if_icmp .ne 23, 3) := by decide +kernel
theorem dX1_begin_38 : decode cX1_begin 38 = .ok (.aload_n 0, 1) := by decide +kernel
theorem dX1_begin_39 : decode cX1_begin 39 = .ok (.getfield 9, 3) := by decide +kernel
theorem dX1_begin_42 : decode cX1_begin 42 = .ok (.aload_n 0, 1) := by decide +kernel
theorem dX1_begin_43 : decode cX1_begin 43 = .ok (.getfield 15, 3) := by decide +kernel
theorem dX1_begin_46 : decode cX1_begin 46 = .ok (.iload_n 2, 1) := by decide +kernel
theorem dX1_begin_47 : decode cX1_begin 47 = .ok (.iastore, 1) := by decide +kernel
theorem dX1_begin_48 : decode cX1_begin 48 = .ok (.aload_n 0, 1) := by decide +kernel
theorem dX1_begin_49 : decode cX1_begin 49 = .ok (.dup, 1) := by decide +kernel
theorem dX1_begin_50 : decode cX1_begin 50 = .ok (.getfield 15, 3) := by decide +kernel
theorem dX1_begin_53 : decode cX1_begin 53 = .ok (.iconst 1, 1) := by decide +kernel
theorem dX1_begin_54 : decode cX1_begin 54 = .ok (.iadd, 1) := by decide +kernel
theorem dX1_begin_55 : decode cX1_begin 55 = .ok (.putfield 15, 3) := by decide +kernel
theorem dX1_begin_58 : decode cX1_begin 58 = .ok (.iinc 2 1, 3) := by decide +kernel
theorem dX1_begin_61 : decode cX1_begin 61 = .ok (.goto (-54), 3) := by decide +kernel
theorem dX1_begin_64 : decode cX1_begin 64 = .ok (.return_, 1) := by decide +kernel
theorem dX1_numberAt_0 : decode cX1_numberAt 0 = .ok (.iload_n 1, 1) := by decide +kernel
theorem dX1_numberAt_1 : decode cX1_numberAt 1 = .ok (.iconst 0, 1) := by decide +kernel
theorem dX1_numberAt_2 : decode cX1_numberAt 2 = .ok (.aload_n 0, 1) := by decide +kernel
theorem dX1_numberAt_3 : decode cX1_numberAt 3 = .ok (.getfield 15, 3) := by decide +kernel
theorem dX1_numberAt_6 : decode cX1_numberAt 6 = .ok (.iconst 1, 1) := by decide +kernel
theorem dX1_numberAt_7 : decode cX1_numberAt 7 = .ok (.isub, 1) := by decide +kernel
theorem dX1_numberAt_8 : decode cX1_numberAt 8 = .ok (.invokestatic 27, 3) := by decide +kernel
theorem dX1_numberAt_11 : decode cX1_numberAt 11 = .ok (.ifCond .eq 12, 3) := by decide +kernel
theorem dX1_numberAt_14 : decode cX1_numberAt 14 = .ok (.aload_n 0, 1) := by decide +kernel
theorem dX1_numberAt_15 : decode cX1_numberAt 15 = .ok (.getfield 9, 3) := by decide +kernel
theorem dX1_numberAt_18 : decode cX1_numberAt 18 = .ok (.iload_n 1, 1) := by decide +kernel
theorem dX1_numberAt_19 : decode cX1_numberAt 19 = .ok (.iaload, 1) := by decide +kernel
theorem dX1_numberAt_20 : decode cX1_numberAt 20 = .ok (.goto 5, 3) := by decide +kernel
theorem dX1_numberAt_23 : decode cX1_numberAt 23 = .ok (.bipush (-4), 2) := by decide +kernel
theorem dX1_numberAt_25 : decode cX1_numberAt 25 = .ok (.ireturn, 1) := by decide +kernel
theorem dX1_become_0 : decode cX1_become 0 = .ok (.aload_n 1, 1) := by decide +kernel
theorem dX1_become_1 : decode cX1_become 1 = .ok (.getfield 9, 3) := by decide +kernel
theorem dX1_become_4 : decode cX1_become 4 = .ok (.aload_n 0, 1) := by decide +kernel
theorem dX1_become_5 : decode cX1_become 5 = .ok (.getfield 9, 3) := by decide +kernel
theorem dX1_become_8 : decode cX1_become 8 = .ok (.invokestatic 31, 3) := by decide +kernel
theorem dX1_become_11 : decode cX1_become 11 = .ok (.aload_n 0, 1) := by decide +kernel
theorem dX1_become_12 : decode cX1_become 12 = .ok (.aload_n 1, 1) := by decide +kernel
theorem dX1_become_13 : decode cX1_become 13 = .ok (.getfield 15, 3) := by decide +kernel
theorem dX1_become_16 : decode cX1_become 16 = .ok (.putfield 15, 3) := by decide +kernel
theorem dX1_become_19 : decode cX1_become 19 = .ok (.return_, 1) := by decide +kernel
theorem dX1_advance_0 : decode cX1_advance 0 = .ok (.aload_n 0, 1) := by decide +kernel
theorem dX1_advance_1 : decode cX1_advance 1 = .ok (.getfield 15, 3) := by decide +kernel
theorem dX1_advance_4 : decode cX1_advance 4 = .ok (.iconst 2, 1) := by decide +kernel
theorem dX1_advance_5 : decode cX1_advance 5 = .ok (.isub, 1) := by decide +kernel
theorem dX1_advance_6 : decode cX1_advance 6 = .ok (.istore_n 1, 1) := by decide +kernel
theorem dX1_advance_7 : decode cX1_advance 7 = .ok (.iload_n 1, 1) := by decide +kernel
theorem dX1_advance_8 : decode cX1_advance 8 = .ok (.ifCond .lt 45, 3) := by decide +kernel
theorem dX1_advance_11 : decode cX1_advance 11 = .ok (.aload_n 0, 1) := by decide +kernel
theorem dX1_advance_12 : decode cX1_advance 12 = .ok (.getfield 9, 3) := by decide +kernel
theorem dX1_advance_15 : decode cX1_advance 15 = .ok (.iload_n 1, 1) := by decide +kernel
theorem dX1_advance_16 : decode cX1_advance 16 = .ok (.iaload, 1) := by decide +kernel
theorem dX1_advance_17 : decode cX1_advance 17 = .ok (.aload_n 0, 1) := by decide +kernel
theorem dX1_advance_18 : decode cX1_advance 18 = .ok (.getfield 9, 3) := by decide +kernel
theorem dX1_advance_21 : decode cX1_advance 21 = .ok (.iload_n 1, 1) := by decide +kernel
theorem dX1_advance_22 : decode cX1_advance 22 = .ok (.iconst 1, 1) := by decide +kernel
theorem dX1_advance_23 : decode cX1_advance 23 = .ok (.iadd, 1) := by decide +kernel
theorem dX1_advance_24 : decode cX1_advance 24 = .ok (.iaload, 1) := by decide +kernel
theorem dX1_advance_25 : decode cX1_advance 25 = .ok (.if_icmp .ge 22, 3) := by decide +kernel
theorem dX1_advance_28 : decode cX1_advance 28 = .ok (.aload_n 0, 1) := by decide +kernel
theorem dX1_advance_29 : decode cX1_advance 29 = .ok (.iload_n 1, 1) := by decide +kernel
theorem dX1_advance_30 : decode cX1_advance 30 = .ok (.aload_n 0, 1) := by decide +kernel
theorem dX1_advance_31 : decode cX1_advance 31 = .ok (.iload_n 1, 1) := by decide +kernel
theorem dX1_advance_32 : decode cX1_advance 32 = .ok (.invokevirtual 35, 3) := by decide +kernel
theorem dX1_advance_35 : decode cX1_advance 35 = .ok (.invokevirtual 39, 3) := by decide +kernel
theorem dX1_advance_38 : decode cX1_advance 38 = .ok (.aload_n 0, 1) := by decide +kernel
theorem dX1_advance_39 : decode cX1_advance 39 = .ok (.iload_n 1, 1) := by decide +kernel
theorem dX1_advance_40 : decode cX1_advance 40 = .ok (.iconst 1, 1) := by decide +kernel
theorem dX1_advance_41 : decode cX1_advance 41 = .ok (.iadd, 1) := by decide +kernel
theorem dX1_advance_42 : decode cX1_advance 42 = .ok (.invokevirtual 43, 3) := by decide +kernel
theorem dX1_advance_45 : decode cX1_advance 45 = .ok (.iconst 1, 1) := by decide +kernel
theorem dX1_advance_46 : decode cX1_advance 46 = .ok (.ireturn, 1) := by decide +kernel
theorem dX1_advance_47 : decode cX1_advance 47 = .ok (.iinc 1 (-1), 3) := by decide +kernel
theorem dX1_advance_50 : decode cX1_advance 50 = .ok (.goto (-43), 3) := by decide +kernel
theorem dX1_advance_53 : decode cX1_advance 53 = .ok (.iconst 0, 1) := by decide +kernel
theorem dX1_advance_54 : decode cX1_advance 54 = .ok (.ireturn, 1) := by decide +kernel
theorem dX1_lastAbove_0 : decode cX1_lastAbove 0 = .ok (.iload_n 1, 1) := by decide +kernel
theorem dX1_lastAbove_1 : decode cX1_lastAbove 1 = .ok (.iconst 1, 1) := by decide +kernel
theorem dX1_lastAbove_2 : decode cX1_lastAbove 2 = .ok (.iadd, 1) := by decide +kernel
theorem dX1_lastAbove_3 : decode cX1_lastAbove 3 = .ok (.istore_n 2, 1) := by decide +kernel
theorem dX1_lastAbove_4 : decode cX1_lastAbove 4 = .ok (.iload_n 1, 1) := by decide +kernel
theorem dX1_lastAbove_5 : decode cX1_lastAbove 5 = .ok (.iconst 2, 1) := by decide +kernel
theorem dX1_lastAbove_6 : decode cX1_lastAbove 6 = .ok (.iadd, 1) := by decide +kernel
theorem dX1_lastAbove_7 : decode cX1_lastAbove 7 = .ok (.istore_n 3, 1) := by decide +kernel
theorem dX1_lastAbove_8 : decode cX1_lastAbove 8 = .ok (.iload_n 3, 1) := by decide +kernel
theorem dX1_lastAbove_9 : decode cX1_lastAbove 9 = .ok (.aload_n 0, 1) := by decide +kernel
theorem dX1_lastAbove_10 : decode cX1_lastAbove 10 = .ok (.getfield 15, 3) := by decide +kernel
theorem dX1_lastAbove_13 : decode cX1_lastAbove 13 = .ok (.if_icmp .ge 26, 3) := by decide +kernel
theorem dX1_lastAbove_16 : decode cX1_lastAbove 16 = .ok (.aload_n 0, 1) := by decide +kernel
theorem dX1_lastAbove_17 : decode cX1_lastAbove 17 = .ok (.getfield 9, 3) := by decide +kernel
theorem dX1_lastAbove_20 : decode cX1_lastAbove 20 = .ok (.iload_n 3, 1) := by decide +kernel
theorem dX1_lastAbove_21 : decode cX1_lastAbove 21 = .ok (.iaload, 1) := by decide +kernel
theorem dX1_lastAbove_22 : decode cX1_lastAbove 22 = .ok (.aload_n 0, 1) := by decide +kernel
theorem dX1_lastAbove_23 : decode cX1_lastAbove 23 = .ok (.getfield 9, 3) := by decide +kernel
theorem dX1_lastAbove_26 : decode cX1_lastAbove 26 = .ok (.iload_n 1, 1) := by decide +kernel
theorem dX1_lastAbove_27 : decode cX1_lastAbove 27 = .ok (.iaload, 1) := by decide +kernel
theorem dX1_lastAbove_28 : decode cX1_lastAbove 28 = .ok (.if_icmp .le 5, 3) := by decide +kernel
theorem dX1_lastAbove_31 : decode cX1_lastAbove 31 = .ok (.iload_n 3, 1) := by decide +kernel
theorem dX1_lastAbove_32 : decode cX1_lastAbove 32 = .ok (.istore_n 2, 1) := by decide +kernel
theorem dX1_lastAbove_33 : decode cX1_lastAbove 33 = .ok (.iinc 3 1, 3) := by decide +kernel
theorem dX1_lastAbove_36 : decode cX1_lastAbove 36 = .ok (.goto (-28), 3) := by decide +kernel
theorem dX1_lastAbove_39 : decode cX1_lastAbove 39 = .ok (.iload_n 2, 1) := by decide +kernel
theorem dX1_lastAbove_40 : decode cX1_lastAbove 40 = .ok (.ireturn, 1) := by decide +kernel
theorem dX1_turnRound_0 : decode cX1_turnRound 0 = .ok (.aload_n 0, 1) := by decide +kernel
theorem dX1_turnRound_1 : decode cX1_turnRound 1 = .ok (.getfield 15, 3) := by decide +kernel
theorem dX1_turnRound_4 : decode cX1_turnRound 4 = .ok (.iconst 1, 1) := by decide +kernel
theorem dX1_turnRound_5 : decode cX1_turnRound 5 = .ok (.isub, 1) := by decide +kernel
theorem dX1_turnRound_6 : decode cX1_turnRound 6 = .ok (.istore_n 2, 1) := by decide +kernel
theorem dX1_turnRound_7 : decode cX1_turnRound 7 = .ok (.iload_n 1, 1) := by decide +kernel
theorem dX1_turnRound_8 : decode cX1_turnRound 8 = .ok (.istore_n 3, 1) := by decide +kernel
theorem dX1_turnRound_9 : decode cX1_turnRound 9 = .ok (.iload_n 3, 1) := by decide +kernel
theorem dX1_turnRound_10 : decode cX1_turnRound 10 = .ok (.iload_n 2, 1) := by decide +kernel
theorem dX1_turnRound_11 : decode cX1_turnRound 11 = .ok (.if_icmp .ge 18, 3) := by decide +kernel
theorem dX1_turnRound_14 : decode cX1_turnRound 14 = .ok (.aload_n 0, 1) := by decide +kernel
theorem dX1_turnRound_15 : decode cX1_turnRound 15 = .ok (.iload_n 3, 1) := by decide +kernel
theorem dX1_turnRound_16 : decode cX1_turnRound 16 = .ok (.iload_n 2, 1) := by decide +kernel
theorem dX1_turnRound_17 : decode cX1_turnRound 17 = .ok (.invokevirtual 39, 3) := by decide +kernel
theorem dX1_turnRound_20 : decode cX1_turnRound 20 = .ok (.iinc 2 (-1), 3) := by decide +kernel
theorem dX1_turnRound_23 : decode cX1_turnRound 23 = .ok (.iinc 3 1, 3) := by decide +kernel
theorem dX1_turnRound_26 : decode cX1_turnRound 26 = .ok (.goto (-17), 3) := by decide +kernel
theorem dX1_turnRound_29 : decode cX1_turnRound 29 = .ok (.return_, 1) := by decide +kernel
theorem dX1_swap_0 : decode cX1_swap 0 = .ok (.aload_n 0, 1) := by decide +kernel
theorem dX1_swap_1 : decode cX1_swap 1 = .ok (.getfield 9, 3) := by decide +kernel
theorem dX1_swap_4 : decode cX1_swap 4 = .ok (.iload_n 1, 1) := by decide +kernel
theorem dX1_swap_5 : decode cX1_swap 5 = .ok (.iaload, 1) := by decide +kernel
theorem dX1_swap_6 : decode cX1_swap 6 = .ok (.istore_n 3, 1) := by decide +kernel
theorem dX1_swap_7 : decode cX1_swap 7 = .ok (.aload_n 0, 1) := by decide +kernel
theorem dX1_swap_8 : decode cX1_swap 8 = .ok (.getfield 9, 3) := by decide +kernel
theorem dX1_swap_11 : decode cX1_swap 11 = .ok (.iload_n 1, 1) := by decide +kernel
theorem dX1_swap_12 : decode cX1_swap 12 = .ok (.aload_n 0, 1) := by decide +kernel
theorem dX1_swap_13 : decode cX1_swap 13 = .ok (.getfield 9, 3) := by decide +kernel
theorem dX1_swap_16 : decode cX1_swap 16 = .ok (.iload_n 2, 1) := by decide +kernel
theorem dX1_swap_17 : decode cX1_swap 17 = .ok (.iaload, 1) := by decide +kernel
theorem dX1_swap_18 : decode cX1_swap 18 = .ok (.iastore, 1) := by decide +kernel
theorem dX1_swap_19 : decode cX1_swap 19 = .ok (.aload_n 0, 1) := by decide +kernel
theorem dX1_swap_20 : decode cX1_swap 20 = .ok (.getfield 9, 3) := by decide +kernel
theorem dX1_swap_23 : decode cX1_swap 23 = .ok (.iload_n 2, 1) := by decide +kernel
theorem dX1_swap_24 : decode cX1_swap 24 = .ok (.iload_n 3, 1) := by decide +kernel
theorem dX1_swap_25 : decode cX1_swap 25 = .ok (.iastore, 1) := by decide +kernel
theorem dX1_swap_26 : decode cX1_swap 26 = .ok (.return_, 1) := by decide +kernel
theorem dX2_init_0 : decode cX2_init 0 = .ok (.aload_n 0, 1) := by decide +kernel
theorem dX2_init_1 : decode cX2_init 1 = .ok (.invokespecial 3, 3) := by decide +kernel
theorem dX2_init_4 : decode cX2_init 4 = .ok (.aload_n 0, 1) := by decide +kernel
theorem dX2_init_5 : decode cX2_init 5 = .ok (.bipush 31, 2) := by decide +kernel
theorem dX2_init_7 : decode cX2_init 7 = .ok (.newarray .long, 2) := by decide +kernel
theorem dX2_init_9 : decode cX2_init 9 = .ok (.putfield 9, 3) := by decide +kernel
theorem dX2_init_12 : decode cX2_init 12 = .ok (.aload_n 0, 1) := by decide +kernel
theorem dX2_init_13 : decode cX2_init 13 = .ok (.bipush 31, 2) := by decide +kernel
theorem dX2_init_15 : decode cX2_init 15 = .ok (.newarray .long, 2) := by decide +kernel
theorem dX2_init_17 : decode cX2_init 17 = .ok (.putfield 15, 3) := by decide +kernel
theorem dX2_init_20 : decode cX2_init 20 = .ok (.return_, 1) := by decide +kernel
theorem dX2_waysThrough_0 : decode cX2_waysThrough 0 = .ok (.aload_n 0, 1) := by decide +kernel
theorem dX2_waysThrough_1 : decode cX2_waysThrough 1 = .ok (.getfield 9, 3) := by decide +kernel
theorem dX2_waysThrough_4 : decode cX2_waysThrough 4 = .ok (.lconst 0, 1) := by decide +kernel
theorem dX2_waysThrough_5 : decode cX2_waysThrough 5 = .ok (.invokestatic 18, 3) := by decide +kernel
theorem dX2_waysThrough_8 : decode cX2_waysThrough 8 = .ok (.aload_n 0, 1) := by decide +kernel
theorem dX2_waysThrough_9 : decode cX2_waysThrough 9 = .ok (.getfield 9, 3) := by decide +kernel
theorem dX2_waysThrough_12 : decode cX2_waysThrough 12 = .ok (.iconst 2, 1) := by decide +kernel
theorem dX2_waysThrough_13 : decode cX2_waysThrough 13 = .ok (.lconst 1, 1) := by decide +kernel
theorem dX2_waysThrough_14 : decode cX2_waysThrough 14 = .ok (.lastore, 1) := by decide +kernel
theorem dX2_waysThrough_15 : decode cX2_waysThrough 15 = .ok (.iconst 0, 1) := by decide +kernel
theorem dX2_waysThrough_16 : decode cX2_waysThrough 16 = .ok (.istore 4, 2) := by decide +kernel
theorem dX2_waysThrough_18 : decode cX2_waysThrough 18 = .ok (.iload 4, 2) := by decide +kernel
theorem dX2_waysThrough_20 : decode cX2_waysThrough 20 = .ok (.bipush 10, 2) := by decide +kernel
theorem dX2_waysThrough_22 : decode cX2_waysThrough 22 = .ok (.if_icmp .ge 18, 3) := by decide +kernel
theorem dX2_waysThrough_25 : decode cX2_waysThrough 25 = .ok (.aload_n 0, 1) := by decide +kernel
theorem dX2_waysThrough_26 : decode cX2_waysThrough 26 = .ok (.aload_n 1, 1) := by decide +kernel
theorem dX2_waysThrough_27 : decode cX2_waysThrough 27 = .ok (.iload_n 2, 1) := by decide +kernel
theorem dX2_waysThrough_28 : decode cX2_waysThrough 28 = .ok (.iload_n 3, 1) := by decide +kernel
theorem dX2_waysThrough_29 : decode cX2_waysThrough 29 = .ok (.iload 4, 2) := by decide +kernel
theorem dX2_waysThrough_31 : decode cX2_waysThrough 31 = .ok (.invokevirtual 24, 3) := by decide +kernel
theorem dX2_waysThrough_34 : decode cX2_waysThrough 34 = .ok (.iinc 4 1, 3) := by decide +kernel
theorem dX2_waysThrough_37 : decode cX2_waysThrough 37 = .ok (.goto (-19), 3) := by decide +kernel
theorem dX2_waysThrough_40 : decode cX2_waysThrough 40 = .ok (.lconst 0, 1) := by decide +kernel
theorem dX2_waysThrough_41 : decode cX2_waysThrough 41 = .ok (.lstore 4, 2) := by decide +kernel
theorem dX2_waysThrough_43 : decode cX2_waysThrough 43 = .ok (.iconst 1, 1) := by decide +kernel
theorem dX2_waysThrough_44 : decode cX2_waysThrough 44 = .ok (.istore 6, 2) := by decide +kernel
theorem dX2_waysThrough_46 : decode cX2_waysThrough 46 = .ok (.iload 6, 2) := by decide +kernel
theorem dX2_waysThrough_48 : decode cX2_waysThrough 48 = .ok (.aload_n 0, 1) := by decide +kernel
theorem dX2_waysThrough_49 : decode cX2_waysThrough 49 = .ok (.getfield 9, 3) := by decide +kernel
theorem dX2_waysThrough_52 : decode cX2_waysThrough 52 = .ok (.arraylength, 1) := by decide +kernel
theorem dX2_waysThrough_53 : decode cX2_waysThrough 53 = .ok (.if_icmp .ge 21, 3) := by decide +kernel
theorem dX2_waysThrough_56 : decode cX2_waysThrough 56 = .ok (.lload 4, 2) := by decide +kernel
theorem dX2_waysThrough_58 : decode cX2_waysThrough 58 = .ok (.aload_n 0, 1) := by decide +kernel
theorem dX2_waysThrough_59 : decode cX2_waysThrough 59 = .ok (.getfield 9, 3) := by decide +kernel
theorem dX2_waysThrough_62 : decode cX2_waysThrough 62 = .ok (.iload 6, 2) := by decide +kernel
theorem dX2_waysThrough_64 : decode cX2_waysThrough 64 = .ok (.laload, 1) := by decide +kernel
theorem dX2_waysThrough_65 : decode cX2_waysThrough 65 = .ok (.ladd, 1) := by decide +kernel
theorem dX2_waysThrough_66 : decode cX2_waysThrough 66 = .ok (.lstore 4, 2) := by decide +kernel
theorem dX2_waysThrough_68 : decode cX2_waysThrough 68 = .ok (.iinc 6 1, 3) := by decide +kernel
theorem dX2_waysThrough_71 : decode cX2_waysThrough 71 = .ok (.goto (-25), 3) := by decide +kernel
theorem dX2_waysThrough_74 : decode cX2_waysThrough 74 = .ok (.lload 4, 2) := by decide +kernel
theorem dX2_waysThrough_76 : decode cX2_waysThrough 76 = .ok (.lreturn, 1) := by decide +kernel
theorem dX2_passTurn_0 : decode cX2_passTurn 0 = .ok (.aload_n 0, 1) := by decide +kernel
theorem dX2_passTurn_1 : decode cX2_passTurn 1 = .ok (.getfield 15, 3) := by decide +kernel
theorem dX2_passTurn_4 : decode cX2_passTurn 4 = .ok (.lconst 0, 1) := by decide +kernel
theorem dX2_passTurn_5 : decode cX2_passTurn 5 = .ok (.invokestatic 18, 3) := by decide +kernel
theorem dX2_passTurn_8 : decode cX2_passTurn 8 = .ok (.aload_n 1, 1) := by decide +kernel
theorem dX2_passTurn_9 : decode cX2_passTurn 9 = .ok (.getfield 28, 3) := by decide +kernel
theorem dX2_passTurn_12 : decode cX2_passTurn 12 = .ok (.iload 4, 2) := by decide +kernel
theorem dX2_passTurn_14 : decode cX2_passTurn 14 = .ok (.iaload, 1) := by decide +kernel
theorem dX2_passTurn_15 : decode cX2_passTurn 15 = .ok (.istore 5, 2) := by decide +kernel
theorem dX2_passTurn_17 : decode cX2_passTurn 17 = .ok (.bipush 9, 2) := by decide +kernel
theorem dX2_passTurn_19 : decode cX2_passTurn 19 = .ok (.iload 5, 2) := by decide +kernel
theorem dX2_passTurn_21 : decode cX2_passTurn 21 = .ok (.iconst 2, 1) := by decide +kernel
theorem dX2_passTurn_22 : decode cX2_passTurn 22 = .ok (.iadd, 1) := by decide +kernel
theorem dX2_passTurn_23 : decode cX2_passTurn 23 = .ok (.invokestatic 34, 3) := by decide +kernel
theorem dX2_passTurn_26 : decode cX2_passTurn 26 = .ok (.istore 6, 2) := by decide +kernel
theorem dX2_passTurn_28 : decode cX2_passTurn 28 = .ok (.iconst 1, 1) := by decide +kernel
theorem dX2_passTurn_29 : decode cX2_passTurn 29 = .ok (.istore 7, 2) := by decide +kernel
theorem dX2_passTurn_31 : decode cX2_passTurn 31 = .ok (.iload 7, 2) := by decide +kernel
theorem dX2_passTurn_33 : decode cX2_passTurn 33 = .ok (.aload_n 0, 1) := by decide +kernel
theorem dX2_passTurn_34 : decode cX2_passTurn 34 = .ok (.getfield 9, 3) := by decide +kernel
theorem dX2_passTurn_37 : decode cX2_passTurn 37 = .ok (.arraylength, 1) := by decide +kernel
theorem dX2_passTurn_38 : decode cX2_passTurn 38 = .ok (.if_icmp .ge 74, 3) := by decide +kernel
theorem dX2_passTurn_41 : decode cX2_passTurn 41 = .ok (.aload_n 0, 1) := by decide +kernel
theorem dX2_passTurn_42 : decode cX2_passTurn 42 = .ok (.getfield 9, 3) := by decide +kernel
theorem dX2_passTurn_45 : decode cX2_passTurn 45 = .ok (.iload 7, 2) := by decide +kernel
theorem dX2_passTurn_47 : decode cX2_passTurn 47 = .ok (.laload, 1) := by decide +kernel
theorem dX2_passTurn_48 : decode cX2_passTurn 48 = .ok (.lconst 0, 1) := by decide +kernel
theorem dX2_passTurn_49 : decode cX2_passTurn 49 = .ok (.lcmp, 1) := by decide +kernel
theorem dX2_passTurn_50 : decode cX2_passTurn 50 = .ok (.ifCond .le 56, 3) := by decide +kernel
theorem dX2_passTurn_53 : decode cX2_passTurn 53 = .ok (.aload_n 0, 1) := by decide +kernel
theorem dX2_passTurn_54 : decode cX2_passTurn 54 = .ok (.aload_n 1, 1) := by decide +kernel
theorem dX2_passTurn_55 : decode cX2_passTurn 55 = .ok (.iload 4, 2) := by decide +kernel
theorem dX2_passTurn_57 : decode cX2_passTurn 57 = .ok (.iload_n 2, 1) := by decide +kernel
theorem dX2_passTurn_58 : decode cX2_passTurn 58 = .ok (.iload 7, 2) := by decide +kernel
theorem dX2_passTurn_60 : decode cX2_passTurn 60 = .ok (.iload 5, 2) := by decide +kernel
theorem dX2_passTurn_62 : decode cX2_passTurn 62 = .ok (.invokevirtual 40, 3) := by decide +kernel
theorem dX2_passTurn_65 : decode cX2_passTurn 65 = .ok (.aload_n 0, 1) := by decide +kernel
theorem dX2_passTurn_66 : decode cX2_passTurn 66 = .ok (.getfield 9, 3) := by decide +kernel
theorem dX2_passTurn_69 : decode cX2_passTurn 69 = .ok (.iload 7, 2) := by decide +kernel
theorem dX2_passTurn_71 : decode cX2_passTurn 71 = .ok (.laload, 1) := by decide +kernel
theorem dX2_passTurn_72 : decode cX2_passTurn 72 = .ok (.bipush 10, 2) := by decide +kernel
theorem dX2_passTurn_74 : decode cX2_passTurn 74 = .ok (.iload_n 3, 1) := by decide +kernel
theorem dX2_passTurn_75 : decode cX2_passTurn 75 = .ok (.isub, 1) := by decide +kernel
theorem dX2_passTurn_76 : decode cX2_passTurn 76 = .ok (.i2l, 1) := by decide +kernel
theorem dX2_passTurn_77 : decode cX2_passTurn 77 = .ok (.lmul, 1) := by decide +kernel
theorem dX2_passTurn_78 : decode cX2_passTurn 78 = .ok (.invokevirtual 44, 3) := by decide +kernel
theorem dX2_passTurn_81 : decode cX2_passTurn 81 = .ok (.aload_n 0, 1) := by decide +kernel
theorem dX2_passTurn_82 : decode cX2_passTurn 82 = .ok (.aload_n 1, 1) := by decide +kernel
theorem dX2_passTurn_83 : decode cX2_passTurn 83 = .ok (.iload 4, 2) := by decide +kernel
theorem dX2_passTurn_85 : decode cX2_passTurn 85 = .ok (.iload_n 2, 1) := by decide +kernel
theorem dX2_passTurn_86 : decode cX2_passTurn 86 = .ok (.iload 7, 2) := by decide +kernel
theorem dX2_passTurn_88 : decode cX2_passTurn 88 = .ok (.iload 6, 2) := by decide +kernel
theorem dX2_passTurn_90 : decode cX2_passTurn 90 = .ok (.invokevirtual 40, 3) := by decide +kernel
theorem dX2_passTurn_93 : decode cX2_passTurn 93 = .ok (.aload_n 0, 1) := by decide +kernel
theorem dX2_passTurn_94 : decode cX2_passTurn 94 = .ok (.getfield 9, 3) := by decide +kernel
theorem dX2_passTurn_97 : decode cX2_passTurn 97 = .ok (.iload 7, 2) := by decide +kernel
theorem dX2_passTurn_99 : decode cX2_passTurn 99 = .ok (.laload, 1) := by decide +kernel
theorem dX2_passTurn_100 : decode cX2_passTurn 100 = .ok (.iload_n 3, 1) := by decide +kernel
theorem dX2_passTurn_101 : decode cX2_passTurn 101 = .ok (.i2l, 1) := by decide +kernel
theorem dX2_passTurn_102 : decode cX2_passTurn 102 = .ok (.lmul, 1) := by decide +kernel
theorem dX2_passTurn_103 : decode cX2_passTurn 103 = .ok (.invokevirtual 44, 3) := by decide +kernel
theorem dX2_passTurn_106 : decode cX2_passTurn 106 = .ok (.iinc 7 1, 3) := by decide +kernel
theorem dX2_passTurn_109 : decode cX2_passTurn 109 = .ok (.goto (-78), 3) := by decide +kernel
theorem dX2_passTurn_112 : decode cX2_passTurn 112 = .ok (.aload_n 0, 1) := by decide +kernel
theorem dX2_passTurn_113 : decode cX2_passTurn 113 = .ok (.getfield 15, 3) := by decide +kernel
theorem dX2_passTurn_116 : decode cX2_passTurn 116 = .ok (.iconst 0, 1) := by decide +kernel
theorem dX2_passTurn_117 : decode cX2_passTurn 117 = .ok (.aload_n 0, 1) := by decide +kernel
theorem dX2_passTurn_118 : decode cX2_passTurn 118 = .ok (.getfield 9, 3) := by decide +kernel
theorem dX2_passTurn_121 : decode cX2_passTurn 121 = .ok (.iconst 0, 1) := by decide +kernel
theorem dX2_passTurn_122 : decode cX2_passTurn 122 = .ok (.aload_n 0, 1) := by decide +kernel
theorem dX2_passTurn_123 : decode cX2_passTurn 123 = .ok (.getfield 9, 3) := by decide +kernel
theorem dX2_passTurn_126 : decode cX2_passTurn 126 = .ok (.arraylength, 1) := by decide +kernel
theorem dX2_passTurn_127 : decode cX2_passTurn 127 = .ok (.invokestatic 48, 3) := by decide +kernel
theorem dX2_passTurn_130 : decode cX2_passTurn 130 = .ok (.return_, 1) := by decide +kernel
theorem dX2_addWays_0 : decode cX2_addWays 0 = .ok (.iload_n 1, 1) := by decide +kernel
theorem dX2_addWays_1 : decode cX2_addWays 1 = .ok (.iconst 1, 1) := by decide +kernel
theorem dX2_addWays_2 : decode cX2_addWays 2 = .ok (.bipush 30, 2) := by decide +kernel
theorem dX2_addWays_4 : decode cX2_addWays 4 = .ok (.invokestatic 54, 3) := by decide +kernel
theorem dX2_addWays_7 : decode cX2_addWays 7 = .ok (.ifCond .eq 13, 3) := by decide +kernel
theorem dX2_addWays_10 : decode cX2_addWays 10 = .ok (.aload_n 0, 1) := by decide +kernel
theorem dX2_addWays_11 : decode cX2_addWays 11 = .ok (.getfield 15, 3) := by decide +kernel
theorem dX2_addWays_14 : decode cX2_addWays 14 = .ok (.iload_n 1, 1) := by decide +kernel
theorem dX2_addWays_15 : decode cX2_addWays 15 = .ok (.dup2, 1) := by decide +kernel
theorem dX2_addWays_16 : decode cX2_addWays 16 = .ok (.laload, 1) := by decide +kernel
theorem dX2_addWays_17 : decode cX2_addWays 17 = .ok (.lload_n 2, 1) := by decide +kernel
theorem dX2_addWays_18 : decode cX2_addWays 18 = .ok (.ladd, 1) := by decide +kernel
theorem dX2_addWays_19 : decode cX2_addWays 19 = .ok (.lastore, 1) := by decide +kernel
theorem dX2_addWays_20 : decode cX2_addWays 20 = .ok (.return_, 1) := by decide +kernel
theorem dX3_init_0 : decode cX3_init 0 = .ok (.aload_n 0, 1) := by decide +kernel
theorem dX3_init_1 : decode cX3_init 1 = .ok (.invokespecial 3, 3) := by decide +kernel
theorem dX3_init_4 : decode cX3_init 4 = .ok (.aload_n 0, 1) := by decide +kernel
theorem dX3_init_5 : decode cX3_init 5 = .ok (.bipush 24, 2) := by decide +kernel
theorem dX3_init_7 : decode cX3_init 7 = .ok (.newarray .long, 2) := by decide +kernel
theorem dX3_init_9 : decode cX3_init 9 = .ok (.putfield 11, 3) := by decide +kernel
theorem dX3_init_12 : decode cX3_init 12 = .ok (.aload_n 0, 1) := by decide +kernel
theorem dX3_init_13 : decode cX3_init 13 = .ok (.iconst (-1), 1) := by decide +kernel
theorem dX3_init_14 : decode cX3_init 14 = .ok (.putfield 15, 3) := by decide +kernel
theorem dX3_init_17 : decode cX3_init 17 = .ok (.aload_n 0, 1) := by decide +kernel
theorem dX3_init_18 : decode cX3_init 18 = .ok (.iconst 0, 1) := by decide +kernel
theorem dX3_init_19 : decode cX3_init 19 = .ok (.putfield 19, 3) := by decide +kernel
theorem dX3_init_22 : decode cX3_init 22 = .ok (.return_, 1) := by decide +kernel
theorem dX3_begin_0 : decode cX3_begin 0 = .ok (.aload_n 0, 1) := by decide +kernel
theorem dX3_begin_1 : decode cX3_begin 1 = .ok (.getfield 11, 3) := by decide +kernel
theorem dX3_begin_4 : decode cX3_begin 4 = .ok (.lconst 0, 1) := by decide +kernel
theorem dX3_begin_5 : decode cX3_begin 5 = .ok (.invokestatic 22, 3) := by decide +kernel
theorem dX3_begin_8 : decode cX3_begin 8 = .ok (.aload_n 0, 1) := by decide +kernel
theorem dX3_begin_9 : decode cX3_begin 9 = .ok (.iload_n 1, 1) := by decide +kernel
theorem dX3_begin_10 : decode cX3_begin 10 = .ok (.putfield 15, 3) := by decide +kernel
theorem dX3_begin_13 : decode cX3_begin 13 = .ok (.aload_n 0, 1) := by decide +kernel
theorem dX3_begin_14 : decode cX3_begin 14 = .ok (.iload_n 2, 1) := by decide +kernel
theorem dX3_begin_15 : decode cX3_begin 15 = .ok (.putfield 19, 3) := by decide +kernel
theorem dX3_begin_18 : decode cX3_begin 18 = .ok (.return_, 1) := by decide +kernel
theorem dX3_becomeNothing_0 : decode cX3_becomeNothing 0 = .ok (.aload_n 0, 1) := by decide +kernel
theorem dX3_becomeNothing_1 : decode cX3_becomeNothing 1 = .ok (.iconst (-1), 1) := by decide +kernel
theorem dX3_becomeNothing_2 : decode cX3_becomeNothing 2 = .ok (.putfield 15, 3) := by decide +kernel
theorem dX3_becomeNothing_5 : decode cX3_becomeNothing 5 = .ok (.aload_n 0, 1) := by decide +kernel
theorem dX3_becomeNothing_6 : decode cX3_becomeNothing 6 = .ok (.iconst 0, 1) := by decide +kernel
theorem dX3_becomeNothing_7 : decode cX3_becomeNothing 7 = .ok (.putfield 19, 3) := by decide +kernel
theorem dX3_becomeNothing_10 : decode cX3_becomeNothing 10 = .ok (.return_, 1) := by decide +kernel
theorem dX3_isNothing_0 : decode cX3_isNothing 0 = .ok (.aload_n 0, 1) := by decide +kernel
theorem dX3_isNothing_1 : decode cX3_isNothing 1 = .ok (.getfield 15, 3) := by decide +kernel
theorem dX3_isNothing_4 : decode cX3_isNothing 4 = .ok (.iconst (-1), 1) := by decide +kernel
theorem dX3_isNothing_5 : decode cX3_isNothing 5 = .ok (.if_icmp .ne 7, 3) := by decide +kernel
theorem dX3_isNothing_8 : decode cX3_isNothing 8 = .ok (.iconst 1, 1) := by decide +kernel
theorem dX3_isNothing_9 : decode cX3_isNothing 9 = .ok (.goto 4, 3) := by decide +kernel
theorem dX3_isNothing_12 : decode cX3_isNothing 12 = .ok (.iconst 0, 1) := by decide +kernel
theorem dX3_isNothing_13 : decode cX3_isNothing 13 = .ok (.ireturn, 1) := by decide +kernel
theorem dX3_holds_0 : decode cX3_holds 0 = .ok (.iload_n 1, 1) := by decide +kernel
theorem dX3_holds_1 : decode cX3_holds 1 = .ok (.iconst 0, 1) := by decide +kernel
theorem dX3_holds_2 : decode cX3_holds 2 = .ok (.aload_n 0, 1) := by decide +kernel
theorem dX3_holds_3 : decode cX3_holds 3 = .ok (.getfield 19, 3) := by decide +kernel
theorem dX3_holds_6 : decode cX3_holds 6 = .ok (.invokestatic 28, 3) := by decide +kernel
theorem dX3_holds_9 : decode cX3_holds 9 = .ok (.ifCond .eq 21, 3) := by decide +kernel
theorem dX3_holds_12 : decode cX3_holds 12 = .ok (.iload_n 2, 1) := by decide +kernel
theorem dX3_holds_13 : decode cX3_holds 13 = .ok (.iconst 0, 1) := by decide +kernel
theorem dX3_holds_14 : decode cX3_holds 14 = .ok (.aload_n 0, 1) := by decide +kernel
theorem dX3_holds_15 : decode cX3_holds 15 = .ok (.getfield 19, 3) := by decide +kernel
theorem dX3_holds_18 : decode cX3_holds 18 = .ok (.iload_n 1, 1) := by decide +kernel
theorem dX3_holds_19 : decode cX3_holds 19 = .ok (.isub, 1) := by decide +kernel
theorem dX3_holds_20 : decode cX3_holds 20 = .ok (.invokestatic 28, 3) := by decide +kernel
theorem dX3_holds_23 : decode cX3_holds 23 = .ok (.ifCond .eq 7, 3) := by decide +kernel
theorem dX3_holds_26 : decode cX3_holds 26 = .ok (.iconst 1, 1) := by decide +kernel
theorem dX3_holds_27 : decode cX3_holds 27 = .ok (.goto 4, 3) := by decide +kernel
theorem dX3_holds_30 : decode cX3_holds 30 = .ok (.iconst 0, 1) := by decide +kernel
theorem dX3_holds_31 : decode cX3_holds 31 = .ok (.ireturn, 1) := by decide +kernel
theorem dX3_refusal_0 : decode cX3_refusal 0 = .ok (.aload_n 0, 1) := by decide +kernel
theorem dX3_refusal_1 : decode cX3_refusal 1 = .ok (.invokevirtual 32, 3) := by decide +kernel
theorem dX3_refusal_4 : decode cX3_refusal 4 = .ok (.ifCond .eq 6, 3) := by decide +kernel
theorem dX3_refusal_7 : decode cX3_refusal 7 = .ok (.bipush (-11), 2) := by decide +kernel
theorem dX3_refusal_9 : decode cX3_refusal 9 = .ok (.ireturn, 1) := by decide +kernel
theorem dX3_refusal_10 : decode cX3_refusal 10 = .ok (.aload_n 0, 1) := by decide +kernel
theorem dX3_refusal_11 : decode cX3_refusal 11 = .ok (.getfield 15, 3) := by decide +kernel
theorem dX3_refusal_14 : decode cX3_refusal 14 = .ok (.iload_n 1, 1) := by decide +kernel
theorem dX3_refusal_15 : decode cX3_refusal 15 = .ok (.if_icmp .eq 6, 3) := by decide +kernel
theorem dX3_refusal_18 : decode cX3_refusal 18 = .ok (.bipush (-12), 2) := by decide +kernel
theorem dX3_refusal_20 : decode cX3_refusal 20 = .ok (.ireturn, 1) := by decide +kernel
theorem dX3_refusal_21 : decode cX3_refusal 21 = .ok (.aload_n 0, 1) := by decide +kernel
theorem dX3_refusal_22 : decode cX3_refusal 22 = .ok (.iload_n 2, 1) := by decide +kernel
theorem dX3_refusal_23 : decode cX3_refusal 23 = .ok (.iload_n 3, 1) := by decide +kernel
theorem dX3_refusal_24 : decode cX3_refusal 24 = .ok (.invokevirtual 36, 3) := by decide +kernel
theorem dX3_refusal_27 : decode cX3_refusal 27 = .ok (.ifCond .eq 7, 3) := by decide +kernel
theorem dX3_refusal_30 : decode cX3_refusal 30 = .ok (.iconst 0, 1) := by decide +kernel
theorem dX3_refusal_31 : decode cX3_refusal 31 = .ok (.goto 5, 3) := by decide +kernel
theorem dX3_refusal_34 : decode cX3_refusal 34 = .ok (.bipush (-13), 2) := by decide +kernel
theorem dX3_refusal_36 : decode cX3_refusal 36 = .ok (.ireturn, 1) := by decide +kernel
theorem dX3_put_0 : decode cX3_put 0 = .ok (.iload_n 1, 1) := by decide +kernel
theorem dX3_put_1 : decode cX3_put 1 = .ok (.iconst 0, 1) := by decide +kernel
theorem dX3_put_2 : decode cX3_put 2 = .ok (.aload_n 0, 1) := by decide +kernel
theorem dX3_put_3 : decode cX3_put 3 = .ok (.getfield 19, 3) := by decide +kernel
theorem dX3_put_6 : decode cX3_put 6 = .ok (.iconst 1, 1) := by decide +kernel
theorem dX3_put_7 : decode cX3_put 7 = .ok (.isub, 1) := by decide +kernel
theorem dX3_put_8 : decode cX3_put 8 = .ok (.invokestatic 28, 3) := by decide +kernel
theorem dX3_put_11 : decode cX3_put 11 = .ok (.ifCond .eq 14, 3) := by decide +kernel
theorem dX3_put_14 : decode cX3_put 14 = .ok (.aload_n 0, 1) := by decide +kernel
theorem dX3_put_15 : decode cX3_put 15 = .ok (.getfield 11, 3) := by decide +kernel
theorem dX3_put_18 : decode cX3_put 18 = .ok (.iload_n 1, 1) := by decide +kernel
theorem dX3_put_19 : decode cX3_put 19 = .ok (.aload_n 0, 1) := by decide +kernel
theorem dX3_put_20 : decode cX3_put 20 = .ok (.lload_n 2, 1) := by decide +kernel
theorem dX3_put_21 : decode cX3_put 21 = .ok (.invokevirtual 40, 3) := by decide +kernel
theorem dX3_put_24 : decode cX3_put 24 = .ok (.lastore, 1) := by decide +kernel
theorem dX3_put_25 : decode cX3_put 25 = .ok (.return_, 1) := by decide +kernel
theorem dX3_cut_0 : decode cX3_cut 0 = .ok (.aload_n 0, 1) := by decide +kernel
theorem dX3_cut_1 : decode cX3_cut 1 = .ok (.getfield 15, 3) := by decide +kernel
theorem dX3_cut_4 : decode cX3_cut 4 = .ok (.tableswitch 42 0 2 #[28, 33, 38], 28) := by decide +kernel
theorem dX3_cut_32 : decode cX3_cut 32 = .ok (.lload_n 1, 1) := by decide +kernel
theorem dX3_cut_33 : decode cX3_cut 33 = .ok (.l2i, 1) := by decide +kernel
theorem dX3_cut_34 : decode cX3_cut 34 = .ok (.i2b, 1) := by decide +kernel
theorem dX3_cut_35 : decode cX3_cut 35 = .ok (.i2l, 1) := by decide +kernel
theorem dX3_cut_36 : decode cX3_cut 36 = .ok (.lreturn, 1) := by decide +kernel
theorem dX3_cut_37 : decode cX3_cut 37 = .ok (.lload_n 1, 1) := by decide +kernel
theorem dX3_cut_38 : decode cX3_cut 38 = .ok (.l2i, 1) := by decide +kernel
theorem dX3_cut_39 : decode cX3_cut 39 = .ok (.i2s, 1) := by decide +kernel
theorem dX3_cut_40 : decode cX3_cut 40 = .ok (.i2l, 1) := by decide +kernel
theorem dX3_cut_41 : decode cX3_cut 41 = .ok (.lreturn, 1) := by decide +kernel
theorem dX3_cut_42 : decode cX3_cut 42 = .ok (.lload_n 1, 1) := by decide +kernel
theorem dX3_cut_43 : decode cX3_cut 43 = .ok (.l2i, 1) := by decide +kernel
theorem dX3_cut_44 : decode cX3_cut 44 = .ok (.i2l, 1) := by decide +kernel
theorem dX3_cut_45 : decode cX3_cut 45 = .ok (.lreturn, 1) := by decide +kernel
theorem dX3_cut_46 : decode cX3_cut 46 = .ok (.lload_n 1, 1) := by decide +kernel
theorem dX3_cut_47 : decode cX3_cut 47 = .ok (.lreturn, 1) := by decide +kernel
theorem dX3_tells_0 : decode cX3_tells 0 = .ok (.iconst 0, 1) := by decide +kernel
theorem dX3_tells_1 : decode cX3_tells 1 = .ok (.istore 5, 2) := by decide +kernel
theorem dX3_tells_3 : decode cX3_tells 3 = .ok (.iload 5, 2) := by decide +kernel
theorem dX3_tells_5 : decode cX3_tells 5 = .ok (.iload 4, 2) := by decide +kernel
theorem dX3_tells_7 : decode cX3_tells 7 = .ok (.if_icmp .ge 31, 3) := by decide +kernel
theorem dX3_tells_10 : decode cX3_tells 10 = .ok (.aload_n 0, 1) := by decide +kernel
theorem dX3_tells_11 : decode cX3_tells 11 = .ok (.getfield 11, 3) := by decide +kernel
theorem dX3_tells_14 : decode cX3_tells 14 = .ok (.iload_n 1, 1) := by decide +kernel
theorem dX3_tells_15 : decode cX3_tells 15 = .ok (.iload 5, 2) := by decide +kernel
theorem dX3_tells_17 : decode cX3_tells 17 = .ok (.iadd, 1) := by decide +kernel
theorem dX3_tells_18 : decode cX3_tells 18 = .ok (.laload, 1) := by decide +kernel
theorem dX3_tells_19 : decode cX3_tells 19 = .ok (.aload_n 2, 1) := by decide +kernel
theorem dX3_tells_20 : decode cX3_tells 20 = .ok (.iload_n 3, 1) := by decide +kernel
theorem dX3_tells_21 : decode cX3_tells 21 = .ok (.iload 5, 2) := by decide +kernel
theorem dX3_tells_23 : decode cX3_tells 23 = .ok (.iadd, 1) := by decide +kernel
theorem dX3_tells_24 : decode cX3_tells 24 = .ok (.iaload, 1) := by decide +kernel
theorem dX3_tells_25 : decode cX3_tells 25 = .ok (.i2l, 1) := by decide +kernel
theorem dX3_tells_26 : decode cX3_tells 26 = .ok (.lcmp, 1) := by decide +kernel
theorem dX3_tells_27 : decode cX3_tells 27 = .ok (.ifCond .eq 5, 3) := by decide +kernel
theorem dX3_tells_30 : decode cX3_tells 30 = .ok (.iconst 0, 1) := by decide +kernel
theorem dX3_tells_31 : decode cX3_tells 31 = .ok (.ireturn, 1) := by decide +kernel
theorem dX3_tells_32 : decode cX3_tells 32 = .ok (.iinc 5 1, 3) := by decide +kernel
theorem dX3_tells_35 : decode cX3_tells 35 = .ok (.goto (-32), 3) := by decide +kernel
theorem dX3_tells_38 : decode cX3_tells 38 = .ok (.iconst 1, 1) := by decide +kernel
theorem dX3_tells_39 : decode cX3_tells 39 = .ok (.ireturn, 1) := by decide +kernel
theorem dX4_init_0 : decode cX4_init 0 = .ok (.aload_n 0, 1) := by decide +kernel
theorem dX4_init_1 : decode cX4_init 1 = .ok (.invokespecial 3, 3) := by decide +kernel
theorem dX4_init_4 : decode cX4_init 4 = .ok (.aload_n 0, 1) := by decide +kernel
theorem dX4_init_5 : decode cX4_init 5 = .ok (.bipush 10, 2) := by decide +kernel
theorem dX4_init_7 : decode cX4_init 7 = .ok (.newarray .int, 2) := by decide +kernel
theorem dX4_init_9 : decode cX4_init 9 = .ok (.putfield 9, 3) := by decide +kernel
theorem dX4_init_12 : decode cX4_init 12 = .ok (.aload_n 0, 1) := by decide +kernel
theorem dX4_init_13 : decode cX4_init 13 = .ok (.bipush 10, 2) := by decide +kernel
theorem dX4_init_15 : decode cX4_init 15 = .ok (.newarray .int, 2) := by decide +kernel
theorem dX4_init_17 : decode cX4_init 17 = .ok (.putfield 15, 3) := by decide +kernel
theorem dX4_init_20 : decode cX4_init 20 = .ok (.aload_n 0, 1) := by decide +kernel
theorem dX4_init_21 : decode cX4_init 21 = .ok (.iconst 5, 1) := by decide +kernel
theorem dX4_init_22 : decode cX4_init 22 = .ok (.newarray .int, 2) := by decide +kernel
theorem dX4_init_24 : decode cX4_init 24 = .ok (.putfield 18, 3) := by decide +kernel
theorem dX4_init_27 : decode cX4_init 27 = .ok (.aload_n 0, 1) := by decide +kernel
theorem dX4_init_28 : decode cX4_init 28 = .ok (.iconst 5, 1) := by decide +kernel
theorem dX4_init_29 : decode cX4_init 29 = .ok (.newarray .int, 2) := by decide +kernel
theorem dX4_init_31 : decode cX4_init 31 = .ok (.putfield 21, 3) := by decide +kernel
theorem dX4_init_34 : decode cX4_init 34 = .ok (.aload_n 0, 1) := by decide +kernel
theorem dX4_init_35 : decode cX4_init 35 = .ok (.iconst 5, 1) := by decide +kernel
theorem dX4_init_36 : decode cX4_init 36 = .ok (.newarray .int, 2) := by decide +kernel
theorem dX4_init_38 : decode cX4_init 38 = .ok (.putfield 24, 3) := by decide +kernel
theorem dX4_init_41 : decode cX4_init 41 = .ok (.aload_n 0, 1) := by decide +kernel
theorem dX4_init_42 : decode cX4_init 42 = .ok (.iconst 5, 1) := by decide +kernel
theorem dX4_init_43 : decode cX4_init 43 = .ok (.newarray .int, 2) := by decide +kernel
theorem dX4_init_45 : decode cX4_init 45 = .ok (.putfield 27, 3) := by decide +kernel
theorem dX4_init_48 : decode cX4_init 48 = .ok (.aload_n 0, 1) := by decide +kernel
theorem dX4_init_49 : decode cX4_init 49 = .ok (.iconst 0, 1) := by decide +kernel
theorem dX4_init_50 : decode cX4_init 50 = .ok (.putfield 30, 3) := by decide +kernel
theorem dX4_init_53 : decode cX4_init 53 = .ok (.aload_n 0, 1) := by decide +kernel
theorem dX4_init_54 : decode cX4_init 54 = .ok (.iconst 0, 1) := by decide +kernel
theorem dX4_init_55 : decode cX4_init 55 = .ok (.putfield 34, 3) := by decide +kernel
theorem dX4_init_58 : decode cX4_init 58 = .ok (.aload_n 0, 1) := by decide +kernel
theorem dX4_init_59 : decode cX4_init 59 = .ok (.iconst 1, 1) := by decide +kernel
theorem dX4_init_60 : decode cX4_init 60 = .ok (.putfield 37, 3) := by decide +kernel
theorem dX4_init_63 : decode cX4_init 63 = .ok (.aload_n 0, 1) := by decide +kernel
theorem dX4_init_64 : decode cX4_init 64 = .ok (.getfield 9, 3) := by decide +kernel
theorem dX4_init_67 : decode cX4_init 67 = .ok (.iconst 1, 1) := by decide +kernel
theorem dX4_init_68 : decode cX4_init 68 = .ok (.invokestatic 40, 3) := by decide +kernel
theorem dX4_init_71 : decode cX4_init 71 = .ok (.return_, 1) := by decide +kernel
theorem dX4_hasRider_0 : decode cX4_hasRider 0 = .ok (.iload_n 1, 1) := by decide +kernel
theorem dX4_hasRider_1 : decode cX4_hasRider 1 = .ok (.iconst 0, 1) := by decide +kernel
theorem dX4_hasRider_2 : decode cX4_hasRider 2 = .ok (.aload_n 0, 1) := by decide +kernel
theorem dX4_hasRider_3 : decode cX4_hasRider 3 = .ok (.getfield 30, 3) := by decide +kernel
theorem dX4_hasRider_6 : decode cX4_hasRider 6 = .ok (.iconst 1, 1) := by decide +kernel
theorem dX4_hasRider_7 : decode cX4_hasRider 7 = .ok (.isub, 1) := by decide +kernel
theorem dX4_hasRider_8 : decode cX4_hasRider 8 = .ok (.invokestatic 46, 3) := by decide +kernel
theorem dX4_hasRider_11 : decode cX4_hasRider 11 = .ok (.ireturn, 1) := by decide +kernel
theorem dX4_addRider_0 : decode cX4_addRider 0 = .ok (.aload_n 0, 1) := by decide +kernel
theorem dX4_addRider_1 : decode cX4_addRider 1 = .ok (.getfield 30, 3) := by decide +kernel
theorem dX4_addRider_4 : decode cX4_addRider 4 = .ok (.istore 4, 2) := by decide +kernel
theorem dX4_addRider_6 : decode cX4_addRider 6 = .ok (.iload 4, 2) := by decide +kernel
theorem dX4_addRider_8 : decode cX4_addRider 8 = .ok (.iconst 0, 1) := by decide +kernel
theorem dX4_addRider_9 : decode cX4_addRider 9 = .ok (.iconst 4, 1) := by decide +kernel
theorem dX4_addRider_10 : decode cX4_addRider 10 = .ok (.invokestatic 46, 3) := by decide +kernel
theorem dX4_addRider_13 : decode cX4_addRider 13 = .ok (.ifCond .ne 6, 3) := by decide +kernel
theorem dX4_addRider_16 : decode cX4_addRider 16 = .ok (.bipush (-3), 2) := by decide +kernel
theorem dX4_addRider_18 : decode cX4_addRider 18 = .ok (.ireturn, 1) := by decide +kernel
theorem dX4_addRider_19 : decode cX4_addRider 19 = .ok (.aload_n 0, 1) := by decide +kernel
theorem dX4_addRider_20 : decode cX4_addRider 20 = .ok (.getfield 18, 3) := by decide +kernel
theorem dX4_addRider_23 : decode cX4_addRider 23 = .ok (.iload 4, 2) := by decide +kernel
theorem dX4_addRider_25 : decode cX4_addRider 25 = .ok (.iload_n 1, 1) := by decide +kernel
theorem dX4_addRider_26 : decode cX4_addRider 26 = .ok (.iastore, 1) := by decide +kernel
theorem dX4_addRider_27 : decode cX4_addRider 27 = .ok (.aload_n 0, 1) := by decide +kernel
theorem dX4_addRider_28 : decode cX4_addRider 28 = .ok (.getfield 21, 3) := by decide +kernel
theorem dX4_addRider_31 : decode cX4_addRider 31 = .ok (.iload 4, 2) := by decide +kernel
theorem dX4_addRider_33 : decode cX4_addRider 33 = .ok (.iload_n 2, 1) := by decide +kernel
theorem dX4_addRider_34 : decode cX4_addRider 34 = .ok (.iastore, 1) := by decide +kernel
theorem dX4_addRider_35 : decode cX4_addRider 35 = .ok (.aload_n 0, 1) := by decide +kernel
theorem dX4_addRider_36 : decode cX4_addRider 36 = .ok (.getfield 24, 3) := by decide +kernel
theorem dX4_addRider_39 : decode cX4_addRider 39 = .ok (.iload 4, 2) := by decide +kernel
theorem dX4_addRider_41 : decode cX4_addRider 41 = .ok (.iload_n 3, 1) := by decide +kernel
theorem dX4_addRider_42 : decode cX4_addRider 42 = .ok (.iastore, 1) := by decide +kernel
theorem dX4_addRider_43 : decode cX4_addRider 43 = .ok (.aload_n 0, 1) := by decide +kernel
theorem dX4_addRider_44 : decode cX4_addRider 44 = .ok (.getfield 27, 3) := by decide +kernel
theorem dX4_addRider_47 : decode cX4_addRider 47 = .ok (.iload 4, 2) := by decide +kernel
theorem dX4_addRider_49 : decode cX4_addRider 49 = .ok (.bipush 30, 2) := by decide +kernel
theorem dX4_addRider_51 : decode cX4_addRider 51 = .ok (.iastore, 1) := by decide +kernel
theorem dX4_addRider_52 : decode cX4_addRider 52 = .ok (.aload_n 0, 1) := by decide +kernel
theorem dX4_addRider_53 : decode cX4_addRider 53 = .ok (.iload 4, 2) := by decide +kernel
theorem dX4_addRider_55 : decode cX4_addRider 55 = .ok (.iconst 1, 1) := by decide +kernel
theorem dX4_addRider_56 : decode cX4_addRider 56 = .ok (.iadd, 1) := by decide +kernel
theorem dX4_addRider_57 : decode cX4_addRider 57 = .ok (.putfield 30, 3) := by decide +kernel
theorem dX4_addRider_60 : decode cX4_addRider 60 = .ok (.iload 4, 2) := by decide +kernel
theorem dX4_addRider_62 : decode cX4_addRider 62 = .ok (.ireturn, 1) := by decide +kernel
theorem dX4_stuckOn_0 : decode cX4_stuckOn 0 = .ok (.iconst 0, 1) := by decide +kernel
theorem dX4_stuckOn_1 : decode cX4_stuckOn 1 = .ok (.istore_n 2, 1) := by decide +kernel
theorem dX4_stuckOn_2 : decode cX4_stuckOn 2 = .ok (.iload_n 2, 1) := by decide +kernel
theorem dX4_stuckOn_3 : decode cX4_stuckOn 3 = .ok (.aload_n 0, 1) := by decide +kernel
theorem dX4_stuckOn_4 : decode cX4_stuckOn 4 = .ok (.getfield 30, 3) := by decide +kernel
theorem dX4_stuckOn_7 : decode cX4_stuckOn 7 = .ok (.if_icmp .ge 24, 3) := by decide +kernel
theorem dX4_stuckOn_10 : decode cX4_stuckOn 10 = .ok (.aload_n 0, 1) := by decide +kernel
theorem dX4_stuckOn_11 : decode cX4_stuckOn 11 = .ok (.getfield 27, 3) := by decide +kernel
theorem dX4_stuckOn_14 : decode cX4_stuckOn 14 = .ok (.iload_n 2, 1) := by decide +kernel
theorem dX4_stuckOn_15 : decode cX4_stuckOn 15 = .ok (.iaload, 1) := by decide +kernel
theorem dX4_stuckOn_16 : decode cX4_stuckOn 16 = .ok (.bipush 10, 2) := by decide +kernel
theorem dX4_stuckOn_18 : decode cX4_stuckOn 18 = .ok (.iload_n 1, 1) := by decide +kernel
theorem dX4_stuckOn_19 : decode cX4_stuckOn 19 = .ok (.iadd, 1) := by decide +kernel
theorem dX4_stuckOn_20 : decode cX4_stuckOn 20 = .ok (.if_icmp .ne 5, 3) := by decide +kernel
theorem dX4_stuckOn_23 : decode cX4_stuckOn 23 = .ok (.iload_n 2, 1) := by decide +kernel
theorem dX4_stuckOn_24 : decode cX4_stuckOn 24 = .ok (.ireturn, 1) := by decide +kernel
theorem dX4_stuckOn_25 : decode cX4_stuckOn 25 = .ok (.iinc 2 1, 3) := by decide +kernel
theorem dX4_stuckOn_28 : decode cX4_stuckOn 28 = .ok (.goto (-26), 3) := by decide +kernel
theorem dX4_stuckOn_31 : decode cX4_stuckOn 31 = .ok (.bipush (-4), 2) := by decide +kernel
theorem dX4_stuckOn_33 : decode cX4_stuckOn 33 = .ok (.ireturn, 1) := by decide +kernel
theorem dX4_ridersAtTop_0 : decode cX4_ridersAtTop 0 = .ok (.iconst 0, 1) := by decide +kernel
theorem dX4_ridersAtTop_1 : decode cX4_ridersAtTop 1 = .ok (.istore_n 1, 1) := by decide +kernel
theorem dX4_ridersAtTop_2 : decode cX4_ridersAtTop 2 = .ok (.iconst 0, 1) := by decide +kernel
theorem dX4_ridersAtTop_3 : decode cX4_ridersAtTop 3 = .ok (.istore_n 2, 1) := by decide +kernel
theorem dX4_ridersAtTop_4 : decode cX4_ridersAtTop 4 = .ok (.iload_n 2, 1) := by decide +kernel
theorem dX4_ridersAtTop_5 : decode cX4_ridersAtTop 5 = .ok (.aload_n 0, 1) := by decide +kernel
theorem dX4_ridersAtTop_6 : decode cX4_ridersAtTop 6 = .ok (.getfield 30, 3) := by decide +kernel
theorem dX4_ridersAtTop_9 : decode cX4_ridersAtTop 9 = .ok (.if_icmp .ge 26, 3) := by decide +kernel
theorem dX4_ridersAtTop_12 : decode cX4_ridersAtTop 12 = .ok (.aload_n 0, 1) := by decide +kernel
theorem dX4_ridersAtTop_13 : decode cX4_ridersAtTop 13 = .ok (.getfield 27, 3) := by decide +kernel
theorem dX4_ridersAtTop_16 : decode cX4_ridersAtTop 16 = .ok (.iload_n 2, 1) := by decide +kernel
theorem dX4_ridersAtTop_17 : decode cX4_ridersAtTop 17 = .ok (.iaload, 1) := by decide +kernel
theorem dX4_ridersAtTop_18 : decode cX4_ridersAtTop 18 = .ok (.bipush 30, 2) := by decide +kernel
theorem dX4_ridersAtTop_20 : decode cX4_ridersAtTop 20 = .ok (.if_icmp .ne 9, 3) := by decide +kernel
theorem dX4_ridersAtTop_23 : decode cX4_ridersAtTop 23 = .ok (.iload_n 1, 1) := by decide +kernel
theorem dX4_ridersAtTop_24 : decode cX4_ridersAtTop 24 = .ok (.iconst 1, 1) := by decide +kernel
theorem dX4_ridersAtTop_25 : decode cX4_ridersAtTop 25 = .ok (.iload_n 2, 1) := by decide +kernel
theorem dX4_ridersAtTop_26 : decode cX4_ridersAtTop 26 = .ok (.ishl, 1) := by decide +kernel
theorem dX4_ridersAtTop_27 : decode cX4_ridersAtTop 27 = .ok (.ior, 1) := by decide +kernel
theorem dX4_ridersAtTop_28 : decode cX4_ridersAtTop 28 = .ok (.istore_n 1, 1) := by decide +kernel
theorem dX4_ridersAtTop_29 : decode cX4_ridersAtTop 29 = .ok (.iinc 2 1, 3) := by decide +kernel
theorem dX4_ridersAtTop_32 : decode cX4_ridersAtTop 32 = .ok (.goto (-28), 3) := by decide +kernel
theorem dX4_ridersAtTop_35 : decode cX4_ridersAtTop 35 = .ok (.iload_n 1, 1) := by decide +kernel
theorem dX4_ridersAtTop_36 : decode cX4_ridersAtTop 36 = .ok (.ireturn, 1) := by decide +kernel
theorem dX4_ridersThrough_0 : decode cX4_ridersThrough 0 = .ok (.iconst 0, 1) := by decide +kernel
theorem dX4_ridersThrough_1 : decode cX4_ridersThrough 1 = .ok (.istore_n 1, 1) := by decide +kernel
theorem dX4_ridersThrough_2 : decode cX4_ridersThrough 2 = .ok (.iconst 0, 1) := by decide +kernel
theorem dX4_ridersThrough_3 : decode cX4_ridersThrough 3 = .ok (.istore_n 2, 1) := by decide +kernel
theorem dX4_ridersThrough_4 : decode cX4_ridersThrough 4 = .ok (.iload_n 2, 1) := by decide +kernel
theorem dX4_ridersThrough_5 : decode cX4_ridersThrough 5 = .ok (.aload_n 0, 1) := by decide +kernel
theorem dX4_ridersThrough_6 : decode cX4_ridersThrough 6 = .ok (.getfield 30, 3) := by decide +kernel
theorem dX4_ridersThrough_9 : decode cX4_ridersThrough 9 = .ok (.if_icmp .ge 27, 3) := by decide +kernel
theorem dX4_ridersThrough_12 : decode cX4_ridersThrough 12 = .ok (.aload_n 0, 1) := by decide +kernel
theorem dX4_ridersThrough_13 : decode cX4_ridersThrough 13 = .ok (.getfield 27, 3) := by decide +kernel
theorem dX4_ridersThrough_16 : decode cX4_ridersThrough 16 = .ok (.iload_n 2, 1) := by decide +kernel
theorem dX4_ridersThrough_17 : decode cX4_ridersThrough 17 = .ok (.iaload, 1) := by decide +kernel
theorem dX4_ridersThrough_18 : decode cX4_ridersThrough 18 = .ok (.invokestatic 50, 3) := by decide +kernel
theorem dX4_ridersThrough_21 : decode cX4_ridersThrough 21 = .ok (.ifCond .eq 9, 3) := by decide +kernel
theorem dX4_ridersThrough_24 : decode cX4_ridersThrough 24 = .ok (.iload_n 1, 1) := by decide +kernel
theorem dX4_ridersThrough_25 : decode cX4_ridersThrough 25 = .ok (.iconst 1, 1) := by decide +kernel
theorem dX4_ridersThrough_26 : decode cX4_ridersThrough 26 = .ok (.iload_n 2, 1) := by decide +kernel
theorem dX4_ridersThrough_27 : decode cX4_ridersThrough 27 = .ok (.ishl, 1) := by decide +kernel
theorem dX4_ridersThrough_28 : decode cX4_ridersThrough 28 = .ok (.ior, 1) := by decide +kernel
theorem dX4_ridersThrough_29 : decode cX4_ridersThrough 29 = .ok (.istore_n 1, 1) := by decide +kernel
theorem dX4_ridersThrough_30 : decode cX4_ridersThrough 30 = .ok (.iinc 2 1, 3) := by decide +kernel
theorem dX4_ridersThrough_33 : decode cX4_ridersThrough 33 = .ok (.goto (-29), 3) := by decide +kernel
theorem dX4_ridersThrough_36 : decode cX4_ridersThrough 36 = .ok (.iload_n 1, 1) := by decide +kernel
theorem dX4_ridersThrough_37 : decode cX4_ridersThrough 37 = .ok (.ireturn, 1) := by decide +kernel
theorem dX4_turnsTaken_0 : decode cX4_turnsTaken 0 = .ok (.iconst 0, 1) := by decide +kernel
theorem dX4_turnsTaken_1 : decode cX4_turnsTaken 1 = .ok (.istore_n 1, 1) := by decide +kernel
theorem dX4_turnsTaken_2 : decode cX4_turnsTaken 2 = .ok (.iconst 0, 1) := by decide +kernel
theorem dX4_turnsTaken_3 : decode cX4_turnsTaken 3 = .ok (.istore_n 2, 1) := by decide +kernel
theorem dX4_turnsTaken_4 : decode cX4_turnsTaken 4 = .ok (.iload_n 2, 1) := by decide +kernel
theorem dX4_turnsTaken_5 : decode cX4_turnsTaken 5 = .ok (.bipush 10, 2) := by decide +kernel
theorem dX4_turnsTaken_7 : decode cX4_turnsTaken 7 = .ok (.if_icmp .ge 25, 3) := by decide +kernel
theorem dX4_turnsTaken_10 : decode cX4_turnsTaken 10 = .ok (.aload_n 0, 1) := by decide +kernel
theorem dX4_turnsTaken_11 : decode cX4_turnsTaken 11 = .ok (.iload_n 2, 1) := by decide +kernel
theorem dX4_turnsTaken_12 : decode cX4_turnsTaken 12 = .ok (.invokevirtual 54, 3) := by decide +kernel
theorem dX4_turnsTaken_15 : decode cX4_turnsTaken 15 = .ok (.bipush (-4), 2) := by decide +kernel
theorem dX4_turnsTaken_17 : decode cX4_turnsTaken 17 = .ok (.if_icmp .eq 9, 3) := by decide +kernel
theorem dX4_turnsTaken_20 : decode cX4_turnsTaken 20 = .ok (.iload_n 1, 1) := by decide +kernel
theorem dX4_turnsTaken_21 : decode cX4_turnsTaken 21 = .ok (.iconst 1, 1) := by decide +kernel
theorem dX4_turnsTaken_22 : decode cX4_turnsTaken 22 = .ok (.iload_n 2, 1) := by decide +kernel
theorem dX4_turnsTaken_23 : decode cX4_turnsTaken 23 = .ok (.ishl, 1) := by decide +kernel
theorem dX4_turnsTaken_24 : decode cX4_turnsTaken 24 = .ok (.ior, 1) := by decide +kernel
theorem dX4_turnsTaken_25 : decode cX4_turnsTaken 25 = .ok (.istore_n 1, 1) := by decide +kernel
theorem dX4_turnsTaken_26 : decode cX4_turnsTaken 26 = .ok (.iinc 2 1, 3) := by decide +kernel
theorem dX4_turnsTaken_29 : decode cX4_turnsTaken 29 = .ok (.goto (-25), 3) := by decide +kernel
theorem dX4_turnsTaken_32 : decode cX4_turnsTaken 32 = .ok (.iload_n 1, 1) := by decide +kernel
theorem dX4_turnsTaken_33 : decode cX4_turnsTaken 33 = .ok (.ireturn, 1) := by decide +kernel
theorem dX4_gained_0 : decode cX4_gained 0 = .ok (.iconst 2, 1) := by decide +kernel
theorem dX4_gained_1 : decode cX4_gained 1 = .ok (.aload_n 0, 1) := by decide +kernel
theorem dX4_gained_2 : decode cX4_gained 2 = .ok (.getfield 21, 3) := by decide +kernel
theorem dX4_gained_5 : decode cX4_gained 5 = .ok (.iload_n 1, 1) := by decide +kernel
theorem dX4_gained_6 : decode cX4_gained 6 = .ok (.iaload, 1) := by decide +kernel
theorem dX4_gained_7 : decode cX4_gained 7 = .ok (.iconst 5, 1) := by decide +kernel
theorem dX4_gained_8 : decode cX4_gained 8 = .ok (.idiv, 1) := by decide +kernel
theorem dX4_gained_9 : decode cX4_gained 9 = .ok (.iadd, 1) := by decide +kernel
theorem dX4_gained_10 : decode cX4_gained 10 = .ok (.istore 4, 2) := by decide +kernel
theorem dX4_gained_12 : decode cX4_gained 12 = .ok (.iload_n 3, 1) := by decide +kernel
theorem dX4_gained_13 : decode cX4_gained 13 = .ok (.bipush 6, 2) := by decide +kernel
theorem dX4_gained_15 : decode cX4_gained 15 = .ok (.if_icmp .lt 7, 3) := by decide +kernel
theorem dX4_gained_18 : decode cX4_gained 18 = .ok (.iconst 0, 1) := by decide +kernel
theorem dX4_gained_19 : decode cX4_gained 19 = .ok (.goto 4, 3) := by decide +kernel
theorem dX4_gained_22 : decode cX4_gained 22 = .ok (.iconst 2, 1) := by decide +kernel
theorem dX4_gained_23 : decode cX4_gained 23 = .ok (.istore 5, 2) := by decide +kernel
theorem dX4_gained_25 : decode cX4_gained 25 = .ok (.aload_n 0, 1) := by decide +kernel
theorem dX4_gained_26 : decode cX4_gained 26 = .ok (.getfield 18, 3) := by decide +kernel
theorem dX4_gained_29 : decode cX4_gained 29 = .ok (.iload_n 1, 1) := by decide +kernel
theorem dX4_gained_30 : decode cX4_gained 30 = .ok (.iaload, 1) := by decide +kernel
theorem dX4_gained_31 : decode cX4_gained 31 = .ok (.tableswitch 63 1 4 #[29, 32, 35, 51], 29) := by decide +kernel
theorem dX4_gained_60 : decode cX4_gained 60 = .ok (.iload 4, 2) := by decide +kernel
theorem dX4_gained_62 : decode cX4_gained 62 = .ok (.ireturn, 1) := by decide +kernel
theorem dX4_gained_63 : decode cX4_gained 63 = .ok (.iload 5, 2) := by decide +kernel
theorem dX4_gained_65 : decode cX4_gained 65 = .ok (.ireturn, 1) := by decide +kernel
theorem dX4_gained_66 : decode cX4_gained 66 = .ok (.iload_n 2, 1) := by decide +kernel
theorem dX4_gained_67 : decode cX4_gained 67 = .ok (.iconst 2, 1) := by decide +kernel
theorem dX4_gained_68 : decode cX4_gained 68 = .ok (.irem, 1) := by decide +kernel
theorem dX4_gained_69 : decode cX4_gained 69 = .ok (.ifCond .ne 8, 3) := by decide +kernel
theorem dX4_gained_72 : decode cX4_gained 72 = .ok (.iload 4, 2) := by decide +kernel
theorem dX4_gained_74 : decode cX4_gained 74 = .ok (.goto 7, 3) := by decide +kernel
theorem dX4_gained_77 : decode cX4_gained 77 = .ok (.iload 4, 2) := by decide +kernel
theorem dX4_gained_79 : decode cX4_gained 79 = .ok (.iconst 2, 1) := by decide +kernel
theorem dX4_gained_80 : decode cX4_gained 80 = .ok (.idiv, 1) := by decide +kernel
theorem dX4_gained_81 : decode cX4_gained 81 = .ok (.ireturn, 1) := by decide +kernel
theorem dX4_gained_82 : decode cX4_gained 82 = .ok (.iload 5, 2) := by decide +kernel
theorem dX4_gained_84 : decode cX4_gained 84 = .ok (.iconst 2, 1) := by decide +kernel
theorem dX4_gained_85 : decode cX4_gained 85 = .ok (.aload_n 0, 1) := by decide +kernel
theorem dX4_gained_86 : decode cX4_gained 86 = .ok (.getfield 15, 3) := by decide +kernel
theorem dX4_gained_89 : decode cX4_gained 89 = .ok (.iload_n 2, 1) := by decide +kernel
theorem dX4_gained_90 : decode cX4_gained 90 = .ok (.iaload, 1) := by decide +kernel
theorem dX4_gained_91 : decode cX4_gained 91 = .ok (.imul, 1) := by decide +kernel
theorem dX4_gained_92 : decode cX4_gained 92 = .ok (.iadd, 1) := by decide +kernel
theorem dX4_gained_93 : decode cX4_gained 93 = .ok (.ireturn, 1) := by decide +kernel
theorem dX4_gained_94 : decode cX4_gained 94 = .ok (.iconst 2, 1) := by decide +kernel
theorem dX4_gained_95 : decode cX4_gained 95 = .ok (.ireturn, 1) := by decide +kernel
theorem dX4_speedBehind_0 : decode cX4_speedBehind 0 = .ok (.bipush 30, 2) := by decide +kernel
theorem dX4_speedBehind_2 : decode cX4_speedBehind 2 = .ok (.iload_n 3, 1) := by decide +kernel
theorem dX4_speedBehind_3 : decode cX4_speedBehind 3 = .ok (.aload_n 0, 1) := by decide +kernel
theorem dX4_speedBehind_4 : decode cX4_speedBehind 4 = .ok (.iload_n 2, 1) := by decide +kernel
theorem dX4_speedBehind_5 : decode cX4_speedBehind 5 = .ok (.iload_n 1, 1) := by decide +kernel
theorem dX4_speedBehind_6 : decode cX4_speedBehind 6 = .ok (.iload_n 3, 1) := by decide +kernel
theorem dX4_speedBehind_7 : decode cX4_speedBehind 7 = .ok (.invokevirtual 58, 3) := by decide +kernel
theorem dX4_speedBehind_10 : decode cX4_speedBehind 10 = .ok (.iadd, 1) := by decide +kernel
theorem dX4_speedBehind_11 : decode cX4_speedBehind 11 = .ok (.iload 4, 2) := by decide +kernel
theorem dX4_speedBehind_13 : decode cX4_speedBehind 13 = .ok (.isub, 1) := by decide +kernel
theorem dX4_speedBehind_14 : decode cX4_speedBehind 14 = .ok (.aload_n 0, 1) := by decide +kernel
theorem dX4_speedBehind_15 : decode cX4_speedBehind 15 = .ok (.getfield 15, 3) := by decide +kernel
theorem dX4_speedBehind_18 : decode cX4_speedBehind 18 = .ok (.iload_n 1, 1) := by decide +kernel
theorem dX4_speedBehind_19 : decode cX4_speedBehind 19 = .ok (.iaload, 1) := by decide +kernel
theorem dX4_speedBehind_20 : decode cX4_speedBehind 20 = .ok (.isub, 1) := by decide +kernel
theorem dX4_speedBehind_21 : decode cX4_speedBehind 21 = .ok (.invokestatic 62, 3) := by decide +kernel
theorem dX4_speedBehind_24 : decode cX4_speedBehind 24 = .ok (.istore 5, 2) := by decide +kernel
theorem dX4_speedBehind_26 : decode cX4_speedBehind 26 = .ok (.aload_n 0, 1) := by decide +kernel
theorem dX4_speedBehind_27 : decode cX4_speedBehind 27 = .ok (.iload_n 1, 1) := by decide +kernel
theorem dX4_speedBehind_28 : decode cX4_speedBehind 28 = .ok (.invokevirtual 54, 3) := by decide +kernel
theorem dX4_speedBehind_31 : decode cX4_speedBehind 31 = .ok (.istore 6, 2) := by decide +kernel
theorem dX4_speedBehind_33 : decode cX4_speedBehind 33 = .ok (.iload 6, 2) := by decide +kernel
theorem dX4_speedBehind_35 : decode cX4_speedBehind 35 = .ok (.bipush (-4), 2) := by decide +kernel
theorem dX4_speedBehind_37 : decode cX4_speedBehind 37 = .ok (.if_icmp .eq 13, 3) := by decide +kernel
theorem dX4_speedBehind_40 : decode cX4_speedBehind 40 = .ok (.iload 6, 2) := by decide +kernel
theorem dX4_speedBehind_42 : decode cX4_speedBehind 42 = .ok (.iload_n 2, 1) := by decide +kernel
theorem dX4_speedBehind_43 : decode cX4_speedBehind 43 = .ok (.if_icmp .eq 7, 3) := by decide +kernel
theorem dX4_speedBehind_46 : decode cX4_speedBehind 46 = .ok (.iconst 1, 1) := by decide +kernel
theorem dX4_speedBehind_47 : decode cX4_speedBehind 47 = .ok (.goto 4, 3) := by decide +kernel
theorem dX4_speedBehind_50 : decode cX4_speedBehind 50 = .ok (.iconst 0, 1) := by decide +kernel
theorem dX4_speedBehind_51 : decode cX4_speedBehind 51 = .ok (.istore 7, 2) := by decide +kernel
theorem dX4_speedBehind_53 : decode cX4_speedBehind 53 = .ok (.iload 7, 2) := by decide +kernel
theorem dX4_speedBehind_55 : decode cX4_speedBehind 55 = .ok (.ifCond .eq 15, 3) := by decide +kernel
theorem dX4_speedBehind_58 : decode cX4_speedBehind 58 = .ok (.iload 5, 2) := by decide +kernel
theorem dX4_speedBehind_60 : decode cX4_speedBehind 60 = .ok (.ifCond .le 10, 3) := by decide +kernel
theorem dX4_speedBehind_63 : decode cX4_speedBehind 63 = .ok (.iload 5, 2) := by decide +kernel
theorem dX4_speedBehind_65 : decode cX4_speedBehind 65 = .ok (.iconst 2, 1) := by decide +kernel
theorem dX4_speedBehind_66 : decode cX4_speedBehind 66 = .ok (.idiv, 1) := by decide +kernel
theorem dX4_speedBehind_67 : decode cX4_speedBehind 67 = .ok (.goto 5, 3) := by decide +kernel
theorem dX4_speedBehind_70 : decode cX4_speedBehind 70 = .ok (.iload 5, 2) := by decide +kernel
theorem dX4_speedBehind_72 : decode cX4_speedBehind 72 = .ok (.ireturn, 1) := by decide +kernel
theorem dX4_foretell_0 : decode cX4_foretell 0 = .ok (.aload_n 2, 1) := by decide +kernel
theorem dX4_foretell_1 : decode cX4_foretell 1 = .ok (.bipush (-4), 2) := by decide +kernel
theorem dX4_foretell_3 : decode cX4_foretell 3 = .ok (.invokestatic 40, 3) := by decide +kernel
theorem dX4_foretell_6 : decode cX4_foretell 6 = .ok (.iconst 2, 1) := by decide +kernel
theorem dX4_foretell_7 : decode cX4_foretell 7 = .ok (.istore_n 3, 1) := by decide +kernel
theorem dX4_foretell_8 : decode cX4_foretell 8 = .ok (.iconst 0, 1) := by decide +kernel
theorem dX4_foretell_9 : decode cX4_foretell 9 = .ok (.istore 4, 2) := by decide +kernel
theorem dX4_foretell_11 : decode cX4_foretell 11 = .ok (.iload 4, 2) := by decide +kernel
theorem dX4_foretell_13 : decode cX4_foretell 13 = .ok (.bipush 10, 2) := by decide +kernel
theorem dX4_foretell_15 : decode cX4_foretell 15 = .ok (.if_icmp .ge 40, 3) := by decide +kernel
theorem dX4_foretell_18 : decode cX4_foretell 18 = .ok (.aload_n 0, 1) := by decide +kernel
theorem dX4_foretell_19 : decode cX4_foretell 19 = .ok (.iload 4, 2) := by decide +kernel
theorem dX4_foretell_21 : decode cX4_foretell 21 = .ok (.iload_n 1, 1) := by decide +kernel
theorem dX4_foretell_22 : decode cX4_foretell 22 = .ok (.iload_n 3, 1) := by decide +kernel
theorem dX4_foretell_23 : decode cX4_foretell 23 = .ok (.aload_n 0, 1) := by decide +kernel
theorem dX4_foretell_24 : decode cX4_foretell 24 = .ok (.getfield 9, 3) := by decide +kernel
theorem dX4_foretell_27 : decode cX4_foretell 27 = .ok (.iload 4, 2) := by decide +kernel
theorem dX4_foretell_29 : decode cX4_foretell 29 = .ok (.iaload, 1) := by decide +kernel
theorem dX4_foretell_30 : decode cX4_foretell 30 = .ok (.invokevirtual 68, 3) := by decide +kernel
theorem dX4_foretell_33 : decode cX4_foretell 33 = .ok (.istore_n 3, 1) := by decide +kernel
theorem dX4_foretell_34 : decode cX4_foretell 34 = .ok (.iload_n 3, 1) := by decide +kernel
theorem dX4_foretell_35 : decode cX4_foretell 35 = .ok (.ifCond .gt 9, 3) := by decide +kernel
theorem dX4_foretell_38 : decode cX4_foretell 38 = .ok (.bipush 10, 2) := by decide +kernel
theorem dX4_foretell_40 : decode cX4_foretell 40 = .ok (.iload 4, 2) := by decide +kernel
theorem dX4_foretell_42 : decode cX4_foretell 42 = .ok (.iadd, 1) := by decide +kernel
theorem dX4_foretell_43 : decode cX4_foretell 43 = .ok (.ireturn, 1) := by decide +kernel
theorem dX4_foretell_44 : decode cX4_foretell 44 = .ok (.aload_n 2, 1) := by decide +kernel
theorem dX4_foretell_45 : decode cX4_foretell 45 = .ok (.iload 4, 2) := by decide +kernel
theorem dX4_foretell_47 : decode cX4_foretell 47 = .ok (.iload_n 3, 1) := by decide +kernel
theorem dX4_foretell_48 : decode cX4_foretell 48 = .ok (.iastore, 1) := by decide +kernel
theorem dX4_foretell_49 : decode cX4_foretell 49 = .ok (.iinc 4 1, 3) := by decide +kernel
theorem dX4_foretell_52 : decode cX4_foretell 52 = .ok (.goto (-41), 3) := by decide +kernel
theorem dX4_foretell_55 : decode cX4_foretell 55 = .ok (.iload_n 3, 1) := by decide +kernel
theorem dX4_foretell_56 : decode cX4_foretell 56 = .ok (.aload_n 0, 1) := by decide +kernel
theorem dX4_foretell_57 : decode cX4_foretell 57 = .ok (.getfield 24, 3) := by decide +kernel
theorem dX4_foretell_60 : decode cX4_foretell 60 = .ok (.iload_n 1, 1) := by decide +kernel
theorem dX4_foretell_61 : decode cX4_foretell 61 = .ok (.iaload, 1) := by decide +kernel
theorem dX4_foretell_62 : decode cX4_foretell 62 = .ok (.iadd, 1) := by decide +kernel
theorem dX4_foretell_63 : decode cX4_foretell 63 = .ok (.bipush 8, 2) := by decide +kernel
theorem dX4_foretell_65 : decode cX4_foretell 65 = .ok (.irem, 1) := by decide +kernel
theorem dX4_foretell_66 : decode cX4_foretell 66 = .ok (.ireturn, 1) := by decide +kernel
theorem dX4_sendDown_0 : decode cX4_sendDown 0 = .ok (.aload_n 0, 1) := by decide +kernel
theorem dX4_sendDown_1 : decode cX4_sendDown 1 = .ok (.iload_n 1, 1) := by decide +kernel
theorem dX4_sendDown_2 : decode cX4_sendDown 2 = .ok (.aload_n 2, 1) := by decide +kernel
theorem dX4_sendDown_3 : decode cX4_sendDown 3 = .ok (.invokevirtual 72, 3) := by decide +kernel
theorem dX4_sendDown_6 : decode cX4_sendDown 6 = .ok (.istore_n 3, 1) := by decide +kernel
theorem dX4_sendDown_7 : decode cX4_sendDown 7 = .ok (.iconst 1, 1) := by decide +kernel
theorem dX4_sendDown_8 : decode cX4_sendDown 8 = .ok (.istore 4, 2) := by decide +kernel
theorem dX4_sendDown_10 : decode cX4_sendDown 10 = .ok (.iconst 0, 1) := by decide +kernel
theorem dX4_sendDown_11 : decode cX4_sendDown 11 = .ok (.istore 5, 2) := by decide +kernel
theorem dX4_sendDown_13 : decode cX4_sendDown 13 = .ok (.iload 5, 2) := by decide +kernel
theorem dX4_sendDown_15 : decode cX4_sendDown 15 = .ok (.bipush 10, 2) := by decide +kernel
theorem dX4_sendDown_17 : decode cX4_sendDown 17 = .ok (.if_icmp .ge 61, 3) := by decide +kernel
theorem dX4_sendDown_20 : decode cX4_sendDown 20 = .ok (.iload 4, 2) := by decide +kernel
theorem dX4_sendDown_22 : decode cX4_sendDown 22 = .ok (.ifCond .eq 56, 3) := by decide +kernel
theorem dX4_sendDown_25 : decode cX4_sendDown 25 = .ok (.aload_n 0, 1) := by decide +kernel
theorem dX4_sendDown_26 : decode cX4_sendDown 26 = .ok (.iload 5, 2) := by decide +kernel
theorem dX4_sendDown_28 : decode cX4_sendDown 28 = .ok (.invokevirtual 76, 3) := by decide +kernel
theorem dX4_sendDown_31 : decode cX4_sendDown 31 = .ok (.aload_n 2, 1) := by decide +kernel
theorem dX4_sendDown_32 : decode cX4_sendDown 32 = .ok (.iload 5, 2) := by decide +kernel
theorem dX4_sendDown_34 : decode cX4_sendDown 34 = .ok (.iaload, 1) := by decide +kernel
theorem dX4_sendDown_35 : decode cX4_sendDown 35 = .ok (.bipush (-4), 2) := by decide +kernel
theorem dX4_sendDown_37 : decode cX4_sendDown 37 = .ok (.if_icmp .eq 7, 3) := by decide +kernel
theorem dX4_sendDown_40 : decode cX4_sendDown 40 = .ok (.iconst 1, 1) := by decide +kernel
theorem dX4_sendDown_41 : decode cX4_sendDown 41 = .ok (.goto 4, 3) := by decide +kernel
theorem dX4_sendDown_44 : decode cX4_sendDown 44 = .ok (.iconst 0, 1) := by decide +kernel
theorem dX4_sendDown_45 : decode cX4_sendDown 45 = .ok (.istore 4, 2) := by decide +kernel
theorem dX4_sendDown_47 : decode cX4_sendDown 47 = .ok (.iload 4, 2) := by decide +kernel
theorem dX4_sendDown_49 : decode cX4_sendDown 49 = .ok (.ifCond .eq 23, 3) := by decide +kernel
theorem dX4_sendDown_52 : decode cX4_sendDown 52 = .ok (.aload_n 0, 1) := by decide +kernel
theorem dX4_sendDown_53 : decode cX4_sendDown 53 = .ok (.getfield 9, 3) := by decide +kernel
theorem dX4_sendDown_56 : decode cX4_sendDown 56 = .ok (.iload 5, 2) := by decide +kernel
theorem dX4_sendDown_58 : decode cX4_sendDown 58 = .ok (.iconst 0, 1) := by decide +kernel
theorem dX4_sendDown_59 : decode cX4_sendDown 59 = .ok (.aload_n 0, 1) := by decide +kernel
theorem dX4_sendDown_60 : decode cX4_sendDown 60 = .ok (.getfield 9, 3) := by decide +kernel
theorem dX4_sendDown_63 : decode cX4_sendDown 63 = .ok (.iload 5, 2) := by decide +kernel
theorem dX4_sendDown_65 : decode cX4_sendDown 65 = .ok (.iaload, 1) := by decide +kernel
theorem dX4_sendDown_66 : decode cX4_sendDown 66 = .ok (.iconst 1, 1) := by decide +kernel
theorem dX4_sendDown_67 : decode cX4_sendDown 67 = .ok (.isub, 1) := by decide +kernel
theorem dX4_sendDown_68 : decode cX4_sendDown 68 = .ok (.invokestatic 80, 3) := by decide +kernel
theorem dX4_sendDown_71 : decode cX4_sendDown 71 = .ok (.iastore, 1) := by decide +kernel
theorem dX4_sendDown_72 : decode cX4_sendDown 72 = .ok (.iinc 5 1, 3) := by decide +kernel
theorem dX4_sendDown_75 : decode cX4_sendDown 75 = .ok (.goto (-62), 3) := by decide +kernel
theorem dX4_sendDown_78 : decode cX4_sendDown 78 = .ok (.aload_n 0, 1) := by decide +kernel
theorem dX4_sendDown_79 : decode cX4_sendDown 79 = .ok (.getfield 27, 3) := by decide +kernel
theorem dX4_sendDown_82 : decode cX4_sendDown 82 = .ok (.iload_n 1, 1) := by decide +kernel
theorem dX4_sendDown_83 : decode cX4_sendDown 83 = .ok (.iload_n 3, 1) := by decide +kernel
theorem dX4_sendDown_84 : decode cX4_sendDown 84 = .ok (.iastore, 1) := by decide +kernel
theorem dX4_sendDown_85 : decode cX4_sendDown 85 = .ok (.aload_n 0, 1) := by decide +kernel
theorem dX4_sendDown_86 : decode cX4_sendDown 86 = .ok (.dup, 1) := by decide +kernel
theorem dX4_sendDown_87 : decode cX4_sendDown 87 = .ok (.getfield 34, 3) := by decide +kernel
theorem dX4_sendDown_90 : decode cX4_sendDown 90 = .ok (.iconst 1, 1) := by decide +kernel
theorem dX4_sendDown_91 : decode cX4_sendDown 91 = .ok (.iadd, 1) := by decide +kernel
theorem dX4_sendDown_92 : decode cX4_sendDown 92 = .ok (.putfield 34, 3) := by decide +kernel
theorem dX4_sendDown_95 : decode cX4_sendDown 95 = .ok (.iload_n 3, 1) := by decide +kernel
theorem dX4_sendDown_96 : decode cX4_sendDown 96 = .ok (.ireturn, 1) := by decide +kernel
theorem dX4_liftFrom_0 : decode cX4_liftFrom 0 = .ok (.aload_n 0, 1) := by decide +kernel
theorem dX4_liftFrom_1 : decode cX4_liftFrom 1 = .ok (.iload_n 1, 1) := by decide +kernel
theorem dX4_liftFrom_2 : decode cX4_liftFrom 2 = .ok (.invokevirtual 54, 3) := by decide +kernel
theorem dX4_liftFrom_5 : decode cX4_liftFrom 5 = .ok (.istore_n 2, 1) := by decide +kernel
theorem dX4_liftFrom_6 : decode cX4_liftFrom 6 = .ok (.iload_n 2, 1) := by decide +kernel
theorem dX4_liftFrom_7 : decode cX4_liftFrom 7 = .ok (.bipush (-4), 2) := by decide +kernel
theorem dX4_liftFrom_9 : decode cX4_liftFrom 9 = .ok (.if_icmp .eq 11, 3) := by decide +kernel
theorem dX4_liftFrom_12 : decode cX4_liftFrom 12 = .ok (.aload_n 0, 1) := by decide +kernel
theorem dX4_liftFrom_13 : decode cX4_liftFrom 13 = .ok (.getfield 27, 3) := by decide +kernel
theorem dX4_liftFrom_16 : decode cX4_liftFrom 16 = .ok (.iload_n 2, 1) := by decide +kernel
theorem dX4_liftFrom_17 : decode cX4_liftFrom 17 = .ok (.bipush 30, 2) := by decide +kernel
theorem dX4_liftFrom_19 : decode cX4_liftFrom 19 = .ok (.iastore, 1) := by decide +kernel
theorem dX4_liftFrom_20 : decode cX4_liftFrom 20 = .ok (.return_, 1) := by decide +kernel
theorem dX4_driftOnce_0 : decode cX4_driftOnce 0 = .ok (.aload_n 0, 1) := by decide +kernel
theorem dX4_driftOnce_1 : decode cX4_driftOnce 1 = .ok (.aload_n 0, 1) := by decide +kernel
theorem dX4_driftOnce_2 : decode cX4_driftOnce 2 = .ok (.getfield 37, 3) := by decide +kernel
theorem dX4_driftOnce_5 : decode cX4_driftOnce 5 = .ok (.ldc 83, 2) := by decide +kernel
theorem dX4_driftOnce_7 : decode cX4_driftOnce 7 = .ok (.imul, 1) := by decide +kernel
theorem dX4_driftOnce_8 : decode cX4_driftOnce 8 = .ok (.sipush 12345, 3) := by decide +kernel
theorem dX4_driftOnce_11 : decode cX4_driftOnce 11 = .ok (.iadd, 1) := by decide +kernel
theorem dX4_driftOnce_12 : decode cX4_driftOnce 12 = .ok (.ldc 84, 2) := by decide +kernel
theorem dX4_driftOnce_14 : decode cX4_driftOnce 14 = .ok (.iand, 1) := by decide +kernel
theorem dX4_driftOnce_15 : decode cX4_driftOnce 15 = .ok (.putfield 37, 3) := by decide +kernel
theorem dX4_driftOnce_18 : decode cX4_driftOnce 18 = .ok (.aload_n 0, 1) := by decide +kernel
theorem dX4_driftOnce_19 : decode cX4_driftOnce 19 = .ok (.getfield 30, 3) := by decide +kernel
theorem dX4_driftOnce_22 : decode cX4_driftOnce 22 = .ok (.ifCond .le 45, 3) := by decide +kernel
theorem dX4_driftOnce_25 : decode cX4_driftOnce 25 = .ok (.aload_n 0, 1) := by decide +kernel
theorem dX4_driftOnce_26 : decode cX4_driftOnce 26 = .ok (.getfield 37, 3) := by decide +kernel
theorem dX4_driftOnce_29 : decode cX4_driftOnce 29 = .ok (.ldc 85, 2) := by decide +kernel
theorem dX4_driftOnce_31 : decode cX4_driftOnce 31 = .ok (.idiv, 1) := by decide +kernel
theorem dX4_driftOnce_32 : decode cX4_driftOnce 32 = .ok (.aload_n 0, 1) := by decide +kernel
theorem dX4_driftOnce_33 : decode cX4_driftOnce 33 = .ok (.getfield 30, 3) := by decide +kernel
theorem dX4_driftOnce_36 : decode cX4_driftOnce 36 = .ok (.irem, 1) := by decide +kernel
theorem dX4_driftOnce_37 : decode cX4_driftOnce 37 = .ok (.istore_n 2, 1) := by decide +kernel
theorem dX4_driftOnce_38 : decode cX4_driftOnce 38 = .ok (.aload_n 0, 1) := by decide +kernel
theorem dX4_driftOnce_39 : decode cX4_driftOnce 39 = .ok (.getfield 27, 3) := by decide +kernel
theorem dX4_driftOnce_42 : decode cX4_driftOnce 42 = .ok (.iload_n 2, 1) := by decide +kernel
theorem dX4_driftOnce_43 : decode cX4_driftOnce 43 = .ok (.iaload, 1) := by decide +kernel
theorem dX4_driftOnce_44 : decode cX4_driftOnce 44 = .ok (.bipush 30, 2) := by decide +kernel
theorem dX4_driftOnce_46 : decode cX4_driftOnce 46 = .ok (.if_icmp .ne 13, 3) := by decide +kernel
theorem dX4_driftOnce_49 : decode cX4_driftOnce 49 = .ok (.aload_n 0, 1) := by decide +kernel
theorem dX4_driftOnce_50 : decode cX4_driftOnce 50 = .ok (.iload_n 2, 1) := by decide +kernel
theorem dX4_driftOnce_51 : decode cX4_driftOnce 51 = .ok (.aload_n 1, 1) := by decide +kernel
theorem dX4_driftOnce_52 : decode cX4_driftOnce 52 = .ok (.invokevirtual 86, 3) := by decide +kernel
theorem dX4_driftOnce_55 : decode cX4_driftOnce 55 = .ok (.pop, 1) := by decide +kernel
theorem dX4_driftOnce_56 : decode cX4_driftOnce 56 = .ok (.goto 11, 3) := by decide +kernel
theorem dX4_driftOnce_59 : decode cX4_driftOnce 59 = .ok (.aload_n 0, 1) := by decide +kernel
theorem dX4_driftOnce_60 : decode cX4_driftOnce 60 = .ok (.getfield 27, 3) := by decide +kernel
theorem dX4_driftOnce_63 : decode cX4_driftOnce 63 = .ok (.iload_n 2, 1) := by decide +kernel
theorem dX4_driftOnce_64 : decode cX4_driftOnce 64 = .ok (.bipush 30, 2) := by decide +kernel
theorem dX4_driftOnce_66 : decode cX4_driftOnce 66 = .ok (.iastore, 1) := by decide +kernel
theorem dX4_driftOnce_67 : decode cX4_driftOnce 67 = .ok (.aload_n 0, 1) := by decide +kernel
theorem dX4_driftOnce_68 : decode cX4_driftOnce 68 = .ok (.getfield 37, 3) := by decide +kernel
theorem dX4_driftOnce_71 : decode cX4_driftOnce 71 = .ok (.sipush 128, 3) := by decide +kernel
theorem dX4_driftOnce_74 : decode cX4_driftOnce 74 = .ok (.idiv, 1) := by decide +kernel
theorem dX4_driftOnce_75 : decode cX4_driftOnce 75 = .ok (.bipush 10, 2) := by decide +kernel
theorem dX4_driftOnce_77 : decode cX4_driftOnce 77 = .ok (.irem, 1) := by decide +kernel
theorem dX4_driftOnce_78 : decode cX4_driftOnce 78 = .ok (.istore_n 2, 1) := by decide +kernel
theorem dX4_driftOnce_79 : decode cX4_driftOnce 79 = .ok (.aload_n 0, 1) := by decide +kernel
theorem dX4_driftOnce_80 : decode cX4_driftOnce 80 = .ok (.getfield 9, 3) := by decide +kernel
theorem dX4_driftOnce_83 : decode cX4_driftOnce 83 = .ok (.iload_n 2, 1) := by decide +kernel
theorem dX4_driftOnce_84 : decode cX4_driftOnce 84 = .ok (.bipush 9, 2) := by decide +kernel
theorem dX4_driftOnce_86 : decode cX4_driftOnce 86 = .ok (.aload_n 0, 1) := by decide +kernel
theorem dX4_driftOnce_87 : decode cX4_driftOnce 87 = .ok (.getfield 9, 3) := by decide +kernel
theorem dX4_driftOnce_90 : decode cX4_driftOnce 90 = .ok (.iload_n 2, 1) := by decide +kernel
theorem dX4_driftOnce_91 : decode cX4_driftOnce 91 = .ok (.iaload, 1) := by decide +kernel
theorem dX4_driftOnce_92 : decode cX4_driftOnce 92 = .ok (.iconst 1, 1) := by decide +kernel
theorem dX4_driftOnce_93 : decode cX4_driftOnce 93 = .ok (.iadd, 1) := by decide +kernel
theorem dX4_driftOnce_94 : decode cX4_driftOnce 94 = .ok (.invokestatic 62, 3) := by decide +kernel
theorem dX4_driftOnce_97 : decode cX4_driftOnce 97 = .ok (.iastore, 1) := by decide +kernel
theorem dX4_driftOnce_98 : decode cX4_driftOnce 98 = .ok (.return_, 1) := by decide +kernel
theorem dX4_goBackTo_0 : decode cX4_goBackTo 0 = .ok (.aload_n 1, 1) := by decide +kernel
theorem dX4_goBackTo_1 : decode cX4_goBackTo 1 = .ok (.getfield 9, 3) := by decide +kernel
theorem dX4_goBackTo_4 : decode cX4_goBackTo 4 = .ok (.aload_n 0, 1) := by decide +kernel
theorem dX4_goBackTo_5 : decode cX4_goBackTo 5 = .ok (.getfield 9, 3) := by decide +kernel
theorem dX4_goBackTo_8 : decode cX4_goBackTo 8 = .ok (.invokestatic 89, 3) := by decide +kernel
theorem dX4_goBackTo_11 : decode cX4_goBackTo 11 = .ok (.aload_n 1, 1) := by decide +kernel
theorem dX4_goBackTo_12 : decode cX4_goBackTo 12 = .ok (.getfield 15, 3) := by decide +kernel
theorem dX4_goBackTo_15 : decode cX4_goBackTo 15 = .ok (.aload_n 0, 1) := by decide +kernel
theorem dX4_goBackTo_16 : decode cX4_goBackTo 16 = .ok (.getfield 15, 3) := by decide +kernel
theorem dX4_goBackTo_19 : decode cX4_goBackTo 19 = .ok (.invokestatic 89, 3) := by decide +kernel
theorem dX4_goBackTo_22 : decode cX4_goBackTo 22 = .ok (.aload_n 1, 1) := by decide +kernel
theorem dX4_goBackTo_23 : decode cX4_goBackTo 23 = .ok (.getfield 27, 3) := by decide +kernel
theorem dX4_goBackTo_26 : decode cX4_goBackTo 26 = .ok (.aload_n 0, 1) := by decide +kernel
theorem dX4_goBackTo_27 : decode cX4_goBackTo 27 = .ok (.getfield 27, 3) := by decide +kernel
theorem dX4_goBackTo_30 : decode cX4_goBackTo 30 = .ok (.invokestatic 89, 3) := by decide +kernel
theorem dX4_goBackTo_33 : decode cX4_goBackTo 33 = .ok (.aload_n 0, 1) := by decide +kernel
theorem dX4_goBackTo_34 : decode cX4_goBackTo 34 = .ok (.aload_n 1, 1) := by decide +kernel
theorem dX4_goBackTo_35 : decode cX4_goBackTo 35 = .ok (.getfield 34, 3) := by decide +kernel
theorem dX4_goBackTo_38 : decode cX4_goBackTo 38 = .ok (.putfield 34, 3) := by decide +kernel
theorem dX4_goBackTo_41 : decode cX4_goBackTo 41 = .ok (.aload_n 0, 1) := by decide +kernel
theorem dX4_goBackTo_42 : decode cX4_goBackTo 42 = .ok (.aload_n 1, 1) := by decide +kernel
theorem dX4_goBackTo_43 : decode cX4_goBackTo 43 = .ok (.getfield 37, 3) := by decide +kernel
theorem dX4_goBackTo_46 : decode cX4_goBackTo 46 = .ok (.putfield 37, 3) := by decide +kernel
theorem dX4_goBackTo_49 : decode cX4_goBackTo 49 = .ok (.return_, 1) := by decide +kernel
theorem dX4_become_0 : decode cX4_become 0 = .ok (.aload_n 0, 1) := by decide +kernel
theorem dX4_become_1 : decode cX4_become 1 = .ok (.aload_n 1, 1) := by decide +kernel
theorem dX4_become_2 : decode cX4_become 2 = .ok (.invokevirtual 93, 3) := by decide +kernel
theorem dX4_become_5 : decode cX4_become 5 = .ok (.aload_n 1, 1) := by decide +kernel
theorem dX4_become_6 : decode cX4_become 6 = .ok (.getfield 18, 3) := by decide +kernel
theorem dX4_become_9 : decode cX4_become 9 = .ok (.aload_n 0, 1) := by decide +kernel
theorem dX4_become_10 : decode cX4_become 10 = .ok (.getfield 18, 3) := by decide +kernel
theorem dX4_become_13 : decode cX4_become 13 = .ok (.invokestatic 89, 3) := by decide +kernel
theorem dX4_become_16 : decode cX4_become 16 = .ok (.aload_n 1, 1) := by decide +kernel
theorem dX4_become_17 : decode cX4_become 17 = .ok (.getfield 21, 3) := by decide +kernel
theorem dX4_become_20 : decode cX4_become 20 = .ok (.aload_n 0, 1) := by decide +kernel
theorem dX4_become_21 : decode cX4_become 21 = .ok (.getfield 21, 3) := by decide +kernel
theorem dX4_become_24 : decode cX4_become 24 = .ok (.invokestatic 89, 3) := by decide +kernel
theorem dX4_become_27 : decode cX4_become 27 = .ok (.aload_n 1, 1) := by decide +kernel
theorem dX4_become_28 : decode cX4_become 28 = .ok (.getfield 24, 3) := by decide +kernel
theorem dX4_become_31 : decode cX4_become 31 = .ok (.aload_n 0, 1) := by decide +kernel
theorem dX4_become_32 : decode cX4_become 32 = .ok (.getfield 24, 3) := by decide +kernel
theorem dX4_become_35 : decode cX4_become 35 = .ok (.invokestatic 89, 3) := by decide +kernel
theorem dX4_become_38 : decode cX4_become 38 = .ok (.aload_n 0, 1) := by decide +kernel
theorem dX4_become_39 : decode cX4_become 39 = .ok (.aload_n 1, 1) := by decide +kernel
theorem dX4_become_40 : decode cX4_become 40 = .ok (.getfield 30, 3) := by decide +kernel
theorem dX4_become_43 : decode cX4_become 43 = .ok (.putfield 30, 3) := by decide +kernel
theorem dX4_become_46 : decode cX4_become 46 = .ok (.return_, 1) := by decide +kernel
theorem dX5_init_0 : decode cX5_init 0 = .ok (.aload_n 0, 1) := by decide +kernel
theorem dX5_init_1 : decode cX5_init 1 = .ok (.invokespecial 3, 3) := by decide +kernel
theorem dX5_init_4 : decode cX5_init 4 = .ok (.aload_n 0, 1) := by decide +kernel
theorem dX5_init_5 : decode cX5_init 5 = .ok (.bipush 70, 2) := by decide +kernel
theorem dX5_init_7 : decode cX5_init 7 = .ok (.newarray .int, 2) := by decide +kernel
theorem dX5_init_9 : decode cX5_init 9 = .ok (.putfield 9, 3) := by decide +kernel
theorem dX5_init_12 : decode cX5_init 12 = .ok (.aload_n 0, 1) := by decide +kernel
theorem dX5_init_13 : decode cX5_init 13 = .ok (.iconst 0, 1) := by decide +kernel
theorem dX5_init_14 : decode cX5_init 14 = .ok (.putfield 15, 3) := by decide +kernel
theorem dX5_init_17 : decode cX5_init 17 = .ok (.aload_n 0, 1) := by decide +kernel
theorem dX5_init_18 : decode cX5_init 18 = .ok (.iconst 0, 1) := by decide +kernel
theorem dX5_init_19 : decode cX5_init 19 = .ok (.putfield 19, 3) := by decide +kernel
theorem dX5_init_22 : decode cX5_init 22 = .ok (.return_, 1) := by decide +kernel
theorem dX5_append_0 : decode cX5_append 0 = .ok (.aload_n 0, 1) := by decide +kernel
theorem dX5_append_1 : decode cX5_append 1 = .ok (.getfield 15, 3) := by decide +kernel
theorem dX5_append_4 : decode cX5_append 4 = .ok (.aload_n 0, 1) := by decide +kernel
theorem dX5_append_5 : decode cX5_append 5 = .ok (.getfield 9, 3) := by decide +kernel
theorem dX5_append_8 : decode cX5_append 8 = .ok (.arraylength, 1) := by decide +kernel
theorem dX5_append_9 : decode cX5_append 9 = .ok (.if_icmp .lt 6, 3) := by decide +kernel
theorem dX5_append_12 : decode cX5_append 12 = .ok (.bipush (-3), 2) := by decide +kernel
theorem dX5_append_14 : decode cX5_append 14 = .ok (.ireturn, 1) := by decide +kernel
theorem dX5_append_15 : decode cX5_append 15 = .ok (.aload_n 0, 1) := by decide +kernel
theorem dX5_append_16 : decode cX5_append 16 = .ok (.getfield 9, 3) := by decide +kernel
theorem dX5_append_19 : decode cX5_append 19 = .ok (.aload_n 0, 1) := by decide +kernel
theorem dX5_append_20 : decode cX5_append 20 = .ok (.getfield 15, 3) := by decide +kernel
theorem dX5_append_23 : decode cX5_append 23 = .ok (.iload_n 1, 1) := by decide +kernel
theorem dX5_append_24 : decode cX5_append 24 = .ok (.iastore, 1) := by decide +kernel
theorem dX5_append_25 : decode cX5_append 25 = .ok (.aload_n 0, 1) := by decide +kernel
theorem dX5_append_26 : decode cX5_append 26 = .ok (.dup, 1) := by decide +kernel
theorem dX5_append_27 : decode cX5_append 27 = .ok (.getfield 15, 3) := by decide +kernel
theorem dX5_append_30 : decode cX5_append 30 = .ok (.iconst 1, 1) := by decide +kernel
theorem dX5_append_31 : decode cX5_append 31 = .ok (.iadd, 1) := by decide +kernel
theorem dX5_append_32 : decode cX5_append 32 = .ok (.putfield 15, 3) := by decide +kernel
theorem dX5_append_35 : decode cX5_append 35 = .ok (.aload_n 0, 1) := by decide +kernel
theorem dX5_append_36 : decode cX5_append 36 = .ok (.getfield 15, 3) := by decide +kernel
theorem dX5_append_39 : decode cX5_append 39 = .ok (.ireturn, 1) := by decide +kernel
theorem dX5_clear_0 : decode cX5_clear 0 = .ok (.aload_n 0, 1) := by decide +kernel
theorem dX5_clear_1 : decode cX5_clear 1 = .ok (.iconst 0, 1) := by decide +kernel
theorem dX5_clear_2 : decode cX5_clear 2 = .ok (.putfield 15, 3) := by decide +kernel
theorem dX5_clear_5 : decode cX5_clear 5 = .ok (.return_, 1) := by decide +kernel
theorem dX5_readSlide_0 : decode cX5_readSlide 0 = .ok (.aload_n 0, 1) := by decide +kernel
theorem dX5_readSlide_1 : decode cX5_readSlide 1 = .ok (.iconst 0, 1) := by decide +kernel
theorem dX5_readSlide_2 : decode cX5_readSlide 2 = .ok (.putfield 19, 3) := by decide +kernel
theorem dX5_readSlide_5 : decode cX5_readSlide 5 = .ok (.aload_n 1, 1) := by decide +kernel
theorem dX5_readSlide_6 : decode cX5_readSlide 6 = .ok (.iconst 0, 1) := by decide +kernel
theorem dX5_readSlide_7 : decode cX5_readSlide 7 = .ok (.putfield 22, 3) := by decide +kernel
theorem dX5_readSlide_10 : decode cX5_readSlide 10 = .ok (.aload_n 1, 1) := by decide +kernel
theorem dX5_readSlide_11 : decode cX5_readSlide 11 = .ok (.iconst 0, 1) := by decide +kernel
theorem dX5_readSlide_12 : decode cX5_readSlide 12 = .ok (.putfield 27, 3) := by decide +kernel
theorem dX5_readSlide_15 : decode cX5_readSlide 15 = .ok (.aload_n 0, 1) := by decide +kernel
theorem dX5_readSlide_16 : decode cX5_readSlide 16 = .ok (.aload_n 1, 1) := by decide +kernel
theorem dX5_readSlide_17 : decode cX5_readSlide 17 = .ok (.invokevirtual 30, 3) := by decide +kernel
theorem dX5_readSlide_20 : decode cX5_readSlide 20 = .ok (.ifCond .eq 23, 3) := by decide +kernel
theorem dX5_readSlide_23 : decode cX5_readSlide 23 = .ok (.aload_n 0, 1) := by decide +kernel
theorem dX5_readSlide_24 : decode cX5_readSlide 24 = .ok (.aload_n 1, 1) := by decide +kernel
theorem dX5_readSlide_25 : decode cX5_readSlide 25 = .ok (.invokevirtual 34, 3) := by decide +kernel
theorem dX5_readSlide_28 : decode cX5_readSlide 28 = .ok (.ifCond .eq 15, 3) := by decide +kernel
theorem dX5_readSlide_31 : decode cX5_readSlide 31 = .ok (.aload_n 0, 1) := by decide +kernel
theorem dX5_readSlide_32 : decode cX5_readSlide 32 = .ok (.invokevirtual 37, 3) := by decide +kernel
theorem dX5_readSlide_35 : decode cX5_readSlide 35 = .ok (.iconst (-1), 1) := by decide +kernel
theorem dX5_readSlide_36 : decode cX5_readSlide 36 = .ok (.if_icmp .ne 7, 3) := by decide +kernel
theorem dX5_readSlide_39 : decode cX5_readSlide 39 = .ok (.iconst 1, 1) := by decide +kernel
theorem dX5_readSlide_40 : decode cX5_readSlide 40 = .ok (.goto 4, 3) := by decide +kernel
theorem dX5_readSlide_43 : decode cX5_readSlide 43 = .ok (.iconst 0, 1) := by decide +kernel
theorem dX5_readSlide_44 : decode cX5_readSlide 44 = .ok (.ireturn, 1) := by decide +kernel
theorem dX5_readTurns_0 : decode cX5_readTurns 0 = .ok (.iconst 0, 1) := by decide +kernel
theorem dX5_readTurns_1 : decode cX5_readTurns 1 = .ok (.istore_n 2, 1) := by decide +kernel
theorem dX5_readTurns_2 : decode cX5_readTurns 2 = .ok (.iload_n 2, 1) := by decide +kernel
theorem dX5_readTurns_3 : decode cX5_readTurns 3 = .ok (.bipush 10, 2) := by decide +kernel
theorem dX5_readTurns_5 : decode cX5_readTurns 5 = .ok (.if_icmp .ge 82, 3) := by decide +kernel
theorem dX5_readTurns_8 : decode cX5_readTurns 8 = .ok (.aload_n 0, 1) := by decide +kernel
theorem dX5_readTurns_9 : decode cX5_readTurns 9 = .ok (.bipush 48, 2) := by decide +kernel
theorem dX5_readTurns_11 : decode cX5_readTurns 11 = .ok (.bipush 57, 2) := by decide +kernel
theorem dX5_readTurns_13 : decode cX5_readTurns 13 = .ok (.invokevirtual 41, 3) := by decide +kernel
theorem dX5_readTurns_16 : decode cX5_readTurns 16 = .ok (.istore_n 3, 1) := by decide +kernel
theorem dX5_readTurns_17 : decode cX5_readTurns 17 = .ok (.iload_n 3, 1) := by decide +kernel
theorem dX5_readTurns_18 : decode cX5_readTurns 18 = .ok (.bipush (-4), 2) := by decide +kernel
theorem dX5_readTurns_20 : decode cX5_readTurns 20 = .ok (.if_icmp .ne 5, 3) := by decide +kernel
theorem dX5_readTurns_23 : decode cX5_readTurns 23 = .ok (.iconst 0, 1) := by decide +kernel
theorem dX5_readTurns_24 : decode cX5_readTurns 24 = .ok (.ireturn, 1) := by decide +kernel
theorem dX5_readTurns_25 : decode cX5_readTurns 25 = .ok (.iconst 0, 1) := by decide +kernel
theorem dX5_readTurns_26 : decode cX5_readTurns 26 = .ok (.istore 4, 2) := by decide +kernel
theorem dX5_readTurns_28 : decode cX5_readTurns 28 = .ok (.aload_n 0, 1) := by decide +kernel
theorem dX5_readTurns_29 : decode cX5_readTurns 29 = .ok (.invokevirtual 37, 3) := by decide +kernel
theorem dX5_readTurns_32 : decode cX5_readTurns 32 = .ok (.bipush 94, 2) := by decide +kernel
theorem dX5_readTurns_34 : decode cX5_readTurns 34 = .ok (.if_icmp .ne 23, 3) := by decide +kernel
theorem dX5_readTurns_37 : decode cX5_readTurns 37 = .ok (.aload_n 0, 1) := by decide +kernel
theorem dX5_readTurns_38 : decode cX5_readTurns 38 = .ok (.dup, 1) := by decide +kernel
theorem dX5_readTurns_39 : decode cX5_readTurns 39 = .ok (.getfield 19, 3) := by decide +kernel
theorem dX5_readTurns_42 : decode cX5_readTurns 42 = .ok (.iconst 1, 1) := by decide +kernel
theorem dX5_readTurns_43 : decode cX5_readTurns 43 = .ok (.iadd, 1) := by decide +kernel
theorem dX5_readTurns_44 : decode cX5_readTurns 44 = .ok (.putfield 19, 3) := by decide +kernel
theorem dX5_readTurns_47 : decode cX5_readTurns 47 = .ok (.aload_n 0, 1) := by decide +kernel
theorem dX5_readTurns_48 : decode cX5_readTurns 48 = .ok (.bipush 49, 2) := by decide +kernel
theorem dX5_readTurns_50 : decode cX5_readTurns 50 = .ok (.bipush 57, 2) := by decide +kernel
theorem dX5_readTurns_52 : decode cX5_readTurns 52 = .ok (.invokevirtual 41, 3) := by decide +kernel
theorem dX5_readTurns_55 : decode cX5_readTurns 55 = .ok (.istore 4, 2) := by decide +kernel
theorem dX5_readTurns_57 : decode cX5_readTurns 57 = .ok (.iload 4, 2) := by decide +kernel
theorem dX5_readTurns_59 : decode cX5_readTurns 59 = .ok (.bipush (-4), 2) := by decide +kernel
theorem dX5_readTurns_61 : decode cX5_readTurns 61 = .ok (.if_icmp .ne 5, 3) := by decide +kernel
theorem dX5_readTurns_64 : decode cX5_readTurns 64 = .ok (.iconst 0, 1) := by decide +kernel
theorem dX5_readTurns_65 : decode cX5_readTurns 65 = .ok (.ireturn, 1) := by decide +kernel
theorem dX5_readTurns_66 : decode cX5_readTurns 66 = .ok (.aload_n 1, 1) := by decide +kernel
theorem dX5_readTurns_67 : decode cX5_readTurns 67 = .ok (.getfield 45, 3) := by decide +kernel
theorem dX5_readTurns_70 : decode cX5_readTurns 70 = .ok (.iload_n 2, 1) := by decide +kernel
theorem dX5_readTurns_71 : decode cX5_readTurns 71 = .ok (.iload_n 3, 1) := by decide +kernel
theorem dX5_readTurns_72 : decode cX5_readTurns 72 = .ok (.iastore, 1) := by decide +kernel
theorem dX5_readTurns_73 : decode cX5_readTurns 73 = .ok (.aload_n 1, 1) := by decide +kernel
theorem dX5_readTurns_74 : decode cX5_readTurns 74 = .ok (.getfield 48, 3) := by decide +kernel
theorem dX5_readTurns_77 : decode cX5_readTurns 77 = .ok (.iload_n 2, 1) := by decide +kernel
theorem dX5_readTurns_78 : decode cX5_readTurns 78 = .ok (.iload 4, 2) := by decide +kernel
theorem dX5_readTurns_80 : decode cX5_readTurns 80 = .ok (.iastore, 1) := by decide +kernel
theorem dX5_readTurns_81 : decode cX5_readTurns 81 = .ok (.iinc 2 1, 3) := by decide +kernel
theorem dX5_readTurns_84 : decode cX5_readTurns 84 = .ok (.goto (-82), 3) := by decide +kernel
theorem dX5_readTurns_87 : decode cX5_readTurns 87 = .ok (.iconst 1, 1) := by decide +kernel
theorem dX5_readTurns_88 : decode cX5_readTurns 88 = .ok (.ireturn, 1) := by decide +kernel
theorem dX5_readRiders_0 : decode cX5_readRiders 0 = .ok (.iconst 0, 1) := by decide +kernel
theorem dX5_readRiders_1 : decode cX5_readRiders 1 = .ok (.istore_n 2, 1) := by decide +kernel
theorem dX5_readRiders_2 : decode cX5_readRiders 2 = .ok (.iload_n 2, 1) := by decide +kernel
theorem dX5_readRiders_3 : decode cX5_readRiders 3 = .ok (.iconst 5, 1) := by decide +kernel
theorem dX5_readRiders_4 : decode cX5_readRiders 4 = .ok (.if_icmp .ge 47, 3) := by decide +kernel
theorem dX5_readRiders_7 : decode cX5_readRiders 7 = .ok (.aload_n 0, 1) := by decide +kernel
theorem dX5_readRiders_8 : decode cX5_readRiders 8 = .ok (.invokevirtual 37, 3) := by decide +kernel
theorem dX5_readRiders_11 : decode cX5_readRiders 11 = .ok (.iload_n 2, 1) := by decide +kernel
theorem dX5_readRiders_12 : decode cX5_readRiders 12 = .ok (.ifCond .ne 8, 3) := by decide +kernel
theorem dX5_readRiders_15 : decode cX5_readRiders 15 = .ok (.bipush 59, 2) := by decide +kernel
theorem dX5_readRiders_17 : decode cX5_readRiders 17 = .ok (.goto 5, 3) := by decide +kernel
theorem dX5_readRiders_20 : decode cX5_readRiders 20 = .ok (.bipush 44, 2) := by decide +kernel
theorem dX5_readRiders_22 : decode cX5_readRiders 22 = .ok (.if_icmp .ne 29, 3) := by decide +kernel
theorem dX5_readRiders_25 : decode cX5_readRiders 25 = .ok (.aload_n 0, 1) := by decide +kernel
theorem dX5_readRiders_26 : decode cX5_readRiders 26 = .ok (.dup, 1) := by decide +kernel
theorem dX5_readRiders_27 : decode cX5_readRiders 27 = .ok (.getfield 19, 3) := by decide +kernel
theorem dX5_readRiders_30 : decode cX5_readRiders 30 = .ok (.iconst 1, 1) := by decide +kernel
theorem dX5_readRiders_31 : decode cX5_readRiders 31 = .ok (.iadd, 1) := by decide +kernel
theorem dX5_readRiders_32 : decode cX5_readRiders 32 = .ok (.putfield 19, 3) := by decide +kernel
theorem dX5_readRiders_35 : decode cX5_readRiders 35 = .ok (.aload_n 0, 1) := by decide +kernel
theorem dX5_readRiders_36 : decode cX5_readRiders 36 = .ok (.aload_n 1, 1) := by decide +kernel
theorem dX5_readRiders_37 : decode cX5_readRiders 37 = .ok (.invokevirtual 51, 3) := by decide +kernel
theorem dX5_readRiders_40 : decode cX5_readRiders 40 = .ok (.ifCond .ne 5, 3) := by decide +kernel
theorem dX5_readRiders_43 : decode cX5_readRiders 43 = .ok (.iconst 0, 1) := by decide +kernel
theorem dX5_readRiders_44 : decode cX5_readRiders 44 = .ok (.ireturn, 1) := by decide +kernel
theorem dX5_readRiders_45 : decode cX5_readRiders 45 = .ok (.iinc 2 1, 3) := by decide +kernel
theorem dX5_readRiders_48 : decode cX5_readRiders 48 = .ok (.goto (-46), 3) := by decide +kernel
theorem dX5_readRiders_51 : decode cX5_readRiders 51 = .ok (.iconst 1, 1) := by decide +kernel
theorem dX5_readRiders_52 : decode cX5_readRiders 52 = .ok (.ireturn, 1) := by decide +kernel
theorem dX5_readRider_0 : decode cX5_readRider 0 = .ok (.aload_n 0, 1) := by decide +kernel
theorem dX5_readRider_1 : decode cX5_readRider 1 = .ok (.invokevirtual 37, 3) := by decide +kernel
theorem dX5_readRider_4 : decode cX5_readRider 4 = .ok (.invokestatic 54, 3) := by decide +kernel
theorem dX5_readRider_7 : decode cX5_readRider 7 = .ok (.istore_n 2, 1) := by decide +kernel
theorem dX5_readRider_8 : decode cX5_readRider 8 = .ok (.iload_n 2, 1) := by decide +kernel
theorem dX5_readRider_9 : decode cX5_readRider 9 = .ok (.bipush (-4), 2) := by decide +kernel
theorem dX5_readRider_11 : decode cX5_readRider 11 = .ok (.if_icmp .ne 5, 3) := by decide +kernel
theorem dX5_readRider_14 : decode cX5_readRider 14 = .ok (.iconst 0, 1) := by decide +kernel
theorem dX5_readRider_15 : decode cX5_readRider 15 = .ok (.ireturn, 1) := by decide +kernel
theorem dX5_readRider_16 : decode cX5_readRider 16 = .ok (.aload_n 0, 1) := by decide +kernel
theorem dX5_readRider_17 : decode cX5_readRider 17 = .ok (.dup, 1) := by decide +kernel
theorem dX5_readRider_18 : decode cX5_readRider 18 = .ok (.getfield 19, 3) := by decide +kernel
theorem dX5_readRider_21 : decode cX5_readRider 21 = .ok (.iconst 1, 1) := by decide +kernel
theorem dX5_readRider_22 : decode cX5_readRider 22 = .ok (.iadd, 1) := by decide +kernel
theorem dX5_readRider_23 : decode cX5_readRider 23 = .ok (.putfield 19, 3) := by decide +kernel
theorem dX5_readRider_26 : decode cX5_readRider 26 = .ok (.aload_n 0, 1) := by decide +kernel
theorem dX5_readRider_27 : decode cX5_readRider 27 = .ok (.invokevirtual 58, 3) := by decide +kernel
theorem dX5_readRider_30 : decode cX5_readRider 30 = .ok (.istore_n 3, 1) := by decide +kernel
theorem dX5_readRider_31 : decode cX5_readRider 31 = .ok (.iload_n 3, 1) := by decide +kernel
theorem dX5_readRider_32 : decode cX5_readRider 32 = .ok (.bipush (-4), 2) := by decide +kernel
theorem dX5_readRider_34 : decode cX5_readRider 34 = .ok (.if_icmp .ne 5, 3) := by decide +kernel
theorem dX5_readRider_37 : decode cX5_readRider 37 = .ok (.iconst 0, 1) := by decide +kernel
theorem dX5_readRider_38 : decode cX5_readRider 38 = .ok (.ireturn, 1) := by decide +kernel
theorem dX5_readRider_39 : decode cX5_readRider 39 = .ok (.iconst 0, 1) := by decide +kernel
theorem dX5_readRider_40 : decode cX5_readRider 40 = .ok (.istore 4, 2) := by decide +kernel
theorem dX5_readRider_42 : decode cX5_readRider 42 = .ok (.aload_n 0, 1) := by decide +kernel
theorem dX5_readRider_43 : decode cX5_readRider 43 = .ok (.invokevirtual 37, 3) := by decide +kernel
theorem dX5_readRider_46 : decode cX5_readRider 46 = .ok (.bipush 60, 2) := by decide +kernel
theorem dX5_readRider_48 : decode cX5_readRider 48 = .ok (.if_icmp .ne 23, 3) := by decide +kernel
theorem dX5_readRider_51 : decode cX5_readRider 51 = .ok (.aload_n 0, 1) := by decide +kernel
theorem dX5_readRider_52 : decode cX5_readRider 52 = .ok (.dup, 1) := by decide +kernel
theorem dX5_readRider_53 : decode cX5_readRider 53 = .ok (.getfield 19, 3) := by decide +kernel
theorem dX5_readRider_56 : decode cX5_readRider 56 = .ok (.iconst 1, 1) := by decide +kernel
theorem dX5_readRider_57 : decode cX5_readRider 57 = .ok (.iadd, 1) := by decide +kernel
theorem dX5_readRider_58 : decode cX5_readRider 58 = .ok (.putfield 19, 3) := by decide +kernel
theorem dX5_readRider_61 : decode cX5_readRider 61 = .ok (.aload_n 0, 1) := by decide +kernel
theorem dX5_readRider_62 : decode cX5_readRider 62 = .ok (.bipush 48, 2) := by decide +kernel
theorem dX5_readRider_64 : decode cX5_readRider 64 = .ok (.bipush 55, 2) := by decide +kernel
theorem dX5_readRider_66 : decode cX5_readRider 66 = .ok (.invokevirtual 41, 3) := by decide +kernel
theorem dX5_readRider_69 : decode cX5_readRider 69 = .ok (.istore 4, 2) := by decide +kernel
theorem dX5_readRider_71 : decode cX5_readRider 71 = .ok (.iload 4, 2) := by decide +kernel
theorem dX5_readRider_73 : decode cX5_readRider 73 = .ok (.bipush (-4), 2) := by decide +kernel
theorem dX5_readRider_75 : decode cX5_readRider 75 = .ok (.if_icmp .eq 20, 3) := by decide +kernel
theorem dX5_readRider_78 : decode cX5_readRider 78 = .ok (.aload_n 1, 1) := by decide +kernel
theorem dX5_readRider_79 : decode cX5_readRider 79 = .ok (.iload_n 2, 1) := by decide +kernel
theorem dX5_readRider_80 : decode cX5_readRider 80 = .ok (.iload_n 3, 1) := by decide +kernel
theorem dX5_readRider_81 : decode cX5_readRider 81 = .ok (.iload 4, 2) := by decide +kernel
theorem dX5_readRider_83 : decode cX5_readRider 83 = .ok (.invokevirtual 61, 3) := by decide +kernel
theorem dX5_readRider_86 : decode cX5_readRider 86 = .ok (.bipush (-3), 2) := by decide +kernel
theorem dX5_readRider_88 : decode cX5_readRider 88 = .ok (.if_icmp .eq 7, 3) := by decide +kernel
theorem dX5_readRider_91 : decode cX5_readRider 91 = .ok (.iconst 1, 1) := by decide +kernel
theorem dX5_readRider_92 : decode cX5_readRider 92 = .ok (.goto 4, 3) := by decide +kernel
theorem dX5_readRider_95 : decode cX5_readRider 95 = .ok (.iconst 0, 1) := by decide +kernel
theorem dX5_readRider_96 : decode cX5_readRider 96 = .ok (.ireturn, 1) := by decide +kernel
theorem dX5_kindOf_0 : decode cX5_kindOf 0 = .ok (.iload_n 0, 1) := by decide +kernel
theorem dX5_kindOf_1 : decode cX5_kindOf 1 = .ok (.lookupswitch 61 #[(99, 55), (107, 59), (110, 57), (112, 51), (115, 53)], 51) := by decide +kernel
theorem dX5_kindOf_52 : decode cX5_kindOf 52 = .ok (.iconst 0, 1) := by decide +kernel
theorem dX5_kindOf_53 : decode cX5_kindOf 53 = .ok (.ireturn, 1) := by decide +kernel
theorem dX5_kindOf_54 : decode cX5_kindOf 54 = .ok (.iconst 1, 1) := by decide +kernel
theorem dX5_kindOf_55 : decode cX5_kindOf 55 = .ok (.ireturn, 1) := by decide +kernel
theorem dX5_kindOf_56 : decode cX5_kindOf 56 = .ok (.iconst 2, 1) := by decide +kernel
theorem dX5_kindOf_57 : decode cX5_kindOf 57 = .ok (.ireturn, 1) := by decide +kernel
theorem dX5_kindOf_58 : decode cX5_kindOf 58 = .ok (.iconst 3, 1) := by decide +kernel
theorem dX5_kindOf_59 : decode cX5_kindOf 59 = .ok (.ireturn, 1) := by decide +kernel
theorem dX5_kindOf_60 : decode cX5_kindOf 60 = .ok (.iconst 4, 1) := by decide +kernel
theorem dX5_kindOf_61 : decode cX5_kindOf 61 = .ok (.ireturn, 1) := by decide +kernel
theorem dX5_kindOf_62 : decode cX5_kindOf 62 = .ok (.bipush (-4), 2) := by decide +kernel
theorem dX5_kindOf_64 : decode cX5_kindOf 64 = .ok (.ireturn, 1) := by decide +kernel
theorem dX5_readHeavy_0 : decode cX5_readHeavy 0 = .ok (.aload_n 0, 1) := by decide +kernel
theorem dX5_readHeavy_1 : decode cX5_readHeavy 1 = .ok (.invokevirtual 65, 3) := by decide +kernel
theorem dX5_readHeavy_4 : decode cX5_readHeavy 4 = .ok (.aload_n 0, 1) := by decide +kernel
theorem dX5_readHeavy_5 : decode cX5_readHeavy 5 = .ok (.getfield 19, 3) := by decide +kernel
theorem dX5_readHeavy_8 : decode cX5_readHeavy 8 = .ok (.istore_n 1, 1) := by decide +kernel
theorem dX5_readHeavy_9 : decode cX5_readHeavy 9 = .ok (.iconst 0, 1) := by decide +kernel
theorem dX5_readHeavy_10 : decode cX5_readHeavy 10 = .ok (.istore_n 2, 1) := by decide +kernel
theorem dX5_readHeavy_11 : decode cX5_readHeavy 11 = .ok (.iconst 0, 1) := by decide +kernel
theorem dX5_readHeavy_12 : decode cX5_readHeavy 12 = .ok (.istore_n 3, 1) := by decide +kernel
theorem dX5_readHeavy_13 : decode cX5_readHeavy 13 = .ok (.iload_n 3, 1) := by decide +kernel
theorem dX5_readHeavy_14 : decode cX5_readHeavy 14 = .ok (.iconst 2, 1) := by decide +kernel
theorem dX5_readHeavy_15 : decode cX5_readHeavy 15 = .ok (.if_icmp .ge 46, 3) := by decide +kernel
theorem dX5_readHeavy_18 : decode cX5_readHeavy 18 = .ok (.aload_n 0, 1) := by decide +kernel
theorem dX5_readHeavy_19 : decode cX5_readHeavy 19 = .ok (.invokevirtual 68, 3) := by decide +kernel
theorem dX5_readHeavy_22 : decode cX5_readHeavy 22 = .ok (.bipush 48, 2) := by decide +kernel
theorem dX5_readHeavy_24 : decode cX5_readHeavy 24 = .ok (.bipush 57, 2) := by decide +kernel
theorem dX5_readHeavy_26 : decode cX5_readHeavy 26 = .ok (.invokestatic 71, 3) := by decide +kernel
theorem dX5_readHeavy_29 : decode cX5_readHeavy 29 = .ok (.ifCond .eq 32, 3) := by decide +kernel
theorem dX5_readHeavy_32 : decode cX5_readHeavy 32 = .ok (.bipush 10, 2) := by decide +kernel
theorem dX5_readHeavy_34 : decode cX5_readHeavy 34 = .ok (.iload_n 2, 1) := by decide +kernel
theorem dX5_readHeavy_35 : decode cX5_readHeavy 35 = .ok (.imul, 1) := by decide +kernel
theorem dX5_readHeavy_36 : decode cX5_readHeavy 36 = .ok (.aload_n 0, 1) := by decide +kernel
theorem dX5_readHeavy_37 : decode cX5_readHeavy 37 = .ok (.invokevirtual 68, 3) := by decide +kernel
theorem dX5_readHeavy_40 : decode cX5_readHeavy 40 = .ok (.iadd, 1) := by decide +kernel
theorem dX5_readHeavy_41 : decode cX5_readHeavy 41 = .ok (.bipush 48, 2) := by decide +kernel
theorem dX5_readHeavy_43 : decode cX5_readHeavy 43 = .ok (.isub, 1) := by decide +kernel
theorem dX5_readHeavy_44 : decode cX5_readHeavy 44 = .ok (.istore_n 2, 1) := by decide +kernel
theorem dX5_readHeavy_45 : decode cX5_readHeavy 45 = .ok (.aload_n 0, 1) := by decide +kernel
theorem dX5_readHeavy_46 : decode cX5_readHeavy 46 = .ok (.dup, 1) := by decide +kernel
theorem dX5_readHeavy_47 : decode cX5_readHeavy 47 = .ok (.getfield 19, 3) := by decide +kernel
theorem dX5_readHeavy_50 : decode cX5_readHeavy 50 = .ok (.iconst 1, 1) := by decide +kernel
theorem dX5_readHeavy_51 : decode cX5_readHeavy 51 = .ok (.iadd, 1) := by decide +kernel
theorem dX5_readHeavy_52 : decode cX5_readHeavy 52 = .ok (.putfield 19, 3) := by decide +kernel
theorem dX5_readHeavy_55 : decode cX5_readHeavy 55 = .ok (.iinc 3 1, 3) := by decide +kernel
theorem dX5_readHeavy_58 : decode cX5_readHeavy 58 = .ok (.goto (-45), 3) := by decide +kernel
theorem dX5_readHeavy_61 : decode cX5_readHeavy 61 = .ok (.iload_n 2, 1) := by decide +kernel
theorem dX5_readHeavy_62 : decode cX5_readHeavy 62 = .ok (.iconst 1, 1) := by decide +kernel
theorem dX5_readHeavy_63 : decode cX5_readHeavy 63 = .ok (.bipush 20, 2) := by decide +kernel
theorem dX5_readHeavy_65 : decode cX5_readHeavy 65 = .ok (.invokestatic 71, 3) := by decide +kernel
theorem dX5_readHeavy_68 : decode cX5_readHeavy 68 = .ok (.ifCond .ne 11, 3) := by decide +kernel
theorem dX5_readHeavy_71 : decode cX5_readHeavy 71 = .ok (.aload_n 0, 1) := by decide +kernel
theorem dX5_readHeavy_72 : decode cX5_readHeavy 72 = .ok (.iload_n 1, 1) := by decide +kernel
theorem dX5_readHeavy_73 : decode cX5_readHeavy 73 = .ok (.putfield 19, 3) := by decide +kernel
theorem dX5_readHeavy_76 : decode cX5_readHeavy 76 = .ok (.bipush (-4), 2) := by decide +kernel
theorem dX5_readHeavy_78 : decode cX5_readHeavy 78 = .ok (.ireturn, 1) := by decide +kernel
theorem dX5_readHeavy_79 : decode cX5_readHeavy 79 = .ok (.iload_n 2, 1) := by decide +kernel
theorem dX5_readHeavy_80 : decode cX5_readHeavy 80 = .ok (.ireturn, 1) := by decide +kernel
theorem dX5_readDigit_0 : decode cX5_readDigit 0 = .ok (.aload_n 0, 1) := by decide +kernel
theorem dX5_readDigit_1 : decode cX5_readDigit 1 = .ok (.invokevirtual 37, 3) := by decide +kernel
theorem dX5_readDigit_4 : decode cX5_readDigit 4 = .ok (.istore_n 3, 1) := by decide +kernel
theorem dX5_readDigit_5 : decode cX5_readDigit 5 = .ok (.iload_n 3, 1) := by decide +kernel
theorem dX5_readDigit_6 : decode cX5_readDigit 6 = .ok (.iload_n 1, 1) := by decide +kernel
theorem dX5_readDigit_7 : decode cX5_readDigit 7 = .ok (.iload_n 2, 1) := by decide +kernel
theorem dX5_readDigit_8 : decode cX5_readDigit 8 = .ok (.invokestatic 71, 3) := by decide +kernel
theorem dX5_readDigit_11 : decode cX5_readDigit 11 = .ok (.ifCond .ne 6, 3) := by decide +kernel
theorem dX5_readDigit_14 : decode cX5_readDigit 14 = .ok (.bipush (-4), 2) := by decide +kernel
theorem dX5_readDigit_16 : decode cX5_readDigit 16 = .ok (.ireturn, 1) := by decide +kernel
theorem dX5_readDigit_17 : decode cX5_readDigit 17 = .ok (.aload_n 0, 1) := by decide +kernel
theorem dX5_readDigit_18 : decode cX5_readDigit 18 = .ok (.dup, 1) := by decide +kernel
theorem dX5_readDigit_19 : decode cX5_readDigit 19 = .ok (.getfield 19, 3) := by decide +kernel
theorem dX5_readDigit_22 : decode cX5_readDigit 22 = .ok (.iconst 1, 1) := by decide +kernel
theorem dX5_readDigit_23 : decode cX5_readDigit 23 = .ok (.iadd, 1) := by decide +kernel
theorem dX5_readDigit_24 : decode cX5_readDigit 24 = .ok (.putfield 19, 3) := by decide +kernel
theorem dX5_readDigit_27 : decode cX5_readDigit 27 = .ok (.iload_n 3, 1) := by decide +kernel
theorem dX5_readDigit_28 : decode cX5_readDigit 28 = .ok (.bipush 48, 2) := by decide +kernel
theorem dX5_readDigit_30 : decode cX5_readDigit 30 = .ok (.isub, 1) := by decide +kernel
theorem dX5_readDigit_31 : decode cX5_readDigit 31 = .ok (.ireturn, 1) := by decide +kernel
theorem dX5_nextLetter_0 : decode cX5_nextLetter 0 = .ok (.aload_n 0, 1) := by decide +kernel
theorem dX5_nextLetter_1 : decode cX5_nextLetter 1 = .ok (.invokevirtual 65, 3) := by decide +kernel
theorem dX5_nextLetter_4 : decode cX5_nextLetter 4 = .ok (.aload_n 0, 1) := by decide +kernel
theorem dX5_nextLetter_5 : decode cX5_nextLetter 5 = .ok (.invokevirtual 68, 3) := by decide +kernel
theorem dX5_nextLetter_8 : decode cX5_nextLetter 8 = .ok (.ireturn, 1) := by decide +kernel
theorem dX5_skipBlanks_0 : decode cX5_skipBlanks 0 = .ok (.aload_n 0, 1) := by decide +kernel
theorem dX5_skipBlanks_1 : decode cX5_skipBlanks 1 = .ok (.getfield 19, 3) := by decide +kernel
theorem dX5_skipBlanks_4 : decode cX5_skipBlanks 4 = .ok (.aload_n 0, 1) := by decide +kernel
theorem dX5_skipBlanks_5 : decode cX5_skipBlanks 5 = .ok (.getfield 15, 3) := by decide +kernel
theorem dX5_skipBlanks_8 : decode cX5_skipBlanks 8 = .ok (.if_icmp .ge 30, 3) := by decide +kernel
theorem dX5_skipBlanks_11 : decode cX5_skipBlanks 11 = .ok (.aload_n 0, 1) := by decide +kernel
theorem dX5_skipBlanks_12 : decode cX5_skipBlanks 12 = .ok (.getfield 9, 3) := by decide +kernel
theorem dX5_skipBlanks_15 : decode cX5_skipBlanks 15 = .ok (.aload_n 0, 1) := by decide +kernel
theorem dX5_skipBlanks_16 : decode cX5_skipBlanks 16 = .ok (.getfield 19, 3) := by decide +kernel
theorem dX5_skipBlanks_19 : decode cX5_skipBlanks 19 = .ok (.iaload, 1) := by decide +kernel
theorem dX5_skipBlanks_20 : decode cX5_skipBlanks 20 = .ok (.bipush 32, 2) := by decide +kernel
theorem dX5_skipBlanks_22 : decode cX5_skipBlanks 22 = .ok (.if_icmp .ne 16, 3) := by decide +kernel
theorem dX5_skipBlanks_25 : decode cX5_skipBlanks 25 = .ok (.aload_n 0, 1) := by decide +kernel
theorem dX5_skipBlanks_26 : decode cX5_skipBlanks 26 = .ok (.dup, 1) := by decide +kernel
theorem dX5_skipBlanks_27 : decode cX5_skipBlanks 27 = .ok (.getfield 19, 3) := by decide +kernel
theorem dX5_skipBlanks_30 : decode cX5_skipBlanks 30 = .ok (.iconst 1, 1) := by decide +kernel
theorem dX5_skipBlanks_31 : decode cX5_skipBlanks 31 = .ok (.iadd, 1) := by decide +kernel
theorem dX5_skipBlanks_32 : decode cX5_skipBlanks 32 = .ok (.putfield 19, 3) := by decide +kernel
theorem dX5_skipBlanks_35 : decode cX5_skipBlanks 35 = .ok (.goto (-35), 3) := by decide +kernel
theorem dX5_skipBlanks_38 : decode cX5_skipBlanks 38 = .ok (.return_, 1) := by decide +kernel
theorem dX5_letterHere_0 : decode cX5_letterHere 0 = .ok (.aload_n 0, 1) := by decide +kernel
theorem dX5_letterHere_1 : decode cX5_letterHere 1 = .ok (.getfield 19, 3) := by decide +kernel
theorem dX5_letterHere_4 : decode cX5_letterHere 4 = .ok (.aload_n 0, 1) := by decide +kernel
theorem dX5_letterHere_5 : decode cX5_letterHere 5 = .ok (.getfield 15, 3) := by decide +kernel
theorem dX5_letterHere_8 : decode cX5_letterHere 8 = .ok (.if_icmp .ge 15, 3) := by decide +kernel
theorem dX5_letterHere_11 : decode cX5_letterHere 11 = .ok (.aload_n 0, 1) := by decide +kernel
theorem dX5_letterHere_12 : decode cX5_letterHere 12 = .ok (.getfield 9, 3) := by decide +kernel
theorem dX5_letterHere_15 : decode cX5_letterHere 15 = .ok (.aload_n 0, 1) := by decide +kernel
theorem dX5_letterHere_16 : decode cX5_letterHere 16 = .ok (.getfield 19, 3) := by decide +kernel
theorem dX5_letterHere_19 : decode cX5_letterHere 19 = .ok (.iaload, 1) := by decide +kernel
theorem dX5_letterHere_20 : decode cX5_letterHere 20 = .ok (.goto 4, 3) := by decide +kernel
theorem dX5_letterHere_23 : decode cX5_letterHere 23 = .ok (.iconst (-1), 1) := by decide +kernel
theorem dX5_letterHere_24 : decode cX5_letterHere 24 = .ok (.ireturn, 1) := by decide +kernel
theorem dX6_init_0 : decode cX6_init 0 = .ok (.aload_n 0, 1) := by decide +kernel
theorem dX6_init_1 : decode cX6_init 1 = .ok (.invokespecial 1, 3) := by decide +kernel
theorem dX6_init_4 : decode cX6_init 4 = .ok (.aload_n 0, 1) := by decide +kernel
theorem dX6_init_5 : decode cX6_init 5 = .ok (.new 7, 3) := by decide +kernel
theorem dX6_init_8 : decode cX6_init 8 = .ok (.dup, 1) := by decide +kernel
theorem dX6_init_9 : decode cX6_init 9 = .ok (.invokespecial 9, 3) := by decide +kernel
theorem dX6_init_12 : decode cX6_init 12 = .ok (.putfield 10, 3) := by decide +kernel
theorem dX6_init_15 : decode cX6_init 15 = .ok (.aload_n 0, 1) := by decide +kernel
theorem dX6_init_16 : decode cX6_init 16 = .ok (.new 7, 3) := by decide +kernel
theorem dX6_init_19 : decode cX6_init 19 = .ok (.dup, 1) := by decide +kernel
theorem dX6_init_20 : decode cX6_init 20 = .ok (.invokespecial 9, 3) := by decide +kernel
theorem dX6_init_23 : decode cX6_init 23 = .ok (.putfield 16, 3) := by decide +kernel
theorem dX6_init_26 : decode cX6_init 26 = .ok (.aload_n 0, 1) := by decide +kernel
theorem dX6_init_27 : decode cX6_init 27 = .ok (.new 19, 3) := by decide +kernel
theorem dX6_init_30 : decode cX6_init 30 = .ok (.dup, 1) := by decide +kernel
theorem dX6_init_31 : decode cX6_init 31 = .ok (.invokespecial 21, 3) := by decide +kernel
theorem dX6_init_34 : decode cX6_init 34 = .ok (.putfield 22, 3) := by decide +kernel
theorem dX6_init_37 : decode cX6_init 37 = .ok (.aload_n 0, 1) := by decide +kernel
theorem dX6_init_38 : decode cX6_init 38 = .ok (.new 7, 3) := by decide +kernel
theorem dX6_init_41 : decode cX6_init 41 = .ok (.dup, 1) := by decide +kernel
theorem dX6_init_42 : decode cX6_init 42 = .ok (.invokespecial 9, 3) := by decide +kernel
theorem dX6_init_45 : decode cX6_init 45 = .ok (.putfield 26, 3) := by decide +kernel
theorem dX6_init_48 : decode cX6_init 48 = .ok (.aload_n 0, 1) := by decide +kernel
theorem dX6_init_49 : decode cX6_init 49 = .ok (.new 19, 3) := by decide +kernel
theorem dX6_init_52 : decode cX6_init 52 = .ok (.dup, 1) := by decide +kernel
theorem dX6_init_53 : decode cX6_init 53 = .ok (.invokespecial 21, 3) := by decide +kernel
theorem dX6_init_56 : decode cX6_init 56 = .ok (.putfield 29, 3) := by decide +kernel
theorem dX6_init_59 : decode cX6_init 59 = .ok (.aload_n 0, 1) := by decide +kernel
theorem dX6_init_60 : decode cX6_init 60 = .ok (.iconst 0, 1) := by decide +kernel
theorem dX6_init_61 : decode cX6_init 61 = .ok (.putfield 32, 3) := by decide +kernel
theorem dX6_init_64 : decode cX6_init 64 = .ok (.aload_n 0, 1) := by decide +kernel
theorem dX6_init_65 : decode cX6_init 65 = .ok (.new 36, 3) := by decide +kernel
theorem dX6_init_68 : decode cX6_init 68 = .ok (.dup, 1) := by decide +kernel
theorem dX6_init_69 : decode cX6_init 69 = .ok (.invokespecial 38, 3) := by decide +kernel
theorem dX6_init_72 : decode cX6_init 72 = .ok (.putfield 39, 3) := by decide +kernel
theorem dX6_init_75 : decode cX6_init 75 = .ok (.aload_n 0, 1) := by decide +kernel
theorem dX6_init_76 : decode cX6_init 76 = .ok (.iconst 4, 1) := by decide +kernel
theorem dX6_init_77 : decode cX6_init 77 = .ok (.anewarray 43, 3) := by decide +kernel
theorem dX6_init_80 : decode cX6_init 80 = .ok (.putfield 45, 3) := by decide +kernel
theorem dX6_init_83 : decode cX6_init 83 = .ok (.aload_n 0, 1) := by decide +kernel
theorem dX6_init_84 : decode cX6_init 84 = .ok (.bipush 10, 2) := by decide +kernel
theorem dX6_init_86 : decode cX6_init 86 = .ok (.newarray .int, 2) := by decide +kernel
theorem dX6_init_88 : decode cX6_init 88 = .ok (.putfield 49, 3) := by decide +kernel
theorem dX6_init_91 : decode cX6_init 91 = .ok (.aload_n 0, 1) := by decide +kernel
theorem dX6_init_92 : decode cX6_init 92 = .ok (.new 53, 3) := by decide +kernel
theorem dX6_init_95 : decode cX6_init 95 = .ok (.dup, 1) := by decide +kernel
theorem dX6_init_96 : decode cX6_init 96 = .ok (.invokespecial 55, 3) := by decide +kernel
theorem dX6_init_99 : decode cX6_init 99 = .ok (.putfield 56, 3) := by decide +kernel
theorem dX6_init_102 : decode cX6_init 102 = .ok (.aload_n 0, 1) := by decide +kernel
theorem dX6_init_103 : decode cX6_init 103 = .ok (.new 53, 3) := by decide +kernel
theorem dX6_init_106 : decode cX6_init 106 = .ok (.dup, 1) := by decide +kernel
theorem dX6_init_107 : decode cX6_init 107 = .ok (.invokespecial 55, 3) := by decide +kernel
theorem dX6_init_110 : decode cX6_init 110 = .ok (.putfield 60, 3) := by decide +kernel
theorem dX6_init_113 : decode cX6_init 113 = .ok (.aload_n 0, 1) := by decide +kernel
theorem dX6_init_114 : decode cX6_init 114 = .ok (.new 63, 3) := by decide +kernel
theorem dX6_init_117 : decode cX6_init 117 = .ok (.dup, 1) := by decide +kernel
theorem dX6_init_118 : decode cX6_init 118 = .ok (.invokespecial 65, 3) := by decide +kernel
theorem dX6_init_121 : decode cX6_init 121 = .ok (.putfield 66, 3) := by decide +kernel
theorem dX6_init_124 : decode cX6_init 124 = .ok (.iconst 0, 1) := by decide +kernel
theorem dX6_init_125 : decode cX6_init 125 = .ok (.istore_n 1, 1) := by decide +kernel
theorem dX6_init_126 : decode cX6_init 126 = .ok (.iload_n 1, 1) := by decide +kernel
theorem dX6_init_127 : decode cX6_init 127 = .ok (.aload_n 0, 1) := by decide +kernel
theorem dX6_init_128 : decode cX6_init 128 = .ok (.getfield 45, 3) := by decide +kernel
theorem dX6_init_131 : decode cX6_init 131 = .ok (.arraylength, 1) := by decide +kernel
theorem dX6_init_132 : decode cX6_init 132 = .ok (.if_icmp .ge 22, 3) := by decide +kernel
theorem dX6_init_135 : decode cX6_init 135 = .ok (.aload_n 0, 1) := by decide +kernel
theorem dX6_init_136 : decode cX6_init 136 = .ok (.getfield 45, 3) := by decide +kernel
theorem dX6_init_139 : decode cX6_init 139 = .ok (.iload_n 1, 1) := by decide +kernel
theorem dX6_init_140 : decode cX6_init 140 = .ok (.new 43, 3) := by decide +kernel
theorem dX6_init_143 : decode cX6_init 143 = .ok (.dup, 1) := by decide +kernel
theorem dX6_init_144 : decode cX6_init 144 = .ok (.invokespecial 70, 3) := by decide +kernel
theorem dX6_init_147 : decode cX6_init 147 = .ok (.aastore, 1) := by decide +kernel
theorem dX6_init_148 : decode cX6_init 148 = .ok (.iinc 1 1, 3) := by decide +kernel
theorem dX6_init_151 : decode cX6_init 151 = .ok (.goto (-25), 3) := by decide +kernel
theorem dX6_init_154 : decode cX6_init 154 = .ok (.return_, 1) := by decide +kernel
theorem dX6_rider_0 : decode cX6_rider 0 = .ok (.iload_n 1, 1) := by decide +kernel
theorem dX6_rider_1 : decode cX6_rider 1 = .ok (.iconst 0, 1) := by decide +kernel
theorem dX6_rider_2 : decode cX6_rider 2 = .ok (.iconst 4, 1) := by decide +kernel
theorem dX6_rider_3 : decode cX6_rider 3 = .ok (.invokestatic 71, 3) := by decide +kernel
theorem dX6_rider_6 : decode cX6_rider 6 = .ok (.ifCond .eq 23, 3) := by decide +kernel
theorem dX6_rider_9 : decode cX6_rider 9 = .ok (.iload_n 2, 1) := by decide +kernel
theorem dX6_rider_10 : decode cX6_rider 10 = .ok (.iconst 1, 1) := by decide +kernel
theorem dX6_rider_11 : decode cX6_rider 11 = .ok (.bipush 20, 2) := by decide +kernel
theorem dX6_rider_13 : decode cX6_rider 13 = .ok (.invokestatic 71, 3) := by decide +kernel
theorem dX6_rider_16 : decode cX6_rider 16 = .ok (.ifCond .eq 13, 3) := by decide +kernel
theorem dX6_rider_19 : decode cX6_rider 19 = .ok (.iload_n 3, 1) := by decide +kernel
theorem dX6_rider_20 : decode cX6_rider 20 = .ok (.iconst 0, 1) := by decide +kernel
theorem dX6_rider_21 : decode cX6_rider 21 = .ok (.bipush 7, 2) := by decide +kernel
theorem dX6_rider_23 : decode cX6_rider 23 = .ok (.invokestatic 71, 3) := by decide +kernel
theorem dX6_rider_26 : decode cX6_rider 26 = .ok (.ifCond .ne 5, 3) := by decide +kernel
theorem dX6_rider_29 : decode cX6_rider 29 = .ok (.iconst (-1), 1) := by decide +kernel
theorem dX6_rider_30 : decode cX6_rider 30 = .ok (.ireturn, 1) := by decide +kernel
theorem dX6_rider_31 : decode cX6_rider 31 = .ok (.aload_n 0, 1) := by decide +kernel
theorem dX6_rider_32 : decode cX6_rider 32 = .ok (.getfield 10, 3) := by decide +kernel
theorem dX6_rider_35 : decode cX6_rider 35 = .ok (.iload_n 1, 1) := by decide +kernel
theorem dX6_rider_36 : decode cX6_rider 36 = .ok (.iload_n 2, 1) := by decide +kernel
theorem dX6_rider_37 : decode cX6_rider 37 = .ok (.iload_n 3, 1) := by decide +kernel
theorem dX6_rider_38 : decode cX6_rider 38 = .ok (.invokevirtual 75, 3) := by decide +kernel
theorem dX6_rider_41 : decode cX6_rider 41 = .ok (.istore 4, 2) := by decide +kernel
theorem dX6_rider_43 : decode cX6_rider 43 = .ok (.iload 4, 2) := by decide +kernel
theorem dX6_rider_45 : decode cX6_rider 45 = .ok (.bipush (-3), 2) := by decide +kernel
theorem dX6_rider_47 : decode cX6_rider 47 = .ok (.if_icmp .eq 10, 3) := by decide +kernel
theorem dX6_rider_50 : decode cX6_rider 50 = .ok (.aload_n 0, 1) := by decide +kernel
theorem dX6_rider_51 : decode cX6_rider 51 = .ok (.getfield 22, 3) := by decide +kernel
theorem dX6_rider_54 : decode cX6_rider 54 = .ok (.invokevirtual 79, 3) := by decide +kernel
theorem dX6_rider_57 : decode cX6_rider 57 = .ok (.iload 4, 2) := by decide +kernel
theorem dX6_rider_59 : decode cX6_rider 59 = .ok (.ireturn, 1) := by decide +kernel
theorem dX6_lean_0 : decode cX6_lean 0 = .ok (.aload_n 0, 1) := by decide +kernel
theorem dX6_lean_1 : decode cX6_lean 1 = .ok (.getfield 10, 3) := by decide +kernel
theorem dX6_lean_4 : decode cX6_lean 4 = .ok (.iload_n 1, 1) := by decide +kernel
theorem dX6_lean_5 : decode cX6_lean 5 = .ok (.invokevirtual 82, 3) := by decide +kernel
theorem dX6_lean_8 : decode cX6_lean 8 = .ok (.ifCond .eq 13, 3) := by decide +kernel
theorem dX6_lean_11 : decode cX6_lean 11 = .ok (.iload_n 2, 1) := by decide +kernel
theorem dX6_lean_12 : decode cX6_lean 12 = .ok (.iconst 0, 1) := by decide +kernel
theorem dX6_lean_13 : decode cX6_lean 13 = .ok (.bipush 7, 2) := by decide +kernel
theorem dX6_lean_15 : decode cX6_lean 15 = .ok (.invokestatic 71, 3) := by decide +kernel
theorem dX6_lean_18 : decode cX6_lean 18 = .ok (.ifCond .ne 5, 3) := by decide +kernel
theorem dX6_lean_21 : decode cX6_lean 21 = .ok (.iconst (-1), 1) := by decide +kernel
theorem dX6_lean_22 : decode cX6_lean 22 = .ok (.ireturn, 1) := by decide +kernel
theorem dX6_lean_23 : decode cX6_lean 23 = .ok (.aload_n 0, 1) := by decide +kernel
theorem dX6_lean_24 : decode cX6_lean 24 = .ok (.getfield 10, 3) := by decide +kernel
theorem dX6_lean_27 : decode cX6_lean 27 = .ok (.getfield 86, 3) := by decide +kernel
theorem dX6_lean_30 : decode cX6_lean 30 = .ok (.iload_n 1, 1) := by decide +kernel
theorem dX6_lean_31 : decode cX6_lean 31 = .ok (.iaload, 1) := by decide +kernel
theorem dX6_lean_32 : decode cX6_lean 32 = .ok (.istore_n 3, 1) := by decide +kernel
theorem dX6_lean_33 : decode cX6_lean 33 = .ok (.aload_n 0, 1) := by decide +kernel
theorem dX6_lean_34 : decode cX6_lean 34 = .ok (.getfield 10, 3) := by decide +kernel
theorem dX6_lean_37 : decode cX6_lean 37 = .ok (.getfield 86, 3) := by decide +kernel
theorem dX6_lean_40 : decode cX6_lean 40 = .ok (.iload_n 1, 1) := by decide +kernel
theorem dX6_lean_41 : decode cX6_lean 41 = .ok (.iload_n 2, 1) := by decide +kernel
theorem dX6_lean_42 : decode cX6_lean 42 = .ok (.iastore, 1) := by decide +kernel
theorem dX6_lean_43 : decode cX6_lean 43 = .ok (.iload_n 3, 1) := by decide +kernel
theorem dX6_lean_44 : decode cX6_lean 44 = .ok (.ireturn, 1) := by decide +kernel
theorem dX6_of_0 : decode cX6_of 0 = .ok (.aload_n 0, 1) := by decide +kernel
theorem dX6_of_1 : decode cX6_of 1 = .ok (.getfield 10, 3) := by decide +kernel
theorem dX6_of_4 : decode cX6_of 4 = .ok (.iload_n 1, 1) := by decide +kernel
theorem dX6_of_5 : decode cX6_of 5 = .ok (.invokevirtual 82, 3) := by decide +kernel
theorem dX6_of_8 : decode cX6_of 8 = .ok (.ifCond .ne 5, 3) := by decide +kernel
theorem dX6_of_11 : decode cX6_of 11 = .ok (.iconst (-1), 1) := by decide +kernel
theorem dX6_of_12 : decode cX6_of 12 = .ok (.ireturn, 1) := by decide +kernel
theorem dX6_of_13 : decode cX6_of 13 = .ok (.iload_n 2, 1) := by decide +kernel
theorem dX6_of_14 : decode cX6_of 14 = .ok (.tableswitch 70 0 3 #[30, 40, 50, 60], 30) := by decide +kernel
theorem dX6_of_44 : decode cX6_of 44 = .ok (.aload_n 0, 1) := by decide +kernel
theorem dX6_of_45 : decode cX6_of 45 = .ok (.getfield 10, 3) := by decide +kernel
theorem dX6_of_48 : decode cX6_of 48 = .ok (.getfield 89, 3) := by decide +kernel
theorem dX6_of_51 : decode cX6_of 51 = .ok (.iload_n 1, 1) := by decide +kernel
theorem dX6_of_52 : decode cX6_of 52 = .ok (.iaload, 1) := by decide +kernel
theorem dX6_of_53 : decode cX6_of 53 = .ok (.ireturn, 1) := by decide +kernel
theorem dX6_of_54 : decode cX6_of 54 = .ok (.aload_n 0, 1) := by decide +kernel
theorem dX6_of_55 : decode cX6_of 55 = .ok (.getfield 10, 3) := by decide +kernel
theorem dX6_of_58 : decode cX6_of 58 = .ok (.getfield 92, 3) := by decide +kernel
theorem dX6_of_61 : decode cX6_of 61 = .ok (.iload_n 1, 1) := by decide +kernel
theorem dX6_of_62 : decode cX6_of 62 = .ok (.iaload, 1) := by decide +kernel
theorem dX6_of_63 : decode cX6_of 63 = .ok (.ireturn, 1) := by decide +kernel
theorem dX6_of_64 : decode cX6_of 64 = .ok (.aload_n 0, 1) := by decide +kernel
theorem dX6_of_65 : decode cX6_of 65 = .ok (.getfield 10, 3) := by decide +kernel
theorem dX6_of_68 : decode cX6_of 68 = .ok (.getfield 86, 3) := by decide +kernel
theorem dX6_of_71 : decode cX6_of 71 = .ok (.iload_n 1, 1) := by decide +kernel
theorem dX6_of_72 : decode cX6_of 72 = .ok (.iaload, 1) := by decide +kernel
theorem dX6_of_73 : decode cX6_of 73 = .ok (.ireturn, 1) := by decide +kernel
theorem dX6_of_74 : decode cX6_of 74 = .ok (.aload_n 0, 1) := by decide +kernel
theorem dX6_of_75 : decode cX6_of 75 = .ok (.getfield 10, 3) := by decide +kernel
theorem dX6_of_78 : decode cX6_of 78 = .ok (.getfield 95, 3) := by decide +kernel
theorem dX6_of_81 : decode cX6_of 81 = .ok (.iload_n 1, 1) := by decide +kernel
theorem dX6_of_82 : decode cX6_of 82 = .ok (.iaload, 1) := by decide +kernel
theorem dX6_of_83 : decode cX6_of 83 = .ok (.ireturn, 1) := by decide +kernel
theorem dX6_of_84 : decode cX6_of 84 = .ok (.iconst (-1), 1) := by decide +kernel
theorem dX6_of_85 : decode cX6_of 85 = .ok (.ireturn, 1) := by decide +kernel
theorem dX6_at_0 : decode cX6_at 0 = .ok (.iload_n 1, 1) := by decide +kernel
theorem dX6_at_1 : decode cX6_at 1 = .ok (.invokestatic 98, 3) := by decide +kernel
theorem dX6_at_4 : decode cX6_at 4 = .ok (.ifCond .ne 5, 3) := by decide +kernel
theorem dX6_at_7 : decode cX6_at 7 = .ok (.iconst (-1), 1) := by decide +kernel
theorem dX6_at_8 : decode cX6_at 8 = .ok (.ireturn, 1) := by decide +kernel
theorem dX6_at_9 : decode cX6_at 9 = .ok (.iload_n 2, 1) := by decide +kernel
theorem dX6_at_10 : decode cX6_at 10 = .ok (.tableswitch 55 0 2 #[26, 36, 46], 26) := by decide +kernel
theorem dX6_at_36 : decode cX6_at 36 = .ok (.aload_n 0, 1) := by decide +kernel
theorem dX6_at_37 : decode cX6_at 37 = .ok (.getfield 10, 3) := by decide +kernel
theorem dX6_at_40 : decode cX6_at 40 = .ok (.getfield 101, 3) := by decide +kernel
theorem dX6_at_43 : decode cX6_at 43 = .ok (.iload_n 1, 1) := by decide +kernel
theorem dX6_at_44 : decode cX6_at 44 = .ok (.iaload, 1) := by decide +kernel
theorem dX6_at_45 : decode cX6_at 45 = .ok (.ireturn, 1) := by decide +kernel
theorem dX6_at_46 : decode cX6_at 46 = .ok (.aload_n 0, 1) := by decide +kernel
theorem dX6_at_47 : decode cX6_at 47 = .ok (.getfield 10, 3) := by decide +kernel
theorem dX6_at_50 : decode cX6_at 50 = .ok (.getfield 104, 3) := by decide +kernel
theorem dX6_at_53 : decode cX6_at 53 = .ok (.iload_n 1, 1) := by decide +kernel
theorem dX6_at_54 : decode cX6_at 54 = .ok (.iaload, 1) := by decide +kernel
theorem dX6_at_55 : decode cX6_at 55 = .ok (.ireturn, 1) := by decide +kernel
theorem dX6_at_56 : decode cX6_at 56 = .ok (.aload_n 0, 1) := by decide +kernel
theorem dX6_at_57 : decode cX6_at 57 = .ok (.getfield 10, 3) := by decide +kernel
theorem dX6_at_60 : decode cX6_at 60 = .ok (.iload_n 1, 1) := by decide +kernel
theorem dX6_at_61 : decode cX6_at 61 = .ok (.invokevirtual 107, 3) := by decide +kernel
theorem dX6_at_64 : decode cX6_at 64 = .ok (.ireturn, 1) := by decide +kernel
theorem dX6_at_65 : decode cX6_at 65 = .ok (.iconst (-1), 1) := by decide +kernel
theorem dX6_at_66 : decode cX6_at 66 = .ok (.ireturn, 1) := by decide +kernel
theorem dX6_gains_0 : decode cX6_gains 0 = .ok (.aload_n 0, 1) := by decide +kernel
theorem dX6_gains_1 : decode cX6_gains 1 = .ok (.getfield 10, 3) := by decide +kernel
theorem dX6_gains_4 : decode cX6_gains 4 = .ok (.iload_n 1, 1) := by decide +kernel
theorem dX6_gains_5 : decode cX6_gains 5 = .ok (.invokevirtual 82, 3) := by decide +kernel
theorem dX6_gains_8 : decode cX6_gains 8 = .ok (.ifCond .eq 20, 3) := by decide +kernel
theorem dX6_gains_11 : decode cX6_gains 11 = .ok (.iload_n 2, 1) := by decide +kernel
theorem dX6_gains_12 : decode cX6_gains 12 = .ok (.invokestatic 98, 3) := by decide +kernel
theorem dX6_gains_15 : decode cX6_gains 15 = .ok (.ifCond .eq 13, 3) := by decide +kernel
theorem dX6_gains_18 : decode cX6_gains 18 = .ok (.iload_n 3, 1) := by decide +kernel
theorem dX6_gains_19 : decode cX6_gains 19 = .ok (.iconst 0, 1) := by decide +kernel
theorem dX6_gains_20 : decode cX6_gains 20 = .ok (.bipush 30, 2) := by decide +kernel
theorem dX6_gains_22 : decode cX6_gains 22 = .ok (.invokestatic 71, 3) := by decide +kernel
theorem dX6_gains_25 : decode cX6_gains 25 = .ok (.ifCond .ne 5, 3) := by decide +kernel
theorem dX6_gains_28 : decode cX6_gains 28 = .ok (.iconst (-1), 1) := by decide +kernel
theorem dX6_gains_29 : decode cX6_gains 29 = .ok (.ireturn, 1) := by decide +kernel
theorem dX6_gains_30 : decode cX6_gains 30 = .ok (.aload_n 0, 1) := by decide +kernel
theorem dX6_gains_31 : decode cX6_gains 31 = .ok (.getfield 10, 3) := by decide +kernel
theorem dX6_gains_34 : decode cX6_gains 34 = .ok (.iload_n 1, 1) := by decide +kernel
theorem dX6_gains_35 : decode cX6_gains 35 = .ok (.iload_n 2, 1) := by decide +kernel
theorem dX6_gains_36 : decode cX6_gains 36 = .ok (.iload_n 3, 1) := by decide +kernel
theorem dX6_gains_37 : decode cX6_gains 37 = .ok (.invokevirtual 111, 3) := by decide +kernel
theorem dX6_gains_40 : decode cX6_gains 40 = .ok (.ireturn, 1) := by decide +kernel
theorem dX6_type_0 : decode cX6_type 0 = .ok (.iload_n 1, 1) := by decide +kernel
theorem dX6_type_1 : decode cX6_type 1 = .ok (.bipush 32, 2) := by decide +kernel
theorem dX6_type_3 : decode cX6_type 3 = .ok (.bipush 126, 2) := by decide +kernel
theorem dX6_type_5 : decode cX6_type 5 = .ok (.invokestatic 71, 3) := by decide +kernel
theorem dX6_type_8 : decode cX6_type 8 = .ok (.ifCond .ne 5, 3) := by decide +kernel
theorem dX6_type_11 : decode cX6_type 11 = .ok (.iconst (-1), 1) := by decide +kernel
theorem dX6_type_12 : decode cX6_type 12 = .ok (.ireturn, 1) := by decide +kernel
theorem dX6_type_13 : decode cX6_type 13 = .ok (.aload_n 0, 1) := by decide +kernel
theorem dX6_type_14 : decode cX6_type 14 = .ok (.getfield 39, 3) := by decide +kernel
theorem dX6_type_17 : decode cX6_type 17 = .ok (.iload_n 1, 1) := by decide +kernel
theorem dX6_type_18 : decode cX6_type 18 = .ok (.invokevirtual 114, 3) := by decide +kernel
theorem dX6_type_21 : decode cX6_type 21 = .ok (.ireturn, 1) := by decide +kernel
theorem dX6_slide_0 : decode cX6_slide 0 = .ok (.aload_n 0, 1) := by decide +kernel
theorem dX6_slide_1 : decode cX6_slide 1 = .ok (.getfield 39, 3) := by decide +kernel
theorem dX6_slide_4 : decode cX6_slide 4 = .ok (.aload_n 0, 1) := by decide +kernel
theorem dX6_slide_5 : decode cX6_slide 5 = .ok (.getfield 16, 3) := by decide +kernel
theorem dX6_slide_8 : decode cX6_slide 8 = .ok (.invokevirtual 117, 3) := by decide +kernel
theorem dX6_slide_11 : decode cX6_slide 11 = .ok (.istore_n 1, 1) := by decide +kernel
theorem dX6_slide_12 : decode cX6_slide 12 = .ok (.bipush (-20), 2) := by decide +kernel
theorem dX6_slide_14 : decode cX6_slide 14 = .ok (.aload_n 0, 1) := by decide +kernel
theorem dX6_slide_15 : decode cX6_slide 15 = .ok (.getfield 39, 3) := by decide +kernel
theorem dX6_slide_18 : decode cX6_slide 18 = .ok (.getfield 121, 3) := by decide +kernel
theorem dX6_slide_21 : decode cX6_slide 21 = .ok (.isub, 1) := by decide +kernel
theorem dX6_slide_22 : decode cX6_slide 22 = .ok (.istore_n 2, 1) := by decide +kernel
theorem dX6_slide_23 : decode cX6_slide 23 = .ok (.aload_n 0, 1) := by decide +kernel
theorem dX6_slide_24 : decode cX6_slide 24 = .ok (.getfield 39, 3) := by decide +kernel
theorem dX6_slide_27 : decode cX6_slide 27 = .ok (.invokevirtual 124, 3) := by decide +kernel
theorem dX6_slide_30 : decode cX6_slide 30 = .ok (.iload_n 1, 1) := by decide +kernel
theorem dX6_slide_31 : decode cX6_slide 31 = .ok (.ifCond .ne 5, 3) := by decide +kernel
theorem dX6_slide_34 : decode cX6_slide 34 = .ok (.iload_n 2, 1) := by decide +kernel
theorem dX6_slide_35 : decode cX6_slide 35 = .ok (.ireturn, 1) := by decide +kernel
theorem dX6_slide_36 : decode cX6_slide 36 = .ok (.aload_n 0, 1) := by decide +kernel
theorem dX6_slide_37 : decode cX6_slide 37 = .ok (.getfield 16, 3) := by decide +kernel
theorem dX6_slide_40 : decode cX6_slide 40 = .ok (.aload_n 0, 1) := by decide +kernel
theorem dX6_slide_41 : decode cX6_slide 41 = .ok (.getfield 10, 3) := by decide +kernel
theorem dX6_slide_44 : decode cX6_slide 44 = .ok (.getfield 127, 3) := by decide +kernel
theorem dX6_slide_47 : decode cX6_slide 47 = .ok (.putfield 127, 3) := by decide +kernel
theorem dX6_slide_50 : decode cX6_slide 50 = .ok (.aload_n 0, 1) := by decide +kernel
theorem dX6_slide_51 : decode cX6_slide 51 = .ok (.getfield 10, 3) := by decide +kernel
theorem dX6_slide_54 : decode cX6_slide 54 = .ok (.aload_n 0, 1) := by decide +kernel
theorem dX6_slide_55 : decode cX6_slide 55 = .ok (.getfield 16, 3) := by decide +kernel
theorem dX6_slide_58 : decode cX6_slide 58 = .ok (.invokevirtual 130, 3) := by decide +kernel
theorem dX6_slide_61 : decode cX6_slide 61 = .ok (.aload_n 0, 1) := by decide +kernel
theorem dX6_slide_62 : decode cX6_slide 62 = .ok (.getfield 22, 3) := by decide +kernel
theorem dX6_slide_65 : decode cX6_slide 65 = .ok (.invokevirtual 79, 3) := by decide +kernel
theorem dX6_slide_68 : decode cX6_slide 68 = .ok (.aload_n 0, 1) := by decide +kernel
theorem dX6_slide_69 : decode cX6_slide 69 = .ok (.getfield 10, 3) := by decide +kernel
theorem dX6_slide_72 : decode cX6_slide 72 = .ok (.getfield 134, 3) := by decide +kernel
theorem dX6_slide_75 : decode cX6_slide 75 = .ok (.ireturn, 1) := by decide +kernel
theorem dX6_count_0 : decode cX6_count 0 = .ok (.iload_n 1, 1) := by decide +kernel
theorem dX6_count_1 : decode cX6_count 1 = .ok (.tableswitch 117 0 7 #[47, 55, 63, 71, 79, 87, 98, 109], 47) := by decide +kernel
theorem dX6_count_48 : decode cX6_count 48 = .ok (.aload_n 0, 1) := by decide +kernel
theorem dX6_count_49 : decode cX6_count 49 = .ok (.getfield 10, 3) := by decide +kernel
theorem dX6_count_52 : decode cX6_count 52 = .ok (.getfield 134, 3) := by decide +kernel
theorem dX6_count_55 : decode cX6_count 55 = .ok (.ireturn, 1) := by decide +kernel
theorem dX6_count_56 : decode cX6_count 56 = .ok (.aload_n 0, 1) := by decide +kernel
theorem dX6_count_57 : decode cX6_count 57 = .ok (.getfield 10, 3) := by decide +kernel
theorem dX6_count_60 : decode cX6_count 60 = .ok (.getfield 137, 3) := by decide +kernel
theorem dX6_count_63 : decode cX6_count 63 = .ok (.ireturn, 1) := by decide +kernel
theorem dX6_count_64 : decode cX6_count 64 = .ok (.aload_n 0, 1) := by decide +kernel
theorem dX6_count_65 : decode cX6_count 65 = .ok (.getfield 10, 3) := by decide +kernel
theorem dX6_count_68 : decode cX6_count 68 = .ok (.invokevirtual 140, 3) := by decide +kernel
theorem dX6_count_71 : decode cX6_count 71 = .ok (.ireturn, 1) := by decide +kernel
theorem dX6_count_72 : decode cX6_count 72 = .ok (.aload_n 0, 1) := by decide +kernel
theorem dX6_count_73 : decode cX6_count 73 = .ok (.getfield 10, 3) := by decide +kernel
theorem dX6_count_76 : decode cX6_count 76 = .ok (.invokevirtual 144, 3) := by decide +kernel
theorem dX6_count_79 : decode cX6_count 79 = .ok (.ireturn, 1) := by decide +kernel
theorem dX6_count_80 : decode cX6_count 80 = .ok (.aload_n 0, 1) := by decide +kernel
theorem dX6_count_81 : decode cX6_count 81 = .ok (.getfield 10, 3) := by decide +kernel
theorem dX6_count_84 : decode cX6_count 84 = .ok (.invokevirtual 147, 3) := by decide +kernel
theorem dX6_count_87 : decode cX6_count 87 = .ok (.ireturn, 1) := by decide +kernel
theorem dX6_count_88 : decode cX6_count 88 = .ok (.aload_n 0, 1) := by decide +kernel
theorem dX6_count_89 : decode cX6_count 89 = .ok (.getfield 10, 3) := by decide +kernel
theorem dX6_count_92 : decode cX6_count 92 = .ok (.getfield 101, 3) := by decide +kernel
theorem dX6_count_95 : decode cX6_count 95 = .ok (.invokestatic 150, 3) := by decide +kernel
theorem dX6_count_98 : decode cX6_count 98 = .ok (.ireturn, 1) := by decide +kernel
theorem dX6_count_99 : decode cX6_count 99 = .ok (.aload_n 0, 1) := by decide +kernel
theorem dX6_count_100 : decode cX6_count 100 = .ok (.getfield 10, 3) := by decide +kernel
theorem dX6_count_103 : decode cX6_count 103 = .ok (.getfield 104, 3) := by decide +kernel
theorem dX6_count_106 : decode cX6_count 106 = .ok (.invokestatic 150, 3) := by decide +kernel
theorem dX6_count_109 : decode cX6_count 109 = .ok (.ireturn, 1) := by decide +kernel
theorem dX6_count_110 : decode cX6_count 110 = .ok (.aload_n 0, 1) := by decide +kernel
theorem dX6_count_111 : decode cX6_count 111 = .ok (.getfield 22, 3) := by decide +kernel
theorem dX6_count_114 : decode cX6_count 114 = .ok (.getfield 154, 3) := by decide +kernel
theorem dX6_count_117 : decode cX6_count 117 = .ok (.ireturn, 1) := by decide +kernel
theorem dX6_count_118 : decode cX6_count 118 = .ok (.iconst (-1), 1) := by decide +kernel
theorem dX6_count_119 : decode cX6_count 119 = .ok (.ireturn, 1) := by decide +kernel
theorem dX6_ride_0 : decode cX6_ride 0 = .ok (.aload_n 0, 1) := by decide +kernel
theorem dX6_ride_1 : decode cX6_ride 1 = .ok (.getfield 10, 3) := by decide +kernel
theorem dX6_ride_4 : decode cX6_ride 4 = .ok (.iload_n 1, 1) := by decide +kernel
theorem dX6_ride_5 : decode cX6_ride 5 = .ok (.invokevirtual 82, 3) := by decide +kernel
theorem dX6_ride_8 : decode cX6_ride 8 = .ok (.ifCond .ne 5, 3) := by decide +kernel
theorem dX6_ride_11 : decode cX6_ride 11 = .ok (.iconst (-1), 1) := by decide +kernel
theorem dX6_ride_12 : decode cX6_ride 12 = .ok (.ireturn, 1) := by decide +kernel
theorem dX6_ride_13 : decode cX6_ride 13 = .ok (.aload_n 0, 1) := by decide +kernel
theorem dX6_ride_14 : decode cX6_ride 14 = .ok (.getfield 10, 3) := by decide +kernel
theorem dX6_ride_17 : decode cX6_ride 17 = .ok (.getfield 137, 3) := by decide +kernel
theorem dX6_ride_20 : decode cX6_ride 20 = .ok (.sipush 9999, 3) := by decide +kernel
theorem dX6_ride_23 : decode cX6_ride 23 = .ok (.if_icmp .lt 6, 3) := by decide +kernel
theorem dX6_ride_26 : decode cX6_ride 26 = .ok (.bipush (-3), 2) := by decide +kernel
theorem dX6_ride_28 : decode cX6_ride 28 = .ok (.ireturn, 1) := by decide +kernel
theorem dX6_ride_29 : decode cX6_ride 29 = .ok (.aload_n 0, 1) := by decide +kernel
theorem dX6_ride_30 : decode cX6_ride 30 = .ok (.getfield 10, 3) := by decide +kernel
theorem dX6_ride_33 : decode cX6_ride 33 = .ok (.getfield 95, 3) := by decide +kernel
theorem dX6_ride_36 : decode cX6_ride 36 = .ok (.iload_n 1, 1) := by decide +kernel
theorem dX6_ride_37 : decode cX6_ride 37 = .ok (.iaload, 1) := by decide +kernel
theorem dX6_ride_38 : decode cX6_ride 38 = .ok (.bipush 30, 2) := by decide +kernel
theorem dX6_ride_40 : decode cX6_ride 40 = .ok (.if_icmp .eq 6, 3) := by decide +kernel
theorem dX6_ride_43 : decode cX6_ride 43 = .ok (.bipush (-2), 2) := by decide +kernel
theorem dX6_ride_45 : decode cX6_ride 45 = .ok (.ireturn, 1) := by decide +kernel
theorem dX6_ride_46 : decode cX6_ride 46 = .ok (.aload_n 0, 1) := by decide +kernel
theorem dX6_ride_47 : decode cX6_ride 47 = .ok (.getfield 22, 3) := by decide +kernel
theorem dX6_ride_50 : decode cX6_ride 50 = .ok (.aload_n 0, 1) := by decide +kernel
theorem dX6_ride_51 : decode cX6_ride 51 = .ok (.getfield 10, 3) := by decide +kernel
theorem dX6_ride_54 : decode cX6_ride 54 = .ok (.invokevirtual 157, 3) := by decide +kernel
theorem dX6_ride_57 : decode cX6_ride 57 = .ok (.aload_n 0, 1) := by decide +kernel
theorem dX6_ride_58 : decode cX6_ride 58 = .ok (.getfield 10, 3) := by decide +kernel
theorem dX6_ride_61 : decode cX6_ride 61 = .ok (.iload_n 1, 1) := by decide +kernel
theorem dX6_ride_62 : decode cX6_ride 62 = .ok (.aload_n 0, 1) := by decide +kernel
theorem dX6_ride_63 : decode cX6_ride 63 = .ok (.getfield 49, 3) := by decide +kernel
theorem dX6_ride_66 : decode cX6_ride 66 = .ok (.invokevirtual 160, 3) := by decide +kernel
theorem dX6_ride_69 : decode cX6_ride 69 = .ok (.ireturn, 1) := by decide +kernel
theorem dX6_wax_0 : decode cX6_wax 0 = .ok (.iload_n 1, 1) := by decide +kernel
theorem dX6_wax_1 : decode cX6_wax 1 = .ok (.invokestatic 98, 3) := by decide +kernel
theorem dX6_wax_4 : decode cX6_wax 4 = .ok (.ifCond .eq 13, 3) := by decide +kernel
theorem dX6_wax_7 : decode cX6_wax 7 = .ok (.iload_n 2, 1) := by decide +kernel
theorem dX6_wax_8 : decode cX6_wax 8 = .ok (.iconst 0, 1) := by decide +kernel
theorem dX6_wax_9 : decode cX6_wax 9 = .ok (.bipush 9, 2) := by decide +kernel
theorem dX6_wax_11 : decode cX6_wax 11 = .ok (.invokestatic 71, 3) := by decide +kernel
theorem dX6_wax_14 : decode cX6_wax 14 = .ok (.ifCond .ne 5, 3) := by decide +kernel
theorem dX6_wax_17 : decode cX6_wax 17 = .ok (.iconst (-1), 1) := by decide +kernel
theorem dX6_wax_18 : decode cX6_wax 18 = .ok (.ireturn, 1) := by decide +kernel
theorem dX6_wax_19 : decode cX6_wax 19 = .ok (.aload_n 0, 1) := by decide +kernel
theorem dX6_wax_20 : decode cX6_wax 20 = .ok (.getfield 10, 3) := by decide +kernel
theorem dX6_wax_23 : decode cX6_wax 23 = .ok (.getfield 101, 3) := by decide +kernel
theorem dX6_wax_26 : decode cX6_wax 26 = .ok (.iload_n 1, 1) := by decide +kernel
theorem dX6_wax_27 : decode cX6_wax 27 = .ok (.iaload, 1) := by decide +kernel
theorem dX6_wax_28 : decode cX6_wax 28 = .ok (.istore_n 3, 1) := by decide +kernel
theorem dX6_wax_29 : decode cX6_wax 29 = .ok (.iload_n 3, 1) := by decide +kernel
theorem dX6_wax_30 : decode cX6_wax 30 = .ok (.iload_n 2, 1) := by decide +kernel
theorem dX6_wax_31 : decode cX6_wax 31 = .ok (.if_icmp .ne 6, 3) := by decide +kernel
theorem dX6_wax_34 : decode cX6_wax 34 = .ok (.bipush (-2), 2) := by decide +kernel
theorem dX6_wax_36 : decode cX6_wax 36 = .ok (.ireturn, 1) := by decide +kernel
theorem dX6_wax_37 : decode cX6_wax 37 = .ok (.aload_n 0, 1) := by decide +kernel
theorem dX6_wax_38 : decode cX6_wax 38 = .ok (.getfield 22, 3) := by decide +kernel
theorem dX6_wax_41 : decode cX6_wax 41 = .ok (.aload_n 0, 1) := by decide +kernel
theorem dX6_wax_42 : decode cX6_wax 42 = .ok (.getfield 10, 3) := by decide +kernel
theorem dX6_wax_45 : decode cX6_wax 45 = .ok (.invokevirtual 157, 3) := by decide +kernel
theorem dX6_wax_48 : decode cX6_wax 48 = .ok (.aload_n 0, 1) := by decide +kernel
theorem dX6_wax_49 : decode cX6_wax 49 = .ok (.getfield 10, 3) := by decide +kernel
theorem dX6_wax_52 : decode cX6_wax 52 = .ok (.getfield 101, 3) := by decide +kernel
theorem dX6_wax_55 : decode cX6_wax 55 = .ok (.iload_n 1, 1) := by decide +kernel
theorem dX6_wax_56 : decode cX6_wax 56 = .ok (.iload_n 2, 1) := by decide +kernel
theorem dX6_wax_57 : decode cX6_wax 57 = .ok (.iastore, 1) := by decide +kernel
theorem dX6_wax_58 : decode cX6_wax 58 = .ok (.iload_n 3, 1) := by decide +kernel
theorem dX6_wax_59 : decode cX6_wax 59 = .ok (.ireturn, 1) := by decide +kernel
theorem dX6_hammer_0 : decode cX6_hammer 0 = .ok (.iload_n 1, 1) := by decide +kernel
theorem dX6_hammer_1 : decode cX6_hammer 1 = .ok (.invokestatic 98, 3) := by decide +kernel
theorem dX6_hammer_4 : decode cX6_hammer 4 = .ok (.ifCond .eq 13, 3) := by decide +kernel
theorem dX6_hammer_7 : decode cX6_hammer 7 = .ok (.iload_n 2, 1) := by decide +kernel
theorem dX6_hammer_8 : decode cX6_hammer 8 = .ok (.iconst 0, 1) := by decide +kernel
theorem dX6_hammer_9 : decode cX6_hammer 9 = .ok (.bipush 9, 2) := by decide +kernel
theorem dX6_hammer_11 : decode cX6_hammer 11 = .ok (.invokestatic 71, 3) := by decide +kernel
theorem dX6_hammer_14 : decode cX6_hammer 14 = .ok (.ifCond .ne 5, 3) := by decide +kernel
theorem dX6_hammer_17 : decode cX6_hammer 17 = .ok (.iconst (-1), 1) := by decide +kernel
theorem dX6_hammer_18 : decode cX6_hammer 18 = .ok (.ireturn, 1) := by decide +kernel
theorem dX6_hammer_19 : decode cX6_hammer 19 = .ok (.aload_n 0, 1) := by decide +kernel
theorem dX6_hammer_20 : decode cX6_hammer 20 = .ok (.getfield 10, 3) := by decide +kernel
theorem dX6_hammer_23 : decode cX6_hammer 23 = .ok (.getfield 104, 3) := by decide +kernel
theorem dX6_hammer_26 : decode cX6_hammer 26 = .ok (.iload_n 1, 1) := by decide +kernel
theorem dX6_hammer_27 : decode cX6_hammer 27 = .ok (.iaload, 1) := by decide +kernel
theorem dX6_hammer_28 : decode cX6_hammer 28 = .ok (.istore_n 3, 1) := by decide +kernel
theorem dX6_hammer_29 : decode cX6_hammer 29 = .ok (.iload_n 3, 1) := by decide +kernel
theorem dX6_hammer_30 : decode cX6_hammer 30 = .ok (.iload_n 2, 1) := by decide +kernel
theorem dX6_hammer_31 : decode cX6_hammer 31 = .ok (.if_icmp .ne 6, 3) := by decide +kernel
theorem dX6_hammer_34 : decode cX6_hammer 34 = .ok (.bipush (-2), 2) := by decide +kernel
theorem dX6_hammer_36 : decode cX6_hammer 36 = .ok (.ireturn, 1) := by decide +kernel
theorem dX6_hammer_37 : decode cX6_hammer 37 = .ok (.aload_n 0, 1) := by decide +kernel
theorem dX6_hammer_38 : decode cX6_hammer 38 = .ok (.getfield 22, 3) := by decide +kernel
theorem dX6_hammer_41 : decode cX6_hammer 41 = .ok (.aload_n 0, 1) := by decide +kernel
theorem dX6_hammer_42 : decode cX6_hammer 42 = .ok (.getfield 10, 3) := by decide +kernel
theorem dX6_hammer_45 : decode cX6_hammer 45 = .ok (.invokevirtual 157, 3) := by decide +kernel
theorem dX6_hammer_48 : decode cX6_hammer 48 = .ok (.aload_n 0, 1) := by decide +kernel
theorem dX6_hammer_49 : decode cX6_hammer 49 = .ok (.getfield 10, 3) := by decide +kernel
theorem dX6_hammer_52 : decode cX6_hammer 52 = .ok (.getfield 104, 3) := by decide +kernel
theorem dX6_hammer_55 : decode cX6_hammer 55 = .ok (.iload_n 1, 1) := by decide +kernel
theorem dX6_hammer_56 : decode cX6_hammer 56 = .ok (.iload_n 2, 1) := by decide +kernel
theorem dX6_hammer_57 : decode cX6_hammer 57 = .ok (.iastore, 1) := by decide +kernel
theorem dX6_hammer_58 : decode cX6_hammer 58 = .ok (.iload_n 3, 1) := by decide +kernel
theorem dX6_hammer_59 : decode cX6_hammer 59 = .ok (.ireturn, 1) := by decide +kernel
theorem dX6_up_0 : decode cX6_up 0 = .ok (.aload_n 0, 1) := by decide +kernel
theorem dX6_up_1 : decode cX6_up 1 = .ok (.getfield 10, 3) := by decide +kernel
theorem dX6_up_4 : decode cX6_up 4 = .ok (.iload_n 1, 1) := by decide +kernel
theorem dX6_up_5 : decode cX6_up 5 = .ok (.invokevirtual 82, 3) := by decide +kernel
theorem dX6_up_8 : decode cX6_up 8 = .ok (.ifCond .ne 5, 3) := by decide +kernel
theorem dX6_up_11 : decode cX6_up 11 = .ok (.iconst (-1), 1) := by decide +kernel
theorem dX6_up_12 : decode cX6_up 12 = .ok (.ireturn, 1) := by decide +kernel
theorem dX6_up_13 : decode cX6_up 13 = .ok (.aload_n 0, 1) := by decide +kernel
theorem dX6_up_14 : decode cX6_up 14 = .ok (.getfield 10, 3) := by decide +kernel
theorem dX6_up_17 : decode cX6_up 17 = .ok (.getfield 95, 3) := by decide +kernel
theorem dX6_up_20 : decode cX6_up 20 = .ok (.iload_n 1, 1) := by decide +kernel
theorem dX6_up_21 : decode cX6_up 21 = .ok (.iaload, 1) := by decide +kernel
theorem dX6_up_22 : decode cX6_up 22 = .ok (.istore_n 2, 1) := by decide +kernel
theorem dX6_up_23 : decode cX6_up 23 = .ok (.iload_n 2, 1) := by decide +kernel
theorem dX6_up_24 : decode cX6_up 24 = .ok (.bipush 30, 2) := by decide +kernel
theorem dX6_up_26 : decode cX6_up 26 = .ok (.if_icmp .ne 6, 3) := by decide +kernel
theorem dX6_up_29 : decode cX6_up 29 = .ok (.bipush (-2), 2) := by decide +kernel
theorem dX6_up_31 : decode cX6_up 31 = .ok (.ireturn, 1) := by decide +kernel
theorem dX6_up_32 : decode cX6_up 32 = .ok (.aload_n 0, 1) := by decide +kernel
theorem dX6_up_33 : decode cX6_up 33 = .ok (.getfield 22, 3) := by decide +kernel
theorem dX6_up_36 : decode cX6_up 36 = .ok (.aload_n 0, 1) := by decide +kernel
theorem dX6_up_37 : decode cX6_up 37 = .ok (.getfield 10, 3) := by decide +kernel
theorem dX6_up_40 : decode cX6_up 40 = .ok (.invokevirtual 157, 3) := by decide +kernel
theorem dX6_up_43 : decode cX6_up 43 = .ok (.aload_n 0, 1) := by decide +kernel
theorem dX6_up_44 : decode cX6_up 44 = .ok (.getfield 10, 3) := by decide +kernel
theorem dX6_up_47 : decode cX6_up 47 = .ok (.getfield 95, 3) := by decide +kernel
theorem dX6_up_50 : decode cX6_up 50 = .ok (.iload_n 1, 1) := by decide +kernel
theorem dX6_up_51 : decode cX6_up 51 = .ok (.bipush 30, 2) := by decide +kernel
theorem dX6_up_53 : decode cX6_up 53 = .ok (.iastore, 1) := by decide +kernel
theorem dX6_up_54 : decode cX6_up 54 = .ok (.iload_n 2, 1) := by decide +kernel
theorem dX6_up_55 : decode cX6_up 55 = .ok (.ireturn, 1) := by decide +kernel
theorem dX6_drift_0 : decode cX6_drift 0 = .ok (.iload_n 1, 1) := by decide +kernel
theorem dX6_drift_1 : decode cX6_drift 1 = .ok (.iconst 1, 1) := by decide +kernel
theorem dX6_drift_2 : decode cX6_drift 2 = .ok (.bipush 40, 2) := by decide +kernel
theorem dX6_drift_4 : decode cX6_drift 4 = .ok (.invokestatic 71, 3) := by decide +kernel
theorem dX6_drift_7 : decode cX6_drift 7 = .ok (.ifCond .ne 5, 3) := by decide +kernel
theorem dX6_drift_10 : decode cX6_drift 10 = .ok (.iconst (-1), 1) := by decide +kernel
theorem dX6_drift_11 : decode cX6_drift 11 = .ok (.ireturn, 1) := by decide +kernel
theorem dX6_drift_12 : decode cX6_drift 12 = .ok (.aload_n 0, 1) := by decide +kernel
theorem dX6_drift_13 : decode cX6_drift 13 = .ok (.getfield 10, 3) := by decide +kernel
theorem dX6_drift_16 : decode cX6_drift 16 = .ok (.getfield 137, 3) := by decide +kernel
theorem dX6_drift_19 : decode cX6_drift 19 = .ok (.iload_n 1, 1) := by decide +kernel
theorem dX6_drift_20 : decode cX6_drift 20 = .ok (.iadd, 1) := by decide +kernel
theorem dX6_drift_21 : decode cX6_drift 21 = .ok (.sipush 9999, 3) := by decide +kernel
theorem dX6_drift_24 : decode cX6_drift 24 = .ok (.if_icmp .le 6, 3) := by decide +kernel
theorem dX6_drift_27 : decode cX6_drift 27 = .ok (.bipush (-3), 2) := by decide +kernel
theorem dX6_drift_29 : decode cX6_drift 29 = .ok (.ireturn, 1) := by decide +kernel
theorem dX6_drift_30 : decode cX6_drift 30 = .ok (.iconst 0, 1) := by decide +kernel
theorem dX6_drift_31 : decode cX6_drift 31 = .ok (.istore_n 2, 1) := by decide +kernel
theorem dX6_drift_32 : decode cX6_drift 32 = .ok (.iload_n 2, 1) := by decide +kernel
theorem dX6_drift_33 : decode cX6_drift 33 = .ok (.iload_n 1, 1) := by decide +kernel
theorem dX6_drift_34 : decode cX6_drift 34 = .ok (.if_icmp .ge 31, 3) := by decide +kernel
theorem dX6_drift_37 : decode cX6_drift 37 = .ok (.aload_n 0, 1) := by decide +kernel
theorem dX6_drift_38 : decode cX6_drift 38 = .ok (.getfield 22, 3) := by decide +kernel
theorem dX6_drift_41 : decode cX6_drift 41 = .ok (.aload_n 0, 1) := by decide +kernel
theorem dX6_drift_42 : decode cX6_drift 42 = .ok (.getfield 10, 3) := by decide +kernel
theorem dX6_drift_45 : decode cX6_drift 45 = .ok (.invokevirtual 157, 3) := by decide +kernel
theorem dX6_drift_48 : decode cX6_drift 48 = .ok (.aload_n 0, 1) := by decide +kernel
theorem dX6_drift_49 : decode cX6_drift 49 = .ok (.getfield 10, 3) := by decide +kernel
theorem dX6_drift_52 : decode cX6_drift 52 = .ok (.aload_n 0, 1) := by decide +kernel
theorem dX6_drift_53 : decode cX6_drift 53 = .ok (.getfield 49, 3) := by decide +kernel
theorem dX6_drift_56 : decode cX6_drift 56 = .ok (.invokevirtual 164, 3) := by decide +kernel
theorem dX6_drift_59 : decode cX6_drift 59 = .ok (.iinc 2 1, 3) := by decide +kernel
theorem dX6_drift_62 : decode cX6_drift 62 = .ok (.goto (-30), 3) := by decide +kernel
theorem dX6_drift_65 : decode cX6_drift 65 = .ok (.aload_n 0, 1) := by decide +kernel
theorem dX6_drift_66 : decode cX6_drift 66 = .ok (.getfield 10, 3) := by decide +kernel
theorem dX6_drift_69 : decode cX6_drift 69 = .ok (.invokevirtual 144, 3) := by decide +kernel
theorem dX6_drift_72 : decode cX6_drift 72 = .ok (.ireturn, 1) := by decide +kernel
theorem dX6_undo_0 : decode cX6_undo 0 = .ok (.aload_n 0, 1) := by decide +kernel
theorem dX6_undo_1 : decode cX6_undo 1 = .ok (.getfield 22, 3) := by decide +kernel
theorem dX6_undo_4 : decode cX6_undo 4 = .ok (.aload_n 0, 1) := by decide +kernel
theorem dX6_undo_5 : decode cX6_undo 5 = .ok (.getfield 10, 3) := by decide +kernel
theorem dX6_undo_8 : decode cX6_undo 8 = .ok (.invokevirtual 168, 3) := by decide +kernel
theorem dX6_undo_11 : decode cX6_undo 11 = .ok (.ifCond .eq 13, 3) := by decide +kernel
theorem dX6_undo_14 : decode cX6_undo 14 = .ok (.aload_n 0, 1) := by decide +kernel
theorem dX6_undo_15 : decode cX6_undo 15 = .ok (.getfield 22, 3) := by decide +kernel
theorem dX6_undo_18 : decode cX6_undo 18 = .ok (.getfield 154, 3) := by decide +kernel
theorem dX6_undo_21 : decode cX6_undo 21 = .ok (.goto 5, 3) := by decide +kernel
theorem dX6_undo_24 : decode cX6_undo 24 = .ok (.bipush (-4), 2) := by decide +kernel
theorem dX6_undo_26 : decode cX6_undo 26 = .ok (.ireturn, 1) := by decide +kernel
theorem dX6_seed_0 : decode cX6_seed 0 = .ok (.iload_n 1, 1) := by decide +kernel
theorem dX6_seed_1 : decode cX6_seed 1 = .ok (.ifCond .ge 5, 3) := by decide +kernel
theorem dX6_seed_4 : decode cX6_seed 4 = .ok (.iconst (-1), 1) := by decide +kernel
theorem dX6_seed_5 : decode cX6_seed 5 = .ok (.ireturn, 1) := by decide +kernel
theorem dX6_seed_6 : decode cX6_seed 6 = .ok (.aload_n 0, 1) := by decide +kernel
theorem dX6_seed_7 : decode cX6_seed 7 = .ok (.getfield 10, 3) := by decide +kernel
theorem dX6_seed_10 : decode cX6_seed 10 = .ok (.getfield 127, 3) := by decide +kernel
theorem dX6_seed_13 : decode cX6_seed 13 = .ok (.istore_n 2, 1) := by decide +kernel
theorem dX6_seed_14 : decode cX6_seed 14 = .ok (.aload_n 0, 1) := by decide +kernel
theorem dX6_seed_15 : decode cX6_seed 15 = .ok (.getfield 10, 3) := by decide +kernel
theorem dX6_seed_18 : decode cX6_seed 18 = .ok (.iload_n 1, 1) := by decide +kernel
theorem dX6_seed_19 : decode cX6_seed 19 = .ok (.putfield 127, 3) := by decide +kernel
theorem dX6_seed_22 : decode cX6_seed 22 = .ok (.iload_n 2, 1) := by decide +kernel
theorem dX6_seed_23 : decode cX6_seed 23 = .ok (.ireturn, 1) := by decide +kernel
theorem dX6_speed_0 : decode cX6_speed 0 = .ok (.aload_n 0, 1) := by decide +kernel
theorem dX6_speed_1 : decode cX6_speed 1 = .ok (.getfield 10, 3) := by decide +kernel
theorem dX6_speed_4 : decode cX6_speed 4 = .ok (.iload_n 1, 1) := by decide +kernel
theorem dX6_speed_5 : decode cX6_speed 5 = .ok (.invokevirtual 82, 3) := by decide +kernel
theorem dX6_speed_8 : decode cX6_speed 8 = .ok (.ifCond .eq 10, 3) := by decide +kernel
theorem dX6_speed_11 : decode cX6_speed 11 = .ok (.iload_n 2, 1) := by decide +kernel
theorem dX6_speed_12 : decode cX6_speed 12 = .ok (.invokestatic 98, 3) := by decide +kernel
theorem dX6_speed_15 : decode cX6_speed 15 = .ok (.ifCond .ne 5, 3) := by decide +kernel
theorem dX6_speed_18 : decode cX6_speed 18 = .ok (.iconst (-1), 1) := by decide +kernel
theorem dX6_speed_19 : decode cX6_speed 19 = .ok (.ireturn, 1) := by decide +kernel
theorem dX6_speed_20 : decode cX6_speed 20 = .ok (.aload_n 0, 1) := by decide +kernel
theorem dX6_speed_21 : decode cX6_speed 21 = .ok (.getfield 10, 3) := by decide +kernel
theorem dX6_speed_24 : decode cX6_speed 24 = .ok (.iload_n 1, 1) := by decide +kernel
theorem dX6_speed_25 : decode cX6_speed 25 = .ok (.aload_n 0, 1) := by decide +kernel
theorem dX6_speed_26 : decode cX6_speed 26 = .ok (.getfield 49, 3) := by decide +kernel
theorem dX6_speed_29 : decode cX6_speed 29 = .ok (.invokevirtual 171, 3) := by decide +kernel
theorem dX6_speed_32 : decode cX6_speed 32 = .ok (.pop, 1) := by decide +kernel
theorem dX6_speed_33 : decode cX6_speed 33 = .ok (.aload_n 0, 1) := by decide +kernel
theorem dX6_speed_34 : decode cX6_speed 34 = .ok (.getfield 49, 3) := by decide +kernel
theorem dX6_speed_37 : decode cX6_speed 37 = .ok (.iload_n 2, 1) := by decide +kernel
theorem dX6_speed_38 : decode cX6_speed 38 = .ok (.iaload, 1) := by decide +kernel
theorem dX6_speed_39 : decode cX6_speed 39 = .ok (.ireturn, 1) := by decide +kernel
theorem dX6_ends_0 : decode cX6_ends 0 = .ok (.aload_n 0, 1) := by decide +kernel
theorem dX6_ends_1 : decode cX6_ends 1 = .ok (.getfield 10, 3) := by decide +kernel
theorem dX6_ends_4 : decode cX6_ends 4 = .ok (.iload_n 1, 1) := by decide +kernel
theorem dX6_ends_5 : decode cX6_ends 5 = .ok (.invokevirtual 82, 3) := by decide +kernel
theorem dX6_ends_8 : decode cX6_ends 8 = .ok (.ifCond .eq 18, 3) := by decide +kernel
theorem dX6_ends_11 : decode cX6_ends 11 = .ok (.aload_n 0, 1) := by decide +kernel
theorem dX6_ends_12 : decode cX6_ends 12 = .ok (.getfield 10, 3) := by decide +kernel
theorem dX6_ends_15 : decode cX6_ends 15 = .ok (.iload_n 1, 1) := by decide +kernel
theorem dX6_ends_16 : decode cX6_ends 16 = .ok (.aload_n 0, 1) := by decide +kernel
theorem dX6_ends_17 : decode cX6_ends 17 = .ok (.getfield 49, 3) := by decide +kernel
theorem dX6_ends_20 : decode cX6_ends 20 = .ok (.invokevirtual 171, 3) := by decide +kernel
theorem dX6_ends_23 : decode cX6_ends 23 = .ok (.goto 4, 3) := by decide +kernel
theorem dX6_ends_26 : decode cX6_ends 26 = .ok (.iconst (-1), 1) := by decide +kernel
theorem dX6_ends_27 : decode cX6_ends 27 = .ok (.ireturn, 1) := by decide +kernel
theorem dX6_fast_0 : decode cX6_fast 0 = .ok (.aload_n 0, 1) := by decide +kernel
theorem dX6_fast_1 : decode cX6_fast 1 = .ok (.getfield 10, 3) := by decide +kernel
theorem dX6_fast_4 : decode cX6_fast 4 = .ok (.iload_n 1, 1) := by decide +kernel
theorem dX6_fast_5 : decode cX6_fast 5 = .ok (.invokevirtual 82, 3) := by decide +kernel
theorem dX6_fast_8 : decode cX6_fast 8 = .ok (.ifCond .eq 12, 3) := by decide +kernel
theorem dX6_fast_11 : decode cX6_fast 11 = .ok (.iload_n 2, 1) := by decide +kernel
theorem dX6_fast_12 : decode cX6_fast 12 = .ok (.iconst 0, 1) := by decide +kernel
theorem dX6_fast_13 : decode cX6_fast 13 = .ok (.iconst 1, 1) := by decide +kernel
theorem dX6_fast_14 : decode cX6_fast 14 = .ok (.invokestatic 71, 3) := by decide +kernel
theorem dX6_fast_17 : decode cX6_fast 17 = .ok (.ifCond .ne 5, 3) := by decide +kernel
theorem dX6_fast_20 : decode cX6_fast 20 = .ok (.iconst (-1), 1) := by decide +kernel
theorem dX6_fast_21 : decode cX6_fast 21 = .ok (.ireturn, 1) := by decide +kernel
theorem dX6_fast_22 : decode cX6_fast 22 = .ok (.aload_n 0, 1) := by decide +kernel
theorem dX6_fast_23 : decode cX6_fast 23 = .ok (.getfield 10, 3) := by decide +kernel
theorem dX6_fast_26 : decode cX6_fast 26 = .ok (.iload_n 1, 1) := by decide +kernel
theorem dX6_fast_27 : decode cX6_fast 27 = .ok (.aload_n 0, 1) := by decide +kernel
theorem dX6_fast_28 : decode cX6_fast 28 = .ok (.getfield 49, 3) := by decide +kernel
theorem dX6_fast_31 : decode cX6_fast 31 = .ok (.invokevirtual 171, 3) := by decide +kernel
theorem dX6_fast_34 : decode cX6_fast 34 = .ok (.pop, 1) := by decide +kernel
theorem dX6_fast_35 : decode cX6_fast 35 = .ok (.aload_n 0, 1) := by decide +kernel
theorem dX6_fast_36 : decode cX6_fast 36 = .ok (.getfield 49, 3) := by decide +kernel
theorem dX6_fast_39 : decode cX6_fast 39 = .ok (.invokestatic 174, 3) := by decide +kernel
theorem dX6_fast_42 : decode cX6_fast 42 = .ok (.istore_n 3, 1) := by decide +kernel
theorem dX6_fast_43 : decode cX6_fast 43 = .ok (.aload_n 0, 1) := by decide +kernel
theorem dX6_fast_44 : decode cX6_fast 44 = .ok (.getfield 49, 3) := by decide +kernel
theorem dX6_fast_47 : decode cX6_fast 47 = .ok (.iload_n 3, 1) := by decide +kernel
theorem dX6_fast_48 : decode cX6_fast 48 = .ok (.iaload, 1) := by decide +kernel
theorem dX6_fast_49 : decode cX6_fast 49 = .ok (.bipush (-4), 2) := by decide +kernel
theorem dX6_fast_51 : decode cX6_fast 51 = .ok (.if_icmp .ne 6, 3) := by decide +kernel
theorem dX6_fast_54 : decode cX6_fast 54 = .ok (.bipush (-4), 2) := by decide +kernel
theorem dX6_fast_56 : decode cX6_fast 56 = .ok (.ireturn, 1) := by decide +kernel
theorem dX6_fast_57 : decode cX6_fast 57 = .ok (.iload_n 2, 1) := by decide +kernel
theorem dX6_fast_58 : decode cX6_fast 58 = .ok (.ifCond .ne 7, 3) := by decide +kernel
theorem dX6_fast_61 : decode cX6_fast 61 = .ok (.iload_n 3, 1) := by decide +kernel
theorem dX6_fast_62 : decode cX6_fast 62 = .ok (.goto 9, 3) := by decide +kernel
theorem dX6_fast_65 : decode cX6_fast 65 = .ok (.aload_n 0, 1) := by decide +kernel
theorem dX6_fast_66 : decode cX6_fast 66 = .ok (.getfield 49, 3) := by decide +kernel
theorem dX6_fast_69 : decode cX6_fast 69 = .ok (.iload_n 3, 1) := by decide +kernel
theorem dX6_fast_70 : decode cX6_fast 70 = .ok (.iaload, 1) := by decide +kernel
theorem dX6_fast_71 : decode cX6_fast 71 = .ok (.ireturn, 1) := by decide +kernel
theorem dX6_who_0 : decode cX6_who 0 = .ok (.iload_n 1, 1) := by decide +kernel
theorem dX6_who_1 : decode cX6_who 1 = .ok (.invokestatic 177, 3) := by decide +kernel
theorem dX6_who_4 : decode cX6_who 4 = .ok (.ifCond .ne 5, 3) := by decide +kernel
theorem dX6_who_7 : decode cX6_who 7 = .ok (.iconst (-1), 1) := by decide +kernel
theorem dX6_who_8 : decode cX6_who 8 = .ok (.ireturn, 1) := by decide +kernel
theorem dX6_who_9 : decode cX6_who 9 = .ok (.iconst 0, 1) := by decide +kernel
theorem dX6_who_10 : decode cX6_who 10 = .ok (.istore_n 2, 1) := by decide +kernel
theorem dX6_who_11 : decode cX6_who 11 = .ok (.iconst 0, 1) := by decide +kernel
theorem dX6_who_12 : decode cX6_who 12 = .ok (.istore_n 3, 1) := by decide +kernel
theorem dX6_who_13 : decode cX6_who 13 = .ok (.iload_n 3, 1) := by decide +kernel
theorem dX6_who_14 : decode cX6_who 14 = .ok (.aload_n 0, 1) := by decide +kernel
theorem dX6_who_15 : decode cX6_who 15 = .ok (.getfield 10, 3) := by decide +kernel
theorem dX6_who_18 : decode cX6_who 18 = .ok (.getfield 134, 3) := by decide +kernel
theorem dX6_who_21 : decode cX6_who 21 = .ok (.if_icmp .ge 31, 3) := by decide +kernel
theorem dX6_who_24 : decode cX6_who 24 = .ok (.aload_n 0, 1) := by decide +kernel
theorem dX6_who_25 : decode cX6_who 25 = .ok (.getfield 10, 3) := by decide +kernel
theorem dX6_who_28 : decode cX6_who 28 = .ok (.iload_n 3, 1) := by decide +kernel
theorem dX6_who_29 : decode cX6_who 29 = .ok (.aload_n 0, 1) := by decide +kernel
theorem dX6_who_30 : decode cX6_who 30 = .ok (.getfield 49, 3) := by decide +kernel
theorem dX6_who_33 : decode cX6_who 33 = .ok (.invokevirtual 171, 3) := by decide +kernel
theorem dX6_who_36 : decode cX6_who 36 = .ok (.iload_n 1, 1) := by decide +kernel
theorem dX6_who_37 : decode cX6_who 37 = .ok (.if_icmp .ne 9, 3) := by decide +kernel
theorem dX6_who_40 : decode cX6_who 40 = .ok (.iload_n 2, 1) := by decide +kernel
theorem dX6_who_41 : decode cX6_who 41 = .ok (.iconst 1, 1) := by decide +kernel
theorem dX6_who_42 : decode cX6_who 42 = .ok (.iload_n 3, 1) := by decide +kernel
theorem dX6_who_43 : decode cX6_who 43 = .ok (.ishl, 1) := by decide +kernel
theorem dX6_who_44 : decode cX6_who 44 = .ok (.ior, 1) := by decide +kernel
theorem dX6_who_45 : decode cX6_who 45 = .ok (.istore_n 2, 1) := by decide +kernel
theorem dX6_who_46 : decode cX6_who 46 = .ok (.iinc 3 1, 3) := by decide +kernel
theorem dX6_who_49 : decode cX6_who 49 = .ok (.goto (-36), 3) := by decide +kernel
theorem dX6_who_52 : decode cX6_who 52 = .ok (.iload_n 2, 1) := by decide +kernel
theorem dX6_who_53 : decode cX6_who 53 = .ok (.ireturn, 1) := by decide +kernel
theorem dX6_waxes_0 : decode cX6_waxes 0 = .ok (.aload_n 0, 1) := by decide +kernel
theorem dX6_waxes_1 : decode cX6_waxes 1 = .ok (.getfield 10, 3) := by decide +kernel
theorem dX6_waxes_4 : decode cX6_waxes 4 = .ok (.iload_n 1, 1) := by decide +kernel
theorem dX6_waxes_5 : decode cX6_waxes 5 = .ok (.invokevirtual 82, 3) := by decide +kernel
theorem dX6_waxes_8 : decode cX6_waxes 8 = .ok (.ifCond .eq 10, 3) := by decide +kernel
theorem dX6_waxes_11 : decode cX6_waxes 11 = .ok (.iload_n 2, 1) := by decide +kernel
theorem dX6_waxes_12 : decode cX6_waxes 12 = .ok (.invokestatic 177, 3) := by decide +kernel
theorem dX6_waxes_15 : decode cX6_waxes 15 = .ok (.ifCond .ne 5, 3) := by decide +kernel
theorem dX6_waxes_18 : decode cX6_waxes 18 = .ok (.iconst (-1), 1) := by decide +kernel
theorem dX6_waxes_19 : decode cX6_waxes 19 = .ok (.ireturn, 1) := by decide +kernel
theorem dX6_waxes_20 : decode cX6_waxes 20 = .ok (.aload_n 0, 1) := by decide +kernel
theorem dX6_waxes_21 : decode cX6_waxes 21 = .ok (.getfield 10, 3) := by decide +kernel
theorem dX6_waxes_24 : decode cX6_waxes 24 = .ok (.iload_n 1, 1) := by decide +kernel
theorem dX6_waxes_25 : decode cX6_waxes 25 = .ok (.aload_n 0, 1) := by decide +kernel
theorem dX6_waxes_26 : decode cX6_waxes 26 = .ok (.getfield 49, 3) := by decide +kernel
theorem dX6_waxes_29 : decode cX6_waxes 29 = .ok (.invokevirtual 171, 3) := by decide +kernel
theorem dX6_waxes_32 : decode cX6_waxes 32 = .ok (.iload_n 2, 1) := by decide +kernel
theorem dX6_waxes_33 : decode cX6_waxes 33 = .ok (.if_icmp .ne 6, 3) := by decide +kernel
theorem dX6_waxes_36 : decode cX6_waxes 36 = .ok (.bipush 100, 2) := by decide +kernel
theorem dX6_waxes_38 : decode cX6_waxes 38 = .ok (.ireturn, 1) := by decide +kernel
theorem dX6_waxes_39 : decode cX6_waxes 39 = .ok (.aload_n 0, 1) := by decide +kernel
theorem dX6_waxes_40 : decode cX6_waxes 40 = .ok (.getfield 16, 3) := by decide +kernel
theorem dX6_waxes_43 : decode cX6_waxes 43 = .ok (.aload_n 0, 1) := by decide +kernel
theorem dX6_waxes_44 : decode cX6_waxes 44 = .ok (.getfield 10, 3) := by decide +kernel
theorem dX6_waxes_47 : decode cX6_waxes 47 = .ok (.invokevirtual 130, 3) := by decide +kernel
theorem dX6_waxes_50 : decode cX6_waxes 50 = .ok (.iconst 0, 1) := by decide +kernel
theorem dX6_waxes_51 : decode cX6_waxes 51 = .ok (.istore_n 3, 1) := by decide +kernel
theorem dX6_waxes_52 : decode cX6_waxes 52 = .ok (.iload_n 3, 1) := by decide +kernel
theorem dX6_waxes_53 : decode cX6_waxes 53 = .ok (.bipush 10, 2) := by decide +kernel
theorem dX6_waxes_55 : decode cX6_waxes 55 = .ok (.if_icmp .ge 33, 3) := by decide +kernel
theorem dX6_waxes_58 : decode cX6_waxes 58 = .ok (.aload_n 0, 1) := by decide +kernel
theorem dX6_waxes_59 : decode cX6_waxes 59 = .ok (.iload_n 1, 1) := by decide +kernel
theorem dX6_waxes_60 : decode cX6_waxes 60 = .ok (.iload_n 3, 1) := by decide +kernel
theorem dX6_waxes_61 : decode cX6_waxes 61 = .ok (.iload_n 2, 1) := by decide +kernel
theorem dX6_waxes_62 : decode cX6_waxes 62 = .ok (.invokevirtual 180, 3) := by decide +kernel
theorem dX6_waxes_65 : decode cX6_waxes 65 = .ok (.istore 4, 2) := by decide +kernel
theorem dX6_waxes_67 : decode cX6_waxes 67 = .ok (.iload 4, 2) := by decide +kernel
theorem dX6_waxes_69 : decode cX6_waxes 69 = .ok (.bipush (-4), 2) := by decide +kernel
theorem dX6_waxes_71 : decode cX6_waxes 71 = .ok (.if_icmp .eq 11, 3) := by decide +kernel
theorem dX6_waxes_74 : decode cX6_waxes 74 = .ok (.bipush 10, 2) := by decide +kernel
theorem dX6_waxes_76 : decode cX6_waxes 76 = .ok (.iload_n 3, 1) := by decide +kernel
theorem dX6_waxes_77 : decode cX6_waxes 77 = .ok (.imul, 1) := by decide +kernel
theorem dX6_waxes_78 : decode cX6_waxes 78 = .ok (.iload 4, 2) := by decide +kernel
theorem dX6_waxes_80 : decode cX6_waxes 80 = .ok (.iadd, 1) := by decide +kernel
theorem dX6_waxes_81 : decode cX6_waxes 81 = .ok (.ireturn, 1) := by decide +kernel
theorem dX6_waxes_82 : decode cX6_waxes 82 = .ok (.iinc 3 1, 3) := by decide +kernel
theorem dX6_waxes_85 : decode cX6_waxes 85 = .ok (.goto (-33), 3) := by decide +kernel
theorem dX6_waxes_88 : decode cX6_waxes 88 = .ok (.bipush (-4), 2) := by decide +kernel
theorem dX6_waxes_90 : decode cX6_waxes 90 = .ok (.ireturn, 1) := by decide +kernel
theorem dX6_firstWaxFor_0 : decode cX6_firstWaxFor 0 = .ok (.aload_n 0, 1) := by decide +kernel
theorem dX6_firstWaxFor_1 : decode cX6_firstWaxFor 1 = .ok (.getfield 16, 3) := by decide +kernel
theorem dX6_firstWaxFor_4 : decode cX6_firstWaxFor 4 = .ok (.getfield 101, 3) := by decide +kernel
theorem dX6_firstWaxFor_7 : decode cX6_firstWaxFor 7 = .ok (.iload_n 2, 1) := by decide +kernel
theorem dX6_firstWaxFor_8 : decode cX6_firstWaxFor 8 = .ok (.iaload, 1) := by decide +kernel
theorem dX6_firstWaxFor_9 : decode cX6_firstWaxFor 9 = .ok (.istore 4, 2) := by decide +kernel
theorem dX6_firstWaxFor_11 : decode cX6_firstWaxFor 11 = .ok (.bipush (-4), 2) := by decide +kernel
theorem dX6_firstWaxFor_13 : decode cX6_firstWaxFor 13 = .ok (.istore 5, 2) := by decide +kernel
theorem dX6_firstWaxFor_15 : decode cX6_firstWaxFor 15 = .ok (.iconst 0, 1) := by decide +kernel
theorem dX6_firstWaxFor_16 : decode cX6_firstWaxFor 16 = .ok (.istore 6, 2) := by decide +kernel
theorem dX6_firstWaxFor_18 : decode cX6_firstWaxFor 18 = .ok (.iload 6, 2) := by decide +kernel
theorem dX6_firstWaxFor_20 : decode cX6_firstWaxFor 20 = .ok (.bipush 9, 2) := by decide +kernel
theorem dX6_firstWaxFor_22 : decode cX6_firstWaxFor 22 = .ok (.if_icmp .gt 47, 3) := by decide +kernel
theorem dX6_firstWaxFor_25 : decode cX6_firstWaxFor 25 = .ok (.iload 5, 2) := by decide +kernel
theorem dX6_firstWaxFor_27 : decode cX6_firstWaxFor 27 = .ok (.bipush (-4), 2) := by decide +kernel
theorem dX6_firstWaxFor_29 : decode cX6_firstWaxFor 29 = .ok (.if_icmp .ne 40, 3) := by decide +kernel
theorem dX6_firstWaxFor_32 : decode cX6_firstWaxFor 32 = .ok (.aload_n 0, 1) := by decide +kernel
theorem dX6_firstWaxFor_33 : decode cX6_firstWaxFor 33 = .ok (.getfield 16, 3) := by decide +kernel
theorem dX6_firstWaxFor_36 : decode cX6_firstWaxFor 36 = .ok (.getfield 101, 3) := by decide +kernel
theorem dX6_firstWaxFor_39 : decode cX6_firstWaxFor 39 = .ok (.iload_n 2, 1) := by decide +kernel
theorem dX6_firstWaxFor_40 : decode cX6_firstWaxFor 40 = .ok (.iload 6, 2) := by decide +kernel
theorem dX6_firstWaxFor_42 : decode cX6_firstWaxFor 42 = .ok (.iastore, 1) := by decide +kernel
theorem dX6_firstWaxFor_43 : decode cX6_firstWaxFor 43 = .ok (.aload_n 0, 1) := by decide +kernel
theorem dX6_firstWaxFor_44 : decode cX6_firstWaxFor 44 = .ok (.getfield 16, 3) := by decide +kernel
theorem dX6_firstWaxFor_47 : decode cX6_firstWaxFor 47 = .ok (.iload_n 1, 1) := by decide +kernel
theorem dX6_firstWaxFor_48 : decode cX6_firstWaxFor 48 = .ok (.aload_n 0, 1) := by decide +kernel
theorem dX6_firstWaxFor_49 : decode cX6_firstWaxFor 49 = .ok (.getfield 49, 3) := by decide +kernel
theorem dX6_firstWaxFor_52 : decode cX6_firstWaxFor 52 = .ok (.invokevirtual 171, 3) := by decide +kernel
theorem dX6_firstWaxFor_55 : decode cX6_firstWaxFor 55 = .ok (.iload_n 3, 1) := by decide +kernel
theorem dX6_firstWaxFor_56 : decode cX6_firstWaxFor 56 = .ok (.if_icmp .ne 7, 3) := by decide +kernel
theorem dX6_firstWaxFor_59 : decode cX6_firstWaxFor 59 = .ok (.iload 6, 2) := by decide +kernel
theorem dX6_firstWaxFor_61 : decode cX6_firstWaxFor 61 = .ok (.istore 5, 2) := by decide +kernel
theorem dX6_firstWaxFor_63 : decode cX6_firstWaxFor 63 = .ok (.iinc 6 1, 3) := by decide +kernel
theorem dX6_firstWaxFor_66 : decode cX6_firstWaxFor 66 = .ok (.goto (-48), 3) := by decide +kernel
theorem dX6_firstWaxFor_69 : decode cX6_firstWaxFor 69 = .ok (.aload_n 0, 1) := by decide +kernel
theorem dX6_firstWaxFor_70 : decode cX6_firstWaxFor 70 = .ok (.getfield 16, 3) := by decide +kernel
theorem dX6_firstWaxFor_73 : decode cX6_firstWaxFor 73 = .ok (.getfield 101, 3) := by decide +kernel
theorem dX6_firstWaxFor_76 : decode cX6_firstWaxFor 76 = .ok (.iload_n 2, 1) := by decide +kernel
theorem dX6_firstWaxFor_77 : decode cX6_firstWaxFor 77 = .ok (.iload 4, 2) := by decide +kernel
theorem dX6_firstWaxFor_79 : decode cX6_firstWaxFor 79 = .ok (.iastore, 1) := by decide +kernel
theorem dX6_firstWaxFor_80 : decode cX6_firstWaxFor 80 = .ok (.iload 5, 2) := by decide +kernel
theorem dX6_firstWaxFor_82 : decode cX6_firstWaxFor 82 = .ok (.ireturn, 1) := by decide +kernel
theorem dX6_may_0 : decode cX6_may 0 = .ok (.aload_n 0, 1) := by decide +kernel
theorem dX6_may_1 : decode cX6_may 1 = .ok (.getfield 10, 3) := by decide +kernel
theorem dX6_may_4 : decode cX6_may 4 = .ok (.iload_n 1, 1) := by decide +kernel
theorem dX6_may_5 : decode cX6_may 5 = .ok (.invokevirtual 82, 3) := by decide +kernel
theorem dX6_may_8 : decode cX6_may 8 = .ok (.ifCond .eq 10, 3) := by decide +kernel
theorem dX6_may_11 : decode cX6_may 11 = .ok (.iload_n 2, 1) := by decide +kernel
theorem dX6_may_12 : decode cX6_may 12 = .ok (.invokestatic 98, 3) := by decide +kernel
theorem dX6_may_15 : decode cX6_may 15 = .ok (.ifCond .ne 5, 3) := by decide +kernel
theorem dX6_may_18 : decode cX6_may 18 = .ok (.iconst (-1), 1) := by decide +kernel
theorem dX6_may_19 : decode cX6_may 19 = .ok (.ireturn, 1) := by decide +kernel
theorem dX6_may_20 : decode cX6_may 20 = .ok (.aload_n 0, 1) := by decide +kernel
theorem dX6_may_21 : decode cX6_may 21 = .ok (.getfield 16, 3) := by decide +kernel
theorem dX6_may_24 : decode cX6_may 24 = .ok (.aload_n 0, 1) := by decide +kernel
theorem dX6_may_25 : decode cX6_may 25 = .ok (.getfield 10, 3) := by decide +kernel
theorem dX6_may_28 : decode cX6_may 28 = .ok (.invokevirtual 130, 3) := by decide +kernel
theorem dX6_may_31 : decode cX6_may 31 = .ok (.iconst 0, 1) := by decide +kernel
theorem dX6_may_32 : decode cX6_may 32 = .ok (.istore_n 3, 1) := by decide +kernel
theorem dX6_may_33 : decode cX6_may 33 = .ok (.iconst 0, 1) := by decide +kernel
theorem dX6_may_34 : decode cX6_may 34 = .ok (.istore 4, 2) := by decide +kernel
theorem dX6_may_36 : decode cX6_may 36 = .ok (.iload 4, 2) := by decide +kernel
theorem dX6_may_38 : decode cX6_may 38 = .ok (.bipush 9, 2) := by decide +kernel
theorem dX6_may_40 : decode cX6_may 40 = .ok (.if_icmp .gt 49, 3) := by decide +kernel
theorem dX6_may_43 : decode cX6_may 43 = .ok (.aload_n 0, 1) := by decide +kernel
theorem dX6_may_44 : decode cX6_may 44 = .ok (.getfield 16, 3) := by decide +kernel
theorem dX6_may_47 : decode cX6_may 47 = .ok (.getfield 101, 3) := by decide +kernel
theorem dX6_may_50 : decode cX6_may 50 = .ok (.iload_n 2, 1) := by decide +kernel
theorem dX6_may_51 : decode cX6_may 51 = .ok (.iload 4, 2) := by decide +kernel
theorem dX6_may_53 : decode cX6_may 53 = .ok (.iastore, 1) := by decide +kernel
theorem dX6_may_54 : decode cX6_may 54 = .ok (.aload_n 0, 1) := by decide +kernel
theorem dX6_may_55 : decode cX6_may 55 = .ok (.getfield 16, 3) := by decide +kernel
theorem dX6_may_58 : decode cX6_may 58 = .ok (.iload_n 1, 1) := by decide +kernel
theorem dX6_may_59 : decode cX6_may 59 = .ok (.aload_n 0, 1) := by decide +kernel
theorem dX6_may_60 : decode cX6_may 60 = .ok (.getfield 49, 3) := by decide +kernel
theorem dX6_may_63 : decode cX6_may 63 = .ok (.invokevirtual 171, 3) := by decide +kernel
theorem dX6_may_66 : decode cX6_may 66 = .ok (.istore 5, 2) := by decide +kernel
theorem dX6_may_68 : decode cX6_may 68 = .ok (.iload 5, 2) := by decide +kernel
theorem dX6_may_70 : decode cX6_may 70 = .ok (.invokestatic 177, 3) := by decide +kernel
theorem dX6_may_73 : decode cX6_may 73 = .ok (.ifCond .eq 10, 3) := by decide +kernel
theorem dX6_may_76 : decode cX6_may 76 = .ok (.iload_n 3, 1) := by decide +kernel
theorem dX6_may_77 : decode cX6_may 77 = .ok (.iconst 1, 1) := by decide +kernel
theorem dX6_may_78 : decode cX6_may 78 = .ok (.iload 5, 2) := by decide +kernel
theorem dX6_may_80 : decode cX6_may 80 = .ok (.ishl, 1) := by decide +kernel
theorem dX6_may_81 : decode cX6_may 81 = .ok (.ior, 1) := by decide +kernel
theorem dX6_may_82 : decode cX6_may 82 = .ok (.istore_n 3, 1) := by decide +kernel
theorem dX6_may_83 : decode cX6_may 83 = .ok (.iinc 4 1, 3) := by decide +kernel
theorem dX6_may_86 : decode cX6_may 86 = .ok (.goto (-50), 3) := by decide +kernel
theorem dX6_may_89 : decode cX6_may 89 = .ok (.iload_n 3, 1) := by decide +kernel
theorem dX6_may_90 : decode cX6_may 90 = .ok (.ireturn, 1) := by decide +kernel
theorem dX6_weight_0 : decode cX6_weight 0 = .ok (.aload_n 0, 1) := by decide +kernel
theorem dX6_weight_1 : decode cX6_weight 1 = .ok (.getfield 10, 3) := by decide +kernel
theorem dX6_weight_4 : decode cX6_weight 4 = .ok (.iload_n 1, 1) := by decide +kernel
theorem dX6_weight_5 : decode cX6_weight 5 = .ok (.invokevirtual 82, 3) := by decide +kernel
theorem dX6_weight_8 : decode cX6_weight 8 = .ok (.ifCond .ne 5, 3) := by decide +kernel
theorem dX6_weight_11 : decode cX6_weight 11 = .ok (.iconst (-1), 1) := by decide +kernel
theorem dX6_weight_12 : decode cX6_weight 12 = .ok (.ireturn, 1) := by decide +kernel
theorem dX6_weight_13 : decode cX6_weight 13 = .ok (.aload_n 0, 1) := by decide +kernel
theorem dX6_weight_14 : decode cX6_weight 14 = .ok (.getfield 16, 3) := by decide +kernel
theorem dX6_weight_17 : decode cX6_weight 17 = .ok (.aload_n 0, 1) := by decide +kernel
theorem dX6_weight_18 : decode cX6_weight 18 = .ok (.getfield 10, 3) := by decide +kernel
theorem dX6_weight_21 : decode cX6_weight 21 = .ok (.invokevirtual 130, 3) := by decide +kernel
theorem dX6_weight_24 : decode cX6_weight 24 = .ok (.iconst 1, 1) := by decide +kernel
theorem dX6_weight_25 : decode cX6_weight 25 = .ok (.istore_n 2, 1) := by decide +kernel
theorem dX6_weight_26 : decode cX6_weight 26 = .ok (.iload_n 2, 1) := by decide +kernel
theorem dX6_weight_27 : decode cX6_weight 27 = .ok (.bipush 20, 2) := by decide +kernel
theorem dX6_weight_29 : decode cX6_weight 29 = .ok (.if_icmp .gt 39, 3) := by decide +kernel
theorem dX6_weight_32 : decode cX6_weight 32 = .ok (.aload_n 0, 1) := by decide +kernel
theorem dX6_weight_33 : decode cX6_weight 33 = .ok (.getfield 16, 3) := by decide +kernel
theorem dX6_weight_36 : decode cX6_weight 36 = .ok (.getfield 92, 3) := by decide +kernel
theorem dX6_weight_39 : decode cX6_weight 39 = .ok (.iload_n 1, 1) := by decide +kernel
theorem dX6_weight_40 : decode cX6_weight 40 = .ok (.iload_n 2, 1) := by decide +kernel
theorem dX6_weight_41 : decode cX6_weight 41 = .ok (.iastore, 1) := by decide +kernel
theorem dX6_weight_42 : decode cX6_weight 42 = .ok (.aload_n 0, 1) := by decide +kernel
theorem dX6_weight_43 : decode cX6_weight 43 = .ok (.getfield 16, 3) := by decide +kernel
theorem dX6_weight_46 : decode cX6_weight 46 = .ok (.iload_n 1, 1) := by decide +kernel
theorem dX6_weight_47 : decode cX6_weight 47 = .ok (.aload_n 0, 1) := by decide +kernel
theorem dX6_weight_48 : decode cX6_weight 48 = .ok (.getfield 49, 3) := by decide +kernel
theorem dX6_weight_51 : decode cX6_weight 51 = .ok (.invokevirtual 171, 3) := by decide +kernel
theorem dX6_weight_54 : decode cX6_weight 54 = .ok (.invokestatic 177, 3) := by decide +kernel
theorem dX6_weight_57 : decode cX6_weight 57 = .ok (.ifCond .eq 5, 3) := by decide +kernel
theorem dX6_weight_60 : decode cX6_weight 60 = .ok (.iload_n 2, 1) := by decide +kernel
theorem dX6_weight_61 : decode cX6_weight 61 = .ok (.ireturn, 1) := by decide +kernel
theorem dX6_weight_62 : decode cX6_weight 62 = .ok (.iinc 2 1, 3) := by decide +kernel
theorem dX6_weight_65 : decode cX6_weight 65 = .ok (.goto (-39), 3) := by decide +kernel
theorem dX6_weight_68 : decode cX6_weight 68 = .ok (.bipush (-4), 2) := by decide +kernel
theorem dX6_weight_70 : decode cX6_weight 70 = .ok (.ireturn, 1) := by decide +kernel
theorem dX6_bump_0 : decode cX6_bump 0 = .ok (.iload_n 1, 1) := by decide +kernel
theorem dX6_bump_1 : decode cX6_bump 1 = .ok (.iconst 0, 1) := by decide +kernel
theorem dX6_bump_2 : decode cX6_bump 2 = .ok (.iconst 1, 1) := by decide +kernel
theorem dX6_bump_3 : decode cX6_bump 3 = .ok (.invokestatic 71, 3) := by decide +kernel
theorem dX6_bump_6 : decode cX6_bump 6 = .ok (.ifCond .ne 5, 3) := by decide +kernel
theorem dX6_bump_9 : decode cX6_bump 9 = .ok (.iconst (-1), 1) := by decide +kernel
theorem dX6_bump_10 : decode cX6_bump 10 = .ok (.ireturn, 1) := by decide +kernel
theorem dX6_bump_11 : decode cX6_bump 11 = .ok (.aload_n 0, 1) := by decide +kernel

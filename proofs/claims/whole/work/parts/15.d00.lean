theorem dX0_init_0 : decode cX0_init 0 = .ok (.aload_n 0, 1) := by decide +kernel
theorem dX0_init_1 : decode cX0_init 1 = .ok (.aload_n 1, 1) := by decide +kernel
theorem dX0_init_2 : decode cX0_init 2 = .ok (.invokespecial 1, 3) := by decide +kernel
theorem dX0_init_5 : decode cX0_init 5 = .ok (.return_, 1) := by decide +kernel
theorem dX0_isOf_0 : decode cX0_isOf 0 = .ok (.iload_n 1, 1) := by decide +kernel
theorem dX0_isOf_1 : decode cX0_isOf 1 = .ok (.iconst 4, 1) := by decide +kernel
theorem dX0_isOf_2 : decode cX0_isOf 2 = .ok (.if_icmp .eq 11, 3) := by decide +kernel
theorem dX0_isOf_5 : decode cX0_isOf 5 = .ok (.aload_n 0, 1) := by decide +kernel
theorem dX0_isOf_6 : decode cX0_isOf 6 = .ok (.iload_n 1, 1) := by decide +kernel
theorem dX0_isOf_7 : decode cX0_isOf 7 = .ok (.invokespecial 7, 3) := by decide +kernel
theorem dX0_isOf_10 : decode cX0_isOf 10 = .ok (.ifCond .eq 7, 3) := by decide +kernel
theorem dX0_isOf_13 : decode cX0_isOf 13 = .ok (.iconst 1, 1) := by decide +kernel
theorem dX0_isOf_14 : decode cX0_isOf 14 = .ok (.goto 4, 3) := by decide +kernel
theorem dX0_isOf_17 : decode cX0_isOf 17 = .ok (.iconst 0, 1) := by decide +kernel
theorem dX0_isOf_18 : decode cX0_isOf 18 = .ok (.ireturn, 1) := by decide +kernel
theorem dX0_shows_0 : decode cX0_shows 0 = .ok (.aload_n 0, 1) := by decide +kernel
theorem dX0_shows_1 : decode cX0_shows 1 = .ok (.iload_n 1, 1) := by decide +kernel
theorem dX0_shows_2 : decode cX0_shows 2 = .ok (.aload_n 2, 1) := by decide +kernel
theorem dX0_shows_3 : decode cX0_shows 3 = .ok (.iload_n 3, 1) := by decide +kernel
theorem dX0_shows_4 : decode cX0_shows 4 = .ok (.invokespecial 11, 3) := by decide +kernel
theorem dX0_shows_7 : decode cX0_shows 7 = .ok (.aload_n 2, 1) := by decide +kernel
theorem dX0_shows_8 : decode cX0_shows 8 = .ok (.getfield 15, 3) := by decide +kernel
theorem dX0_shows_11 : decode cX0_shows 11 = .ok (.iload_n 3, 1) := by decide +kernel
theorem dX0_shows_12 : decode cX0_shows 12 = .ok (.iaload, 1) := by decide +kernel
theorem dX0_shows_13 : decode cX0_shows 13 = .ok (.iconst 3, 1) := by decide +kernel
theorem dX0_shows_14 : decode cX0_shows 14 = .ok (.irem, 1) := by decide +kernel
theorem dX0_shows_15 : decode cX0_shows 15 = .ok (.iadd, 1) := by decide +kernel
theorem dX0_shows_16 : decode cX0_shows 16 = .ok (.ireturn, 1) := by decide +kernel
theorem dX0_heavyAt_0 : decode cX0_heavyAt 0 = .ok (.iconst 0, 1) := by decide +kernel
theorem dX0_heavyAt_1 : decode cX0_heavyAt 1 = .ok (.ireturn, 1) := by decide +kernel
theorem dX0_tells_0 : decode cX0_tells 0 = .ok (.aload_n 0, 1) := by decide +kernel
theorem dX0_tells_1 : decode cX0_tells 1 = .ok (.getfield 21, 3) := by decide +kernel
theorem dX0_tells_4 : decode cX0_tells 4 = .ok (.bipush 50, 2) := by decide +kernel
theorem dX0_tells_6 : decode cX0_tells 6 = .ok (.invokevirtual 27, 3) := by decide +kernel
theorem dX0_tells_9 : decode cX0_tells 9 = .ok (.aload_n 0, 1) := by decide +kernel
theorem dX0_tells_10 : decode cX0_tells 10 = .ok (.iload_n 1, 1) := by decide +kernel
theorem dX0_tells_11 : decode cX0_tells 11 = .ok (.iload_n 2, 1) := by decide +kernel
theorem dX0_tells_12 : decode cX0_tells 12 = .ok (.iload_n 3, 1) := by decide +kernel
theorem dX0_tells_13 : decode cX0_tells 13 = .ok (.invokespecial 33, 3) := by decide +kernel
theorem dX0_tells_16 : decode cX0_tells 16 = .ok (.aload_n 0, 1) := by decide +kernel
theorem dX0_tells_17 : decode cX0_tells 17 = .ok (.iload_n 1, 1) := by decide +kernel
theorem dX0_tells_18 : decode cX0_tells 18 = .ok (.iload_n 2, 1) := by decide +kernel
theorem dX0_tells_19 : decode cX0_tells 19 = .ok (.iconst 2, 1) := by decide +kernel
theorem dX0_tells_20 : decode cX0_tells 20 = .ok (.invokevirtual 37, 3) := by decide +kernel
theorem dX0_tells_23 : decode cX0_tells 23 = .ok (.isub, 1) := by decide +kernel
theorem dX0_tells_24 : decode cX0_tells 24 = .ok (.ireturn, 1) := by decide +kernel
theorem dX1_init_0 : decode cX1_init 0 = .ok (.aload_n 0, 1) := by decide +kernel
theorem dX1_init_1 : decode cX1_init 1 = .ok (.invokespecial 1, 3) := by decide +kernel
theorem dX1_init_4 : decode cX1_init 4 = .ok (.aload_n 0, 1) := by decide +kernel
theorem dX1_init_5 : decode cX1_init 5 = .ok (.aload_n 1, 1) := by decide +kernel
theorem dX1_init_6 : decode cX1_init 6 = .ok (.putfield 7, 3) := by decide +kernel
theorem dX1_init_9 : decode cX1_init 9 = .ok (.return_, 1) := by decide +kernel
theorem dX1_isOf_0 : decode cX1_isOf 0 = .ok (.iload_n 1, 1) := by decide +kernel
theorem dX1_isOf_1 : decode cX1_isOf 1 = .ok (.ifCond .ne 7, 3) := by decide +kernel
theorem dX1_isOf_4 : decode cX1_isOf 4 = .ok (.iconst 1, 1) := by decide +kernel
theorem dX1_isOf_5 : decode cX1_isOf 5 = .ok (.goto 4, 3) := by decide +kernel
theorem dX1_isOf_8 : decode cX1_isOf 8 = .ok (.iconst 0, 1) := by decide +kernel
theorem dX1_isOf_9 : decode cX1_isOf 9 = .ok (.ireturn, 1) := by decide +kernel
theorem dX1_shows_0 : decode cX1_shows 0 = .ok (.iload_n 1, 1) := by decide +kernel
theorem dX1_shows_1 : decode cX1_shows 1 = .ok (.ireturn, 1) := by decide +kernel
theorem dX1_heavyAt_0 : decode cX1_heavyAt 0 = .ok (.iconst 1, 1) := by decide +kernel
theorem dX1_heavyAt_1 : decode cX1_heavyAt 1 = .ok (.ireturn, 1) := by decide +kernel
theorem dX1_sees_0 : decode cX1_sees 0 = .ok (.aload_n 0, 1) := by decide +kernel
theorem dX1_sees_1 : decode cX1_sees 1 = .ok (.getfield 7, 3) := by decide +kernel
theorem dX1_sees_4 : decode cX1_sees 4 = .ok (.bipush 10, 2) := by decide +kernel
theorem dX1_sees_6 : decode cX1_sees 6 = .ok (.invokevirtual 13, 3) := by decide +kernel
theorem dX1_sees_9 : decode cX1_sees 9 = .ok (.iload_n 3, 1) := by decide +kernel
theorem dX1_sees_10 : decode cX1_sees 10 = .ok (.iload_n 1, 1) := by decide +kernel
theorem dX1_sees_11 : decode cX1_sees 11 = .ok (.iadd, 1) := by decide +kernel
theorem dX1_sees_12 : decode cX1_sees 12 = .ok (.ireturn, 1) := by decide +kernel
theorem dX1_looks_0 : decode cX1_looks 0 = .ok (.aload_n 0, 1) := by decide +kernel
theorem dX1_looks_1 : decode cX1_looks 1 = .ok (.getfield 7, 3) := by decide +kernel
theorem dX1_looks_4 : decode cX1_looks 4 = .ok (.bipush 11, 2) := by decide +kernel
theorem dX1_looks_6 : decode cX1_looks 6 = .ok (.invokevirtual 13, 3) := by decide +kernel
theorem dX1_looks_9 : decode cX1_looks 9 = .ok (.aload_n 0, 1) := by decide +kernel
theorem dX1_looks_10 : decode cX1_looks 10 = .ok (.iload_n 1, 1) := by decide +kernel
theorem dX1_looks_11 : decode cX1_looks 11 = .ok (.iload_n 2, 1) := by decide +kernel
theorem dX1_looks_12 : decode cX1_looks 12 = .ok (.iload_n 3, 1) := by decide +kernel
theorem dX1_looks_13 : decode cX1_looks 13 = .ok (.invokevirtual 19, 3) := by decide +kernel
theorem dX1_looks_16 : decode cX1_looks 16 = .ok (.iconst 2, 1) := by decide +kernel
theorem dX1_looks_17 : decode cX1_looks 17 = .ok (.imul, 1) := by decide +kernel
theorem dX1_looks_18 : decode cX1_looks 18 = .ok (.ireturn, 1) := by decide +kernel
theorem dX1_blinks_0 : decode cX1_blinks 0 = .ok (.aload_n 0, 1) := by decide +kernel
theorem dX1_blinks_1 : decode cX1_blinks 1 = .ok (.getfield 7, 3) := by decide +kernel
theorem dX1_blinks_4 : decode cX1_blinks 4 = .ok (.bipush 12, 2) := by decide +kernel
theorem dX1_blinks_6 : decode cX1_blinks 6 = .ok (.invokevirtual 13, 3) := by decide +kernel
theorem dX1_blinks_9 : decode cX1_blinks 9 = .ok (.iload_n 3, 1) := by decide +kernel
theorem dX1_blinks_10 : decode cX1_blinks 10 = .ok (.iload_n 2, 1) := by decide +kernel
theorem dX1_blinks_11 : decode cX1_blinks 11 = .ok (.isub, 1) := by decide +kernel
theorem dX1_blinks_12 : decode cX1_blinks 12 = .ok (.ireturn, 1) := by decide +kernel
theorem dX1_tells_0 : decode cX1_tells 0 = .ok (.aload_n 0, 1) := by decide +kernel
theorem dX1_tells_1 : decode cX1_tells 1 = .ok (.getfield 7, 3) := by decide +kernel
theorem dX1_tells_4 : decode cX1_tells 4 = .ok (.bipush 13, 2) := by decide +kernel
theorem dX1_tells_6 : decode cX1_tells 6 = .ok (.invokevirtual 13, 3) := by decide +kernel
theorem dX1_tells_9 : decode cX1_tells 9 = .ok (.aload_n 0, 1) := by decide +kernel
theorem dX1_tells_10 : decode cX1_tells 10 = .ok (.iload_n 1, 1) := by decide +kernel
theorem dX1_tells_11 : decode cX1_tells 11 = .ok (.iload_n 2, 1) := by decide +kernel
theorem dX1_tells_12 : decode cX1_tells 12 = .ok (.iload_n 3, 1) := by decide +kernel
theorem dX1_tells_13 : decode cX1_tells 13 = .ok (.invokevirtual 23, 3) := by decide +kernel
theorem dX1_tells_16 : decode cX1_tells 16 = .ok (.aload_n 0, 1) := by decide +kernel
theorem dX1_tells_17 : decode cX1_tells 17 = .ok (.iload_n 1, 1) := by decide +kernel
theorem dX1_tells_18 : decode cX1_tells 18 = .ok (.iload_n 2, 1) := by decide +kernel
theorem dX1_tells_19 : decode cX1_tells 19 = .ok (.iload_n 3, 1) := by decide +kernel
theorem dX1_tells_20 : decode cX1_tells 20 = .ok (.invokevirtual 26, 3) := by decide +kernel
theorem dX1_tells_23 : decode cX1_tells 23 = .ok (.ixor, 1) := by decide +kernel
theorem dX1_tells_24 : decode cX1_tells 24 = .ok (.ireturn, 1) := by decide +kernel
theorem dX2_init_0 : decode cX2_init 0 = .ok (.aload_n 0, 1) := by decide +kernel
theorem dX2_init_1 : decode cX2_init 1 = .ok (.aload_n 1, 1) := by decide +kernel
theorem dX2_init_2 : decode cX2_init 2 = .ok (.invokespecial 1, 3) := by decide +kernel
theorem dX2_init_5 : decode cX2_init 5 = .ok (.return_, 1) := by decide +kernel
theorem dX2_isOf_0 : decode cX2_isOf 0 = .ok (.iload_n 1, 1) := by decide +kernel
theorem dX2_isOf_1 : decode cX2_isOf 1 = .ok (.iconst 2, 1) := by decide +kernel
theorem dX2_isOf_2 : decode cX2_isOf 2 = .ok (.if_icmp .eq 11, 3) := by decide +kernel
theorem dX2_isOf_5 : decode cX2_isOf 5 = .ok (.aload_n 0, 1) := by decide +kernel
theorem dX2_isOf_6 : decode cX2_isOf 6 = .ok (.iload_n 1, 1) := by decide +kernel
theorem dX2_isOf_7 : decode cX2_isOf 7 = .ok (.invokespecial 7, 3) := by decide +kernel
theorem dX2_isOf_10 : decode cX2_isOf 10 = .ok (.ifCond .eq 7, 3) := by decide +kernel
theorem dX2_isOf_13 : decode cX2_isOf 13 = .ok (.iconst 1, 1) := by decide +kernel
theorem dX2_isOf_14 : decode cX2_isOf 14 = .ok (.goto 4, 3) := by decide +kernel
theorem dX2_isOf_17 : decode cX2_isOf 17 = .ok (.iconst 0, 1) := by decide +kernel
theorem dX2_isOf_18 : decode cX2_isOf 18 = .ok (.ireturn, 1) := by decide +kernel
theorem dX2_shows_0 : decode cX2_shows 0 = .ok (.bipush 9, 2) := by decide +kernel
theorem dX2_shows_2 : decode cX2_shows 2 = .ok (.iload_n 1, 1) := by decide +kernel
theorem dX2_shows_3 : decode cX2_shows 3 = .ok (.bipush 10, 2) := by decide +kernel
theorem dX2_shows_5 : decode cX2_shows 5 = .ok (.irem, 1) := by decide +kernel
theorem dX2_shows_6 : decode cX2_shows 6 = .ok (.isub, 1) := by decide +kernel
theorem dX2_shows_7 : decode cX2_shows 7 = .ok (.ireturn, 1) := by decide +kernel
theorem dX2_heavyAt_0 : decode cX2_heavyAt 0 = .ok (.iconst 2, 1) := by decide +kernel
theorem dX2_heavyAt_1 : decode cX2_heavyAt 1 = .ok (.ireturn, 1) := by decide +kernel
theorem dX2_looks_0 : decode cX2_looks 0 = .ok (.aload_n 0, 1) := by decide +kernel
theorem dX2_looks_1 : decode cX2_looks 1 = .ok (.getfield 11, 3) := by decide +kernel
theorem dX2_looks_4 : decode cX2_looks 4 = .ok (.bipush 30, 2) := by decide +kernel
theorem dX2_looks_6 : decode cX2_looks 6 = .ok (.invokevirtual 17, 3) := by decide +kernel
theorem dX2_looks_9 : decode cX2_looks 9 = .ok (.aload_n 0, 1) := by decide +kernel
theorem dX2_looks_10 : decode cX2_looks 10 = .ok (.iload_n 1, 1) := by decide +kernel
theorem dX2_looks_11 : decode cX2_looks 11 = .ok (.iload_n 2, 1) := by decide +kernel
theorem dX2_looks_12 : decode cX2_looks 12 = .ok (.iload_n 3, 1) := by decide +kernel
theorem dX2_looks_13 : decode cX2_looks 13 = .ok (.invokespecial 23, 3) := by decide +kernel
theorem dX2_looks_16 : decode cX2_looks 16 = .ok (.aload_n 0, 1) := by decide +kernel
theorem dX2_looks_17 : decode cX2_looks 17 = .ok (.iload_n 1, 1) := by decide +kernel
theorem dX2_looks_18 : decode cX2_looks 18 = .ok (.iload_n 2, 1) := by decide +kernel
theorem dX2_looks_19 : decode cX2_looks 19 = .ok (.iconst 1, 1) := by decide +kernel
theorem dX2_looks_20 : decode cX2_looks 20 = .ok (.invokevirtual 27, 3) := by decide +kernel
theorem dX2_looks_23 : decode cX2_looks 23 = .ok (.isub, 1) := by decide +kernel
theorem dX2_looks_24 : decode cX2_looks 24 = .ok (.ireturn, 1) := by decide +kernel
theorem dX3_init_0 : decode cX3_init 0 = .ok (.aload_n 0, 1) := by decide +kernel
theorem dX3_init_1 : decode cX3_init 1 = .ok (.aload_n 1, 1) := by decide +kernel
theorem dX3_init_2 : decode cX3_init 2 = .ok (.invokespecial 1, 3) := by decide +kernel
theorem dX3_init_5 : decode cX3_init 5 = .ok (.return_, 1) := by decide +kernel
theorem dX3_isOf_0 : decode cX3_isOf 0 = .ok (.iload_n 1, 1) := by decide +kernel
theorem dX3_isOf_1 : decode cX3_isOf 1 = .ok (.iconst 3, 1) := by decide +kernel
theorem dX3_isOf_2 : decode cX3_isOf 2 = .ok (.if_icmp .eq 11, 3) := by decide +kernel
theorem dX3_isOf_5 : decode cX3_isOf 5 = .ok (.aload_n 0, 1) := by decide +kernel
theorem dX3_isOf_6 : decode cX3_isOf 6 = .ok (.iload_n 1, 1) := by decide +kernel
theorem dX3_isOf_7 : decode cX3_isOf 7 = .ok (.invokespecial 7, 3) := by decide +kernel
theorem dX3_isOf_10 : decode cX3_isOf 10 = .ok (.ifCond .eq 7, 3) := by decide +kernel
theorem dX3_isOf_13 : decode cX3_isOf 13 = .ok (.iconst 1, 1) := by decide +kernel
theorem dX3_isOf_14 : decode cX3_isOf 14 = .ok (.goto 4, 3) := by decide +kernel
theorem dX3_isOf_17 : decode cX3_isOf 17 = .ok (.iconst 0, 1) := by decide +kernel
theorem dX3_isOf_18 : decode cX3_isOf 18 = .ok (.ireturn, 1) := by decide +kernel
theorem dX3_shows_0 : decode cX3_shows 0 = .ok (.aload_n 2, 1) := by decide +kernel
theorem dX3_shows_1 : decode cX3_shows 1 = .ok (.getfield 11, 3) := by decide +kernel
theorem dX3_shows_4 : decode cX3_shows 4 = .ok (.iload_n 3, 1) := by decide +kernel
theorem dX3_shows_5 : decode cX3_shows 5 = .ok (.iaload, 1) := by decide +kernel
theorem dX3_shows_6 : decode cX3_shows 6 = .ok (.ireturn, 1) := by decide +kernel
theorem dX3_blinks_0 : decode cX3_blinks 0 = .ok (.aload_n 0, 1) := by decide +kernel
theorem dX3_blinks_1 : decode cX3_blinks 1 = .ok (.getfield 17, 3) := by decide +kernel
theorem dX3_blinks_4 : decode cX3_blinks 4 = .ok (.bipush 40, 2) := by decide +kernel
theorem dX3_blinks_6 : decode cX3_blinks 6 = .ok (.invokevirtual 23, 3) := by decide +kernel
theorem dX3_blinks_9 : decode cX3_blinks 9 = .ok (.aload_n 0, 1) := by decide +kernel
theorem dX3_blinks_10 : decode cX3_blinks 10 = .ok (.iload_n 1, 1) := by decide +kernel
theorem dX3_blinks_11 : decode cX3_blinks 11 = .ok (.iload_n 2, 1) := by decide +kernel
theorem dX3_blinks_12 : decode cX3_blinks 12 = .ok (.iload_n 3, 1) := by decide +kernel
theorem dX3_blinks_13 : decode cX3_blinks 13 = .ok (.invokespecial 29, 3) := by decide +kernel
theorem dX3_blinks_16 : decode cX3_blinks 16 = .ok (.ineg, 1) := by decide +kernel
theorem dX3_blinks_17 : decode cX3_blinks 17 = .ok (.ireturn, 1) := by decide +kernel
theorem dX4_init_0 : decode cX4_init 0 = .ok (.aload_n 0, 1) := by decide +kernel
theorem dX4_init_1 : decode cX4_init 1 = .ok (.invokespecial 3, 3) := by decide +kernel
theorem dX4_init_4 : decode cX4_init 4 = .ok (.aload_n 0, 1) := by decide +kernel
theorem dX4_init_5 : decode cX4_init 5 = .ok (.iconst 2, 1) := by decide +kernel
theorem dX4_init_6 : decode cX4_init 6 = .ok (.anewarray 9, 3) := by decide +kernel
theorem dX4_init_9 : decode cX4_init 9 = .ok (.putfield 11, 3) := by decide +kernel
theorem dX4_init_12 : decode cX4_init 12 = .ok (.iconst 0, 1) := by decide +kernel
theorem dX4_init_13 : decode cX4_init 13 = .ok (.istore_n 1, 1) := by decide +kernel
theorem dX4_init_14 : decode cX4_init 14 = .ok (.iload_n 1, 1) := by decide +kernel
theorem dX4_init_15 : decode cX4_init 15 = .ok (.iconst 2, 1) := by decide +kernel
theorem dX4_init_16 : decode cX4_init 16 = .ok (.if_icmp .ge 24, 3) := by decide +kernel
theorem dX4_init_19 : decode cX4_init 19 = .ok (.aload_n 0, 1) := by decide +kernel
theorem dX4_init_20 : decode cX4_init 20 = .ok (.getfield 11, 3) := by decide +kernel
theorem dX4_init_23 : decode cX4_init 23 = .ok (.iload_n 1, 1) := by decide +kernel
theorem dX4_init_24 : decode cX4_init 24 = .ok (.new 9, 3) := by decide +kernel
theorem dX4_init_27 : decode cX4_init 27 = .ok (.dup, 1) := by decide +kernel
theorem dX4_init_28 : decode cX4_init 28 = .ok (.bipush 50, 2) := by decide +kernel
theorem dX4_init_30 : decode cX4_init 30 = .ok (.invokespecial 17, 3) := by decide +kernel
theorem dX4_init_33 : decode cX4_init 33 = .ok (.aastore, 1) := by decide +kernel
theorem dX4_init_34 : decode cX4_init 34 = .ok (.iinc 1 1, 3) := by decide +kernel
theorem dX4_init_37 : decode cX4_init 37 = .ok (.goto (-23), 3) := by decide +kernel
theorem dX4_init_40 : decode cX4_init 40 = .ok (.aload_n 0, 1) := by decide +kernel
theorem dX4_init_41 : decode cX4_init 41 = .ok (.getfield 11, 3) := by decide +kernel
theorem dX4_init_44 : decode cX4_init 44 = .ok (.iconst 0, 1) := by decide +kernel
theorem dX4_init_45 : decode cX4_init 45 = .ok (.aaload, 1) := by decide +kernel
theorem dX4_init_46 : decode cX4_init 46 = .ok (.iconst (-1), 1) := by decide +kernel
theorem dX4_init_47 : decode cX4_init 47 = .ok (.invokevirtual 20, 3) := by decide +kernel
theorem dX4_init_50 : decode cX4_init 50 = .ok (.aload_n 0, 1) := by decide +kernel
theorem dX4_init_51 : decode cX4_init 51 = .ok (.getfield 11, 3) := by decide +kernel
theorem dX4_init_54 : decode cX4_init 54 = .ok (.iconst 0, 1) := by decide +kernel
theorem dX4_init_55 : decode cX4_init 55 = .ok (.aaload, 1) := by decide +kernel
theorem dX4_init_56 : decode cX4_init 56 = .ok (.bipush (-2), 2) := by decide +kernel
theorem dX4_init_58 : decode cX4_init 58 = .ok (.invokevirtual 20, 3) := by decide +kernel
theorem dX4_init_61 : decode cX4_init 61 = .ok (.aload_n 0, 1) := by decide +kernel
theorem dX4_init_62 : decode cX4_init 62 = .ok (.getfield 11, 3) := by decide +kernel
theorem dX4_init_65 : decode cX4_init 65 = .ok (.iconst 0, 1) := by decide +kernel
theorem dX4_init_66 : decode cX4_init 66 = .ok (.aaload, 1) := by decide +kernel
theorem dX4_init_67 : decode cX4_init 67 = .ok (.bipush (-43), 2) := by decide +kernel
theorem dX4_init_69 : decode cX4_init 69 = .ok (.invokevirtual 20, 3) := by decide +kernel
theorem dX4_init_72 : decode cX4_init 72 = .ok (.aload_n 0, 1) := by decide +kernel
theorem dX4_init_73 : decode cX4_init 73 = .ok (.getfield 11, 3) := by decide +kernel
theorem dX4_init_76 : decode cX4_init 76 = .ok (.iconst 1, 1) := by decide +kernel
theorem dX4_init_77 : decode cX4_init 77 = .ok (.aaload, 1) := by decide +kernel
theorem dX4_init_78 : decode cX4_init 78 = .ok (.bipush (-3), 2) := by decide +kernel
theorem dX4_init_80 : decode cX4_init 80 = .ok (.invokevirtual 20, 3) := by decide +kernel
theorem dX4_init_83 : decode cX4_init 83 = .ok (.aload_n 0, 1) := by decide +kernel
theorem dX4_init_84 : decode cX4_init 84 = .ok (.getfield 11, 3) := by decide +kernel
theorem dX4_init_87 : decode cX4_init 87 = .ok (.iconst 1, 1) := by decide +kernel
theorem dX4_init_88 : decode cX4_init 88 = .ok (.aaload, 1) := by decide +kernel
theorem dX4_init_89 : decode cX4_init 89 = .ok (.iconst 2, 1) := by decide +kernel
theorem dX4_init_90 : decode cX4_init 90 = .ok (.invokevirtual 20, 3) := by decide +kernel
theorem dX4_init_93 : decode cX4_init 93 = .ok (.aload_n 0, 1) := by decide +kernel
theorem dX4_init_94 : decode cX4_init 94 = .ok (.getfield 11, 3) := by decide +kernel
theorem dX4_init_97 : decode cX4_init 97 = .ok (.iconst 1, 1) := by decide +kernel
theorem dX4_init_98 : decode cX4_init 98 = .ok (.aaload, 1) := by decide +kernel
theorem dX4_init_99 : decode cX4_init 99 = .ok (.bipush (-37), 2) := by decide +kernel
theorem dX4_init_101 : decode cX4_init 101 = .ok (.invokevirtual 20, 3) := by decide +kernel
theorem dX4_init_104 : decode cX4_init 104 = .ok (.aload_n 0, 1) := by decide +kernel
theorem dX4_init_105 : decode cX4_init 105 = .ok (.bipush 50, 2) := by decide +kernel
theorem dX4_init_107 : decode cX4_init 107 = .ok (.newarray .int, 2) := by decide +kernel
theorem dX4_init_109 : decode cX4_init 109 = .ok (.putfield 23, 3) := by decide +kernel
theorem dX4_init_112 : decode cX4_init 112 = .ok (.return_, 1) := by decide +kernel
theorem dX4_copyFrom_0 : decode cX4_copyFrom 0 = .ok (.iconst 0, 1) := by decide +kernel
theorem dX4_copyFrom_1 : decode cX4_copyFrom 1 = .ok (.istore_n 2, 1) := by decide +kernel
theorem dX4_copyFrom_2 : decode cX4_copyFrom 2 = .ok (.iload_n 2, 1) := by decide +kernel
theorem dX4_copyFrom_3 : decode cX4_copyFrom 3 = .ok (.iconst 2, 1) := by decide +kernel
theorem dX4_copyFrom_4 : decode cX4_copyFrom 4 = .ok (.if_icmp .ge 24, 3) := by decide +kernel
theorem dX4_copyFrom_7 : decode cX4_copyFrom 7 = .ok (.aload_n 0, 1) := by decide +kernel
theorem dX4_copyFrom_8 : decode cX4_copyFrom 8 = .ok (.getfield 11, 3) := by decide +kernel
theorem dX4_copyFrom_11 : decode cX4_copyFrom 11 = .ok (.iload_n 2, 1) := by decide +kernel
theorem dX4_copyFrom_12 : decode cX4_copyFrom 12 = .ok (.aaload, 1) := by decide +kernel
theorem dX4_copyFrom_13 : decode cX4_copyFrom 13 = .ok (.aload_n 1, 1) := by decide +kernel
theorem dX4_copyFrom_14 : decode cX4_copyFrom 14 = .ok (.getfield 11, 3) := by decide +kernel
theorem dX4_copyFrom_17 : decode cX4_copyFrom 17 = .ok (.iload_n 2, 1) := by decide +kernel
theorem dX4_copyFrom_18 : decode cX4_copyFrom 18 = .ok (.aaload, 1) := by decide +kernel
theorem dX4_copyFrom_19 : decode cX4_copyFrom 19 = .ok (.invokevirtual 27, 3) := by decide +kernel
theorem dX4_copyFrom_22 : decode cX4_copyFrom 22 = .ok (.iinc 2 1, 3) := by decide +kernel
theorem dX4_copyFrom_25 : decode cX4_copyFrom 25 = .ok (.goto (-23), 3) := by decide +kernel
theorem dX4_copyFrom_28 : decode cX4_copyFrom 28 = .ok (.return_, 1) := by decide +kernel
theorem dX4_worth_0 : decode cX4_worth 0 = .ok (.aload_n 0, 1) := by decide +kernel
theorem dX4_worth_1 : decode cX4_worth 1 = .ok (.getfield 11, 3) := by decide +kernel
theorem dX4_worth_4 : decode cX4_worth 4 = .ok (.iload_n 1, 1) := by decide +kernel
theorem dX4_worth_5 : decode cX4_worth 5 = .ok (.aaload, 1) := by decide +kernel
theorem dX4_worth_6 : decode cX4_worth 6 = .ok (.astore 5, 2) := by decide +kernel
theorem dX4_worth_8 : decode cX4_worth 8 = .ok (.iconst (-1), 1) := by decide +kernel
theorem dX4_worth_9 : decode cX4_worth 9 = .ok (.istore 6, 2) := by decide +kernel
theorem dX4_worth_11 : decode cX4_worth 11 = .ok (.iconst 0, 1) := by decide +kernel
theorem dX4_worth_12 : decode cX4_worth 12 = .ok (.istore 7, 2) := by decide +kernel
theorem dX4_worth_14 : decode cX4_worth 14 = .ok (.iload 7, 2) := by decide +kernel
theorem dX4_worth_16 : decode cX4_worth 16 = .ok (.aload 5, 2) := by decide +kernel
theorem dX4_worth_18 : decode cX4_worth 18 = .ok (.getfield 31, 3) := by decide +kernel
theorem dX4_worth_21 : decode cX4_worth 21 = .ok (.if_icmp .ge 153, 3) := by decide +kernel
theorem dX4_worth_24 : decode cX4_worth 24 = .ok (.aload 5, 2) := by decide +kernel
theorem dX4_worth_26 : decode cX4_worth 26 = .ok (.getfield 35, 3) := by decide +kernel
theorem dX4_worth_29 : decode cX4_worth 29 = .ok (.iload 7, 2) := by decide +kernel
theorem dX4_worth_31 : decode cX4_worth 31 = .ok (.iaload, 1) := by decide +kernel
theorem dX4_worth_32 : decode cX4_worth 32 = .ok (.istore 8, 2) := by decide +kernel
theorem dX4_worth_34 : decode cX4_worth 34 = .ok (.iload 8, 2) := by decide +kernel
theorem dX4_worth_36 : decode cX4_worth 36 = .ok (.bipush (-3), 2) := by decide +kernel
theorem dX4_worth_38 : decode cX4_worth 38 = .ok (.if_icmp .lt 56, 3) := by decide +kernel
theorem dX4_worth_41 : decode cX4_worth 41 = .ok (.iload 6, 2) := by decide +kernel
theorem dX4_worth_43 : decode cX4_worth 43 = .ok (.bipush 49, 2) := by decide +kernel
theorem dX4_worth_45 : decode cX4_worth 45 = .ok (.if_icmp .ge 49, 3) := by decide +kernel
theorem dX4_worth_48 : decode cX4_worth 48 = .ok (.iinc 6 1, 3) := by decide +kernel
theorem dX4_worth_51 : decode cX4_worth 51 = .ok (.aload_n 0, 1) := by decide +kernel
theorem dX4_worth_52 : decode cX4_worth 52 = .ok (.getfield 23, 3) := by decide +kernel
theorem dX4_worth_55 : decode cX4_worth 55 = .ok (.iload 6, 2) := by decide +kernel
theorem dX4_worth_57 : decode cX4_worth 57 = .ok (.iload 8, 2) := by decide +kernel
theorem dX4_worth_59 : decode cX4_worth 59 = .ok (.ifCond .lt 8, 3) := by decide +kernel
theorem dX4_worth_62 : decode cX4_worth 62 = .ok (.iload 8, 2) := by decide +kernel
theorem dX4_worth_64 : decode cX4_worth 64 = .ok (.goto 26, 3) := by decide +kernel
theorem dX4_worth_67 : decode cX4_worth 67 = .ok (.iload 8, 2) := by decide +kernel
theorem dX4_worth_69 : decode cX4_worth 69 = .ok (.iconst (-1), 1) := by decide +kernel
theorem dX4_worth_70 : decode cX4_worth 70 = .ok (.if_icmp .ne 7, 3) := by decide +kernel
theorem dX4_worth_73 : decode cX4_worth 73 = .ok (.iload_n 2, 1) := by decide +kernel
theorem dX4_worth_74 : decode cX4_worth 74 = .ok (.goto 16, 3) := by decide +kernel
theorem dX4_worth_77 : decode cX4_worth 77 = .ok (.iload 8, 2) := by decide +kernel
theorem dX4_worth_79 : decode cX4_worth 79 = .ok (.bipush (-2), 2) := by decide +kernel
theorem dX4_worth_81 : decode cX4_worth 81 = .ok (.if_icmp .ne 7, 3) := by decide +kernel
theorem dX4_worth_84 : decode cX4_worth 84 = .ok (.iload_n 3, 1) := by decide +kernel
theorem dX4_worth_85 : decode cX4_worth 85 = .ok (.goto 5, 3) := by decide +kernel
theorem dX4_worth_88 : decode cX4_worth 88 = .ok (.iload 4, 2) := by decide +kernel
theorem dX4_worth_90 : decode cX4_worth 90 = .ok (.iastore, 1) := by decide +kernel
theorem dX4_worth_91 : decode cX4_worth 91 = .ok (.goto 77, 3) := by decide +kernel
theorem dX4_worth_94 : decode cX4_worth 94 = .ok (.iload 8, 2) := by decide +kernel
theorem dX4_worth_96 : decode cX4_worth 96 = .ok (.bipush (-33), 2) := by decide +kernel
theorem dX4_worth_98 : decode cX4_worth 98 = .ok (.if_icmp .ne 33, 3) := by decide +kernel
theorem dX4_worth_101 : decode cX4_worth 101 = .ok (.iload 6, 2) := by decide +kernel
theorem dX4_worth_103 : decode cX4_worth 103 = .ok (.ifCond .lt 28, 3) := by decide +kernel
theorem dX4_worth_106 : decode cX4_worth 106 = .ok (.aload_n 0, 1) := by decide +kernel
theorem dX4_worth_107 : decode cX4_worth 107 = .ok (.getfield 23, 3) := by decide +kernel
theorem dX4_worth_110 : decode cX4_worth 110 = .ok (.iload 6, 2) := by decide +kernel
theorem dX4_worth_112 : decode cX4_worth 112 = .ok (.aload_n 0, 1) := by decide +kernel
theorem dX4_worth_113 : decode cX4_worth 113 = .ok (.getfield 23, 3) := by decide +kernel
theorem dX4_worth_116 : decode cX4_worth 116 = .ok (.iload 6, 2) := by decide +kernel
theorem dX4_worth_118 : decode cX4_worth 118 = .ok (.iaload, 1) := by decide +kernel
theorem dX4_worth_119 : decode cX4_worth 119 = .ok (.ifCond .ne 7, 3) := by decide +kernel
theorem dX4_worth_122 : decode cX4_worth 122 = .ok (.iconst 1, 1) := by decide +kernel
theorem dX4_worth_123 : decode cX4_worth 123 = .ok (.goto 4, 3) := by decide +kernel
theorem dX4_worth_126 : decode cX4_worth 126 = .ok (.iconst 0, 1) := by decide +kernel
theorem dX4_worth_127 : decode cX4_worth 127 = .ok (.iastore, 1) := by decide +kernel
theorem dX4_worth_128 : decode cX4_worth 128 = .ok (.goto 40, 3) := by decide +kernel
theorem dX4_worth_131 : decode cX4_worth 131 = .ok (.iload 6, 2) := by decide +kernel
theorem dX4_worth_133 : decode cX4_worth 133 = .ok (.ifCond .le 35, 3) := by decide +kernel
theorem dX4_worth_136 : decode cX4_worth 136 = .ok (.iinc 6 (-1), 3) := by decide +kernel
theorem dX4_worth_139 : decode cX4_worth 139 = .ok (.aload_n 0, 1) := by decide +kernel
theorem dX4_worth_140 : decode cX4_worth 140 = .ok (.getfield 23, 3) := by decide +kernel
theorem dX4_worth_143 : decode cX4_worth 143 = .ok (.iload 6, 2) := by decide +kernel
theorem dX4_worth_145 : decode cX4_worth 145 = .ok (.iload 8, 2) := by decide +kernel
theorem dX4_worth_147 : decode cX4_worth 147 = .ok (.ineg, 1) := by decide +kernel
theorem dX4_worth_148 : decode cX4_worth 148 = .ok (.aload_n 0, 1) := by decide +kernel
theorem dX4_worth_149 : decode cX4_worth 149 = .ok (.getfield 23, 3) := by decide +kernel
theorem dX4_worth_152 : decode cX4_worth 152 = .ok (.iload 6, 2) := by decide +kernel
theorem dX4_worth_154 : decode cX4_worth 154 = .ok (.iaload, 1) := by decide +kernel
theorem dX4_worth_155 : decode cX4_worth 155 = .ok (.aload_n 0, 1) := by decide +kernel
theorem dX4_worth_156 : decode cX4_worth 156 = .ok (.getfield 23, 3) := by decide +kernel
theorem dX4_worth_159 : decode cX4_worth 159 = .ok (.iload 6, 2) := by decide +kernel
theorem dX4_worth_161 : decode cX4_worth 161 = .ok (.iconst 1, 1) := by decide +kernel
theorem dX4_worth_162 : decode cX4_worth 162 = .ok (.iadd, 1) := by decide +kernel
theorem dX4_worth_163 : decode cX4_worth 163 = .ok (.iaload, 1) := by decide +kernel
theorem dX4_worth_164 : decode cX4_worth 164 = .ok (.invokestatic 38, 3) := by decide +kernel
theorem dX4_worth_167 : decode cX4_worth 167 = .ok (.iastore, 1) := by decide +kernel
theorem dX4_worth_168 : decode cX4_worth 168 = .ok (.iinc 7 1, 3) := by decide +kernel
theorem dX4_worth_171 : decode cX4_worth 171 = .ok (.goto (-157), 3) := by decide +kernel
theorem dX4_worth_174 : decode cX4_worth 174 = .ok (.iconst 0, 1) := by decide +kernel
theorem dX4_worth_175 : decode cX4_worth 175 = .ok (.iload_n 1, 1) := by decide +kernel
theorem dX4_worth_176 : decode cX4_worth 176 = .ok (.ifCond .ne 8, 3) := by decide +kernel
theorem dX4_worth_179 : decode cX4_worth 179 = .ok (.bipush 99, 2) := by decide +kernel
theorem dX4_worth_181 : decode cX4_worth 181 = .ok (.goto 4, 3) := by decide +kernel
theorem dX4_worth_184 : decode cX4_worth 184 = .ok (.iconst 1, 1) := by decide +kernel
theorem dX4_worth_185 : decode cX4_worth 185 = .ok (.aload_n 0, 1) := by decide +kernel
theorem dX4_worth_186 : decode cX4_worth 186 = .ok (.getfield 23, 3) := by decide +kernel
theorem dX4_worth_189 : decode cX4_worth 189 = .ok (.iconst 0, 1) := by decide +kernel
theorem dX4_worth_190 : decode cX4_worth 190 = .ok (.iaload, 1) := by decide +kernel
theorem dX4_worth_191 : decode cX4_worth 191 = .ok (.invokestatic 42, 3) := by decide +kernel
theorem dX4_worth_194 : decode cX4_worth 194 = .ok (.invokestatic 48, 3) := by decide +kernel
theorem dX4_worth_197 : decode cX4_worth 197 = .ok (.ireturn, 1) := by decide +kernel
theorem dX4_join_0 : decode cX4_join 0 = .ok (.iload_n 0, 1) := by decide +kernel
theorem dX4_join_1 : decode cX4_join 1 = .ok (.lookupswitch 168 #[(38, 97), (42, 152), (43, 144), (45, 148), (47, 156), (60, 111), (61, 122), (62, 133), (124, 83)], 83) := by decide +kernel
theorem dX4_join_84 : decode cX4_join 84 = .ok (.iload_n 1, 1) := by decide +kernel
theorem dX4_join_85 : decode cX4_join 85 = .ok (.ifCond .ne 7, 3) := by decide +kernel
theorem dX4_join_88 : decode cX4_join 88 = .ok (.iload_n 2, 1) := by decide +kernel
theorem dX4_join_89 : decode cX4_join 89 = .ok (.ifCond .eq 7, 3) := by decide +kernel
theorem dX4_join_92 : decode cX4_join 92 = .ok (.iconst 1, 1) := by decide +kernel
theorem dX4_join_93 : decode cX4_join 93 = .ok (.goto 4, 3) := by decide +kernel
theorem dX4_join_96 : decode cX4_join 96 = .ok (.iconst 0, 1) := by decide +kernel
theorem dX4_join_97 : decode cX4_join 97 = .ok (.ireturn, 1) := by decide +kernel
theorem dX4_join_98 : decode cX4_join 98 = .ok (.iload_n 1, 1) := by decide +kernel
theorem dX4_join_99 : decode cX4_join 99 = .ok (.ifCond .eq 11, 3) := by decide +kernel
theorem dX4_join_102 : decode cX4_join 102 = .ok (.iload_n 2, 1) := by decide +kernel
theorem dX4_join_103 : decode cX4_join 103 = .ok (.ifCond .eq 7, 3) := by decide +kernel
theorem dX4_join_106 : decode cX4_join 106 = .ok (.iconst 1, 1) := by decide +kernel
theorem dX4_join_107 : decode cX4_join 107 = .ok (.goto 4, 3) := by decide +kernel
theorem dX4_join_110 : decode cX4_join 110 = .ok (.iconst 0, 1) := by decide +kernel
theorem dX4_join_111 : decode cX4_join 111 = .ok (.ireturn, 1) := by decide +kernel
theorem dX4_join_112 : decode cX4_join 112 = .ok (.iload_n 1, 1) := by decide +kernel
theorem dX4_join_113 : decode cX4_join 113 = .ok (.iload_n 2, 1) := by decide +kernel
theorem dX4_join_114 : decode cX4_join 114 = .ok (.if_icmp .ge 7, 3) := by decide +kernel
theorem dX4_join_117 : decode cX4_join 117 = .ok (.iconst 1, 1) := by decide +kernel
theorem dX4_join_118 : decode cX4_join 118 = .ok (.goto 4, 3) := by decide +kernel
theorem dX4_join_121 : decode cX4_join 121 = .ok (.iconst 0, 1) := by decide +kernel
theorem dX4_join_122 : decode cX4_join 122 = .ok (.ireturn, 1) := by decide +kernel
theorem dX4_join_123 : decode cX4_join 123 = .ok (.iload_n 1, 1) := by decide +kernel
theorem dX4_join_124 : decode cX4_join 124 = .ok (.iload_n 2, 1) := by decide +kernel
theorem dX4_join_125 : decode cX4_join 125 = .ok (.if_icmp .ne 7, 3) := by decide +kernel
theorem dX4_join_128 : decode cX4_join 128 = .ok (.iconst 1, 1) := by decide +kernel
theorem dX4_join_129 : decode cX4_join 129 = .ok (.goto 4, 3) := by decide +kernel
theorem dX4_join_132 : decode cX4_join 132 = .ok (.iconst 0, 1) := by decide +kernel
theorem dX4_join_133 : decode cX4_join 133 = .ok (.ireturn, 1) := by decide +kernel
theorem dX4_join_134 : decode cX4_join 134 = .ok (.iload_n 1, 1) := by decide +kernel
theorem dX4_join_135 : decode cX4_join 135 = .ok (.iload_n 2, 1) := by decide +kernel
theorem dX4_join_136 : decode cX4_join 136 = .ok (.if_icmp .le 7, 3) := by decide +kernel
theorem dX4_join_139 : decode cX4_join 139 = .ok (.iconst 1, 1) := by decide +kernel
theorem dX4_join_140 : decode cX4_join 140 = .ok (.goto 4, 3) := by decide +kernel
theorem dX4_join_143 : decode cX4_join 143 = .ok (.iconst 0, 1) := by decide +kernel
theorem dX4_join_144 : decode cX4_join 144 = .ok (.ireturn, 1) := by decide +kernel
theorem dX4_join_145 : decode cX4_join 145 = .ok (.iload_n 1, 1) := by decide +kernel
theorem dX4_join_146 : decode cX4_join 146 = .ok (.iload_n 2, 1) := by decide +kernel
theorem dX4_join_147 : decode cX4_join 147 = .ok (.iadd, 1) := by decide +kernel
theorem dX4_join_148 : decode cX4_join 148 = .ok (.ireturn, 1) := by decide +kernel
theorem dX4_join_149 : decode cX4_join 149 = .ok (.iload_n 1, 1) := by decide +kernel
theorem dX4_join_150 : decode cX4_join 150 = .ok (.iload_n 2, 1) := by decide +kernel
theorem dX4_join_151 : decode cX4_join 151 = .ok (.isub, 1) := by decide +kernel
theorem dX4_join_152 : decode cX4_join 152 = .ok (.ireturn, 1) := by decide +kernel
theorem dX4_join_153 : decode cX4_join 153 = .ok (.iload_n 1, 1) := by decide +kernel
theorem dX4_join_154 : decode cX4_join 154 = .ok (.iload_n 2, 1) := by decide +kernel
theorem dX4_join_155 : decode cX4_join 155 = .ok (.imul, 1) := by decide +kernel
theorem dX4_join_156 : decode cX4_join 156 = .ok (.ireturn, 1) := by decide +kernel
theorem dX4_join_157 : decode cX4_join 157 = .ok (.iload_n 2, 1) := by decide +kernel
theorem dX4_join_158 : decode cX4_join 158 = .ok (.ifCond .ne 7, 3) := by decide +kernel
theorem dX4_join_161 : decode cX4_join 161 = .ok (.iconst 0, 1) := by decide +kernel
theorem dX4_join_162 : decode cX4_join 162 = .ok (.goto 6, 3) := by decide +kernel
theorem dX4_join_165 : decode cX4_join 165 = .ok (.iload_n 1, 1) := by decide +kernel
theorem dX4_join_166 : decode cX4_join 166 = .ok (.iload_n 2, 1) := by decide +kernel
theorem dX4_join_167 : decode cX4_join 167 = .ok (.idiv, 1) := by decide +kernel
theorem dX4_join_168 : decode cX4_join 168 = .ok (.ireturn, 1) := by decide +kernel
theorem dX4_join_169 : decode cX4_join 169 = .ok (.iload_n 2, 1) := by decide +kernel
theorem dX4_join_170 : decode cX4_join 170 = .ok (.ifCond .ne 7, 3) := by decide +kernel
theorem dX4_join_173 : decode cX4_join 173 = .ok (.iconst 0, 1) := by decide +kernel
theorem dX4_join_174 : decode cX4_join 174 = .ok (.goto 6, 3) := by decide +kernel
theorem dX4_join_177 : decode cX4_join 177 = .ok (.iload_n 1, 1) := by decide +kernel
theorem dX4_join_178 : decode cX4_join 178 = .ok (.iload_n 2, 1) := by decide +kernel
theorem dX4_join_179 : decode cX4_join 179 = .ok (.irem, 1) := by decide +kernel
theorem dX4_join_180 : decode cX4_join 180 = .ok (.ireturn, 1) := by decide +kernel
theorem dX5_init_0 : decode cX5_init 0 = .ok (.aload_n 0, 1) := by decide +kernel
theorem dX5_init_1 : decode cX5_init 1 = .ok (.aload_n 1, 1) := by decide +kernel
theorem dX5_init_2 : decode cX5_init 2 = .ok (.invokespecial 1, 3) := by decide +kernel
theorem dX5_init_5 : decode cX5_init 5 = .ok (.return_, 1) := by decide +kernel
theorem dX5_isOf_0 : decode cX5_isOf 0 = .ok (.iload_n 1, 1) := by decide +kernel
theorem dX5_isOf_1 : decode cX5_isOf 1 = .ok (.bipush 6, 2) := by decide +kernel
theorem dX5_isOf_3 : decode cX5_isOf 3 = .ok (.if_icmp .eq 11, 3) := by decide +kernel
theorem dX5_isOf_6 : decode cX5_isOf 6 = .ok (.aload_n 0, 1) := by decide +kernel
theorem dX5_isOf_7 : decode cX5_isOf 7 = .ok (.iload_n 1, 1) := by decide +kernel
theorem dX5_isOf_8 : decode cX5_isOf 8 = .ok (.invokespecial 7, 3) := by decide +kernel
theorem dX5_isOf_11 : decode cX5_isOf 11 = .ok (.ifCond .eq 7, 3) := by decide +kernel
theorem dX5_isOf_14 : decode cX5_isOf 14 = .ok (.iconst 1, 1) := by decide +kernel
theorem dX5_isOf_15 : decode cX5_isOf 15 = .ok (.goto 4, 3) := by decide +kernel
theorem dX5_isOf_18 : decode cX5_isOf 18 = .ok (.iconst 0, 1) := by decide +kernel
theorem dX5_isOf_19 : decode cX5_isOf 19 = .ok (.ireturn, 1) := by decide +kernel
theorem dX5_shows_0 : decode cX5_shows 0 = .ok (.aload_n 0, 1) := by decide +kernel
theorem dX5_shows_1 : decode cX5_shows 1 = .ok (.iload_n 1, 1) := by decide +kernel
theorem dX5_shows_2 : decode cX5_shows 2 = .ok (.aload_n 2, 1) := by decide +kernel
theorem dX5_shows_3 : decode cX5_shows 3 = .ok (.iload_n 3, 1) := by decide +kernel
theorem dX5_shows_4 : decode cX5_shows 4 = .ok (.invokespecial 11, 3) := by decide +kernel
theorem dX5_shows_7 : decode cX5_shows 7 = .ok (.aload_n 2, 1) := by decide +kernel
theorem dX5_shows_8 : decode cX5_shows 8 = .ok (.getfield 15, 3) := by decide +kernel
theorem dX5_shows_11 : decode cX5_shows 11 = .ok (.iconst 2, 1) := by decide +kernel
theorem dX5_shows_12 : decode cX5_shows 12 = .ok (.irem, 1) := by decide +kernel
theorem dX5_shows_13 : decode cX5_shows 13 = .ok (.iadd, 1) := by decide +kernel
theorem dX5_shows_14 : decode cX5_shows 14 = .ok (.ireturn, 1) := by decide +kernel
theorem dX5_blinks_0 : decode cX5_blinks 0 = .ok (.aload_n 0, 1) := by decide +kernel
theorem dX5_blinks_1 : decode cX5_blinks 1 = .ok (.getfield 21, 3) := by decide +kernel
theorem dX5_blinks_4 : decode cX5_blinks 4 = .ok (.bipush 70, 2) := by decide +kernel
theorem dX5_blinks_6 : decode cX5_blinks 6 = .ok (.invokevirtual 27, 3) := by decide +kernel
theorem dX5_blinks_9 : decode cX5_blinks 9 = .ok (.aload_n 0, 1) := by decide +kernel
theorem dX5_blinks_10 : decode cX5_blinks 10 = .ok (.iload_n 1, 1) := by decide +kernel
theorem dX5_blinks_11 : decode cX5_blinks 11 = .ok (.iload_n 2, 1) := by decide +kernel
theorem dX5_blinks_12 : decode cX5_blinks 12 = .ok (.iload_n 3, 1) := by decide +kernel
theorem dX5_blinks_13 : decode cX5_blinks 13 = .ok (.invokespecial 33, 3) := by decide +kernel
theorem dX5_blinks_16 : decode cX5_blinks 16 = .ok (.iload_n 1, 1) := by decide +kernel
theorem dX5_blinks_17 : decode cX5_blinks 17 = .ok (.ixor, 1) := by decide +kernel
theorem dX5_blinks_18 : decode cX5_blinks 18 = .ok (.ireturn, 1) := by decide +kernel
theorem dX5_tells_0 : decode cX5_tells 0 = .ok (.aload_n 0, 1) := by decide +kernel
theorem dX5_tells_1 : decode cX5_tells 1 = .ok (.getfield 21, 3) := by decide +kernel
theorem dX5_tells_4 : decode cX5_tells 4 = .ok (.bipush 71, 2) := by decide +kernel
theorem dX5_tells_6 : decode cX5_tells 6 = .ok (.invokevirtual 27, 3) := by decide +kernel
theorem dX5_tells_9 : decode cX5_tells 9 = .ok (.aload_n 0, 1) := by decide +kernel
theorem dX5_tells_10 : decode cX5_tells 10 = .ok (.iload_n 1, 1) := by decide +kernel
theorem dX5_tells_11 : decode cX5_tells 11 = .ok (.iload_n 2, 1) := by decide +kernel
theorem dX5_tells_12 : decode cX5_tells 12 = .ok (.iload_n 3, 1) := by decide +kernel
theorem dX5_tells_13 : decode cX5_tells 13 = .ok (.invokevirtual 37, 3) := by decide +kernel
theorem dX5_tells_16 : decode cX5_tells 16 = .ok (.aload_n 0, 1) := by decide +kernel
theorem dX5_tells_17 : decode cX5_tells 17 = .ok (.iload_n 1, 1) := by decide +kernel
theorem dX5_tells_18 : decode cX5_tells 18 = .ok (.iload_n 2, 1) := by decide +kernel
theorem dX5_tells_19 : decode cX5_tells 19 = .ok (.iload_n 3, 1) := by decide +kernel
theorem dX5_tells_20 : decode cX5_tells 20 = .ok (.invokespecial 40, 3) := by decide +kernel
theorem dX5_tells_23 : decode cX5_tells 23 = .ok (.isub, 1) := by decide +kernel
theorem dX5_tells_24 : decode cX5_tells 24 = .ok (.ireturn, 1) := by decide +kernel
theorem dX6_init_0 : decode cX6_init 0 = .ok (.aload_n 0, 1) := by decide +kernel
theorem dX6_init_1 : decode cX6_init 1 = .ok (.aload_n 1, 1) := by decide +kernel
theorem dX6_init_2 : decode cX6_init 2 = .ok (.invokespecial 1, 3) := by decide +kernel
theorem dX6_init_5 : decode cX6_init 5 = .ok (.return_, 1) := by decide +kernel
theorem dX6_isOf_0 : decode cX6_isOf 0 = .ok (.iload_n 1, 1) := by decide +kernel
theorem dX6_isOf_1 : decode cX6_isOf 1 = .ok (.iconst 1, 1) := by decide +kernel
theorem dX6_isOf_2 : decode cX6_isOf 2 = .ok (.if_icmp .eq 11, 3) := by decide +kernel
theorem dX6_isOf_5 : decode cX6_isOf 5 = .ok (.aload_n 0, 1) := by decide +kernel
theorem dX6_isOf_6 : decode cX6_isOf 6 = .ok (.iload_n 1, 1) := by decide +kernel
theorem dX6_isOf_7 : decode cX6_isOf 7 = .ok (.invokespecial 7, 3) := by decide +kernel
theorem dX6_isOf_10 : decode cX6_isOf 10 = .ok (.ifCond .eq 7, 3) := by decide +kernel
theorem dX6_isOf_13 : decode cX6_isOf 13 = .ok (.iconst 1, 1) := by decide +kernel
theorem dX6_isOf_14 : decode cX6_isOf 14 = .ok (.goto 4, 3) := by decide +kernel
theorem dX6_isOf_17 : decode cX6_isOf 17 = .ok (.iconst 0, 1) := by decide +kernel
theorem dX6_isOf_18 : decode cX6_isOf 18 = .ok (.ireturn, 1) := by decide +kernel
theorem dX6_shows_0 : decode cX6_shows 0 = .ok (.iload_n 1, 1) := by decide +kernel
theorem dX6_shows_1 : decode cX6_shows 1 = .ok (.aload_n 2, 1) := by decide +kernel
theorem dX6_shows_2 : decode cX6_shows 2 = .ok (.getfield 11, 3) := by decide +kernel
theorem dX6_shows_5 : decode cX6_shows 5 = .ok (.iload_n 3, 1) := by decide +kernel
theorem dX6_shows_6 : decode cX6_shows 6 = .ok (.iaload, 1) := by decide +kernel
theorem dX6_shows_7 : decode cX6_shows 7 = .ok (.iadd, 1) := by decide +kernel
theorem dX6_shows_8 : decode cX6_shows 8 = .ok (.ireturn, 1) := by decide +kernel
theorem dX6_sees_0 : decode cX6_sees 0 = .ok (.aload_n 0, 1) := by decide +kernel
theorem dX6_sees_1 : decode cX6_sees 1 = .ok (.getfield 17, 3) := by decide +kernel
theorem dX6_sees_4 : decode cX6_sees 4 = .ok (.bipush 20, 2) := by decide +kernel
theorem dX6_sees_6 : decode cX6_sees 6 = .ok (.invokevirtual 23, 3) := by decide +kernel
theorem dX6_sees_9 : decode cX6_sees 9 = .ok (.aload_n 0, 1) := by decide +kernel
theorem dX6_sees_10 : decode cX6_sees 10 = .ok (.iload_n 1, 1) := by decide +kernel
theorem dX6_sees_11 : decode cX6_sees 11 = .ok (.iload_n 2, 1) := by decide +kernel
theorem dX6_sees_12 : decode cX6_sees 12 = .ok (.iload_n 3, 1) := by decide +kernel
theorem dX6_sees_13 : decode cX6_sees 13 = .ok (.invokespecial 29, 3) := by decide +kernel
theorem dX6_sees_16 : decode cX6_sees 16 = .ok (.iconst 3, 1) := by decide +kernel
theorem dX6_sees_17 : decode cX6_sees 17 = .ok (.imul, 1) := by decide +kernel
theorem dX6_sees_18 : decode cX6_sees 18 = .ok (.ireturn, 1) := by decide +kernel
theorem dX7_init_0 : decode cX7_init 0 = .ok (.aload_n 0, 1) := by decide +kernel
theorem dX7_init_1 : decode cX7_init 1 = .ok (.invokespecial 1, 3) := by decide +kernel
theorem dX7_init_4 : decode cX7_init 4 = .ok (.aload_n 0, 1) := by decide +kernel
theorem dX7_init_5 : decode cX7_init 5 = .ok (.iload_n 1, 1) := by decide +kernel
theorem dX7_init_6 : decode cX7_init 6 = .ok (.newarray .int, 2) := by decide +kernel
theorem dX7_init_8 : decode cX7_init 8 = .ok (.putfield 7, 3) := by decide +kernel
theorem dX7_init_11 : decode cX7_init 11 = .ok (.return_, 1) := by decide +kernel
theorem dX7_add_0 : decode cX7_add 0 = .ok (.aload_n 0, 1) := by decide +kernel
theorem dX7_add_1 : decode cX7_add 1 = .ok (.getfield 13, 3) := by decide +kernel
theorem dX7_add_4 : decode cX7_add 4 = .ok (.aload_n 0, 1) := by decide +kernel
theorem dX7_add_5 : decode cX7_add 5 = .ok (.getfield 7, 3) := by decide +kernel
theorem dX7_add_8 : decode cX7_add 8 = .ok (.arraylength, 1) := by decide +kernel
theorem dX7_add_9 : decode cX7_add 9 = .ok (.if_icmp .ge 23, 3) := by decide +kernel
theorem dX7_add_12 : decode cX7_add 12 = .ok (.aload_n 0, 1) := by decide +kernel
theorem dX7_add_13 : decode cX7_add 13 = .ok (.getfield 7, 3) := by decide +kernel
theorem dX7_add_16 : decode cX7_add 16 = .ok (.aload_n 0, 1) := by decide +kernel
theorem dX7_add_17 : decode cX7_add 17 = .ok (.getfield 13, 3) := by decide +kernel
theorem dX7_add_20 : decode cX7_add 20 = .ok (.iload_n 1, 1) := by decide +kernel
theorem dX7_add_21 : decode cX7_add 21 = .ok (.iastore, 1) := by decide +kernel
theorem dX7_add_22 : decode cX7_add 22 = .ok (.aload_n 0, 1) := by decide +kernel
theorem dX7_add_23 : decode cX7_add 23 = .ok (.dup, 1) := by decide +kernel
theorem dX7_add_24 : decode cX7_add 24 = .ok (.getfield 13, 3) := by decide +kernel
theorem dX7_add_27 : decode cX7_add 27 = .ok (.iconst 1, 1) := by decide +kernel
theorem dX7_add_28 : decode cX7_add 28 = .ok (.iadd, 1) := by decide +kernel
theorem dX7_add_29 : decode cX7_add 29 = .ok (.putfield 13, 3) := by decide +kernel
theorem dX7_add_32 : decode cX7_add 32 = .ok (.return_, 1) := by decide +kernel
theorem dX7_holds_0 : decode cX7_holds 0 = .ok (.iload_n 1, 1) := by decide +kernel
theorem dX7_holds_1 : decode cX7_holds 1 = .ok (.ifCond .lt 21, 3) := by decide +kernel
theorem dX7_holds_4 : decode cX7_holds 4 = .ok (.iload_n 2, 1) := by decide +kernel
theorem dX7_holds_5 : decode cX7_holds 5 = .ok (.ifCond .lt 17, 3) := by decide +kernel
theorem dX7_holds_8 : decode cX7_holds 8 = .ok (.iload_n 1, 1) := by decide +kernel
theorem dX7_holds_9 : decode cX7_holds 9 = .ok (.aload_n 0, 1) := by decide +kernel
theorem dX7_holds_10 : decode cX7_holds 10 = .ok (.getfield 13, 3) := by decide +kernel
theorem dX7_holds_13 : decode cX7_holds 13 = .ok (.iload_n 2, 1) := by decide +kernel
theorem dX7_holds_14 : decode cX7_holds 14 = .ok (.isub, 1) := by decide +kernel
theorem dX7_holds_15 : decode cX7_holds 15 = .ok (.if_icmp .gt 7, 3) := by decide +kernel
theorem dX7_holds_18 : decode cX7_holds 18 = .ok (.iconst 1, 1) := by decide +kernel
theorem dX7_holds_19 : decode cX7_holds 19 = .ok (.goto 4, 3) := by decide +kernel
theorem dX7_holds_22 : decode cX7_holds 22 = .ok (.iconst 0, 1) := by decide +kernel
theorem dX7_holds_23 : decode cX7_holds 23 = .ok (.ireturn, 1) := by decide +kernel
theorem dX7_copyFrom_0 : decode cX7_copyFrom 0 = .ok (.aload_n 0, 1) := by decide +kernel
theorem dX7_copyFrom_1 : decode cX7_copyFrom 1 = .ok (.aload_n 1, 1) := by decide +kernel
theorem dX7_copyFrom_2 : decode cX7_copyFrom 2 = .ok (.getfield 13, 3) := by decide +kernel
theorem dX7_copyFrom_5 : decode cX7_copyFrom 5 = .ok (.aload_n 0, 1) := by decide +kernel
theorem dX7_copyFrom_6 : decode cX7_copyFrom 6 = .ok (.getfield 7, 3) := by decide +kernel
theorem dX7_copyFrom_9 : decode cX7_copyFrom 9 = .ok (.arraylength, 1) := by decide +kernel
theorem dX7_copyFrom_10 : decode cX7_copyFrom 10 = .ok (.invokestatic 17, 3) := by decide +kernel
theorem dX7_copyFrom_13 : decode cX7_copyFrom 13 = .ok (.putfield 13, 3) := by decide +kernel
theorem dX7_copyFrom_16 : decode cX7_copyFrom 16 = .ok (.aload_n 1, 1) := by decide +kernel
theorem dX7_copyFrom_17 : decode cX7_copyFrom 17 = .ok (.getfield 7, 3) := by decide +kernel
theorem dX7_copyFrom_20 : decode cX7_copyFrom 20 = .ok (.iconst 0, 1) := by decide +kernel
theorem dX7_copyFrom_21 : decode cX7_copyFrom 21 = .ok (.aload_n 0, 1) := by decide +kernel
theorem dX7_copyFrom_22 : decode cX7_copyFrom 22 = .ok (.getfield 7, 3) := by decide +kernel
theorem dX7_copyFrom_25 : decode cX7_copyFrom 25 = .ok (.iconst 0, 1) := by decide +kernel
theorem dX7_copyFrom_26 : decode cX7_copyFrom 26 = .ok (.aload_n 0, 1) := by decide +kernel
theorem dX7_copyFrom_27 : decode cX7_copyFrom 27 = .ok (.getfield 13, 3) := by decide +kernel
theorem dX7_copyFrom_30 : decode cX7_copyFrom 30 = .ok (.invokestatic 23, 3) := by decide +kernel
theorem dX7_copyFrom_33 : decode cX7_copyFrom 33 = .ok (.return_, 1) := by decide +kernel
theorem dX7_clearTo_0 : decode cX7_clearTo 0 = .ok (.aload_n 0, 1) := by decide +kernel
theorem dX7_clearTo_1 : decode cX7_clearTo 1 = .ok (.iload_n 1, 1) := by decide +kernel
theorem dX7_clearTo_2 : decode cX7_clearTo 2 = .ok (.putfield 29, 3) := by decide +kernel
theorem dX7_clearTo_5 : decode cX7_clearTo 5 = .ok (.aload_n 0, 1) := by decide +kernel
theorem dX7_clearTo_6 : decode cX7_clearTo 6 = .ok (.iload_n 2, 1) := by decide +kernel
theorem dX7_clearTo_7 : decode cX7_clearTo 7 = .ok (.putfield 13, 3) := by decide +kernel
theorem dX7_clearTo_10 : decode cX7_clearTo 10 = .ok (.iconst 0, 1) := by decide +kernel
theorem dX7_clearTo_11 : decode cX7_clearTo 11 = .ok (.istore_n 3, 1) := by decide +kernel
theorem dX7_clearTo_12 : decode cX7_clearTo 12 = .ok (.iload_n 3, 1) := by decide +kernel
theorem dX7_clearTo_13 : decode cX7_clearTo 13 = .ok (.aload_n 0, 1) := by decide +kernel
theorem dX7_clearTo_14 : decode cX7_clearTo 14 = .ok (.getfield 13, 3) := by decide +kernel
theorem dX7_clearTo_17 : decode cX7_clearTo 17 = .ok (.if_icmp .ge 16, 3) := by decide +kernel
theorem dX7_clearTo_20 : decode cX7_clearTo 20 = .ok (.aload_n 0, 1) := by decide +kernel
theorem dX7_clearTo_21 : decode cX7_clearTo 21 = .ok (.getfield 7, 3) := by decide +kernel
theorem dX7_clearTo_24 : decode cX7_clearTo 24 = .ok (.iload_n 3, 1) := by decide +kernel
theorem dX7_clearTo_25 : decode cX7_clearTo 25 = .ok (.iconst 0, 1) := by decide +kernel
theorem dX7_clearTo_26 : decode cX7_clearTo 26 = .ok (.iastore, 1) := by decide +kernel
theorem dX7_clearTo_27 : decode cX7_clearTo 27 = .ok (.iinc 3 1, 3) := by decide +kernel
theorem dX7_clearTo_30 : decode cX7_clearTo 30 = .ok (.goto (-18), 3) := by decide +kernel
theorem dX7_clearTo_33 : decode cX7_clearTo 33 = .ok (.return_, 1) := by decide +kernel
theorem dX7_lowestBits_0 : decode cX7_lowestBits 0 = .ok (.aload_n 0, 1) := by decide +kernel
theorem dX7_lowestBits_1 : decode cX7_lowestBits 1 = .ok (.getfield 29, 3) := by decide +kernel
theorem dX7_lowestBits_4 : decode cX7_lowestBits 4 = .ok (.bipush 8, 2) := by decide +kernel
theorem dX7_lowestBits_6 : decode cX7_lowestBits 6 = .ok (.if_icmp .ne 11, 3) := by decide +kernel
theorem dX7_lowestBits_9 : decode cX7_lowestBits 9 = .ok (.iload_n 1, 1) := by decide +kernel
theorem dX7_lowestBits_10 : decode cX7_lowestBits 10 = .ok (.sipush 255, 3) := by decide +kernel
theorem dX7_lowestBits_13 : decode cX7_lowestBits 13 = .ok (.iand, 1) := by decide +kernel
theorem dX7_lowestBits_14 : decode cX7_lowestBits 14 = .ok (.goto 20, 3) := by decide +kernel
theorem dX7_lowestBits_17 : decode cX7_lowestBits 17 = .ok (.aload_n 0, 1) := by decide +kernel
theorem dX7_lowestBits_18 : decode cX7_lowestBits 18 = .ok (.getfield 29, 3) := by decide +kernel
theorem dX7_lowestBits_21 : decode cX7_lowestBits 21 = .ok (.bipush 16, 2) := by decide +kernel
theorem dX7_lowestBits_23 : decode cX7_lowestBits 23 = .ok (.if_icmp .ne 10, 3) := by decide +kernel
theorem dX7_lowestBits_26 : decode cX7_lowestBits 26 = .ok (.iload_n 1, 1) := by decide +kernel
theorem dX7_lowestBits_27 : decode cX7_lowestBits 27 = .ok (.ldc 32, 2) := by decide +kernel
theorem dX7_lowestBits_29 : decode cX7_lowestBits 29 = .ok (.iand, 1) := by decide +kernel
theorem dX7_lowestBits_30 : decode cX7_lowestBits 30 = .ok (.goto 4, 3) := by decide +kernel
theorem dX7_lowestBits_33 : decode cX7_lowestBits 33 = .ok (.iload_n 1, 1) := by decide +kernel
theorem dX7_lowestBits_34 : decode cX7_lowestBits 34 = .ok (.ireturn, 1) := by decide +kernel
theorem dX8_init_0 : decode cX8_init 0 = .ok (.aload_n 0, 1) := by decide +kernel
theorem dX8_init_1 : decode cX8_init 1 = .ok (.aload_n 1, 1) := by decide +kernel
theorem dX8_init_2 : decode cX8_init 2 = .ok (.invokespecial 1, 3) := by decide +kernel
theorem dX8_init_5 : decode cX8_init 5 = .ok (.return_, 1) := by decide +kernel
theorem dX8_isOf_0 : decode cX8_isOf 0 = .ok (.iload_n 1, 1) := by decide +kernel
theorem dX8_isOf_1 : decode cX8_isOf 1 = .ok (.iconst 5, 1) := by decide +kernel
theorem dX8_isOf_2 : decode cX8_isOf 2 = .ok (.if_icmp .eq 11, 3) := by decide +kernel
theorem dX8_isOf_5 : decode cX8_isOf 5 = .ok (.aload_n 0, 1) := by decide +kernel
theorem dX8_isOf_6 : decode cX8_isOf 6 = .ok (.iload_n 1, 1) := by decide +kernel
theorem dX8_isOf_7 : decode cX8_isOf 7 = .ok (.invokespecial 7, 3) := by decide +kernel
theorem dX8_isOf_10 : decode cX8_isOf 10 = .ok (.ifCond .eq 7, 3) := by decide +kernel
theorem dX8_isOf_13 : decode cX8_isOf 13 = .ok (.iconst 1, 1) := by decide +kernel
theorem dX8_isOf_14 : decode cX8_isOf 14 = .ok (.goto 4, 3) := by decide +kernel
theorem dX8_isOf_17 : decode cX8_isOf 17 = .ok (.iconst 0, 1) := by decide +kernel
theorem dX8_isOf_18 : decode cX8_isOf 18 = .ok (.ireturn, 1) := by decide +kernel
theorem dX8_shows_0 : decode cX8_shows 0 = .ok (.aload_n 2, 1) := by decide +kernel
theorem dX8_shows_1 : decode cX8_shows 1 = .ok (.getfield 11, 3) := by decide +kernel
theorem dX8_shows_4 : decode cX8_shows 4 = .ok (.iconst 4, 1) := by decide +kernel
theorem dX8_shows_5 : decode cX8_shows 5 = .ok (.irem, 1) := by decide +kernel
theorem dX8_shows_6 : decode cX8_shows 6 = .ok (.ifCond .ne 12, 3) := by decide +kernel
theorem dX8_shows_9 : decode cX8_shows 9 = .ok (.aload_n 2, 1) := by decide +kernel
theorem dX8_shows_10 : decode cX8_shows 10 = .ok (.getfield 17, 3) := by decide +kernel
theorem dX8_shows_13 : decode cX8_shows 13 = .ok (.iload_n 3, 1) := by decide +kernel
theorem dX8_shows_14 : decode cX8_shows 14 = .ok (.iaload, 1) := by decide +kernel
theorem dX8_shows_15 : decode cX8_shows 15 = .ok (.goto 10, 3) := by decide +kernel
theorem dX8_shows_18 : decode cX8_shows 18 = .ok (.aload_n 0, 1) := by decide +kernel
theorem dX8_shows_19 : decode cX8_shows 19 = .ok (.iload_n 1, 1) := by decide +kernel
theorem dX8_shows_20 : decode cX8_shows 20 = .ok (.aload_n 2, 1) := by decide +kernel
theorem dX8_shows_21 : decode cX8_shows 21 = .ok (.iload_n 3, 1) := by decide +kernel
theorem dX8_shows_22 : decode cX8_shows 22 = .ok (.invokespecial 21, 3) := by decide +kernel
theorem dX8_shows_25 : decode cX8_shows 25 = .ok (.ireturn, 1) := by decide +kernel
theorem dX8_heavyAt_0 : decode cX8_heavyAt 0 = .ok (.iload_n 1, 1) := by decide +kernel
theorem dX8_heavyAt_1 : decode cX8_heavyAt 1 = .ok (.iconst 4, 1) := by decide +kernel
theorem dX8_heavyAt_2 : decode cX8_heavyAt 2 = .ok (.irem, 1) := by decide +kernel
theorem dX8_heavyAt_3 : decode cX8_heavyAt 3 = .ok (.ifCond .ne 7, 3) := by decide +kernel
theorem dX8_heavyAt_6 : decode cX8_heavyAt 6 = .ok (.iconst 0, 1) := by decide +kernel
theorem dX8_heavyAt_7 : decode cX8_heavyAt 7 = .ok (.goto 8, 3) := by decide +kernel
theorem dX8_heavyAt_10 : decode cX8_heavyAt 10 = .ok (.aload_n 0, 1) := by decide +kernel
theorem dX8_heavyAt_11 : decode cX8_heavyAt 11 = .ok (.iload_n 1, 1) := by decide +kernel
theorem dX8_heavyAt_12 : decode cX8_heavyAt 12 = .ok (.invokespecial 25, 3) := by decide +kernel
theorem dX8_heavyAt_15 : decode cX8_heavyAt 15 = .ok (.ireturn, 1) := by decide +kernel
theorem dX8_looks_0 : decode cX8_looks 0 = .ok (.aload_n 0, 1) := by decide +kernel
theorem dX8_looks_1 : decode cX8_looks 1 = .ok (.getfield 29, 3) := by decide +kernel
theorem dX8_looks_4 : decode cX8_looks 4 = .ok (.bipush 60, 2) := by decide +kernel
theorem dX8_looks_6 : decode cX8_looks 6 = .ok (.invokevirtual 35, 3) := by decide +kernel
theorem dX8_looks_9 : decode cX8_looks 9 = .ok (.aload_n 0, 1) := by decide +kernel
theorem dX8_looks_10 : decode cX8_looks 10 = .ok (.iload_n 1, 1) := by decide +kernel
theorem dX8_looks_11 : decode cX8_looks 11 = .ok (.iload_n 2, 1) := by decide +kernel
theorem dX8_looks_12 : decode cX8_looks 12 = .ok (.iload_n 3, 1) := by decide +kernel
theorem dX8_looks_13 : decode cX8_looks 13 = .ok (.iconst 1, 1) := by decide +kernel
theorem dX8_looks_14 : decode cX8_looks 14 = .ok (.iadd, 1) := by decide +kernel
theorem dX8_looks_15 : decode cX8_looks 15 = .ok (.invokespecial 41, 3) := by decide +kernel
theorem dX8_looks_18 : decode cX8_looks 18 = .ok (.ireturn, 1) := by decide +kernel
theorem dX9_init_0 : decode cX9_init 0 = .ok (.aload_n 0, 1) := by decide +kernel
theorem dX9_init_1 : decode cX9_init 1 = .ok (.invokespecial 3, 3) := by decide +kernel
theorem dX9_init_4 : decode cX9_init 4 = .ok (.aload_n 0, 1) := by decide +kernel
theorem dX9_init_5 : decode cX9_init 5 = .ok (.new 9, 3) := by decide +kernel
theorem dX9_init_8 : decode cX9_init 8 = .ok (.dup, 1) := by decide +kernel
theorem dX9_init_9 : decode cX9_init 9 = .ok (.bipush 50, 2) := by decide +kernel
theorem dX9_init_11 : decode cX9_init 11 = .ok (.invokespecial 11, 3) := by decide +kernel
theorem dX9_init_14 : decode cX9_init 14 = .ok (.putfield 14, 3) := by decide +kernel
theorem dX9_init_17 : decode cX9_init 17 = .ok (.return_, 1) := by decide +kernel
theorem dX9_faultOf_0 : decode cX9_faultOf 0 = .ok (.aload_n 0, 1) := by decide +kernel
theorem dX9_faultOf_1 : decode cX9_faultOf 1 = .ok (.aload_n 1, 1) := by decide +kernel
theorem dX9_faultOf_2 : decode cX9_faultOf 2 = .ok (.putfield 20, 3) := by decide +kernel
theorem dX9_faultOf_5 : decode cX9_faultOf 5 = .ok (.aload_n 0, 1) := by decide +kernel
theorem dX9_faultOf_6 : decode cX9_faultOf 6 = .ok (.iload_n 2, 1) := by decide +kernel
theorem dX9_faultOf_7 : decode cX9_faultOf 7 = .ok (.putfield 23, 3) := by decide +kernel
theorem dX9_faultOf_10 : decode cX9_faultOf 10 = .ok (.aload_n 0, 1) := by decide +kernel
theorem dX9_faultOf_11 : decode cX9_faultOf 11 = .ok (.iconst 0, 1) := by decide +kernel
theorem dX9_faultOf_12 : decode cX9_faultOf 12 = .ok (.putfield 27, 3) := by decide +kernel
theorem dX9_faultOf_15 : decode cX9_faultOf 15 = .ok (.aload_n 0, 1) := by decide +kernel
theorem dX9_faultOf_16 : decode cX9_faultOf 16 = .ok (.getfield 14, 3) := by decide +kernel
theorem dX9_faultOf_19 : decode cX9_faultOf 19 = .ok (.iconst 0, 1) := by decide +kernel
theorem dX9_faultOf_20 : decode cX9_faultOf 20 = .ok (.putfield 30, 3) := by decide +kernel
theorem dX9_faultOf_23 : decode cX9_faultOf 23 = .ok (.aload_n 0, 1) := by decide +kernel
theorem dX9_faultOf_24 : decode cX9_faultOf 24 = .ok (.iconst 0, 1) := by decide +kernel
theorem dX9_faultOf_25 : decode cX9_faultOf 25 = .ok (.invokevirtual 33, 3) := by decide +kernel
theorem dX9_faultOf_28 : decode cX9_faultOf 28 = .ok (.ifCond .eq 21, 3) := by decide +kernel
theorem dX9_faultOf_31 : decode cX9_faultOf 31 = .ok (.aload_n 0, 1) := by decide +kernel
theorem dX9_faultOf_32 : decode cX9_faultOf 32 = .ok (.getfield 27, 3) := by decide +kernel
theorem dX9_faultOf_35 : decode cX9_faultOf 35 = .ok (.aload_n 0, 1) := by decide +kernel
theorem dX9_faultOf_36 : decode cX9_faultOf 36 = .ok (.getfield 20, 3) := by decide +kernel
theorem dX9_faultOf_39 : decode cX9_faultOf 39 = .ok (.getfield 30, 3) := by decide +kernel
theorem dX9_faultOf_42 : decode cX9_faultOf 42 = .ok (.if_icmp .ne 7, 3) := by decide +kernel
theorem dX9_faultOf_45 : decode cX9_faultOf 45 = .ok (.iconst (-1), 1) := by decide +kernel
theorem dX9_faultOf_46 : decode cX9_faultOf 46 = .ok (.goto 7, 3) := by decide +kernel
theorem dX9_faultOf_49 : decode cX9_faultOf 49 = .ok (.aload_n 0, 1) := by decide +kernel
theorem dX9_faultOf_50 : decode cX9_faultOf 50 = .ok (.getfield 27, 3) := by decide +kernel
theorem dX9_faultOf_53 : decode cX9_faultOf 53 = .ok (.ireturn, 1) := by decide +kernel
theorem dX9_next_0 : decode cX9_next 0 = .ok (.aload_n 0, 1) := by decide +kernel
theorem dX9_next_1 : decode cX9_next 1 = .ok (.getfield 27, 3) := by decide +kernel
theorem dX9_next_4 : decode cX9_next 4 = .ok (.aload_n 0, 1) := by decide +kernel
theorem dX9_next_5 : decode cX9_next 5 = .ok (.getfield 20, 3) := by decide +kernel
theorem dX9_next_8 : decode cX9_next 8 = .ok (.getfield 30, 3) := by decide +kernel
theorem dX9_next_11 : decode cX9_next 11 = .ok (.if_icmp .ge 18, 3) := by decide +kernel
theorem dX9_next_14 : decode cX9_next 14 = .ok (.aload_n 0, 1) := by decide +kernel
theorem dX9_next_15 : decode cX9_next 15 = .ok (.getfield 20, 3) := by decide +kernel
theorem dX9_next_18 : decode cX9_next 18 = .ok (.getfield 37, 3) := by decide +kernel
theorem dX9_next_21 : decode cX9_next 21 = .ok (.aload_n 0, 1) := by decide +kernel
theorem dX9_next_22 : decode cX9_next 22 = .ok (.getfield 27, 3) := by decide +kernel
theorem dX9_next_25 : decode cX9_next 25 = .ok (.iaload, 1) := by decide +kernel
theorem dX9_next_26 : decode cX9_next 26 = .ok (.goto 4, 3) := by decide +kernel
theorem dX9_next_29 : decode cX9_next 29 = .ok (.iconst (-1), 1) := by decide +kernel
theorem dX9_next_30 : decode cX9_next 30 = .ok (.ireturn, 1) := by decide +kernel
theorem dX9_readText_0 : decode cX9_readText 0 = .ok (.aload_n 0, 1) := by decide +kernel
theorem dX9_readText_1 : decode cX9_readText 1 = .ok (.iload_n 1, 1) := by decide +kernel
theorem dX9_readText_2 : decode cX9_readText 2 = .ok (.invokevirtual 41, 3) := by decide +kernel
theorem dX9_readText_5 : decode cX9_readText 5 = .ok (.ifCond .ne 5, 3) := by decide +kernel
theorem dX9_readText_8 : decode cX9_readText 8 = .ok (.iconst 0, 1) := by decide +kernel
theorem dX9_readText_9 : decode cX9_readText 9 = .ok (.ireturn, 1) := by decide +kernel
theorem dX9_readText_10 : decode cX9_readText 10 = .ok (.aload_n 0, 1) := by decide +kernel
theorem dX9_readText_11 : decode cX9_readText 11 = .ok (.getfield 27, 3) := by decide +kernel
theorem dX9_readText_14 : decode cX9_readText 14 = .ok (.aload_n 0, 1) := by decide +kernel
theorem dX9_readText_15 : decode cX9_readText 15 = .ok (.getfield 20, 3) := by decide +kernel
theorem dX9_readText_18 : decode cX9_readText 18 = .ok (.getfield 30, 3) := by decide +kernel
theorem dX9_readText_21 : decode cX9_readText 21 = .ok (.if_icmp .ge 44, 3) := by decide +kernel
theorem dX9_readText_24 : decode cX9_readText 24 = .ok (.aload_n 0, 1) := by decide +kernel
theorem dX9_readText_25 : decode cX9_readText 25 = .ok (.invokevirtual 44, 3) := by decide +kernel
theorem dX9_readText_28 : decode cX9_readText 28 = .ok (.bipush 124, 2) := by decide +kernel
theorem dX9_readText_30 : decode cX9_readText 30 = .ok (.if_icmp .ne 35, 3) := by decide +kernel
theorem dX9_readText_33 : decode cX9_readText 33 = .ok (.aload_n 0, 1) := by decide +kernel
theorem dX9_readText_34 : decode cX9_readText 34 = .ok (.dup, 1) := by decide +kernel
theorem dX9_readText_35 : decode cX9_readText 35 = .ok (.getfield 27, 3) := by decide +kernel
theorem dX9_readText_38 : decode cX9_readText 38 = .ok (.iconst 1, 1) := by decide +kernel
theorem dX9_readText_39 : decode cX9_readText 39 = .ok (.iadd, 1) := by decide +kernel
theorem dX9_readText_40 : decode cX9_readText 40 = .ok (.putfield 27, 3) := by decide +kernel
theorem dX9_readText_43 : decode cX9_readText 43 = .ok (.aload_n 0, 1) := by decide +kernel
theorem dX9_readText_44 : decode cX9_readText 44 = .ok (.iload_n 1, 1) := by decide +kernel
theorem dX9_readText_45 : decode cX9_readText 45 = .ok (.invokevirtual 41, 3) := by decide +kernel
theorem dX9_readText_48 : decode cX9_readText 48 = .ok (.ifCond .ne 5, 3) := by decide +kernel
theorem dX9_readText_51 : decode cX9_readText 51 = .ok (.iconst 0, 1) := by decide +kernel
theorem dX9_readText_52 : decode cX9_readText 52 = .ok (.ireturn, 1) := by decide +kernel
theorem dX9_readText_53 : decode cX9_readText 53 = .ok (.aload_n 0, 1) := by decide +kernel
theorem dX9_readText_54 : decode cX9_readText 54 = .ok (.getfield 14, 3) := by decide +kernel
theorem dX9_readText_57 : decode cX9_readText 57 = .ok (.bipush (-124), 2) := by decide +kernel
theorem dX9_readText_59 : decode cX9_readText 59 = .ok (.invokevirtual 48, 3) := by decide +kernel
theorem dX9_readText_62 : decode cX9_readText 62 = .ok (.goto (-52), 3) := by decide +kernel
theorem dX9_readText_65 : decode cX9_readText 65 = .ok (.iconst 1, 1) := by decide +kernel
theorem dX9_readText_66 : decode cX9_readText 66 = .ok (.ireturn, 1) := by decide +kernel
theorem dX9_readAll_0 : decode cX9_readAll 0 = .ok (.aload_n 0, 1) := by decide +kernel
theorem dX9_readAll_1 : decode cX9_readAll 1 = .ok (.iload_n 1, 1) := by decide +kernel
theorem dX9_readAll_2 : decode cX9_readAll 2 = .ok (.invokevirtual 51, 3) := by decide +kernel
theorem dX9_readAll_5 : decode cX9_readAll 5 = .ok (.ifCond .ne 5, 3) := by decide +kernel
theorem dX9_readAll_8 : decode cX9_readAll 8 = .ok (.iconst 0, 1) := by decide +kernel
theorem dX9_readAll_9 : decode cX9_readAll 9 = .ok (.ireturn, 1) := by decide +kernel
theorem dX9_readAll_10 : decode cX9_readAll 10 = .ok (.aload_n 0, 1) := by decide +kernel
theorem dX9_readAll_11 : decode cX9_readAll 11 = .ok (.getfield 27, 3) := by decide +kernel
theorem dX9_readAll_14 : decode cX9_readAll 14 = .ok (.aload_n 0, 1) := by decide +kernel
theorem dX9_readAll_15 : decode cX9_readAll 15 = .ok (.getfield 20, 3) := by decide +kernel
theorem dX9_readAll_18 : decode cX9_readAll 18 = .ok (.getfield 30, 3) := by decide +kernel
theorem dX9_readAll_21 : decode cX9_readAll 21 = .ok (.if_icmp .ge 44, 3) := by decide +kernel
theorem dX9_readAll_24 : decode cX9_readAll 24 = .ok (.aload_n 0, 1) := by decide +kernel
theorem dX9_readAll_25 : decode cX9_readAll 25 = .ok (.invokevirtual 44, 3) := by decide +kernel
theorem dX9_readAll_28 : decode cX9_readAll 28 = .ok (.bipush 38, 2) := by decide +kernel
theorem dX9_readAll_30 : decode cX9_readAll 30 = .ok (.if_icmp .ne 35, 3) := by decide +kernel
theorem dX9_readAll_33 : decode cX9_readAll 33 = .ok (.aload_n 0, 1) := by decide +kernel
theorem dX9_readAll_34 : decode cX9_readAll 34 = .ok (.dup, 1) := by decide +kernel
theorem dX9_readAll_35 : decode cX9_readAll 35 = .ok (.getfield 27, 3) := by decide +kernel
theorem dX9_readAll_38 : decode cX9_readAll 38 = .ok (.iconst 1, 1) := by decide +kernel
theorem dX9_readAll_39 : decode cX9_readAll 39 = .ok (.iadd, 1) := by decide +kernel
theorem dX9_readAll_40 : decode cX9_readAll 40 = .ok (.putfield 27, 3) := by decide +kernel
theorem dX9_readAll_43 : decode cX9_readAll 43 = .ok (.aload_n 0, 1) := by decide +kernel
theorem dX9_readAll_44 : decode cX9_readAll 44 = .ok (.iload_n 1, 1) := by decide +kernel
theorem dX9_readAll_45 : decode cX9_readAll 45 = .ok (.invokevirtual 51, 3) := by decide +kernel
theorem dX9_readAll_48 : decode cX9_readAll 48 = .ok (.ifCond .ne 5, 3) := by decide +kernel
theorem dX9_readAll_51 : decode cX9_readAll 51 = .ok (.iconst 0, 1) := by decide +kernel
theorem dX9_readAll_52 : decode cX9_readAll 52 = .ok (.ireturn, 1) := by decide +kernel
theorem dX9_readAll_53 : decode cX9_readAll 53 = .ok (.aload_n 0, 1) := by decide +kernel
theorem dX9_readAll_54 : decode cX9_readAll 54 = .ok (.getfield 14, 3) := by decide +kernel
theorem dX9_readAll_57 : decode cX9_readAll 57 = .ok (.bipush (-38), 2) := by decide +kernel
theorem dX9_readAll_59 : decode cX9_readAll 59 = .ok (.invokevirtual 48, 3) := by decide +kernel
theorem dX9_readAll_62 : decode cX9_readAll 62 = .ok (.goto (-52), 3) := by decide +kernel
theorem dX9_readAll_65 : decode cX9_readAll 65 = .ok (.iconst 1, 1) := by decide +kernel
theorem dX9_readAll_66 : decode cX9_readAll 66 = .ok (.ireturn, 1) := by decide +kernel
theorem dX9_readComparison_0 : decode cX9_readComparison 0 = .ok (.aload_n 0, 1) := by decide +kernel
theorem dX9_readComparison_1 : decode cX9_readComparison 1 = .ok (.iload_n 1, 1) := by decide +kernel
theorem dX9_readComparison_2 : decode cX9_readComparison 2 = .ok (.invokevirtual 54, 3) := by decide +kernel
theorem dX9_readComparison_5 : decode cX9_readComparison 5 = .ok (.ifCond .ne 5, 3) := by decide +kernel
theorem dX9_readComparison_8 : decode cX9_readComparison 8 = .ok (.iconst 0, 1) := by decide +kernel
theorem dX9_readComparison_9 : decode cX9_readComparison 9 = .ok (.ireturn, 1) := by decide +kernel
theorem dX9_readComparison_10 : decode cX9_readComparison 10 = .ok (.aload_n 0, 1) := by decide +kernel
theorem dX9_readComparison_11 : decode cX9_readComparison 11 = .ok (.invokevirtual 44, 3) := by decide +kernel
theorem dX9_readComparison_14 : decode cX9_readComparison 14 = .ok (.istore_n 2, 1) := by decide +kernel
theorem dX9_readComparison_15 : decode cX9_readComparison 15 = .ok (.iload_n 2, 1) := by decide +kernel
theorem dX9_readComparison_16 : decode cX9_readComparison 16 = .ok (.bipush 60, 2) := by decide +kernel
theorem dX9_readComparison_18 : decode cX9_readComparison 18 = .ok (.if_icmp .eq 17, 3) := by decide +kernel
theorem dX9_readComparison_21 : decode cX9_readComparison 21 = .ok (.iload_n 2, 1) := by decide +kernel
theorem dX9_readComparison_22 : decode cX9_readComparison 22 = .ok (.bipush 61, 2) := by decide +kernel
theorem dX9_readComparison_24 : decode cX9_readComparison 24 = .ok (.if_icmp .eq 11, 3) := by decide +kernel
theorem dX9_readComparison_27 : decode cX9_readComparison 27 = .ok (.iload_n 2, 1) := by decide +kernel
theorem dX9_readComparison_28 : decode cX9_readComparison 28 = .ok (.bipush 62, 2) := by decide +kernel
theorem dX9_readComparison_30 : decode cX9_readComparison 30 = .ok (.if_icmp .eq 5, 3) := by decide +kernel
theorem dX9_readComparison_33 : decode cX9_readComparison 33 = .ok (.iconst 1, 1) := by decide +kernel
theorem dX9_readComparison_34 : decode cX9_readComparison 34 = .ok (.ireturn, 1) := by decide +kernel
theorem dX9_readComparison_35 : decode cX9_readComparison 35 = .ok (.aload_n 0, 1) := by decide +kernel
theorem dX9_readComparison_36 : decode cX9_readComparison 36 = .ok (.dup, 1) := by decide +kernel
theorem dX9_readComparison_37 : decode cX9_readComparison 37 = .ok (.getfield 27, 3) := by decide +kernel
theorem dX9_readComparison_40 : decode cX9_readComparison 40 = .ok (.iconst 1, 1) := by decide +kernel
theorem dX9_readComparison_41 : decode cX9_readComparison 41 = .ok (.iadd, 1) := by decide +kernel
theorem dX9_readComparison_42 : decode cX9_readComparison 42 = .ok (.putfield 27, 3) := by decide +kernel
theorem dX9_readComparison_45 : decode cX9_readComparison 45 = .ok (.aload_n 0, 1) := by decide +kernel
theorem dX9_readComparison_46 : decode cX9_readComparison 46 = .ok (.iload_n 1, 1) := by decide +kernel
theorem dX9_readComparison_47 : decode cX9_readComparison 47 = .ok (.invokevirtual 54, 3) := by decide +kernel
theorem dX9_readComparison_50 : decode cX9_readComparison 50 = .ok (.ifCond .ne 5, 3) := by decide +kernel
theorem dX9_readComparison_53 : decode cX9_readComparison 53 = .ok (.iconst 0, 1) := by decide +kernel
theorem dX9_readComparison_54 : decode cX9_readComparison 54 = .ok (.ireturn, 1) := by decide +kernel
theorem dX9_readComparison_55 : decode cX9_readComparison 55 = .ok (.aload_n 0, 1) := by decide +kernel
theorem dX9_readComparison_56 : decode cX9_readComparison 56 = .ok (.getfield 14, 3) := by decide +kernel
theorem dX9_readComparison_59 : decode cX9_readComparison 59 = .ok (.iload_n 2, 1) := by decide +kernel
theorem dX9_readComparison_60 : decode cX9_readComparison 60 = .ok (.ineg, 1) := by decide +kernel
theorem dX9_readComparison_61 : decode cX9_readComparison 61 = .ok (.invokevirtual 48, 3) := by decide +kernel
theorem dX9_readComparison_64 : decode cX9_readComparison 64 = .ok (.iconst 1, 1) := by decide +kernel
theorem dX9_readComparison_65 : decode cX9_readComparison 65 = .ok (.ireturn, 1) := by decide +kernel
theorem dX9_readSum_0 : decode cX9_readSum 0 = .ok (.aload_n 0, 1) := by decide +kernel
theorem dX9_readSum_1 : decode cX9_readSum 1 = .ok (.iload_n 1, 1) := by decide +kernel
theorem dX9_readSum_2 : decode cX9_readSum 2 = .ok (.invokevirtual 57, 3) := by decide +kernel
theorem dX9_readSum_5 : decode cX9_readSum 5 = .ok (.ifCond .ne 5, 3) := by decide +kernel
theorem dX9_readSum_8 : decode cX9_readSum 8 = .ok (.iconst 0, 1) := by decide +kernel
theorem dX9_readSum_9 : decode cX9_readSum 9 = .ok (.ireturn, 1) := by decide +kernel
theorem dX9_readSum_10 : decode cX9_readSum 10 = .ok (.aload_n 0, 1) := by decide +kernel
theorem dX9_readSum_11 : decode cX9_readSum 11 = .ok (.getfield 27, 3) := by decide +kernel
theorem dX9_readSum_14 : decode cX9_readSum 14 = .ok (.aload_n 0, 1) := by decide +kernel
theorem dX9_readSum_15 : decode cX9_readSum 15 = .ok (.getfield 20, 3) := by decide +kernel
theorem dX9_readSum_18 : decode cX9_readSum 18 = .ok (.getfield 30, 3) := by decide +kernel
theorem dX9_readSum_21 : decode cX9_readSum 21 = .ok (.if_icmp .ge 58, 3) := by decide +kernel
theorem dX9_readSum_24 : decode cX9_readSum 24 = .ok (.aload_n 0, 1) := by decide +kernel
theorem dX9_readSum_25 : decode cX9_readSum 25 = .ok (.invokevirtual 44, 3) := by decide +kernel
theorem dX9_readSum_28 : decode cX9_readSum 28 = .ok (.bipush 43, 2) := by decide +kernel
theorem dX9_readSum_30 : decode cX9_readSum 30 = .ok (.if_icmp .eq 12, 3) := by decide +kernel
theorem dX9_readSum_33 : decode cX9_readSum 33 = .ok (.aload_n 0, 1) := by decide +kernel
theorem dX9_readSum_34 : decode cX9_readSum 34 = .ok (.invokevirtual 44, 3) := by decide +kernel
theorem dX9_readSum_37 : decode cX9_readSum 37 = .ok (.bipush 45, 2) := by decide +kernel
theorem dX9_readSum_39 : decode cX9_readSum 39 = .ok (.if_icmp .ne 40, 3) := by decide +kernel
theorem dX9_readSum_42 : decode cX9_readSum 42 = .ok (.aload_n 0, 1) := by decide +kernel
theorem dX9_readSum_43 : decode cX9_readSum 43 = .ok (.invokevirtual 44, 3) := by decide +kernel
theorem dX9_readSum_46 : decode cX9_readSum 46 = .ok (.istore_n 2, 1) := by decide +kernel
theorem dX9_readSum_47 : decode cX9_readSum 47 = .ok (.aload_n 0, 1) := by decide +kernel
theorem dX9_readSum_48 : decode cX9_readSum 48 = .ok (.dup, 1) := by decide +kernel
theorem dX9_readSum_49 : decode cX9_readSum 49 = .ok (.getfield 27, 3) := by decide +kernel
theorem dX9_readSum_52 : decode cX9_readSum 52 = .ok (.iconst 1, 1) := by decide +kernel
theorem dX9_readSum_53 : decode cX9_readSum 53 = .ok (.iadd, 1) := by decide +kernel
theorem dX9_readSum_54 : decode cX9_readSum 54 = .ok (.putfield 27, 3) := by decide +kernel
theorem dX9_readSum_57 : decode cX9_readSum 57 = .ok (.aload_n 0, 1) := by decide +kernel
theorem dX9_readSum_58 : decode cX9_readSum 58 = .ok (.iload_n 1, 1) := by decide +kernel
theorem dX9_readSum_59 : decode cX9_readSum 59 = .ok (.invokevirtual 57, 3) := by decide +kernel
theorem dX9_readSum_62 : decode cX9_readSum 62 = .ok (.ifCond .ne 5, 3) := by decide +kernel
theorem dX9_readSum_65 : decode cX9_readSum 65 = .ok (.iconst 0, 1) := by decide +kernel
theorem dX9_readSum_66 : decode cX9_readSum 66 = .ok (.ireturn, 1) := by decide +kernel
theorem dX9_readSum_67 : decode cX9_readSum 67 = .ok (.aload_n 0, 1) := by decide +kernel
theorem dX9_readSum_68 : decode cX9_readSum 68 = .ok (.getfield 14, 3) := by decide +kernel
theorem dX9_readSum_71 : decode cX9_readSum 71 = .ok (.iload_n 2, 1) := by decide +kernel
theorem dX9_readSum_72 : decode cX9_readSum 72 = .ok (.ineg, 1) := by decide +kernel
theorem dX9_readSum_73 : decode cX9_readSum 73 = .ok (.invokevirtual 48, 3) := by decide +kernel
theorem dX9_readSum_76 : decode cX9_readSum 76 = .ok (.goto (-66), 3) := by decide +kernel
theorem dX9_readSum_79 : decode cX9_readSum 79 = .ok (.iconst 1, 1) := by decide +kernel
theorem dX9_readSum_80 : decode cX9_readSum 80 = .ok (.ireturn, 1) := by decide +kernel
theorem dX9_readProduct_0 : decode cX9_readProduct 0 = .ok (.aload_n 0, 1) := by decide +kernel
theorem dX9_readProduct_1 : decode cX9_readProduct 1 = .ok (.iload_n 1, 1) := by decide +kernel
theorem dX9_readProduct_2 : decode cX9_readProduct 2 = .ok (.invokevirtual 60, 3) := by decide +kernel
theorem dX9_readProduct_5 : decode cX9_readProduct 5 = .ok (.ifCond .ne 5, 3) := by decide +kernel
theorem dX9_readProduct_8 : decode cX9_readProduct 8 = .ok (.iconst 0, 1) := by decide +kernel
theorem dX9_readProduct_9 : decode cX9_readProduct 9 = .ok (.ireturn, 1) := by decide +kernel
theorem dX9_readProduct_10 : decode cX9_readProduct 10 = .ok (.aload_n 0, 1) := by decide +kernel
theorem dX9_readProduct_11 : decode cX9_readProduct 11 = .ok (.getfield 27, 3) := by decide +kernel
theorem dX9_readProduct_14 : decode cX9_readProduct 14 = .ok (.aload_n 0, 1) := by decide +kernel
theorem dX9_readProduct_15 : decode cX9_readProduct 15 = .ok (.getfield 20, 3) := by decide +kernel
theorem dX9_readProduct_18 : decode cX9_readProduct 18 = .ok (.getfield 30, 3) := by decide +kernel
theorem dX9_readProduct_21 : decode cX9_readProduct 21 = .ok (.if_icmp .ge 67, 3) := by decide +kernel
theorem dX9_readProduct_24 : decode cX9_readProduct 24 = .ok (.aload_n 0, 1) := by decide +kernel
theorem dX9_readProduct_25 : decode cX9_readProduct 25 = .ok (.invokevirtual 44, 3) := by decide +kernel
theorem dX9_readProduct_28 : decode cX9_readProduct 28 = .ok (.bipush 42, 2) := by decide +kernel
theorem dX9_readProduct_30 : decode cX9_readProduct 30 = .ok (.if_icmp .eq 21, 3) := by decide +kernel
theorem dX9_readProduct_33 : decode cX9_readProduct 33 = .ok (.aload_n 0, 1) := by decide +kernel
theorem dX9_readProduct_34 : decode cX9_readProduct 34 = .ok (.invokevirtual 44, 3) := by decide +kernel
theorem dX9_readProduct_37 : decode cX9_readProduct 37 = .ok (.bipush 47, 2) := by decide +kernel
theorem dX9_readProduct_39 : decode cX9_readProduct 39 = .ok (.if_icmp .eq 12, 3) := by decide +kernel
theorem dX9_readProduct_42 : decode cX9_readProduct 42 = .ok (.aload_n 0, 1) := by decide +kernel
theorem dX9_readProduct_43 : decode cX9_readProduct 43 = .ok (.invokevirtual 44, 3) := by decide +kernel
theorem dX9_readProduct_46 : decode cX9_readProduct 46 = .ok (.bipush 37, 2) := by decide +kernel
theorem dX9_readProduct_48 : decode cX9_readProduct 48 = .ok (.if_icmp .ne 40, 3) := by decide +kernel
theorem dX9_readProduct_51 : decode cX9_readProduct 51 = .ok (.aload_n 0, 1) := by decide +kernel
theorem dX9_readProduct_52 : decode cX9_readProduct 52 = .ok (.invokevirtual 44, 3) := by decide +kernel
theorem dX9_readProduct_55 : decode cX9_readProduct 55 = .ok (.istore_n 2, 1) := by decide +kernel
theorem dX9_readProduct_56 : decode cX9_readProduct 56 = .ok (.aload_n 0, 1) := by decide +kernel
theorem dX9_readProduct_57 : decode cX9_readProduct 57 = .ok (.dup, 1) := by decide +kernel
theorem dX9_readProduct_58 : decode cX9_readProduct 58 = .ok (.getfield 27, 3) := by decide +kernel
theorem dX9_readProduct_61 : decode cX9_readProduct 61 = .ok (.iconst 1, 1) := by decide +kernel
theorem dX9_readProduct_62 : decode cX9_readProduct 62 = .ok (.iadd, 1) := by decide +kernel
theorem dX9_readProduct_63 : decode cX9_readProduct 63 = .ok (.putfield 27, 3) := by decide +kernel
theorem dX9_readProduct_66 : decode cX9_readProduct 66 = .ok (.aload_n 0, 1) := by decide +kernel
theorem dX9_readProduct_67 : decode cX9_readProduct 67 = .ok (.iload_n 1, 1) := by decide +kernel
theorem dX9_readProduct_68 : decode cX9_readProduct 68 = .ok (.invokevirtual 60, 3) := by decide +kernel
theorem dX9_readProduct_71 : decode cX9_readProduct 71 = .ok (.ifCond .ne 5, 3) := by decide +kernel
theorem dX9_readProduct_74 : decode cX9_readProduct 74 = .ok (.iconst 0, 1) := by decide +kernel
theorem dX9_readProduct_75 : decode cX9_readProduct 75 = .ok (.ireturn, 1) := by decide +kernel
theorem dX9_readProduct_76 : decode cX9_readProduct 76 = .ok (.aload_n 0, 1) := by decide +kernel
theorem dX9_readProduct_77 : decode cX9_readProduct 77 = .ok (.getfield 14, 3) := by decide +kernel
theorem dX9_readProduct_80 : decode cX9_readProduct 80 = .ok (.iload_n 2, 1) := by decide +kernel
theorem dX9_readProduct_81 : decode cX9_readProduct 81 = .ok (.ineg, 1) := by decide +kernel
theorem dX9_readProduct_82 : decode cX9_readProduct 82 = .ok (.invokevirtual 48, 3) := by decide +kernel
theorem dX9_readProduct_85 : decode cX9_readProduct 85 = .ok (.goto (-75), 3) := by decide +kernel
theorem dX9_readProduct_88 : decode cX9_readProduct 88 = .ok (.iconst 1, 1) := by decide +kernel
theorem dX9_readProduct_89 : decode cX9_readProduct 89 = .ok (.ireturn, 1) := by decide +kernel
theorem dX9_readPart_0 : decode cX9_readPart 0 = .ok (.aload_n 0, 1) := by decide +kernel
theorem dX9_readPart_1 : decode cX9_readPart 1 = .ok (.invokevirtual 44, 3) := by decide +kernel
theorem dX9_readPart_4 : decode cX9_readPart 4 = .ok (.istore_n 2, 1) := by decide +kernel
theorem dX9_readPart_5 : decode cX9_readPart 5 = .ok (.iload_n 2, 1) := by decide +kernel
theorem dX9_readPart_6 : decode cX9_readPart 6 = .ok (.invokestatic 63, 3) := by decide +kernel
theorem dX9_readPart_9 : decode cX9_readPart 9 = .ok (.ifCond .eq 9, 3) := by decide +kernel
theorem dX9_readPart_12 : decode cX9_readPart 12 = .ok (.aload_n 0, 1) := by decide +kernel
theorem dX9_readPart_13 : decode cX9_readPart 13 = .ok (.invokevirtual 66, 3) := by decide +kernel
theorem dX9_readPart_16 : decode cX9_readPart 16 = .ok (.iconst 1, 1) := by decide +kernel
theorem dX9_readPart_17 : decode cX9_readPart 17 = .ok (.ireturn, 1) := by decide +kernel
theorem dX9_readPart_18 : decode cX9_readPart 18 = .ok (.aload_n 0, 1) := by decide +kernel
theorem dX9_readPart_19 : decode cX9_readPart 19 = .ok (.iload_n 2, 1) := by decide +kernel
theorem dX9_readPart_20 : decode cX9_readPart 20 = .ok (.invokevirtual 69, 3) := by decide +kernel
theorem dX9_readPart_23 : decode cX9_readPart 23 = .ok (.ifCond .eq 27, 3) := by decide +kernel
theorem dX9_readPart_26 : decode cX9_readPart 26 = .ok (.aload_n 0, 1) := by decide +kernel
theorem dX9_readPart_27 : decode cX9_readPart 27 = .ok (.getfield 14, 3) := by decide +kernel
theorem dX9_readPart_30 : decode cX9_readPart 30 = .ok (.aload_n 0, 1) := by decide +kernel
theorem dX9_readPart_31 : decode cX9_readPart 31 = .ok (.iload_n 2, 1) := by decide +kernel
theorem dX9_readPart_32 : decode cX9_readPart 32 = .ok (.invokevirtual 69, 3) := by decide +kernel
theorem dX9_readPart_35 : decode cX9_readPart 35 = .ok (.invokevirtual 48, 3) := by decide +kernel
theorem dX9_readPart_38 : decode cX9_readPart 38 = .ok (.aload_n 0, 1) := by decide +kernel
theorem dX9_readPart_39 : decode cX9_readPart 39 = .ok (.dup, 1) := by decide +kernel
theorem dX9_readPart_40 : decode cX9_readPart 40 = .ok (.getfield 27, 3) := by decide +kernel
theorem dX9_readPart_43 : decode cX9_readPart 43 = .ok (.iconst 1, 1) := by decide +kernel
theorem dX9_readPart_44 : decode cX9_readPart 44 = .ok (.iadd, 1) := by decide +kernel
theorem dX9_readPart_45 : decode cX9_readPart 45 = .ok (.putfield 27, 3) := by decide +kernel
theorem dX9_readPart_48 : decode cX9_readPart 48 = .ok (.iconst 1, 1) := by decide +kernel
theorem dX9_readPart_49 : decode cX9_readPart 49 = .ok (.ireturn, 1) := by decide +kernel
theorem dX9_readPart_50 : decode cX9_readPart 50 = .ok (.iload_n 1, 1) := by decide +kernel
theorem dX9_readPart_51 : decode cX9_readPart 51 = .ok (.iconst 5, 1) := by decide +kernel
theorem dX9_readPart_52 : decode cX9_readPart 52 = .ok (.if_icmp .ge 15, 3) := by decide +kernel
theorem dX9_readPart_55 : decode cX9_readPart 55 = .ok (.iload_n 2, 1) := by decide +kernel
theorem dX9_readPart_56 : decode cX9_readPart 56 = .ok (.bipush 33, 2) := by decide +kernel
theorem dX9_readPart_58 : decode cX9_readPart 58 = .ok (.if_icmp .eq 11, 3) := by decide +kernel
theorem dX9_readPart_61 : decode cX9_readPart 61 = .ok (.iload_n 2, 1) := by decide +kernel
theorem dX9_readPart_62 : decode cX9_readPart 62 = .ok (.bipush 40, 2) := by decide +kernel
theorem dX9_readPart_64 : decode cX9_readPart 64 = .ok (.if_icmp .eq 5, 3) := by decide +kernel
theorem dX9_readPart_67 : decode cX9_readPart 67 = .ok (.iconst 0, 1) := by decide +kernel
theorem dX9_readPart_68 : decode cX9_readPart 68 = .ok (.ireturn, 1) := by decide +kernel
theorem dX9_readPart_69 : decode cX9_readPart 69 = .ok (.aload_n 0, 1) := by decide +kernel
theorem dX9_readPart_70 : decode cX9_readPart 70 = .ok (.dup, 1) := by decide +kernel
theorem dX9_readPart_71 : decode cX9_readPart 71 = .ok (.getfield 27, 3) := by decide +kernel
theorem dX9_readPart_74 : decode cX9_readPart 74 = .ok (.iconst 1, 1) := by decide +kernel
theorem dX9_readPart_75 : decode cX9_readPart 75 = .ok (.iadd, 1) := by decide +kernel
theorem dX9_readPart_76 : decode cX9_readPart 76 = .ok (.putfield 27, 3) := by decide +kernel
theorem dX9_readPart_79 : decode cX9_readPart 79 = .ok (.iload_n 2, 1) := by decide +kernel
theorem dX9_readPart_80 : decode cX9_readPart 80 = .ok (.bipush 33, 2) := by decide +kernel
theorem dX9_readPart_82 : decode cX9_readPart 82 = .ok (.if_icmp .ne 13, 3) := by decide +kernel
theorem dX9_readPart_85 : decode cX9_readPart 85 = .ok (.aload_n 0, 1) := by decide +kernel
theorem dX9_readPart_86 : decode cX9_readPart 86 = .ok (.iload_n 1, 1) := by decide +kernel
theorem dX9_readPart_87 : decode cX9_readPart 87 = .ok (.iconst 1, 1) := by decide +kernel
theorem dX9_readPart_88 : decode cX9_readPart 88 = .ok (.iadd, 1) := by decide +kernel
theorem dX9_readPart_89 : decode cX9_readPart 89 = .ok (.invokevirtual 73, 3) := by decide +kernel
theorem dX9_readPart_92 : decode cX9_readPart 92 = .ok (.goto 10, 3) := by decide +kernel
theorem dX9_readPart_95 : decode cX9_readPart 95 = .ok (.aload_n 0, 1) := by decide +kernel
theorem dX9_readPart_96 : decode cX9_readPart 96 = .ok (.iload_n 1, 1) := by decide +kernel
theorem dX9_readPart_97 : decode cX9_readPart 97 = .ok (.iconst 1, 1) := by decide +kernel
theorem dX9_readPart_98 : decode cX9_readPart 98 = .ok (.iadd, 1) := by decide +kernel
theorem dX9_readPart_99 : decode cX9_readPart 99 = .ok (.invokevirtual 76, 3) := by decide +kernel
theorem dX9_readPart_102 : decode cX9_readPart 102 = .ok (.ireturn, 1) := by decide +kernel
theorem dX9_readNot_0 : decode cX9_readNot 0 = .ok (.aload_n 0, 1) := by decide +kernel
theorem dX9_readNot_1 : decode cX9_readNot 1 = .ok (.iload_n 1, 1) := by decide +kernel
theorem dX9_readNot_2 : decode cX9_readNot 2 = .ok (.invokevirtual 60, 3) := by decide +kernel
theorem dX9_readNot_5 : decode cX9_readNot 5 = .ok (.ifCond .ne 5, 3) := by decide +kernel
theorem dX9_readNot_8 : decode cX9_readNot 8 = .ok (.iconst 0, 1) := by decide +kernel
theorem dX9_readNot_9 : decode cX9_readNot 9 = .ok (.ireturn, 1) := by decide +kernel
theorem dX9_readNot_10 : decode cX9_readNot 10 = .ok (.aload_n 0, 1) := by decide +kernel
theorem dX9_readNot_11 : decode cX9_readNot 11 = .ok (.getfield 14, 3) := by decide +kernel
theorem dX9_readNot_14 : decode cX9_readNot 14 = .ok (.bipush (-33), 2) := by decide +kernel
theorem dX9_readNot_16 : decode cX9_readNot 16 = .ok (.invokevirtual 48, 3) := by decide +kernel
theorem dX9_readNot_19 : decode cX9_readNot 19 = .ok (.iconst 1, 1) := by decide +kernel
theorem dX9_readNot_20 : decode cX9_readNot 20 = .ok (.ireturn, 1) := by decide +kernel
theorem dX9_readBracket_0 : decode cX9_readBracket 0 = .ok (.aload_n 0, 1) := by decide +kernel
theorem dX9_readBracket_1 : decode cX9_readBracket 1 = .ok (.iload_n 1, 1) := by decide +kernel
theorem dX9_readBracket_2 : decode cX9_readBracket 2 = .ok (.invokevirtual 33, 3) := by decide +kernel
theorem dX9_readBracket_5 : decode cX9_readBracket 5 = .ok (.ifCond .eq 12, 3) := by decide +kernel
theorem dX9_readBracket_8 : decode cX9_readBracket 8 = .ok (.aload_n 0, 1) := by decide +kernel
theorem dX9_readBracket_9 : decode cX9_readBracket 9 = .ok (.invokevirtual 44, 3) := by decide +kernel
theorem dX9_readBracket_12 : decode cX9_readBracket 12 = .ok (.bipush 41, 2) := by decide +kernel
theorem dX9_readBracket_14 : decode cX9_readBracket 14 = .ok (.if_icmp .eq 5, 3) := by decide +kernel
theorem dX9_readBracket_17 : decode cX9_readBracket 17 = .ok (.iconst 0, 1) := by decide +kernel
theorem dX9_readBracket_18 : decode cX9_readBracket 18 = .ok (.ireturn, 1) := by decide +kernel
theorem dX9_readBracket_19 : decode cX9_readBracket 19 = .ok (.aload_n 0, 1) := by decide +kernel
theorem dX9_readBracket_20 : decode cX9_readBracket 20 = .ok (.dup, 1) := by decide +kernel
theorem dX9_readBracket_21 : decode cX9_readBracket 21 = .ok (.getfield 27, 3) := by decide +kernel
theorem dX9_readBracket_24 : decode cX9_readBracket 24 = .ok (.iconst 1, 1) := by decide +kernel
theorem dX9_readBracket_25 : decode cX9_readBracket 25 = .ok (.iadd, 1) := by decide +kernel
theorem dX9_readBracket_26 : decode cX9_readBracket 26 = .ok (.putfield 27, 3) := by decide +kernel
theorem dX9_readBracket_29 : decode cX9_readBracket 29 = .ok (.iconst 1, 1) := by decide +kernel
theorem dX9_readBracket_30 : decode cX9_readBracket 30 = .ok (.ireturn, 1) := by decide +kernel
theorem dX9_readNumber_0 : decode cX9_readNumber 0 = .ok (.iconst 0, 1) := by decide +kernel
theorem dX9_readNumber_1 : decode cX9_readNumber 1 = .ok (.istore_n 1, 1) := by decide +kernel
